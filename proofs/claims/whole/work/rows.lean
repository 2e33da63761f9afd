section
-- ===== PART A: goes FIRST, ahead of the names: the tables' words, and 'selects' of the private methods out of them =====
/-- a private method of a class that the tables say can be made, by its rows of tables_1 -/
def lw_okq (q : MethodName × Nat) : Prop := (q.1.cls ≠ "java/lang/invoke/MethodHandle" ∧ q.1.cls ≠ "java/lang/invoke/VarHandle") ∧ Cond.instantiable q.1.cls q.2 ∈ tables_1 ∧ Cond.privateMethod q.1 ∈ tables_1 ∧ Cond.instanceMethod q.1 ∈ tables_1
theorem lw_p0 : lw_okq (⟨"WardrobeKeeper", "countBottomsFor", "(I)I"⟩, 12) := ⟨⟨by decide +kernel, by decide +kernel⟩, List.mem_of_getElem? (i := 11) (by decide +kernel), List.mem_of_getElem? (i := 71) (by decide +kernel), List.mem_of_getElem? (i := 72) (by decide +kernel)⟩
theorem lw_p1 : lw_okq (⟨"WardrobeKeeper", "isCleanOfKind", "(II)Z"⟩, 12) := ⟨⟨by decide +kernel, by decide +kernel⟩, List.mem_of_getElem? (i := 11) (by decide +kernel), List.mem_of_getElem? (i := 75) (by decide +kernel), List.mem_of_getElem? (i := 76) (by decide +kernel)⟩
theorem lw_p2 : lw_okq (⟨"WardrobeKeeper", "isOfKind", "(II)Z"⟩, 12) := ⟨⟨by decide +kernel, by decide +kernel⟩, List.mem_of_getElem? (i := 11) (by decide +kernel), List.mem_of_getElem? (i := 79) (by decide +kernel), List.mem_of_getElem? (i := 80) (by decide +kernel)⟩
theorem lw_p3 : lw_okq (⟨"WardrobeKeeper", "isThing", "(I)Z"⟩, 12) := ⟨⟨by decide +kernel, by decide +kernel⟩, List.mem_of_getElem? (i := 11) (by decide +kernel), List.mem_of_getElem? (i := 83) (by decide +kernel), List.mem_of_getElem? (i := 84) (by decide +kernel)⟩
theorem lw_p4 : lw_okq (⟨"WardrobeKeeper", "coloursClash", "(II)Z"⟩, 12) := ⟨⟨by decide +kernel, by decide +kernel⟩, List.mem_of_getElem? (i := 11) (by decide +kernel), List.mem_of_getElem? (i := 90) (by decide +kernel), List.mem_of_getElem? (i := 91) (by decide +kernel)⟩
theorem lw_p5 : lw_okq (⟨"java/lang/Throwable", "fillInStackTrace", "(I)Ljava/lang/Throwable;"⟩, 6) := ⟨⟨by decide +kernel, by decide +kernel⟩, List.mem_of_getElem? (i := 150) (by decide +kernel), List.mem_of_getElem? (i := 148) (by decide +kernel), List.mem_of_getElem? (i := 149) (by decide +kernel)⟩
theorem lw_p6 : lw_okq (⟨"WardrobeKeeper", "areThings", "(III)Z"⟩, 12) := ⟨⟨by decide +kernel, by decide +kernel⟩, List.mem_of_getElem? (i := 11) (by decide +kernel), List.mem_of_getElem? (i := 243) (by decide +kernel), List.mem_of_getElem? (i := 244) (by decide +kernel)⟩
theorem lw_p7 : lw_okq (⟨"WardrobeKeeper", "areOfTheirKinds", "(III)Z"⟩, 12) := ⟨⟨by decide +kernel, by decide +kernel⟩, List.mem_of_getElem? (i := 11) (by decide +kernel), List.mem_of_getElem? (i := 247) (by decide +kernel), List.mem_of_getElem? (i := 248) (by decide +kernel)⟩
theorem lw_p8 : lw_okq (⟨"WardrobeKeeper", "canBeWorn", "(III)Z"⟩, 12) := ⟨⟨by decide +kernel, by decide +kernel⟩, List.mem_of_getElem? (i := 11) (by decide +kernel), List.mem_of_getElem? (i := 252) (by decide +kernel), List.mem_of_getElem? (i := 253) (by decide +kernel)⟩
theorem lw_p9 : lw_okq (⟨"WardrobeKeeper", "doClash", "(II)Z"⟩, 12) := ⟨⟨by decide +kernel, by decide +kernel⟩, List.mem_of_getElem? (i := 11) (by decide +kernel), List.mem_of_getElem? (i := 256) (by decide +kernel), List.mem_of_getElem? (i := 257) (by decide +kernel)⟩
theorem lw_p10 : lw_okq (⟨"WardrobeKeeper", "fitsOver", "(III)Z"⟩, 12) := ⟨⟨by decide +kernel, by decide +kernel⟩, List.mem_of_getElem? (i := 11) (by decide +kernel), List.mem_of_getElem? (i := 260) (by decide +kernel), List.mem_of_getElem? (i := 261) (by decide +kernel)⟩
theorem lw_p11 : lw_okq (⟨"WardrobeKeeper", "wasSeenLately", "(III)Z"⟩, 12) := ⟨⟨by decide +kernel, by decide +kernel⟩, List.mem_of_getElem? (i := 11) (by decide +kernel), List.mem_of_getElem? (i := 275) (by decide +kernel), List.mem_of_getElem? (i := 276) (by decide +kernel)⟩
theorem lw_p12 : lw_okq (⟨"WardrobeKeeper", "wearOnce", "(I)V"⟩, 12) := ⟨⟨by decide +kernel, by decide +kernel⟩, List.mem_of_getElem? (i := 11) (by decide +kernel), List.mem_of_getElem? (i := 290) (by decide +kernel), List.mem_of_getElem? (i := 291) (by decide +kernel)⟩
theorem lw_p13 : lw_okq (⟨"WardrobeKeeper", "wearsLeftOf", "(I)I"⟩, 12) := ⟨⟨by decide +kernel, by decide +kernel⟩, List.mem_of_getElem? (i := 11) (by decide +kernel), List.mem_of_getElem? (i := 294) (by decide +kernel), List.mem_of_getElem? (i := 295) (by decide +kernel)⟩
theorem lw_p14 : lw_okq (⟨"WardrobeKeeper", "showTo", "(III)V"⟩, 12) := ⟨⟨by decide +kernel, by decide +kernel⟩, List.mem_of_getElem? (i := 11) (by decide +kernel), List.mem_of_getElem? (i := 298) (by decide +kernel), List.mem_of_getElem? (i := 299) (by decide +kernel)⟩
theorem lw_p15 : lw_okq (⟨"WardrobeKeeper", "outfitWarmth", "(III)I"⟩, 12) := ⟨⟨by decide +kernel, by decide +kernel⟩, List.mem_of_getElem? (i := 11) (by decide +kernel), List.mem_of_getElem? (i := 302) (by decide +kernel), List.mem_of_getElem? (i := 303) (by decide +kernel)⟩
def lw_privs_1 : List (MethodName × Nat) := [(⟨"WardrobeKeeper", "countBottomsFor", "(I)I"⟩, 12), (⟨"WardrobeKeeper", "isCleanOfKind", "(II)Z"⟩, 12), (⟨"WardrobeKeeper", "isOfKind", "(II)Z"⟩, 12), (⟨"WardrobeKeeper", "isThing", "(I)Z"⟩, 12), (⟨"WardrobeKeeper", "coloursClash", "(II)Z"⟩, 12), (⟨"java/lang/Throwable", "fillInStackTrace", "(I)Ljava/lang/Throwable;"⟩, 6), (⟨"WardrobeKeeper", "areThings", "(III)Z"⟩, 12), (⟨"WardrobeKeeper", "areOfTheirKinds", "(III)Z"⟩, 12), (⟨"WardrobeKeeper", "canBeWorn", "(III)Z"⟩, 12), (⟨"WardrobeKeeper", "doClash", "(II)Z"⟩, 12), (⟨"WardrobeKeeper", "fitsOver", "(III)Z"⟩, 12), (⟨"WardrobeKeeper", "wasSeenLately", "(III)Z"⟩, 12), (⟨"WardrobeKeeper", "wearOnce", "(I)V"⟩, 12), (⟨"WardrobeKeeper", "wearsLeftOf", "(I)I"⟩, 12), (⟨"WardrobeKeeper", "showTo", "(III)V"⟩, 12), (⟨"WardrobeKeeper", "outfitWarmth", "(III)I"⟩, 12)]
theorem lw_r1 : ∀ q ∈ lw_privs_1, lw_okq q := List.forall_mem_cons.mpr ⟨lw_p0, List.forall_mem_cons.mpr ⟨lw_p1, List.forall_mem_cons.mpr ⟨lw_p2, List.forall_mem_cons.mpr ⟨lw_p3, List.forall_mem_cons.mpr ⟨lw_p4, List.forall_mem_cons.mpr ⟨lw_p5, List.forall_mem_cons.mpr ⟨lw_p6, List.forall_mem_cons.mpr ⟨lw_p7, List.forall_mem_cons.mpr ⟨lw_p8, List.forall_mem_cons.mpr ⟨lw_p9, List.forall_mem_cons.mpr ⟨lw_p10, List.forall_mem_cons.mpr ⟨lw_p11, List.forall_mem_cons.mpr ⟨lw_p12, List.forall_mem_cons.mpr ⟨lw_p13, List.forall_mem_cons.mpr ⟨lw_p14, List.forall_mem_cons.mpr ⟨lw_p15, fun _ h => absurd h List.not_mem_nil⟩⟩⟩⟩⟩⟩⟩⟩⟩⟩⟩⟩⟩⟩⟩⟩
theorem lw_p16 : lw_okq (⟨"WardrobeKeeper", "warmthOf", "(I)I"⟩, 12) := ⟨⟨by decide +kernel, by decide +kernel⟩, List.mem_of_getElem? (i := 11) (by decide +kernel), List.mem_of_getElem? (i := 306) (by decide +kernel), List.mem_of_getElem? (i := 307) (by decide +kernel)⟩
theorem lw_p17 : lw_okq (⟨"WardrobeKeeper", "countOutfitsOf", "(III)I"⟩, 12) := ⟨⟨by decide +kernel, by decide +kernel⟩, List.mem_of_getElem? (i := 11) (by decide +kernel), List.mem_of_getElem? (i := 321) (by decide +kernel), List.mem_of_getElem? (i := 322) (by decide +kernel)⟩
theorem lw_p18 : lw_okq (⟨"WardrobeKeeper", "isWarmOutfit", "(IIII)Z"⟩, 12) := ⟨⟨by decide +kernel, by decide +kernel⟩, List.mem_of_getElem? (i := 11) (by decide +kernel), List.mem_of_getElem? (i := 325) (by decide +kernel), List.mem_of_getElem? (i := 326) (by decide +kernel)⟩
theorem lw_p19 : lw_okq (⟨"WardrobeKeeper", "isWashedWith", "(IIZ)Z"⟩, 12) := ⟨⟨by decide +kernel, by decide +kernel⟩, List.mem_of_getElem? (i := 11) (by decide +kernel), List.mem_of_getElem? (i := 352) (by decide +kernel), List.mem_of_getElem? (i := 353) (by decide +kernel)⟩
theorem lw_p20 : lw_okq (⟨"WardrobeKeeper", "nextToWash", "(IZ)I"⟩, 12) := ⟨⟨by decide +kernel, by decide +kernel⟩, List.mem_of_getElem? (i := 11) (by decide +kernel), List.mem_of_getElem? (i := 363) (by decide +kernel), List.mem_of_getElem? (i := 364) (by decide +kernel)⟩
theorem lw_p21 : lw_okq (⟨"WardrobeKeeper", "makeClean", "(I)V"⟩, 12) := ⟨⟨by decide +kernel, by decide +kernel⟩, List.mem_of_getElem? (i := 11) (by decide +kernel), List.mem_of_getElem? (i := 367) (by decide +kernel), List.mem_of_getElem? (i := 368) (by decide +kernel)⟩
theorem lw_p22 : lw_okq (⟨"WardrobeKeeper", "findPartners", "(I)V"⟩, 12) := ⟨⟨by decide +kernel, by decide +kernel⟩, List.mem_of_getElem? (i := 11) (by decide +kernel), List.mem_of_getElem? (i := 391) (by decide +kernel), List.mem_of_getElem? (i := 392) (by decide +kernel)⟩
theorem lw_p23 : lw_okq (⟨"WardrobeKeeper", "arePartners", "(III)Z"⟩, 12) := ⟨⟨by decide +kernel, by decide +kernel⟩, List.mem_of_getElem? (i := 11) (by decide +kernel), List.mem_of_getElem? (i := 395) (by decide +kernel), List.mem_of_getElem? (i := 396) (by decide +kernel)⟩
theorem lw_p24 : lw_okq (⟨"WardrobeKeeper", "thingsOfKind", "(I)I"⟩, 12) := ⟨⟨by decide +kernel, by decide +kernel⟩, List.mem_of_getElem? (i := 11) (by decide +kernel), List.mem_of_getElem? (i := 399) (by decide +kernel), List.mem_of_getElem? (i := 400) (by decide +kernel)⟩
theorem lw_p25 : lw_okq (⟨"WardrobeKeeper", "lasts", "(III)Z"⟩, 12) := ⟨⟨by decide +kernel, by decide +kernel⟩, List.mem_of_getElem? (i := 11) (by decide +kernel), List.mem_of_getElem? (i := 403) (by decide +kernel), List.mem_of_getElem? (i := 404) (by decide +kernel)⟩
theorem lw_p26 : lw_okq (⟨"WardrobeKeeper", "wearsLeftIn", "(I)I"⟩, 12) := ⟨⟨by decide +kernel, by decide +kernel⟩, List.mem_of_getElem? (i := 11) (by decide +kernel), List.mem_of_getElem? (i := 407) (by decide +kernel), List.mem_of_getElem? (i := 408) (by decide +kernel)⟩
theorem lw_p27 : lw_okq (⟨"WardrobeKeeper", "partnersOf", "(I)I"⟩, 12) := ⟨⟨by decide +kernel, by decide +kernel⟩, List.mem_of_getElem? (i := 11) (by decide +kernel), List.mem_of_getElem? (i := 411) (by decide +kernel), List.mem_of_getElem? (i := 412) (by decide +kernel)⟩
theorem lw_p28 : lw_okq (⟨"WardrobeKeeper", "usefulThings", "()I"⟩, 12) := ⟨⟨by decide +kernel, by decide +kernel⟩, List.mem_of_getElem? (i := 11) (by decide +kernel), List.mem_of_getElem? (i := 426) (by decide +kernel), List.mem_of_getElem? (i := 427) (by decide +kernel)⟩
theorem lw_p29 : lw_okq (⟨"WardrobeKeeperModel", "goes", "(I)Z"⟩, 13) := ⟨⟨by decide +kernel, by decide +kernel⟩, List.mem_of_getElem? (i := 430) (by decide +kernel), List.mem_of_getElem? (i := 494) (by decide +kernel), List.mem_of_getElem? (i := 495) (by decide +kernel)⟩
theorem lw_p30 : lw_okq (⟨"WardrobeKeeperModel", "isThing", "(I)Z"⟩, 13) := ⟨⟨by decide +kernel, by decide +kernel⟩, List.mem_of_getElem? (i := 430) (by decide +kernel), List.mem_of_getElem? (i := 502) (by decide +kernel), List.mem_of_getElem? (i := 503) (by decide +kernel)⟩
theorem lw_p31 : lw_okq (⟨"WardrobeKeeperModel", "here", "()I"⟩, 13) := ⟨⟨by decide +kernel, by decide +kernel⟩, List.mem_of_getElem? (i := 430) (by decide +kernel), List.mem_of_getElem? (i := 506) (by decide +kernel), List.mem_of_getElem? (i := 507) (by decide +kernel)⟩
def lw_privs_2 : List (MethodName × Nat) := [(⟨"WardrobeKeeper", "warmthOf", "(I)I"⟩, 12), (⟨"WardrobeKeeper", "countOutfitsOf", "(III)I"⟩, 12), (⟨"WardrobeKeeper", "isWarmOutfit", "(IIII)Z"⟩, 12), (⟨"WardrobeKeeper", "isWashedWith", "(IIZ)Z"⟩, 12), (⟨"WardrobeKeeper", "nextToWash", "(IZ)I"⟩, 12), (⟨"WardrobeKeeper", "makeClean", "(I)V"⟩, 12), (⟨"WardrobeKeeper", "findPartners", "(I)V"⟩, 12), (⟨"WardrobeKeeper", "arePartners", "(III)Z"⟩, 12), (⟨"WardrobeKeeper", "thingsOfKind", "(I)I"⟩, 12), (⟨"WardrobeKeeper", "lasts", "(III)Z"⟩, 12), (⟨"WardrobeKeeper", "wearsLeftIn", "(I)I"⟩, 12), (⟨"WardrobeKeeper", "partnersOf", "(I)I"⟩, 12), (⟨"WardrobeKeeper", "usefulThings", "()I"⟩, 12), (⟨"WardrobeKeeperModel", "goes", "(I)Z"⟩, 13), (⟨"WardrobeKeeperModel", "isThing", "(I)Z"⟩, 13), (⟨"WardrobeKeeperModel", "here", "()I"⟩, 13)]
theorem lw_r2 : ∀ q ∈ lw_privs_2, lw_okq q := List.forall_mem_cons.mpr ⟨lw_p16, List.forall_mem_cons.mpr ⟨lw_p17, List.forall_mem_cons.mpr ⟨lw_p18, List.forall_mem_cons.mpr ⟨lw_p19, List.forall_mem_cons.mpr ⟨lw_p20, List.forall_mem_cons.mpr ⟨lw_p21, List.forall_mem_cons.mpr ⟨lw_p22, List.forall_mem_cons.mpr ⟨lw_p23, List.forall_mem_cons.mpr ⟨lw_p24, List.forall_mem_cons.mpr ⟨lw_p25, List.forall_mem_cons.mpr ⟨lw_p26, List.forall_mem_cons.mpr ⟨lw_p27, List.forall_mem_cons.mpr ⟨lw_p28, List.forall_mem_cons.mpr ⟨lw_p29, List.forall_mem_cons.mpr ⟨lw_p30, List.forall_mem_cons.mpr ⟨lw_p31, fun _ h => absurd h List.not_mem_nil⟩⟩⟩⟩⟩⟩⟩⟩⟩⟩⟩⟩⟩⟩⟩⟩
theorem lw_p32 : lw_okq (⟨"WardrobeKeeperModel", "wrong", "(III)I"⟩, 13) := ⟨⟨by decide +kernel, by decide +kernel⟩, List.mem_of_getElem? (i := 430) (by decide +kernel), List.mem_of_getElem? (i := 526) (by decide +kernel), List.mem_of_getElem? (i := 527) (by decide +kernel)⟩
theorem lw_p33 : lw_okq (⟨"WardrobeKeeperModel", "fits", "(III)Z"⟩, 13) := ⟨⟨by decide +kernel, by decide +kernel⟩, List.mem_of_getElem? (i := 430) (by decide +kernel), List.mem_of_getElem? (i := 530) (by decide +kernel), List.mem_of_getElem? (i := 531) (by decide +kernel)⟩
theorem lw_p34 : lw_okq (⟨"WardrobeKeeperModel", "doClash", "(II)Z"⟩, 13) := ⟨⟨by decide +kernel, by decide +kernel⟩, List.mem_of_getElem? (i := 430) (by decide +kernel), List.mem_of_getElem? (i := 534) (by decide +kernel), List.mem_of_getElem? (i := 535) (by decide +kernel)⟩
theorem lw_p35 : lw_okq (⟨"WardrobeKeeperModel", "isSoon", "(III)Z"⟩, 13) := ⟨⟨by decide +kernel, by decide +kernel⟩, List.mem_of_getElem? (i := 430) (by decide +kernel), List.mem_of_getElem? (i := 545) (by decide +kernel), List.mem_of_getElem? (i := 546) (by decide +kernel)⟩
theorem lw_p36 : lw_okq (⟨"WardrobeKeeperModel", "warmthOf", "(III)I"⟩, 13) := ⟨⟨by decide +kernel, by decide +kernel⟩, List.mem_of_getElem? (i := 430) (by decide +kernel), List.mem_of_getElem? (i := 553) (by decide +kernel), List.mem_of_getElem? (i := 554) (by decide +kernel)⟩
theorem lw_p37 : lw_okq (⟨"WardrobeKeeperModel", "count", "(II)I"⟩, 13) := ⟨⟨by decide +kernel, by decide +kernel⟩, List.mem_of_getElem? (i := 430) (by decide +kernel), List.mem_of_getElem? (i := 561) (by decide +kernel), List.mem_of_getElem? (i := 562) (by decide +kernel)⟩
theorem lw_p38 : lw_okq (⟨"WardrobeKeeperModel", "isOf", "(IIZ)Z"⟩, 13) := ⟨⟨by decide +kernel, by decide +kernel⟩, List.mem_of_getElem? (i := 430) (by decide +kernel), List.mem_of_getElem? (i := 581) (by decide +kernel), List.mem_of_getElem? (i := 582) (by decide +kernel)⟩
theorem lw_p39 : lw_okq (⟨"WardrobeKeeperModel", "setOf", "(I)I"⟩, 13) := ⟨⟨by decide +kernel, by decide +kernel⟩, List.mem_of_getElem? (i := 430) (by decide +kernel), List.mem_of_getElem? (i := 597) (by decide +kernel), List.mem_of_getElem? (i := 598) (by decide +kernel)⟩
theorem lw_p40 : lw_okq (⟨"WardrobeKeeperModel", "laysPairs", "(I)V"⟩, 13) := ⟨⟨by decide +kernel, by decide +kernel⟩, List.mem_of_getElem? (i := 430) (by decide +kernel), List.mem_of_getElem? (i := 601) (by decide +kernel), List.mem_of_getElem? (i := 602) (by decide +kernel)⟩
theorem lw_p41 : lw_okq (⟨"WardrobeKeeperModel", "daysOf", "(III)I"⟩, 13) := ⟨⟨by decide +kernel, by decide +kernel⟩, List.mem_of_getElem? (i := 430) (by decide +kernel), List.mem_of_getElem? (i := 605) (by decide +kernel), List.mem_of_getElem? (i := 606) (by decide +kernel)⟩
theorem lw_p42 : lw_okq (⟨"WardrobeKeeperModel", "worn", "(I)I"⟩, 13) := ⟨⟨by decide +kernel, by decide +kernel⟩, List.mem_of_getElem? (i := 430) (by decide +kernel), List.mem_of_getElem? (i := 609) (by decide +kernel), List.mem_of_getElem? (i := 610) (by decide +kernel)⟩
def lw_privs_3 : List (MethodName × Nat) := [(⟨"WardrobeKeeperModel", "wrong", "(III)I"⟩, 13), (⟨"WardrobeKeeperModel", "fits", "(III)Z"⟩, 13), (⟨"WardrobeKeeperModel", "doClash", "(II)Z"⟩, 13), (⟨"WardrobeKeeperModel", "isSoon", "(III)Z"⟩, 13), (⟨"WardrobeKeeperModel", "warmthOf", "(III)I"⟩, 13), (⟨"WardrobeKeeperModel", "count", "(II)I"⟩, 13), (⟨"WardrobeKeeperModel", "isOf", "(IIZ)Z"⟩, 13), (⟨"WardrobeKeeperModel", "setOf", "(I)I"⟩, 13), (⟨"WardrobeKeeperModel", "laysPairs", "(I)V"⟩, 13), (⟨"WardrobeKeeperModel", "daysOf", "(III)I"⟩, 13), (⟨"WardrobeKeeperModel", "worn", "(I)I"⟩, 13)]
theorem lw_r3 : ∀ q ∈ lw_privs_3, lw_okq q := List.forall_mem_cons.mpr ⟨lw_p32, List.forall_mem_cons.mpr ⟨lw_p33, List.forall_mem_cons.mpr ⟨lw_p34, List.forall_mem_cons.mpr ⟨lw_p35, List.forall_mem_cons.mpr ⟨lw_p36, List.forall_mem_cons.mpr ⟨lw_p37, List.forall_mem_cons.mpr ⟨lw_p38, List.forall_mem_cons.mpr ⟨lw_p39, List.forall_mem_cons.mpr ⟨lw_p40, List.forall_mem_cons.mpr ⟨lw_p41, List.forall_mem_cons.mpr ⟨lw_p42, fun _ h => absurd h List.not_mem_nil⟩⟩⟩⟩⟩⟩⟩⟩⟩⟩⟩
def lw_privs : List (MethodName × Nat) := lw_privs_1 ++ (lw_privs_2 ++ (lw_privs_3))
def lw_tbl : List Cond := k2_sels lw_privs ++ tables_1
theorem lw_privs_ok : ∀ q ∈ lw_privs, lw_okq q := by
  show ∀ q ∈ lw_privs_1 ++ (lw_privs_2 ++ (lw_privs_3)), lw_okq q
  exact List.forall_mem_append.mpr ⟨lw_r1, List.forall_mem_append.mpr ⟨lw_r2, lw_r3⟩⟩
/-! ===== BEGIN words of one list among another's, by their places ===== -/
theorem goodIn_r {big : List Cond} (ws : List Cond) (ps : List Nat) (hp : ws = ps.filterMap (fun i => big[i]?)) (h : ws.all goodWord = true) : GoodIn big ws := by
  intro w hw
  have h1 := List.all_eq_true.mp h w hw
  rw [hp] at hw
  obtain ⟨i, -, hi⟩ := List.mem_filterMap.mp hw
  have hm : w ∈ big := by first | exact List.mem_of_getElem? hi | exact List.getElem?_mem hi
  exact ⟨hm, good_of_word h1⟩
theorem goodIn_app {big a b : List Cond} (ha : GoodIn big a) (hb : GoodIn big b) : GoodIn big (a ++ b) := fun w h => (List.mem_append.mp h).elim (ha w) (hb w)
theorem goodIn_ca {big a b : List Cond} {c : Cond} (ha : GoodIn big (c :: a)) (hb : GoodIn big b) : GoodIn big (c :: (a ++ b)) := fun w h => (List.mem_cons.mp h).elim (fun e => ha w (List.mem_cons.mpr (Or.inl e))) (fun h => (List.mem_append.mp h).elim (fun h => ha w (List.mem_cons.mpr (Or.inr h))) (hb w))
theorem goodIn_sub {big ws : List Cond} (hm : ∀ w ∈ ws, w ∈ big) (h : ws.all goodWord = true) : GoodIn big ws := fun w hw => ⟨hm w hw, good_of_word (List.all_eq_true.mp h w hw)⟩
/-! ===== END ===== -/

/-! ===== BEGIN exceptions that leave a method, and their catching by the caller (launches without stack traces) ===== -/
section VXA
/-! The laws vx_back, vx_callV, vx_callS, vx_callSW, vx_throw0, vx_throwS follow proofs of the library, with one case more: JvmDerived/Free/Laws.lean (Back.of_free), Shelf42/LK1.lean (callV, callS), Shelf/KitTraced.lean (throwNew0V, throwNewS). -/
/-- where a method has thrown q: the class by its name, the cell, what was written, the world -/
def vx_T (XC : String → State → State → Prop) (st : State) (q : Addr) (t : State) (mc ms : Nat) (free : Addr → Prop) : Prop :=
  ∃ (E : String) (ce : Cell) (L : List Loc), XC E st t ∧ t.heap[q]? = some ce ∧ ce.vm = .none ∧ st.vm.findClass E = some ce.cls ∧ st.WarmedH t.vm ∧ st.sameButNew ({ t with vm := st.vm } : State) L mc ms ∧ ∀ z ∈ L, free z.base
def vx_Q (Qc : Array Value → State → Outcome → State → Prop) (XC : String → State → State → Prop) (mc ms : Nat) (free : Addr → Prop) : Array Value → State → Outcome → State → Prop := fun a st o t =>
  (Qc a st o t ∧ ∃ L, FrameEnd st o t L mc ms ∧ ∀ q ∈ L, free q.base) ∨ ∃ q, o = .threw q ∧ vx_T XC st q t mc ms free
/-- a callee that returns or throws -/
def vx_Met (l : Launch) (y : MethodName) (ws : List Cond) (rm : Room) (Pc : Array Value → State → Prop) (Qc : Array Value → State → Outcome → State → Prop) (XC : String → State → State → Prop) (mc ms : Nat) (free : Addr → Prop) : Prop :=
  MetFree l y (headSpec ws rm) Pc (fun _ _ _ _ _ => True) (vx_Q Qc XC mc ms free)
def vx_Post (XC : String → State → State → Prop) (mc ms : Nat) (free : Addr → Prop) : Pt → Array Value → Addr → Pt → Prop := fun A a q B =>
  ∃ (g : JFrame) (mk : MethodId) (t : State) (L : List Loc) (E : String) (ce : Cell), B.U.heap = t.heap ∧ B.U.vm = t.vm ∧ XC E (A.U.calling g mk a) t ∧ t.heap[q]? = some ce ∧ ce.vm = .none ∧ A.U.vm.findClass E = some ce.cls ∧ B.locs = A.locs ++ L ∧ (∀ z ∈ L, free z.base) ∧ B.cells = A.cells + mc ∧ B.slots = A.slots + ms
def vx_Back (l : Launch) (R : Room) (p : Program) (e : Env) (below : List Frame) (s : State) (sargs : Array Value) (y : MethodName) (len W9 : Nat)
    (Pre : Pt → Array Value → Prop) (Post : Pt → Array Value → Option Value → Pt → Prop) (PostX : Pt → Array Value → Addr → Pt → Prop) : Prop :=
  ∀ (m : MethodId) (meth : Method) (c : Code) (A : Pt) (g : JFrame) (ig : Instr) (mk : MethodId) (a : Array Value),
    Stand p l e R s m sargs below meth c A.U A.locs A.cells A.slots → g.method = m → g.locals.size = c.maxLocals → decode c.code g.pc = .ok (ig, len) →
    2 * g.monitorRoom + (g.stack.map fun v => v.category).sum ≤ W9 → A.U.methodNamed? y = some mk → Pre A a →
    (∃ (v : Option Value) (B : Pt), Stand p l e R s m sargs below meth c B.U B.locs B.cells B.slots ∧ Post A a v B ∧
      Steps p.tables e below (doInvoke e (A.U.setTop g) [] mk a).1 (B.U.setTop { g with pc := g.pc + len, stack := v.toList ++ g.stack })) ∨
    (∃ (q : Addr) (B : Pt), Stand p l e R s m sargs below meth c B.U B.locs B.cells B.slots ∧ PostX A a q B ∧
      Steps p.tables e below (doInvoke e (A.U.setTop g) [] mk a).1 ((B.U.setTop g).pushFrame (.throwing q)))
section Payer
variable {l : Launch} {R : Room} {p : Program} {e : Env} {below : List Frame} {s : State} {sargs : Array Value} {y : MethodName} {len W9 : Nat}
theorem vx_back {ws : List Cond} {rm : Room} {Pc : Array Value → State → Prop} {Qc : Array Value → State → Outcome → State → Prop} {XC : String → State → State → Prop} {mc ms : Nat} {free : Addr → Prop} {bytes : ByteArray} {maxL : Nat} {ret : Option FieldType}
    (hM : vx_Met l y ws rm Pc Qc XC mc ms free) (hblind : FrameBlind Pc) (hrc : rm.cells = mc) (hrs : rm.slots = ms)
    (hframes : rm.frames + 1 ≤ R.frames) (hlocals : W9 + (maxL + 11) + rm.locals ≤ R.locals)
    (hws : ∀ w ∈ ws, ∀ a' U, s.WarmedH U.vm → w.before a' U = true) (hcode : Cond.code y bytes maxL ret ∈ ws) (hinit : ∀ a' U, s.WarmedH U.vm → (Cond.initialized y.cls).before a' U = true) :
    vx_Back l R p e below s sargs y len W9 (PreOf R mc ms Pc) (PostOf Qc mc ms free) (vx_Post XC mc ms free) := by
  intro m meth c A g ig mk a X hg hsize hdg hW hn hp
  have h1 : (headSpec ws rm).pre.before a A.U = true := atoms_intro fun w hw => hws w hw _ _ X.warmed
  have h2 : (Cond.code y bytes maxL ret).before a A.U = true := hws _ hcode _ _ X.warmed
  have h3 : (Cond.initialized y.cls).before a A.U = true := hinit _ _ X.warmed
  have h4 : A.cells + (headSpec ws rm).room.cells ≤ R.cells := by rw [show (headSpec ws rm).room.cells = mc from hrc]; exact hp.1
  have h5 : A.slots + (headSpec ws rm).room.slots ≤ R.slots := by rw [show (headSpec ws rm).room.slots = ms from hrs]; exact hp.2.1
  have hPc : Pc a (A.U.calling g mk a) := hblind _ _ _ _ hp.2.2
  obtain ⟨U, Ls, c0, s0⟩ := A
  dsimp only [Pt.U, Pt.locs, Pt.cells, Pt.slots] at h1 h2 h3 h4 h5 X hn hPc ⊢
  obtain ⟨methY, cY, hmY, hcY, -, hlY, -, -, -, -⟩ := Cond.code_spec hn h2
  obtain ⟨kY, hkY, -⟩ := className_of_methodNamed hn
  have hinitY : kY.init = .initialized := Cond.initialized_spec (findClass_of_methodNamed hn) hkY h3
  have h : At U g.method c below := by rw [hg]; exact X.here
  have hlocals9 : W9 + (maxL + 11) + (headSpec ws rm).room.locals ≤ R.locals := hlocals
  have happ : (headSpec ws rm).appliesLoose y e.platform (U.calling g mk a) = true :=
    Spec.appliesLoose_calling (g := g) h hdg hn hkY hinitY
      (X.room_calling (g := g) (R' := (headSpec ws rm).room) hsize hmY hcY hframes (by rw [hlY]; omega) h4 h5) h1
  obtain ⟨mid, hmid⟩ := h.above
  have hfr : (U.setTop g).frames = (.java g :: mid) ++ below := by rw [State.frames_setTop' g h.top, hmid]; rfl
  obtain ⟨o, s₂, hsteps, -, hend, hq⟩ := Steps.callFree hM p X.admits X.cas X.clock (acts := []) hfr happ hPc trivial
  have hq' : vx_Q Qc XC mc ms free a (U.calling g mk a) o s₂ := hq
  rw [State.frames_setTop' g h.top] at hend
  obtain ⟨g₀, hg0⟩ := Option.isSome_iff_exists.mp h.top
  obtain ⟨r, hr⟩ := State.topJava?_eq_some.mp hg0
  have hr' : (({ U with heap := s₂.heap, slotsUsed := s₂.slotsUsed } : State).setVm s₂.vm).frames = .java g₀ :: r := hr
  rcases hq' with ⟨hqc, L, hfe, hL⟩ | ⟨q, rfl, E, ce, L, hx, hce, hcv, hcl, hW₂, hsm, hL⟩
  · obtain ⟨⟨v, rfl⟩, hW₂, e2, q2, q3, q4, q5, q6⟩ := id hfe
    have e3 : s₂ = ({ (U.calling g mk a).setFrames s₂.frames with heap := s₂.heap, slotsUsed := s₂.slotsUsed } : State).setVm s₂.vm := by
      have : s₂ = ({ s₂ with vm := (U.calling g mk a).vm } : State).setVm s₂.vm := rfl
      rw [e2] at this
      exact this
    obtain ⟨c₂, i₂, len₂, hc₂, hd₂, hf₂⟩ := hend
    have hW' : U.WarmedH s₂.vm := hW₂
    have hcc : c₂ = c := by
      have h1 : s₂.code? g.method = U.code? g.method := by
        rw [State.code?_eq, State.code?_eq, hW'.alike.method?]
      exact Option.some.inj (hc₂.symm.trans (h1.trans h.code))
    subst hcc
    have hlen : len₂ = len := by rw [hdg] at hd₂; cases hd₂; rfl
    subst hlen
    have hs₂ : s₂ = (({ U with heap := s₂.heap, slotsUsed := s₂.slotsUsed } : State).setVm s₂.vm).setTop { g with pc := g.pc + len₂, stack := v.toList ++ g.stack } := by
      refine e3.trans ?_
      rw [hf₂, State.calling_eq h.top, State.setFrames_setFrames, State.setTop_of_frames _ hr', hr]
      rfl
    have hsame : U.sameButNew ({ U with heap := s₂.heap, slotsUsed := s₂.slotsUsed } : State) L mc ms := by
      refine ⟨?_, q2, q3, q4, q5, q6⟩
      obtain ⟨t, ht, -⟩ := State.frames_cons hr
      show ({ U with heap := s₂.heap, slotsUsed := s₂.slotsUsed } : State) = { U.setFrames U.frames with heap := s₂.heap, slotsUsed := s₂.slotsUsed }
      rw [State.setFrames_self ht]
    subst hg
    refine Or.inl ⟨v, ⟨(({ U with heap := s₂.heap, slotsUsed := s₂.slotsUsed } : State).setVm s₂.vm), Ls ++ L, c0 + mc, s0 + ms⟩,
      ⟨X.admits, X.cas, X.clock, X.frames, X.room, X.hears, X.method, X.code, (X.here.setHeapUsed s₂.heap s₂.slotsUsed).setVm hW'.alike, X.tail, State.WarmedH.trans X.warmed hW', X.limits, X.bytes, X.same.trans (hsame.setVm s.vm)⟩,
      ⟨g, mk, s₂, L, rfl, rfl, hqc, rfl, hL, rfl, rfl⟩, ?_⟩
    show Steps p.tables e below _ ((({ U with heap := s₂.heap, slotsUsed := s₂.slotsUsed } : State).setVm s₂.vm).setTop { g with pc := g.pc + len₂, stack := v.toList ++ g.stack })
    rw [← hs₂]
    exact hsteps
  · obtain ⟨e2, q2, q3, q4, q5, q6⟩ := id hsm
    have e3 : s₂ = ({ (U.calling g mk a).setFrames s₂.frames with heap := s₂.heap, slotsUsed := s₂.slotsUsed } : State).setVm s₂.vm := by
      have : s₂ = ({ s₂ with vm := (U.calling g mk a).vm } : State).setVm s₂.vm := rfl
      rw [e2] at this
      exact this
    have hf₂ : s₂.frames = .throwing q :: .java g :: U.frames.tail := hend
    have hW' : U.WarmedH s₂.vm := hW₂
    have hs₂ : s₂ = ((({ U with heap := s₂.heap, slotsUsed := s₂.slotsUsed } : State).setVm s₂.vm).setTop g).pushFrame (.throwing q) := by
      refine e3.trans ?_
      rw [hf₂, State.calling_eq h.top, State.setFrames_setFrames, State.pushFrame, State.frames_setTop _ hr', State.setTop_of_frames _ hr', State.setFrames_setFrames, hr]
      rfl
    have hsame : U.sameButNew ({ U with heap := s₂.heap, slotsUsed := s₂.slotsUsed } : State) L mc ms := by
      refine ⟨?_, q2, q3, q4, q5, q6⟩
      obtain ⟨t, ht, -⟩ := State.frames_cons hr
      show ({ U with heap := s₂.heap, slotsUsed := s₂.slotsUsed } : State) = { U.setFrames U.frames with heap := s₂.heap, slotsUsed := s₂.slotsUsed }
      rw [State.setFrames_self ht]
    subst hg
    refine Or.inr ⟨q, ⟨(({ U with heap := s₂.heap, slotsUsed := s₂.slotsUsed } : State).setVm s₂.vm), Ls ++ L, c0 + mc, s0 + ms⟩,
      ⟨X.admits, X.cas, X.clock, X.frames, X.room, X.hears, X.method, X.code, (X.here.setHeapUsed s₂.heap s₂.slotsUsed).setVm hW'.alike, X.tail, State.WarmedH.trans X.warmed hW', X.limits, X.bytes, X.same.trans (hsame.setVm s.vm)⟩,
      ⟨g, mk, s₂, L, E, ce, rfl, rfl, hx, hce, hcv, hcl, rfl, hL, rfl, rfl⟩, ?_⟩
    show Steps p.tables e below _ (((({ U with heap := s₂.heap, slotsUsed := s₂.slotsUsed } : State).setVm s₂.vm).setTop g).pushFrame (.throwing q))
    rw [← hs₂]
    exact hsteps
end Payer
section Calls
variable {p : Program} {l : Launch} {e : Env} {R : Room} {s : State} {m : MethodId} {args : Array Value} {below : List Frame} {meth : Method} {c : Code} {T : State} {locs : List Loc} {cells slots : Nat}
theorem vx_callV (X : Stand p l e R s m args below meth c T locs cells slots) (hexec : p.tables.exec = Jvm.exec) {own C : String} {index : Nat} {y : MethodName} {bytes : ByteArray} {maxL : Nat} {ret : Option FieldType}
    (hown : s.vm.findClass own = some m.cls) (hlink : (Cond.methodLink own index y).before args s = true) (hinst : (Cond.instanceMethod y).before args s = true) (hsel : (Cond.selects C y y).before args s = true)
    (hcode : (Cond.code y bytes maxL ret).before args s = true) (hy : y.cls ≠ "java/lang/invoke/MethodHandle" ∧ y.cls ≠ "java/lang/invoke/VarHandle")
    {W9 : Nat} {Pre : Pt → Array Value → Prop} {Post : Pt → Array Value → Option Value → Pt → Prop} {PostX : Pt → Array Value → Addr → Pt → Prop} (hK : vx_Back l R p e below s args y 3 W9 Pre Post PostX)
    {b : Addr} {cellB : Cell} (hcell : T.heap[b]? = some cellB) (hobj : cellB.vm.isStatics = false) (hcls : s.vm.findClass C = some cellB.cls)
    {g : JFrame} (hg : g.method = m) (hsize : g.locals.size = c.maxLocals) {argsL rest : List Value} (hlen : ∀ sig, parseMethodDescriptor y.desc = some sig → argsL.length = sig.parameters.length)
    (hstack : g.stack = argsL.reverse ++ .ref b :: rest) (hW : 2 * g.monitorRoom + (rest.map fun v => v.category).sum ≤ W9) (hdg : decode c.code g.pc = .ok (.invokevirtual index, 3))
    (hpre : ∀ vm₁, s.WarmedH vm₁ → Pre ⟨T.setVm vm₁, locs, cells, slots⟩ (Value.ref b :: argsL).toArray) :
    (∃ (v : Option Value) (vm₁ : Vm) (B : Pt), s.WarmedH vm₁ ∧ Stand p l e R s m args below meth c B.U B.locs B.cells B.slots ∧ Post ⟨T.setVm vm₁, locs, cells, slots⟩ (Value.ref b :: argsL).toArray v B ∧
      ∀ target, Steps p.tables e below (B.U.setTop { g with pc := g.pc + 3, stack := v.toList ++ rest }) target → Steps p.tables e below (T.setTop g) target) ∨
    (∃ (q : Addr) (vm₁ : Vm) (B : Pt), s.WarmedH vm₁ ∧ Stand p l e R s m args below meth c B.U B.locs B.cells B.slots ∧ PostX ⟨T.setVm vm₁, locs, cells, slots⟩ (Value.ref b :: argsL).toArray q B ∧
      Steps p.tables e below (T.setTop g) ((B.U.setTop { g with stack := rest }).pushFrame (.throwing q))) := by
  obtain ⟨mk, methM, hnamed, hmethM, hstM, habM⟩ := Cond.instanceMethod_spec hinst
  obtain ⟨methM', cM, hmethM', -, -, -, -, -, -, hsigM⟩ := Cond.code_spec hnamed hcode
  cases hmethM.symm.trans hmethM'
  obtain ⟨c2, r2, m2, q1, q2, q3, q4, kP, hkP, hkPi⟩ := Cond.selects_spec hsel
  cases hcls.symm.trans q1
  cases (State.methodFound?_of_named hnamed hy).symm.trans q2
  cases hnamed.symm.trans q3
  have hselP : selectMethod e.platform s.vm cellB.cls mk = .method mk := by rw [Launch.admits_selectMethod X.admits]; exact q4
  obtain ⟨vm₁, X₁, hstep₁⟩ := X.invokevirtual hexec hown hlink hnamed hmethM hstM hkP hkPi hy (a := b) (cell := cellB) hcell
    (fun z h => by rw [h] at hobj; cases hobj) hselP hmethM habM hkP hkPi (g := g) hg (argsL := argsL) (rest := rest) (hlen _ hsigM) hstack hdg
  rcases hK m meth c ⟨T.setVm vm₁, locs, cells, slots⟩ { g with stack := rest } (.invokevirtual index) mk (Value.ref b :: argsL).toArray X₁ hg hsize hdg hW (X₁.named hnamed) (hpre vm₁ X₁.warmed) with ⟨v, B, X', hpost, hsteps⟩ | ⟨q, B, X', hpost, hsteps⟩
  · exact Or.inl ⟨v, vm₁, B, X₁.warmed, X', hpost, fun target h => hstep₁ _ fun acts => by rw [doInvoke_state]; exact hsteps.trans h⟩
  · exact Or.inr ⟨q, vm₁, B, X₁.warmed, X', hpost, hstep₁ _ fun acts => by rw [doInvoke_state]; exact hsteps⟩
theorem vx_callS (X : Stand p l e R s m args below meth c T locs cells slots) (hexec : p.tables.exec = Jvm.exec) {own : String} {index : Nat} {y : MethodName} {bytes : ByteArray} {maxL : Nat} {ret : Option FieldType}
    (hown : s.vm.findClass own = some m.cls) (hlink : (Cond.methodLink own index y).before args s = true) (hstat : (Cond.static y).before args s = true) (hinit : (Cond.initialized y.cls).before args s = true)
    (hcode : (Cond.code y bytes maxL ret).before args s = true) (hy : y.cls ≠ "java/lang/invoke/MethodHandle" ∧ y.cls ≠ "java/lang/invoke/VarHandle")
    {W9 : Nat} {Pre : Pt → Array Value → Prop} {Post : Pt → Array Value → Option Value → Pt → Prop} {PostX : Pt → Array Value → Addr → Pt → Prop} (hK : vx_Back l R p e below s args y 3 W9 Pre Post PostX)
    {g : JFrame} (hg : g.method = m) (hsize : g.locals.size = c.maxLocals) {argsL rest : List Value} (hlen : ∀ sig, parseMethodDescriptor y.desc = some sig → argsL.length = sig.parameters.length)
    (hstack : g.stack = argsL.reverse ++ rest) (hW : 2 * g.monitorRoom + (rest.map fun v => v.category).sum ≤ W9) (hdg : decode c.code g.pc = .ok (.invokestatic index, 3))
    (hpre : ∀ vm₁, s.WarmedH vm₁ → Pre ⟨T.setVm vm₁, locs, cells, slots⟩ argsL.toArray) :
    (∃ (v : Option Value) (vm₁ : Vm) (B : Pt), s.WarmedH vm₁ ∧ Stand p l e R s m args below meth c B.U B.locs B.cells B.slots ∧ Post ⟨T.setVm vm₁, locs, cells, slots⟩ argsL.toArray v B ∧
      ∀ target, Steps p.tables e below (B.U.setTop { g with pc := g.pc + 3, stack := v.toList ++ rest }) target → Steps p.tables e below (T.setTop g) target) ∨
    (∃ (q : Addr) (vm₁ : Vm) (B : Pt), s.WarmedH vm₁ ∧ Stand p l e R s m args below meth c B.U B.locs B.cells B.slots ∧ PostX ⟨T.setVm vm₁, locs, cells, slots⟩ argsL.toArray q B ∧
      Steps p.tables e below (T.setTop g) ((B.U.setTop { g with stack := rest }).pushFrame (.throwing q))) := by
  obtain ⟨mk, hnamed⟩ := Cond.code_named hcode
  obtain ⟨methM, cM, hmethM, -, -, -, -, -, -, hsigM⟩ := Cond.code_spec hnamed hcode
  have hstatic : methM.isStatic = true := Cond.static_spec hnamed hmethM hstat
  obtain ⟨kP, hkP, -⟩ := className_of_methodNamed hnamed
  have hinitP : kP.init = .initialized := Cond.initialized_spec (findClass_of_methodNamed hnamed) hkP hinit
  obtain ⟨vm₁, X₁, hstep₁⟩ := X.invokestatic hexec hown hlink hnamed hmethM hstatic hkP hinitP hy (g := g) hg (argsL := argsL) (rest := rest) (hlen _ hsigM) hstack hdg
  rcases hK m meth c ⟨T.setVm vm₁, locs, cells, slots⟩ { g with stack := rest } (.invokestatic index) mk argsL.toArray X₁ hg hsize hdg hW (X₁.named hnamed) (hpre vm₁ X₁.warmed) with ⟨v, B, X', hpost, hsteps⟩ | ⟨q, B, X', hpost, hsteps⟩
  · exact Or.inl ⟨v, vm₁, B, X₁.warmed, X', hpost, fun target h => hstep₁ _ fun acts => by rw [doInvoke_state]; exact hsteps.trans h⟩
  · exact Or.inr ⟨q, vm₁, B, X₁.warmed, X', hpost, hstep₁ _ fun acts => by rw [doInvoke_state]; exact hsteps⟩
end Calls
theorem vx_cls {s : State} {T : State} {vm₁ : Vm} {E : String} {k : ClassId} (hW : s.WarmedH vm₁) (h : (T.setVm vm₁).vm.findClass E = some k) : s.vm.findClass E = some k := by
  have h1 : vm₁.findClass E = some k := h
  rw [hW.alike.findClass] at h1
  exact h1
/-- the method's frame g, with q thrown over it -/
def vx_W (p : Program) (l : Launch) (e : Env) (R : Room) (s : State) (m : MethodId) (args : Array Value) (below : List Frame) (meth : Method) (c : Code) (H : Heap) (locs : List Loc) (cells slots : Nat) (Q : State → Prop) (g : JFrame) (q : Addr) : Prop :=
  ∀ T : State, T.heap = H → Stand p l e R s m args below meth c T locs cells slots → ∃ t, Steps p.tables e below ((T.setTop g).pushFrame (.throwing q)) t ∧ Q t
def vx_Run (p : Program) (l : Launch) (e : Env) (R : Room) (s : State) (m : MethodId) (args : Array Value) (below : List Frame) (meth : Method) (c : Code) (H : Heap) (locs : List Loc) (cells slots mc ms : Nat) (g : JFrame) (rest : List Value) (Qa : State → Outcome → State → Prop) (XC : String → State → State → Prop) (free : Addr → Prop) : Prop :=
  ∀ T : State, T.heap = H → Stand p l e R s m args below meth c T locs cells slots →
    (∃ (v : Option Value) (st₀ t T' : State) (L : List Loc), st₀.heap = H ∧ Stand p l e R s m args below meth c T' (locs ++ L) (cells + mc) (slots + ms) ∧ (∀ q ∈ L, free q.base) ∧ T'.heap = t.heap ∧ T'.vm = t.vm ∧ Qa st₀ (.returned v) t ∧
      Goes p e below T g T' { g with pc := g.pc + 3, stack := v.toList ++ rest }) ∨
    (∃ (q : Addr) (st₀ t T' : State) (L : List Loc) (E : String) (ce : Cell), st₀.heap = H ∧ Stand p l e R s m args below meth c T' (locs ++ L) (cells + mc) (slots + ms) ∧ (∀ z ∈ L, free z.base) ∧ T'.heap = t.heap ∧ T'.vm = t.vm ∧ XC E st₀ t ∧ t.heap[q]? = some ce ∧ ce.vm = .none ∧ s.vm.findClass E = some ce.cls ∧
      Steps p.tables e below (T.setTop g) ((T'.setTop { g with stack := rest }).pushFrame (.throwing q)))
def vx_X {S : Type} (px : S → Prop) (B : String → S → State → Prop) (A : Nat → Prop) : String → State → State → Prop := fun E st t => ∃ u : S, px u ∧ B E u t ∧ va_F A st t
section Runs
variable {p : Program} {l : Launch} {e : Env} {R : Room} {s : State} {m : MethodId} {args : Array Value} {below : List Frame} {meth : Method} {c : Code} {H : Heap} {locs : List Loc} {cells slots : Nat}
variable {y : MethodName} {bytes cc : ByteArray} {maxL nL mc ms n index : Nat} {ret : Option FieldType} {ws : List Cond} {rm : Room} {Pc : Array Value → State → Prop} {Qc : Array Value → State → Outcome → State → Prop} {XC : String → State → State → Prop} {free : Addr → Prop} {Ts : List Cond} {own C : String} {b : Addr} {As rest : List Value} {g : JFrame}
theorem vx_callBack (cb : CallB R s args own index y bytes maxL ret ws rm mc ms n) (hM : vx_Met l y ws rm Pc Qc XC mc ms free) (hbl : FrameBlind Pc) : vx_Back l R p e below s args y 3 8 (PreOf R mc ms Pc) (PostOf Qc mc ms free) (vx_Post XC mc ms free) := by
  obtain ⟨hrc, hrs, hfr, hlo, hws, hcw, -, hini, -⟩ := cb
  exact vx_back (bytes := bytes) (maxL := maxL) (ret := ret) hM hbl hrc hrs hfr hlo hws hcw (fun a' U hW => word_at hW (Or.inl (by first | rfl | simp [Cond.onTables, Cond.keeps, Cond.steady])) hini)
theorem vx_runV (S : CallFix p m c cc nL s args Ts own) (hM : vx_Met l y ws rm Pc Qc XC mc ms free) (cw : CallW R s args own C index y bytes maxL ret ws rm mc ms n) (hp : PreV s H C b Pc As)
    (hg : g.method = m) (hn : As.length = n) (hsize : g.locals.size = nL) (hstack : g.stack = As.reverse ++ .ref b :: rest) (hW : 2 * g.monitorRoom + (rest.map fun v => v.category).sum ≤ 8) (hdg : decode cc g.pc = .ok (.invokevirtual index, 3)) (hf : cells + mc ≤ R.cells ∧ slots + ms ≤ R.slots) :
    vx_Run p l e R s m args below meth c H locs cells slots mc ms g rest (Qc (Value.ref b :: As).toArray) XC free := by
  have hK : vx_Back l R p e below s args y 3 8 (PreOf R mc ms Pc) (PostOf Qc mc ms free) (vx_Post XC mc ms free) := vx_callBack cw.1 hM hp.1
  obtain ⟨⟨-, -, -, -, -, -, hcode, -, hy, hlen, hl⟩, hin, hse⟩ := cw
  obtain ⟨hx, hb, hml, ho, -⟩ := S
  obtain ⟨-, ⟨cellB, hcB, hoB, hclB⟩, hPc⟩ := hp
  intro T hT X
  rcases vx_callV X hx (C := C) (bytes := bytes) (maxL := maxL) (ret := ret) ho hl hin hse hcode hy hK (by rw [hT]; exact hcB) hoB hclB hg (hsize.trans hml.symm) (argsL := As) (rest := rest) (fun sig h => hn.trans (hlen sig h)) hstack hW (by rw [hb]; exact hdg)
    (fun vm₁ hW₁ => ⟨hf.1, hf.2, hPc (T.setVm vm₁) hT hW₁⟩) with ⟨v, vm₁, ⟨U', l2, c2, s2⟩, hW₁, X', ⟨g', mk, t, L, e1, e2, hq, h1, hL, h2, h3⟩, st⟩ | ⟨q, vm₁, ⟨U', l2, c2, s2⟩, hW₁, X', ⟨g', mk, t, L, E, ce, e1, e2, hq, hce, hcv, hcl, h1, hL, h2, h3⟩, st⟩
  · dsimp only [Pt.U, Pt.locs, Pt.cells, Pt.slots] at X' e1 e2 h1 h2 h3 st
    subst h1; subst h2; subst h3
    exact Or.inl ⟨v, (T.setVm vm₁).calling g' mk (Value.ref b :: As).toArray, t, U', L, hT, X', hL, e1, e2, hq, st⟩
  · dsimp only [Pt.U, Pt.locs, Pt.cells, Pt.slots] at X' e1 e2 h1 h2 h3 st hcl
    subst h1; subst h2; subst h3
    exact Or.inr ⟨q, (T.setVm vm₁).calling g' mk (Value.ref b :: As).toArray, t, U', L, E, ce, hT, X', hL, e1, e2, hq, hce, hcv, vx_cls hW₁ hcl, st⟩
theorem vx_runS (S : CallFix p m c cc nL s args Ts own) (hM : vx_Met l y ws rm Pc Qc XC mc ms free) (cw : CallB R s args own index y bytes maxL ret ws rm mc ms n ∧ (Cond.static y).before args s = true) (hp : PreS s H Pc As)
    (hg : g.method = m) (hn : As.length = n) (hsize : g.locals.size = nL) (hstack : g.stack = As.reverse ++ rest) (hW : 2 * g.monitorRoom + (rest.map fun v => v.category).sum ≤ 8) (hdg : decode cc g.pc = .ok (.invokestatic index, 3)) (hf : cells + mc ≤ R.cells ∧ slots + ms ≤ R.slots) :
    vx_Run p l e R s m args below meth c H locs cells slots mc ms g rest (Qc As.toArray) XC free := by
  have hK : vx_Back l R p e below s args y 3 8 (PreOf R mc ms Pc) (PostOf Qc mc ms free) (vx_Post XC mc ms free) := vx_callBack cw.1 hM hp.1
  obtain ⟨⟨-, -, -, -, -, -, hcode, hini, hy, hlen, hl⟩, hstt⟩ := cw
  obtain ⟨hx, hb, hml, ho, -⟩ := S
  intro T hT X
  rcases vx_callS X hx (bytes := bytes) (maxL := maxL) (ret := ret) ho hl hstt hini hcode hy hK hg (hsize.trans hml.symm) (argsL := As) (rest := rest) (fun sig h => hn.trans (hlen sig h)) hstack hW (by rw [hb]; exact hdg)
    (fun vm₁ hW₁ => ⟨hf.1, hf.2, hp.2 (T.setVm vm₁) hT hW₁⟩) with ⟨v, vm₁, ⟨U', l2, c2, s2⟩, hW₁, X', ⟨g', mk, t, L, e1, e2, hq, h1, hL, h2, h3⟩, st⟩ | ⟨q, vm₁, ⟨U', l2, c2, s2⟩, hW₁, X', ⟨g', mk, t, L, E, ce, e1, e2, hq, hce, hcv, hcl, h1, hL, h2, h3⟩, st⟩
  · dsimp only [Pt.U, Pt.locs, Pt.cells, Pt.slots] at X' e1 e2 h1 h2 h3 st
    subst h1; subst h2; subst h3
    exact Or.inl ⟨v, (T.setVm vm₁).calling g' mk As.toArray, t, U', L, hT, X', hL, e1, e2, hq, st⟩
  · dsimp only [Pt.U, Pt.locs, Pt.cells, Pt.slots] at X' e1 e2 h1 h2 h3 st hcl
    subst h1; subst h2; subst h3
    exact Or.inr ⟨q, (T.setVm vm₁).calling g' mk As.toArray, t, U', L, E, ce, hT, X', hL, e1, e2, hq, hce, hcv, vx_cls hW₁ hcl, st⟩
end Runs
section Rows
variable {p : Program} {l : Launch} {e : Env} {R : Room} {s : State} {m : MethodId} {args : Array Value} {below : List Frame} {meth : Method} {c : Code} {H : Heap} {locs : List Loc} {cells slots : Nat} {Q : State → Prop}
variable {mc ms : Nat} {free : Addr → Prop} {A0 A1 : Nat → Prop} {H0 : Heap} {a : Array Value} {pc : Nat} {ls : Array Slot} {st0 rest : List Value}
theorem vx_keep {st₀ t T' : State} {L : List Loc} (h0 : st₀.heap = H) (e1 : T'.heap = t.heap) (hS : va_S A0 H0 H locs) (hA : ∀ q, q < H.size → A1 q → A0 q) (hf : ∀ q, free q → A0 q) (hL : ∀ q ∈ L, free q.base) (hF : va_F A1 st₀ t) :
    H.size ≤ T'.heap.size ∧ (∀ q : Nat, q < H.size → ¬ A1 q → T'.heap[q]? = H[q]?) ∧ va_S A0 H0 T'.heap (locs ++ L) := by
  obtain ⟨hz, hk⟩ := hF
  rw [h0] at hz hk
  exact ⟨by rw [e1]; exact hz, fun q h1 h2 => by rw [e1]; exact hk q h1 h2,
    ⟨Nat.le_trans hS.1 (by rw [e1]; exact hz), fun q h1 h2 => by rw [e1, hk q (Nat.lt_of_lt_of_le h1 hS.1) (fun z => h2 (hA q (Nat.lt_of_lt_of_le h1 hS.1) z))]; exact hS.2.1 q h1 h2, fun q hq => by
      rcases List.mem_append.mp hq with h | h
      · exact hS.2.2 q h
      · exact hf _ (hL q h)⟩⟩
theorem vx_calli {S SX : Type} {post : Int32 → S → Prop} {px : SX → Prop} {B : S → State → Prop} {BX : String → SX → State → Prop} {AX : Nat → Prop} (hr : vx_Run p l e R s m args below meth c H locs cells slots mc ms (F0 m pc ls st0) rest (va_Qi post B A1 a) (vx_X px BX AX) free) (hS : va_S A0 H0 H locs) (hA : ∀ q, q < H.size → A1 q → A0 q) (hf : ∀ q, free q → A0 q) (hAX : ∀ q, q < H.size → AX q → A0 q)
    (kx : ∀ (E : String) (ce : Cell) (q9 : Addr) (u : SX) (t : State) (H1 : Heap) (locs1 : List Loc), t.heap = H1 → s.vm.Alike t.vm → px u → BX E u t → H.size ≤ H1.size → (∀ q : Nat, q < H.size → ¬ AX q → H1[q]? = H[q]?) → va_S A0 H0 H1 locs1 → H1[q9]? = some ce → ce.vm = .none → s.vm.findClass E = some ce.cls → vx_W p l e R s m args below meth c H1 locs1 (cells + mc) (slots + ms) Q (F0 m pc ls rest) q9)
    (kk : ∀ (r : Int32) (u : S) (t : State) (H1 : Heap) (locs1 : List Loc), t.heap = H1 → s.vm.Alike t.vm → post r u → B u t → H.size ≤ H1.size → (∀ q : Nat, q < H.size → ¬ A1 q → H1[q]? = H[q]?) → va_S A0 H0 H1 locs1 → W p l e R s m args below meth c H1 locs1 (cells + mc) (slots + ms) Q (F0 m (pc + 3) ls (.int r :: rest))) : W p l e R s m args below meth c H locs cells slots Q (F0 m pc ls st0) := by
  intro T hT X
  rcases hr T hT X with ⟨v, st₀, t, T', L, h0, X', hL, e1, e2, ⟨⟨r, u, hv, hp, hb⟩, hF⟩, st⟩ | ⟨q, st₀, t, T', L, E, ce, h0, X', hL, e1, e2, ⟨u, hp, hb, hF⟩, hce, hcv, hcl, st⟩
  · cases hv
    obtain ⟨k1, k2, k3⟩ := vx_keep h0 e1 hS hA hf hL hF
    obtain ⟨t2, a1, b1⟩ := kk r u t T'.heap (locs ++ L) e1.symm (by rw [← e2]; exact X'.warmed.alike) hp hb k1 k2 k3 T' rfl X'
    exact ⟨t2, st t2 a1, b1⟩
  · obtain ⟨k1, k2, k3⟩ := vx_keep h0 e1 hS hAX hf hL hF
    obtain ⟨t2, a1, b1⟩ := kx E ce q u t T'.heap (locs ++ L) e1.symm (by rw [← e2]; exact X'.warmed.alike) hp hb k1 k2 k3 (by rw [e1]; exact hce) hcv hcl T' rfl X'
    exact ⟨t2, st.trans a1, b1⟩
theorem vx_calll {S SX : Type} {post : Int64 → S → Prop} {px : SX → Prop} {B : S → State → Prop} {BX : String → SX → State → Prop} {AX : Nat → Prop} (hr : vx_Run p l e R s m args below meth c H locs cells slots mc ms (F0 m pc ls st0) rest (va_Ql post B A1 a) (vx_X px BX AX) free) (hS : va_S A0 H0 H locs) (hA : ∀ q, q < H.size → A1 q → A0 q) (hf : ∀ q, free q → A0 q) (hAX : ∀ q, q < H.size → AX q → A0 q)
    (kx : ∀ (E : String) (ce : Cell) (q9 : Addr) (u : SX) (t : State) (H1 : Heap) (locs1 : List Loc), t.heap = H1 → s.vm.Alike t.vm → px u → BX E u t → H.size ≤ H1.size → (∀ q : Nat, q < H.size → ¬ AX q → H1[q]? = H[q]?) → va_S A0 H0 H1 locs1 → H1[q9]? = some ce → ce.vm = .none → s.vm.findClass E = some ce.cls → vx_W p l e R s m args below meth c H1 locs1 (cells + mc) (slots + ms) Q (F0 m pc ls rest) q9)
    (kk : ∀ (r : Int64) (u : S) (t : State) (H1 : Heap) (locs1 : List Loc), t.heap = H1 → s.vm.Alike t.vm → post r u → B u t → H.size ≤ H1.size → (∀ q : Nat, q < H.size → ¬ A1 q → H1[q]? = H[q]?) → va_S A0 H0 H1 locs1 → W p l e R s m args below meth c H1 locs1 (cells + mc) (slots + ms) Q (F0 m (pc + 3) ls (.long r :: rest))) : W p l e R s m args below meth c H locs cells slots Q (F0 m pc ls st0) := by
  intro T hT X
  rcases hr T hT X with ⟨v, st₀, t, T', L, h0, X', hL, e1, e2, ⟨⟨r, u, hv, hp, hb⟩, hF⟩, st⟩ | ⟨q, st₀, t, T', L, E, ce, h0, X', hL, e1, e2, ⟨u, hp, hb, hF⟩, hce, hcv, hcl, st⟩
  · cases hv
    obtain ⟨k1, k2, k3⟩ := vx_keep h0 e1 hS hA hf hL hF
    obtain ⟨t2, a1, b1⟩ := kk r u t T'.heap (locs ++ L) e1.symm (by rw [← e2]; exact X'.warmed.alike) hp hb k1 k2 k3 T' rfl X'
    exact ⟨t2, st t2 a1, b1⟩
  · obtain ⟨k1, k2, k3⟩ := vx_keep h0 e1 hS hAX hf hL hF
    obtain ⟨t2, a1, b1⟩ := kx E ce q u t T'.heap (locs ++ L) e1.symm (by rw [← e2]; exact X'.warmed.alike) hp hb k1 k2 k3 (by rw [e1]; exact hce) hcv hcl T' rfl X'
    exact ⟨t2, st.trans a1, b1⟩
theorem vx_callf {S SX : Type} {post : UInt32 → S → Prop} {px : SX → Prop} {B : S → State → Prop} {BX : String → SX → State → Prop} {AX : Nat → Prop} (hr : vx_Run p l e R s m args below meth c H locs cells slots mc ms (F0 m pc ls st0) rest (va_Qf post B A1 a) (vx_X px BX AX) free) (hS : va_S A0 H0 H locs) (hA : ∀ q, q < H.size → A1 q → A0 q) (hf : ∀ q, free q → A0 q) (hAX : ∀ q, q < H.size → AX q → A0 q)
    (kx : ∀ (E : String) (ce : Cell) (q9 : Addr) (u : SX) (t : State) (H1 : Heap) (locs1 : List Loc), t.heap = H1 → s.vm.Alike t.vm → px u → BX E u t → H.size ≤ H1.size → (∀ q : Nat, q < H.size → ¬ AX q → H1[q]? = H[q]?) → va_S A0 H0 H1 locs1 → H1[q9]? = some ce → ce.vm = .none → s.vm.findClass E = some ce.cls → vx_W p l e R s m args below meth c H1 locs1 (cells + mc) (slots + ms) Q (F0 m pc ls rest) q9)
    (kk : ∀ (r : UInt32) (u : S) (t : State) (H1 : Heap) (locs1 : List Loc), t.heap = H1 → s.vm.Alike t.vm → post r u → B u t → H.size ≤ H1.size → (∀ q : Nat, q < H.size → ¬ A1 q → H1[q]? = H[q]?) → va_S A0 H0 H1 locs1 → W p l e R s m args below meth c H1 locs1 (cells + mc) (slots + ms) Q (F0 m (pc + 3) ls (.float r :: rest))) : W p l e R s m args below meth c H locs cells slots Q (F0 m pc ls st0) := by
  intro T hT X
  rcases hr T hT X with ⟨v, st₀, t, T', L, h0, X', hL, e1, e2, ⟨⟨r, u, hv, hp, hb⟩, hF⟩, st⟩ | ⟨q, st₀, t, T', L, E, ce, h0, X', hL, e1, e2, ⟨u, hp, hb, hF⟩, hce, hcv, hcl, st⟩
  · cases hv
    obtain ⟨k1, k2, k3⟩ := vx_keep h0 e1 hS hA hf hL hF
    obtain ⟨t2, a1, b1⟩ := kk r u t T'.heap (locs ++ L) e1.symm (by rw [← e2]; exact X'.warmed.alike) hp hb k1 k2 k3 T' rfl X'
    exact ⟨t2, st t2 a1, b1⟩
  · obtain ⟨k1, k2, k3⟩ := vx_keep h0 e1 hS hAX hf hL hF
    obtain ⟨t2, a1, b1⟩ := kx E ce q u t T'.heap (locs ++ L) e1.symm (by rw [← e2]; exact X'.warmed.alike) hp hb k1 k2 k3 (by rw [e1]; exact hce) hcv hcl T' rfl X'
    exact ⟨t2, st.trans a1, b1⟩
theorem vx_calld {S SX : Type} {post : UInt64 → S → Prop} {px : SX → Prop} {B : S → State → Prop} {BX : String → SX → State → Prop} {AX : Nat → Prop} (hr : vx_Run p l e R s m args below meth c H locs cells slots mc ms (F0 m pc ls st0) rest (va_Qd post B A1 a) (vx_X px BX AX) free) (hS : va_S A0 H0 H locs) (hA : ∀ q, q < H.size → A1 q → A0 q) (hf : ∀ q, free q → A0 q) (hAX : ∀ q, q < H.size → AX q → A0 q)
    (kx : ∀ (E : String) (ce : Cell) (q9 : Addr) (u : SX) (t : State) (H1 : Heap) (locs1 : List Loc), t.heap = H1 → s.vm.Alike t.vm → px u → BX E u t → H.size ≤ H1.size → (∀ q : Nat, q < H.size → ¬ AX q → H1[q]? = H[q]?) → va_S A0 H0 H1 locs1 → H1[q9]? = some ce → ce.vm = .none → s.vm.findClass E = some ce.cls → vx_W p l e R s m args below meth c H1 locs1 (cells + mc) (slots + ms) Q (F0 m pc ls rest) q9)
    (kk : ∀ (r : UInt64) (u : S) (t : State) (H1 : Heap) (locs1 : List Loc), t.heap = H1 → s.vm.Alike t.vm → post r u → B u t → H.size ≤ H1.size → (∀ q : Nat, q < H.size → ¬ A1 q → H1[q]? = H[q]?) → va_S A0 H0 H1 locs1 → W p l e R s m args below meth c H1 locs1 (cells + mc) (slots + ms) Q (F0 m (pc + 3) ls (.double r :: rest))) : W p l e R s m args below meth c H locs cells slots Q (F0 m pc ls st0) := by
  intro T hT X
  rcases hr T hT X with ⟨v, st₀, t, T', L, h0, X', hL, e1, e2, ⟨⟨r, u, hv, hp, hb⟩, hF⟩, st⟩ | ⟨q, st₀, t, T', L, E, ce, h0, X', hL, e1, e2, ⟨u, hp, hb, hF⟩, hce, hcv, hcl, st⟩
  · cases hv
    obtain ⟨k1, k2, k3⟩ := vx_keep h0 e1 hS hA hf hL hF
    obtain ⟨t2, a1, b1⟩ := kk r u t T'.heap (locs ++ L) e1.symm (by rw [← e2]; exact X'.warmed.alike) hp hb k1 k2 k3 T' rfl X'
    exact ⟨t2, st t2 a1, b1⟩
  · obtain ⟨k1, k2, k3⟩ := vx_keep h0 e1 hS hAX hf hL hF
    obtain ⟨t2, a1, b1⟩ := kx E ce q u t T'.heap (locs ++ L) e1.symm (by rw [← e2]; exact X'.warmed.alike) hp hb k1 k2 k3 (by rw [e1]; exact hce) hcv hcl T' rfl X'
    exact ⟨t2, st.trans a1, b1⟩
theorem vx_callv {S SX : Type} {post : S → Prop} {px : SX → Prop} {B : S → State → Prop} {BX : String → SX → State → Prop} {AX : Nat → Prop} (hr : vx_Run p l e R s m args below meth c H locs cells slots mc ms (F0 m pc ls st0) rest (va_Qv post B A1 a) (vx_X px BX AX) free) (hS : va_S A0 H0 H locs) (hA : ∀ q, q < H.size → A1 q → A0 q) (hf : ∀ q, free q → A0 q) (hAX : ∀ q, q < H.size → AX q → A0 q)
    (kx : ∀ (E : String) (ce : Cell) (q9 : Addr) (u : SX) (t : State) (H1 : Heap) (locs1 : List Loc), t.heap = H1 → s.vm.Alike t.vm → px u → BX E u t → H.size ≤ H1.size → (∀ q : Nat, q < H.size → ¬ AX q → H1[q]? = H[q]?) → va_S A0 H0 H1 locs1 → H1[q9]? = some ce → ce.vm = .none → s.vm.findClass E = some ce.cls → vx_W p l e R s m args below meth c H1 locs1 (cells + mc) (slots + ms) Q (F0 m pc ls rest) q9)
    (kk : ∀ (u : S) (t : State) (H1 : Heap) (locs1 : List Loc), t.heap = H1 → s.vm.Alike t.vm → post u → B u t → H.size ≤ H1.size → (∀ q : Nat, q < H.size → ¬ A1 q → H1[q]? = H[q]?) → va_S A0 H0 H1 locs1 → W p l e R s m args below meth c H1 locs1 (cells + mc) (slots + ms) Q (F0 m (pc + 3) ls (rest))) : W p l e R s m args below meth c H locs cells slots Q (F0 m pc ls st0) := by
  intro T hT X
  rcases hr T hT X with ⟨v, st₀, t, T', L, h0, X', hL, e1, e2, ⟨⟨u, hv, hp, hb⟩, hF⟩, st⟩ | ⟨q, st₀, t, T', L, E, ce, h0, X', hL, e1, e2, ⟨u, hp, hb, hF⟩, hce, hcv, hcl, st⟩
  · cases hv
    obtain ⟨k1, k2, k3⟩ := vx_keep h0 e1 hS hA hf hL hF
    obtain ⟨t2, a1, b1⟩ := kk u t T'.heap (locs ++ L) e1.symm (by rw [← e2]; exact X'.warmed.alike) hp hb k1 k2 k3 T' rfl X'
    exact ⟨t2, st t2 a1, b1⟩
  · obtain ⟨k1, k2, k3⟩ := vx_keep h0 e1 hS hAX hf hL hF
    obtain ⟨t2, a1, b1⟩ := kx E ce q u t T'.heap (locs ++ L) e1.symm (by rw [← e2]; exact X'.warmed.alike) hp hb k1 k2 k3 (by rw [e1]; exact hce) hcv hcl T' rfl X'
    exact ⟨t2, st.trans a1, b1⟩
/-- caught by the row x of this method's table; the rows ahead don't take it -/
theorem vx_catch {own name : String} {E : String} {ce : Cell} {q : Addr} (hown : s.vm.findClass own = some m.cls) (pre : List ExceptionTableEntry) (x : ExceptionTableEntry) (suf : List ExceptionTableEntry) (hsplit : c.exceptionTable.toList = pre ++ x :: suf)
    (hpass : ∀ z ∈ pre, covers z pc = false ∨ (z.catchType ≠ 0 ∧ ∃ nm : String, (Cond.classLink own z.catchType nm).before args s = true ∧ va_Nc E nm s)) (hx : covers x pc = true) (h0 : x.catchType ≠ 0)
    (hlink : (Cond.classLink own x.catchType name).before args s = true) (hcast : (Cond.castable E name).before args s = true) (hcell : H[q]? = some ce) (hv : ce.vm = .none) (hcl : s.vm.findClass E = some ce.cls)
    (kk : W p l e R s m args below meth c H locs cells slots Q (F0 m x.handlerPc ls [.ref q])) : vx_W p l e R s m args below meth c H locs cells slots Q (F0 m pc ls rest) q := by
  intro T hT X
  have hpl : e.platform.magicAccessors = ({} : Platform).magicAccessors := by rw [X.admits.platform]
  obtain ⟨c3, c4, hc3, hc4, hasg⟩ := Cond.castable_spec hcast
  cases Option.some.inj (hc3.symm.trans hcl)
  obtain ⟨c5, hc5, hcl5⟩ := Cond.classLink_spec hown hlink e.platform hpl
  cases Option.some.inj (hc4.symm.trans hc5)
  obtain ⟨vm', X', st⟩ := X.thenCaughtThrough q (g := F0 m pc ls rest) rfl (Steps.refl _) (by rw [hT]; exact hcell) (by rw [hv]; rfl) (by obtain ⟨k9, h9, -⟩ := Vm.findClass_spec hcl; exact ⟨k9, h9⟩) pre x suf hsplit
    (fun z hz => by
      rcases hpass z hz with h | ⟨hz0, nm, hl1, hn1⟩
      · exact Or.inl h
      · obtain ⟨c6, hc6, hcl6⟩ := Cond.classLink_spec hown hl1 e.platform hpl
        obtain ⟨a8, b8, h1, h2, h3⟩ := hn1
        cases Option.some.inj (h1.symm.trans hcl)
        cases Option.some.inj (h2.symm.trans hc6)
        exact Or.inr ⟨hz0, _, hcl6, h3⟩) hx (Or.inr ⟨h0, c4, hcl5, hasg⟩)
  obtain ⟨t, a1, b1⟩ := kk (T.setVm vm') hT X'
  exact ⟨t, st.trans a1, b1⟩
end Rows
section Ends
variable {p : Program} {l : Launch} {e : Env} {R : Room} {s : State} {m : MethodId} {args : Array Value} {below : List Frame} {meth : Method} {c : Code} {H : Heap} {locs : List Loc} {cells slots : Nat} {Q : State → Prop}
variable {mc ms : Nat} {free : Addr → Prop} {A0 A1 : Nat → Prop} {H0 : Heap} {a : Array Value} {ls : Array Slot} {st0 rest : List Value}
variable {Qc : Array Value → State → Outcome → State → Prop} {XC : String → State → State → Prop}
/-- what a body that may throw owes at its end -/
def vx_MQ (below : List Frame) (Qc : Array Value → State → Outcome → State → Prop) (XC : String → State → State → Prop) (a : Array Value) (s : State) (mc ms : Nat) (free : Addr → Prop) : State → Prop := fun t =>
  ∃ o, t.status = .running ∧ Ended t below o ∧ vx_Q Qc XC mc ms free a s o t
theorem vx_ret {g : JFrame} {mc ms : Nat} (k : W p l e R s m args below meth c H locs cells slots (MQ below Qc args s mc ms free) g) : W p l e R s m args below meth c H locs cells slots (vx_MQ below Qc XC args s mc ms free) g := by
  intro T hT X
  obtain ⟨t, a1, o, b1, b2, b3, b4⟩ := k T hT X
  exact ⟨t, a1, o, b1, b2, Or.inl ⟨b3, b4⟩⟩
/-- not caught here: it goes on to the caller -/
theorem vx_widen {g : JFrame} {q : Addr} {k n : Nat} (h1 : cells ≤ k) (h2 : slots ≤ n) (kk : vx_W p l e R s m args below meth c H locs k n Q g q) : vx_W p l e R s m args below meth c H locs cells slots Q g q := fun T hT X => kk T hT (stand_widen X h1 h2)
theorem vx_out {pc : Nat} {E : String} {ce : Cell} {q : Addr} {mc ms : Nat} (hout : ∀ x ∈ c.exceptionTable.toList, covers x pc = false) (hlocks : meth.locks = false) (hcell : H[q]? = some ce) (hv : ce.vm = .none) (hcl : s.vm.findClass E = some ce.cls)
    (hx : ∀ t : State, t.heap = H → s.vm.Alike t.vm → XC E s t) (hf : ∀ z ∈ locs, free z.base) (hc : cells ≤ mc) (hs : slots ≤ ms) :
    vx_W p l e R s m args below meth c H locs cells slots (vx_MQ below Qc XC args s mc ms free) (F0 m pc ls rest) q := by
  intro T hT X
  obtain ⟨st1, hrun, hend, hW, hsm⟩ := X.leaveThrown q (g := F0 m pc ls rest) rfl rfl rfl hout hlocks
  have hcell9 : (T.setFrames (.throwing q :: below)).heap[q]? = some ce := by
    show T.heap[q]? = some ce
    rw [hT]; exact hcell
  exact ⟨_, st1, .threw q, hrun, hend, Or.inr ⟨q, rfl, E, ce, locs, hx _ hT hW.alike, hcell9, hv, hcl, hW, hsm.mono hc hs, hf⟩⟩
theorem vx_frame {U : State} {k n : Nat} (h : s.sameButNew ({ U with vm := s.vm } : State) locs k n) : s.heap.size ≤ U.heap.size ∧ ∀ q : Nat, q < s.heap.size → (∀ z ∈ locs, z.base ≠ q) → U.heap[q]? = s.heap[q]? := by
  obtain ⟨-, h2, -, -, -, h6⟩ := h
  refine ⟨h2, fun q hq hz => ?_⟩
  obtain ⟨c9, e1, e2, e3, e4⟩ := h6 q _ (Array.getElem?_eq_getElem hq)
  have hs : c9.slots = (s.heap[q]).slots := Array.ext_getElem? fun i => e4 i fun hm => hz _ hm rfl
  have h9 : c9 = s.heap[q] := by
    rw [hs] at e2
    exact e2
  have e5 : U.heap[q]? = some c9 := e1
  rw [e5, h9, Array.getElem?_eq_getElem hq]
/-- the words of a throw but the four that speak of the heap -/
def vx_no (w : Cond) : Bool := decide (w ≠ .isRef (.static Bundle.tN "UNASSIGNED_STACK" Bundle.steD)) && decide (w ≠ .isRef (.static Bundle.tN "SUPPRESSED_SENTINEL" Bundle.listD)) && decide (w ≠ .laysStatic Bundle.tN "UNASSIGNED_STACK" Bundle.steD) && decide (w ≠ .laysStatic Bundle.tN "SUPPRESSED_SENTINEL" Bundle.listD)
def vx_at0 (own : String) (ic : Nat) (X : String) (names : List String) : List Cond := (Bundle.ownAtoms0 own ic X names).filter vx_no
def vx_atS (own : String) (ic : Nat) (X : String) (names : List String) : List Cond := (Bundle.ownAtoms own ic X names).filter vx_no
/-- a word that the tables alone decide, or a good one -/
def vx_ot (w : Cond) : Bool := w.onTables || goodWord w
theorem vx_ot_at {args a' : Array Value} {s U : State} {w : Cond} (hW : s.WarmedH U.vm) (hvm : s.vm = U.vm) (hg : vx_ot w = true) (h : w.before args s = true) : w.before a' U = true := by
  simp only [vx_ot, Bool.or_eq_true] at hg
  rcases hg with hg | hg
  · exact va_tabs hg hvm h
  · exact word_at hW (good_of_word hg) h
/-- a list's words: the good ones out of the method's own list, the others by premises of their own -/
theorem vx_hat {args : Array Value} {s : State} {L B : List Cond} (h1 : ∀ w ∈ L.filter goodWord, w.before args s = true) (h2 : ∀ w ∈ L.filter (fun w => !goodWord w), w ∈ B) (h3 : ∀ w ∈ B, w.before args s = true) : ∀ w ∈ L, w.before args s = true := by
  intro w hw
  by_cases g : goodWord w = true
  · exact h1 w (List.mem_filter.mpr ⟨hw, g⟩)
  · refine h3 w (h2 w (List.mem_filter.mpr ⟨hw, ?_⟩))
    show (!goodWord w) = true
    cases hgw : goodWord w
    · rfl
    · exact absurd hgw g
theorem vx_c {args : Array Value} {s : State} {w : Cond} {B : List Cond} (h : w.before args s = true) (t : ∀ w ∈ B, w.before args s = true) : ∀ w' ∈ w :: B, w'.before args s = true := fun w' h' => (List.mem_cons.mp h').elim (fun e => by rw [e]; exact h) (t w')
theorem vx_n {args : Array Value} {s : State} : ∀ w ∈ ([] : List Cond), w.before args s = true := fun _ h => nomatch h
theorem vx_own {args : Array Value} {s : State} {L : List Cond} (h1 : ∀ w ∈ L.filter vx_no, w.before args s = true)
    (hU : (Cond.isRef (.static Bundle.tN "UNASSIGNED_STACK" Bundle.steD)).before args s = true) (hN : (Cond.isRef (.static Bundle.tN "SUPPRESSED_SENTINEL" Bundle.listD)).before args s = true)
    (lU : (Cond.laysStatic Bundle.tN "UNASSIGNED_STACK" Bundle.steD).before args s = true) (lN : (Cond.laysStatic Bundle.tN "SUPPRESSED_SENTINEL" Bundle.listD).before args s = true) : ∀ w ∈ L, w.before args s = true := by
  intro w hw
  by_cases e1 : w = .isRef (.static Bundle.tN "UNASSIGNED_STACK" Bundle.steD)
  · rw [e1]; exact hU
  · by_cases e2 : w = .isRef (.static Bundle.tN "SUPPRESSED_SENTINEL" Bundle.listD)
    · rw [e2]; exact hN
    · by_cases e3 : w = .laysStatic Bundle.tN "UNASSIGNED_STACK" Bundle.steD
      · rw [e3]; exact lU
      · by_cases e4 : w = .laysStatic Bundle.tN "SUPPRESSED_SENTINEL" Bundle.listD
        · rw [e4]; exact lN
        · exact h1 w (List.mem_filter.mpr ⟨hw, by unfold vx_no; rw [decide_eq_true e1, decide_eq_true e2, decide_eq_true e3, decide_eq_true e4]; rfl⟩)
/-- where a static field lies, its class's statics cell in H -/
def vx_L (C n d : String) (A : Nat → Prop) (U : State) (H : Heap) : Prop := ∃ (c : ClassId) (k : Class) (i : Nat) (f : Field) (a : Nat) (cell : Cell), U.vm.findClass C = some c ∧ U.fieldFound? C n d = some (c, k, i, f) ∧ f.isStatic = true ∧ k.statics = some a ∧ H[a]? = some cell ∧ cell.vm.isStatics = true ∧ cell.cls = c ∧ f.slot < cell.slots.size ∧ k.staticTypes[f.slot]? = some f.type ∧ ¬ A a
theorem vx_L.moved {C n d : String} {A : Nat → Prop} {u U : State} {H : Heap} (hvm : u.vm.Alike U.vm) (h : vx_L C n d A u H) : vx_L C n d A U H := by
  obtain ⟨c, k, i, f, a, cell, h1, h2, h3, h4, h5, h6, h7, h8, h9, h10⟩ := h
  obtain ⟨k', hi', he⟩ := State.fieldFound?_setVm hvm h2
  exact ⟨c, k', i, f, a, cell, by rw [hvm.findClass]; exact h1, hi', h3, by rw [he]; exact h4, h5, h6, h7, h8, by rw [he]; exact h9, h10⟩
theorem vx_L.kept {C n d : String} {A : Nat → Prop} {U : State} {H H1 : Heap} (h : vx_L C n d A U H) (hq : ∀ a : Nat, a < H.size → ¬ A a → H1[a]? = H[a]?) : vx_L C n d A U H1 := by
  obtain ⟨c, k, i, f, a, cell, h1, h2, h3, h4, h5, h6, h7, h8, h9, h10⟩ := h
  exact ⟨c, k, i, f, a, cell, h1, h2, h3, h4, by rw [hq a (Array.getElem?_eq_some_iff.mp h5).1 h10]; exact h5, h6, h7, h8, h9, h10⟩
theorem vx_L.narrow {C n d : String} {A B : Nat → Prop} {U : State} {H : Heap} (h : vx_L C n d A U H) (hAB : ∀ q, B q → A q) : vx_L C n d B U H := by
  obtain ⟨c, k, i, f, a, cell, h1, h2, h3, h4, h5, h6, h7, h8, h9, h10⟩ := h
  exact ⟨c, k, i, f, a, cell, h1, h2, h3, h4, h5, h6, h7, h8, h9, fun z => h10 (hAB _ z)⟩
theorem vx_L.word {C n d : String} {A : Nat → Prop} {s : State} {args : Array Value} (h : vx_L C n d A s s.heap) : (Cond.laysStatic C n d).before args s = true := by
  obtain ⟨c, k, i, f, a, cell, h1, h2, h3, h4, h5, h6, h7, h8, h9, -⟩ := h
  show (Cond.laysStatic C n d).holds args s none s [] = true
  exact Cond.laysStatic_of h1 h2 h3 h4 h5 h6 h7 h8 h9
/-- .. and what it holds: null or some reference -/
def vx_Zq (C n d : String) (A : Nat → Prop) (U : State) (H : Heap) : Prop := va_Zq C n d A U H ∧ vx_L C n d A U H
theorem vx_Zq.moved {C n d : String} {A : Nat → Prop} {u U : State} {H : Heap} (hvm : u.vm.Alike U.vm) (h : vx_Zq C n d A u H) : vx_Zq C n d A U H := ⟨va_Zq.moved hvm h.1, vx_L.moved hvm h.2⟩
theorem vx_Zq.kept {C n d : String} {A : Nat → Prop} {U : State} {H H1 : Heap} (h : vx_Zq C n d A U H) (hq : ∀ a : Nat, a < H.size → ¬ A a → H1[a]? = H[a]?) : vx_Zq C n d A U H1 := ⟨va_Zq.kept h.1 hq, vx_L.kept h.2 hq⟩
theorem vx_Zq.narrow {C n d : String} {A B : Nat → Prop} {U : State} {H : Heap} (h : vx_Zq C n d A U H) (hAB : ∀ q, B q → A q) : vx_Zq C n d B U H := ⟨va_Zq.narrow h.1 hAB, vx_L.narrow h.2 hAB⟩
theorem vx_Zqof {args : Array Value} {s : State} {C n d : String} {A : Nat → Prop} (hl : (Cond.laysStatic C n d).before args s = true) (hini : (Cond.initialized C).before args s = true) (h : (Cond.isRef (.static C n d)).before args s = true) (hA : ∀ a : Nat, a < s.heap.size → ¬ A a) : vx_Zq C n d A s s.heap := by
  refine ⟨va_Zqof hl hini h hA, ?_⟩
  obtain ⟨c, k, i, f, a, cell, h1, h2, h3, h4, h5, h6, h7, h8, h9⟩ := Cond.laysStatic_spec hl
  exact ⟨c, k, i, f, a, cell, h1, h2, h3, h4, h5, h6, h7, h8, h9, hA a (Array.getElem?_eq_some_iff.mp h5).1⟩
theorem vx_isRef {C n d : String} {v : Value} {A : Nat → Prop} {s : State} {args : Array Value} (h : va_Z C n d v A s s.heap) (hv : v.isRef = true) : (Cond.isRef (.static C n d)).before args s = true := by
  obtain ⟨cf, kf, fi, f, a, cell, h1, h2, h3, h4, h5, h6, h7, -⟩ := h
  have he : (Term.static C n d).eval args s none [] s = some v := by
    simp [Term.eval, State.fieldNamed?, h1, h2, h4, h5, h6, h7]
  simp only [Cond.before, Cond.holds, Cond.value, he]
  cases v <;> simp_all [Value.isRef]
theorem vx_isRefq {C n d : String} {A : Nat → Prop} {s : State} {args : Array Value} (h : va_Zq C n d A s s.heap) : (Cond.isRef (.static C n d)).before args s = true := by
  rcases h with h | ⟨t, h⟩
  · exact vx_isRef h rfl
  · exact vx_isRef h rfl
/-- the same frame, seen from here: as if the method were called anew in this heap -/
theorem vx_rebase {T : State} (X : Stand p l e R s m args below meth c T locs cells slots) {R' : Room} (hf : R'.frames ≤ R.frames) (hl : R'.locals ≤ R.locals) (hc : cells + R'.cells ≤ R.cells) (hs : slots + R'.slots ≤ R.slots) :
    Stand p l e R' ((T.setVm s.vm).setFrames (.invoking m args :: below)) m args below meth c T [] 0 0 := by
  have htop : (T.setVm s.vm).topJava?.isSome := X.here.top
  have hF : ((T.setVm s.vm).setFrames (.invoking m args :: below)).frames = .invoking m args :: below := State.frames_setFrames _ (State.cur_lt_of_top htop)
  obtain ⟨g₀, hg0⟩ := Option.isSome_iff_exists.mp htop
  obtain ⟨r, hr⟩ := State.topJava?_eq_some.mp hg0
  have hl9 : e.platform.stackLimits (T.setVm s.vm).me = e.platform.stackLimits s.me := X.limits
  have hb9 : (T.setVm s.vm).me.stackBytes = s.me.stackBytes := X.bytes
  refine ⟨X.admits, X.cas, X.clock, hF, ?_, X.hears, X.method, X.code, X.here, X.tail, X.warmed, ?_, ?_, ?_⟩
  · have h := X.room
    have hU : ((T.setVm s.vm).setFrames (.invoking m args :: below)).localsInUse = s.localsInUse := by
      rw [State.localsInUse_invoking hF (meth := meth) (c := c) X.method X.code, State.localsInUse_invoking X.frames X.method X.code]
    simp only [State.hasRoom, Bool.and_eq_true, decide_eq_true_eq] at h ⊢
    obtain ⟨⟨⟨⟨h1, h2, h3, h4, h5, h6⟩, h7⟩, h8⟩, h9⟩ := h
    rw [X.frames, List.length_cons] at h2 h3
    have q1 := X.heapSize
    have q2 := X.used
    simp only [hF, hU, List.length_cons, State.stackLimits_setFrames, State.stackBytes_setFrames, hl9, hb9]
    refine ⟨⟨⟨⟨by omega, by omega, by omega, by omega, by omega, h6⟩, ?_⟩, ?_⟩, X.book⟩
    · show T.heap.size + R'.cells ≤ e.platform.maxCells
      omega
    · show T.slotsUsed + R'.slots ≤ e.platform.maxSlots
      omega
  · rw [State.stackLimits_setFrames]; rfl
  · rw [State.stackBytes_setFrames]; rfl
  · refine ⟨?_, Nat.le_refl _, Nat.le_refl _, ?_, ?_, fun a c9 h9 => ⟨c9, h9, rfl, rfl, fun _ _ => rfl⟩⟩
    · obtain ⟨t, ht, -⟩ := State.frames_cons hr
      show T.setVm s.vm = { ((T.setVm s.vm).setFrames (.invoking m args :: below)).setFrames (T.setVm s.vm).frames with heap := T.heap, slotsUsed := T.slotsUsed }
      rw [State.setFrames_setFrames, State.setFrames_self ht]
      rfl
    · show T.slotsUsed = T.slotsUsed + ((T.heap.toList.drop T.heap.size).map (·.slots.size)).sum
      rw [List.drop_eq_nil_of_le (Nat.le_of_eq Array.length_toList)]
      rfl
    · show ((T.heap.toList.drop T.heap.size).map (·.slots.size)).sum ≤ 0
      rw [List.drop_eq_nil_of_le (Nat.le_of_eq Array.length_toList)]
      exact Nat.le_refl _
/-- 'throw new E()': new; dup; invokespecial; athrow -/
theorem vx_throw0 {cc : ByteArray} {pc : Nat} (hexec : p.tables.exec = Jvm.exec) (hb : c.code = cc) (hl : l.stackTraces = false) {own cls : String} {names : List String} {ik ic mc ms : Nat} {A : Nat → Prop}
    (hown : s.vm.findClass own = some m.cls) (hcls : Bundle.fit cls = true) (hnames : ∀ n ∈ names, Bundle.fit n = true)
    (hk : (Cond.classLink own ik cls).before args s = true) (hini : (Cond.initialized cls).before args s = true) (hat : ∀ w ∈ vx_at0 own ic cls names, w.before args s = true)
    (hgood : ∀ w ∈ Cond.classLink own ik cls :: Cond.initialized cls :: vx_at0 own ic cls names, vx_ot w = true)
    (hU : vx_Zq Bundle.tN "UNASSIGNED_STACK" Bundle.steD A s s.heap) (hN : vx_Zq Bundle.tN "SUPPRESSED_SENTINEL" Bundle.listD A s s.heap) (hS : va_S A s.heap H locs) (hsize : ls.size = c.maxLocals)
    (d0 : decode cc pc = .ok (.new ik, 3)) (d3 : decode cc (pc + 3) = .ok (.dup, 1)) (d4 : decode cc (pc + 4) = .ok (.invokespecial ic, 3)) (d7 : decode cc (pc + 7) = .ok (.athrow, 1))
    (hout : ∀ x ∈ c.exceptionTable.toList, covers x (pc + 7) = false)
    (hRframes : names.length + 3 < R.frames) (hRlocals : (rest.map fun v => v.category).sum + (13 * (names.length + 1) + 42) ≤ R.locals) (hRcells : cells + 1 ≤ R.cells) (hRslots : slots + 6 ≤ R.slots) (hlocks : meth.locks = false)
    (hx : ∀ t : State, s.vm.Alike t.vm → H.size ≤ t.heap.size → (∀ q : Nat, q < H.size → t.heap[q]? = H[q]?) → XC cls s t)
    (hf : ∀ z ∈ locs, free z.base) (hc : cells + 1 ≤ mc) (hs : slots + 6 ≤ ms) :
    W p l e R s m args below meth c H locs cells slots (vx_MQ below Qc XC args s mc ms free) (F0 m pc ls rest) := by
  intro T hT X
  have htr : e.platform.stackTraces = false := (show e.platform.stackTraces = l.stackTraces by rw [X.admits.platform]).trans hl
  have Y := vx_rebase X (R' := { frames := R.frames, locals := R.locals, cells := 1, slots := 6 }) (Nat.le_refl _) (Nat.le_refl _) hRcells hRslots
  obtain ⟨s', hA⟩ : ∃ z, z = (T.setVm s.vm).setFrames (.invoking m args :: below) := ⟨_, rfl⟩
  rw [← hA] at Y
  have hvm : s'.vm = s.vm := by rw [hA]; rfl
  have hhp : s'.heap = H := by rw [hA]; exact hT
  have hW0 : s.WarmedH s'.vm := by rw [hvm]; exact State.WarmedH.refl s
  have hat' : ∀ w ∈ vx_at0 own ic cls names, w.before args s' = true := fun w hw => vx_ot_at hW0 hvm.symm (hgood w (List.mem_cons_of_mem _ (List.mem_cons_of_mem _ hw))) (hat w hw)
  have hk' : (Cond.classLink own ik cls).before args s' = true := vx_ot_at hW0 hvm.symm (hgood _ List.mem_cons_self) hk
  have hini' : (Cond.initialized cls).before args s' = true := vx_ot_at hW0 hvm.symm (hgood _ (List.mem_cons_of_mem _ List.mem_cons_self)) hini
  have hU' : vx_Zq Bundle.tN "UNASSIGNED_STACK" Bundle.steD A s' s'.heap := by rw [hhp]; exact vx_Zq.moved hW0.alike (hU.kept hS.2.1)
  have hN' : vx_Zq Bundle.tN "SUPPRESSED_SENTINEL" Bundle.listD A s' s'.heap := by rw [hhp]; exact vx_Zq.moved hW0.alike (hN.kept hS.2.1)
  have h : ∀ w ∈ Bundle.ownAtoms0 own ic cls names, w.before args s' = true := vx_own hat' (vx_isRefq hU'.1) (vx_isRefq hN'.1) hU'.2.word hN'.2.word
  have hown' : s'.vm.findClass own = some m.cls := by rw [hvm]; exact hown
  have hins : (Cond.instantiable cls 6).before args s' = true := h _ (by simp [Bundle.ownAtoms0])
  obtain ⟨vm₁, cX, kX, hfX, hkX, -, -, X₁, st1⟩ := Y.newCold hexec (own := own) (C := cls) (index := ik) (n := 6) hown' hk' hins hini'
    (g := F0 m pc ls rest) rfl (by rw [hb]; exact d0) (Nat.le_refl _) (Nat.le_refl _)
  generalize hT1 : (T.setVm vm₁).pushCell { cls := cX, slots := kX.instanceTypes.map defaultValue, vm := .none } = T1 at X₁ st1
  have hcat : (Value.ref T.heap.size).category = 1 := rfl
  have hcellA : T1.heap[T.heap.size]? = some (freshCell cX kX) := by rw [← hT1]; exact State.heap_pushCell_size _ _
  have d3' : decode c.code (pc + 3) = .ok (.dup, 1) := by rw [hb]; exact d3
  obtain ⟨U, hsteps, hrun, hend, hW, hsame, ce, hce, hO⟩ := X₁.ctorThrow0 hexec htr (own := own) (cls := cls) (names := names) (ic := ic) hown' hcls hnames h (fun x hx => nomatch hx) hfX hkX hcellA (by rw [hhp, hT]; exact Nat.le_refl _)
    (g := { method := m, pc := pc + 4, locals := ls, stack := .ref T.heap.size :: .ref T.heap.size :: rest, locked := none }) rfl hsize rfl rfl (rest := rest) rfl
    (by rw [hb]; exact d4) (by rw [hb]; exact d7) hout hRframes (by simp only [List.map_cons, List.sum_cons, hcat]; omega) hlocks
  obtain ⟨f1, f2⟩ := vx_frame hsame
  rw [hhp] at f1 f2
  have hWs : s.WarmedH U.vm := State.WarmedH.trans hW0 hW
  have hcl : s.vm.findClass cls = some ce.cls := by
    have h9 := hO.cls
    rw [hvm] at h9
    exact h9
  have hall : s.sameButNew ({ U with vm := s.vm } : State) locs mc ms := by
    subst hA
    obtain ⟨e1, e2⟩ := hsame
    rw [State.setFrames_setFrames] at e1
    have h2 : (T.setVm s.vm).sameButNew ({ U with vm := s.vm } : State) [] (0 + 1) (0 + 6) := ⟨e1, e2⟩
    have h3 := X.same.trans h2
    rw [List.append_nil] at h3
    exact h3.mono hc hs
  refine ⟨U, ?_, .threw T.heap.size, hrun, hend, Or.inr ⟨T.heap.size, rfl, cls, ce, locs, hx U hWs.alike f1 (fun q hq => f2 q hq (fun z hz => nomatch hz)), hce, hO.vm, hcl, hWs, hall, hf⟩⟩
  refine st1 _ ?_
  show Steps p.tables e below (T1.setTop { method := m, pc := pc + 3, locals := ls, stack := .ref T.heap.size :: rest, locked := none }) _
  jvm_step X₁.here [X₁.here.top, hexec, d3', Value.category]
  exact hsteps
/-- 'throw new E("text")': new; dup; ldc; invokespecial; athrow -/
theorem vx_throwS {cc : ByteArray} {pc : Nat} (hexec : p.tables.exec = Jvm.exec) (hb : c.code = cc) (hl : l.stackTraces = false) {own cls text : String} {names : List String} {ik is ic mc ms sa : Nat} {A : Nat → Prop}
    (hown : s.vm.findClass own = some m.cls) (hcls : Bundle.fit cls = true) (hnames : ∀ n ∈ names, Bundle.fit n = true)
    (hk : (Cond.classLink own ik cls).before args s = true) (hini : (Cond.initialized cls).before args s = true) (hstr : vk_R own is text sa s) (hat : ∀ w ∈ vx_atS own ic cls names, w.before args s = true)
    (hgood : ∀ w ∈ Cond.classLink own ik cls :: Cond.initialized cls :: vx_atS own ic cls names, vx_ot w = true)
    (hU : vx_Zq Bundle.tN "UNASSIGNED_STACK" Bundle.steD A s s.heap) (hN : vx_Zq Bundle.tN "SUPPRESSED_SENTINEL" Bundle.listD A s s.heap) (hS : va_S A s.heap H locs) (hsize : ls.size = c.maxLocals)
    (d0 : decode cc pc = .ok (.new ik, 3)) (d3 : decode cc (pc + 3) = .ok (.dup, 1)) (d4 : decode cc (pc + 4) = .ok (.ldc is, 2)) (d6 : decode cc (pc + 6) = .ok (.invokespecial ic, 3)) (d9 : decode cc (pc + 9) = .ok (.athrow, 1))
    (hout : ∀ x ∈ c.exceptionTable.toList, covers x (pc + 9) = false)
    (hRframes : names.length + 3 < R.frames) (hRlocals : (rest.map fun v => v.category).sum + (13 * (names.length + 1) + 43) ≤ R.locals) (hRcells : cells + 1 ≤ R.cells) (hRslots : slots + 6 ≤ R.slots) (hlocks : meth.locks = false)
    (hx : ∀ t : State, s.vm.Alike t.vm → H.size ≤ t.heap.size → (∀ q : Nat, q < H.size → t.heap[q]? = H[q]?) → XC cls s t)
    (hf : ∀ z ∈ locs, free z.base) (hc : cells + 1 ≤ mc) (hs : slots + 6 ≤ ms) :
    W p l e R s m args below meth c H locs cells slots (vx_MQ below Qc XC args s mc ms free) (F0 m pc ls rest) := by
  intro T hT X
  have htr : e.platform.stackTraces = false := (show e.platform.stackTraces = l.stackTraces by rw [X.admits.platform]).trans hl
  have Y := vx_rebase X (R' := { frames := R.frames, locals := R.locals, cells := 1, slots := 6 }) (Nat.le_refl _) (Nat.le_refl _) hRcells hRslots
  obtain ⟨s', hA⟩ : ∃ z, z = (T.setVm s.vm).setFrames (.invoking m args :: below) := ⟨_, rfl⟩
  rw [← hA] at Y
  have hvm : s'.vm = s.vm := by rw [hA]; rfl
  have hhp : s'.heap = H := by rw [hA]; exact hT
  have hW0 : s.WarmedH s'.vm := by rw [hvm]; exact State.WarmedH.refl s
  have hat' : ∀ w ∈ vx_atS own ic cls names, w.before args s' = true := fun w hw => vx_ot_at hW0 hvm.symm (hgood w (List.mem_cons_of_mem _ (List.mem_cons_of_mem _ hw))) (hat w hw)
  have hk' : (Cond.classLink own ik cls).before args s' = true := vx_ot_at hW0 hvm.symm (hgood _ List.mem_cons_self) hk
  have hini' : (Cond.initialized cls).before args s' = true := vx_ot_at hW0 hvm.symm (hgood _ (List.mem_cons_of_mem _ List.mem_cons_self)) hini
  have hU' : vx_Zq Bundle.tN "UNASSIGNED_STACK" Bundle.steD A s' s'.heap := by rw [hhp]; exact vx_Zq.moved hW0.alike (hU.kept hS.2.1)
  have hN' : vx_Zq Bundle.tN "SUPPRESSED_SENTINEL" Bundle.listD A s' s'.heap := by rw [hhp]; exact vx_Zq.moved hW0.alike (hN.kept hS.2.1)
  have h : ∀ w ∈ Bundle.ownAtoms own ic cls names, w.before args s' = true := vx_own hat' (vx_isRefq hU'.1) (vx_isRefq hN'.1) hU'.2.word hN'.2.word
  have hown' : s'.vm.findClass own = some m.cls := by rw [hvm]; exact hown
  have hins : (Cond.instantiable cls 6).before args s' = true := h _ (by simp [Bundle.ownAtoms])
  obtain ⟨vm₁, cX, kX, hfX, hkX, -, -, X₁, st1⟩ := Y.newCold hexec (own := own) (C := cls) (index := ik) (n := 6) hown' hk' hins hini'
    (g := F0 m pc ls rest) rfl (by rw [hb]; exact d0) (Nat.le_refl _) (Nat.le_refl _)
  generalize hT1 : (T.setVm vm₁).pushCell { cls := cX, slots := kX.instanceTypes.map defaultValue, vm := .none } = T1 at X₁ st1
  have hcat : (Value.ref T.heap.size).category = 1 := rfl
  have hcellA : T1.heap[T.heap.size]? = some (freshCell cX kX) := by rw [← hT1]; exact State.heap_pushCell_size _ _
  have d3' : decode c.code (pc + 3) = .ok (.dup, 1) := by rw [hb]; exact d3
  have d4' : decode c.code (pc + 4) = .ok (.ldc is, 2) := by rw [hb]; exact d4
  have hstr' : vk_R own is text sa s' := vk_R.warm hW0 hstr
  obtain ⟨U, hsteps, hrun, hend, hW, hsame, ce, hce, hO⟩ := X₁.ctorThrowS hexec htr (own := own) (cls := cls) (names := names) (ic := ic) hown' hcls hnames h (fun x hx => nomatch hx) hfX hkX hcellA (by rw [hhp, hT]; exact Nat.le_refl _) (msg := .ref sa) rfl
    (g := { method := m, pc := pc + 6, locals := ls, stack := .ref sa :: .ref T.heap.size :: .ref T.heap.size :: rest, locked := none }) rfl hsize rfl rfl (rest := rest) rfl
    (by rw [hb]; exact d6) (by rw [hb]; exact d9) hout hRframes (by simp only [List.map_cons, List.sum_cons, hcat]; omega) hlocks
  obtain ⟨f1, f2⟩ := vx_frame hsame
  rw [hhp] at f1 f2
  have hWs : s.WarmedH U.vm := State.WarmedH.trans hW0 hW
  have hcl : s.vm.findClass cls = some ce.cls := by
    have h9 := hO.cls
    rw [hvm] at h9
    exact h9
  have hall : s.sameButNew ({ U with vm := s.vm } : State) locs mc ms := by
    subst hA
    obtain ⟨e1, e2⟩ := hsame
    rw [State.setFrames_setFrames] at e1
    have h2 : (T.setVm s.vm).sameButNew ({ U with vm := s.vm } : State) [] (0 + 1) (0 + 6) := ⟨e1, e2⟩
    have h3 := X.same.trans h2
    rw [List.append_nil] at h3
    exact h3.mono hc hs
  refine ⟨U, ?_, .threw T.heap.size, hrun, hend, Or.inr ⟨T.heap.size, rfl, cls, ce, locs, hx U hWs.alike f1 (fun q hq => f2 q hq (fun z hz => nomatch hz)), hce, hO.vm, hcl, hWs, hall, hf⟩⟩
  refine st1 _ ?_
  show Steps p.tables e below (T1.setTop { method := m, pc := pc + 3, locals := ls, stack := .ref T.heap.size :: rest, locked := none }) _
  jvm_step X₁.here [X₁.here.top, hexec, d3', Value.category]
  exact X₁.ldcString hexec (own := own) (text := text) (index := is) (a := sa) hown' hstr'.1 hstr'.2
    (g := { method := m, pc := pc + 4, locals := ls, stack := .ref T.heap.size :: .ref T.heap.size :: rest, locked := none }) rfl d4' _ hsteps
/-- 'throw new E("text")', the text by a wide index -/
theorem vx_throwSW {cc : ByteArray} {pc : Nat} (hexec : p.tables.exec = Jvm.exec) (hb : c.code = cc) (hl : l.stackTraces = false) {own cls text : String} {names : List String} {ik is ic mc ms sa : Nat} {A : Nat → Prop}
    (hown : s.vm.findClass own = some m.cls) (hcls : Bundle.fit cls = true) (hnames : ∀ n ∈ names, Bundle.fit n = true)
    (hk : (Cond.classLink own ik cls).before args s = true) (hini : (Cond.initialized cls).before args s = true) (hstr : vk_R own is text sa s) (hat : ∀ w ∈ vx_atS own ic cls names, w.before args s = true)
    (hgood : ∀ w ∈ Cond.classLink own ik cls :: Cond.initialized cls :: vx_atS own ic cls names, vx_ot w = true)
    (hU : vx_Zq Bundle.tN "UNASSIGNED_STACK" Bundle.steD A s s.heap) (hN : vx_Zq Bundle.tN "SUPPRESSED_SENTINEL" Bundle.listD A s s.heap) (hS : va_S A s.heap H locs) (hsize : ls.size = c.maxLocals)
    (d0 : decode cc pc = .ok (.new ik, 3)) (d3 : decode cc (pc + 3) = .ok (.dup, 1)) (d4 : decode cc (pc + 4) = .ok (.ldc_w is, 3)) (d7 : decode cc (pc + 7) = .ok (.invokespecial ic, 3)) (d10 : decode cc (pc + 10) = .ok (.athrow, 1))
    (hout : ∀ x ∈ c.exceptionTable.toList, covers x (pc + 10) = false)
    (hRframes : names.length + 3 < R.frames) (hRlocals : (rest.map fun v => v.category).sum + (13 * (names.length + 1) + 43) ≤ R.locals) (hRcells : cells + 1 ≤ R.cells) (hRslots : slots + 6 ≤ R.slots) (hlocks : meth.locks = false)
    (hx : ∀ t : State, s.vm.Alike t.vm → H.size ≤ t.heap.size → (∀ q : Nat, q < H.size → t.heap[q]? = H[q]?) → XC cls s t)
    (hf : ∀ z ∈ locs, free z.base) (hc : cells + 1 ≤ mc) (hs : slots + 6 ≤ ms) :
    W p l e R s m args below meth c H locs cells slots (vx_MQ below Qc XC args s mc ms free) (F0 m pc ls rest) := by
  intro T hT X
  have htr : e.platform.stackTraces = false := (show e.platform.stackTraces = l.stackTraces by rw [X.admits.platform]).trans hl
  have Y := vx_rebase X (R' := { frames := R.frames, locals := R.locals, cells := 1, slots := 6 }) (Nat.le_refl _) (Nat.le_refl _) hRcells hRslots
  obtain ⟨s', hA⟩ : ∃ z, z = (T.setVm s.vm).setFrames (.invoking m args :: below) := ⟨_, rfl⟩
  rw [← hA] at Y
  have hvm : s'.vm = s.vm := by rw [hA]; rfl
  have hhp : s'.heap = H := by rw [hA]; exact hT
  have hW0 : s.WarmedH s'.vm := by rw [hvm]; exact State.WarmedH.refl s
  have hat' : ∀ w ∈ vx_atS own ic cls names, w.before args s' = true := fun w hw => vx_ot_at hW0 hvm.symm (hgood w (List.mem_cons_of_mem _ (List.mem_cons_of_mem _ hw))) (hat w hw)
  have hk' : (Cond.classLink own ik cls).before args s' = true := vx_ot_at hW0 hvm.symm (hgood _ List.mem_cons_self) hk
  have hini' : (Cond.initialized cls).before args s' = true := vx_ot_at hW0 hvm.symm (hgood _ (List.mem_cons_of_mem _ List.mem_cons_self)) hini
  have hU' : vx_Zq Bundle.tN "UNASSIGNED_STACK" Bundle.steD A s' s'.heap := by rw [hhp]; exact vx_Zq.moved hW0.alike (hU.kept hS.2.1)
  have hN' : vx_Zq Bundle.tN "SUPPRESSED_SENTINEL" Bundle.listD A s' s'.heap := by rw [hhp]; exact vx_Zq.moved hW0.alike (hN.kept hS.2.1)
  have h : ∀ w ∈ Bundle.ownAtoms own ic cls names, w.before args s' = true := vx_own hat' (vx_isRefq hU'.1) (vx_isRefq hN'.1) hU'.2.word hN'.2.word
  have hown' : s'.vm.findClass own = some m.cls := by rw [hvm]; exact hown
  have hins : (Cond.instantiable cls 6).before args s' = true := h _ (by simp [Bundle.ownAtoms])
  obtain ⟨vm₁, cX, kX, hfX, hkX, -, -, X₁, st1⟩ := Y.newCold hexec (own := own) (C := cls) (index := ik) (n := 6) hown' hk' hins hini'
    (g := F0 m pc ls rest) rfl (by rw [hb]; exact d0) (Nat.le_refl _) (Nat.le_refl _)
  generalize hT1 : (T.setVm vm₁).pushCell { cls := cX, slots := kX.instanceTypes.map defaultValue, vm := .none } = T1 at X₁ st1
  have hcat : (Value.ref T.heap.size).category = 1 := rfl
  have hcellA : T1.heap[T.heap.size]? = some (freshCell cX kX) := by rw [← hT1]; exact State.heap_pushCell_size _ _
  have d3' : decode c.code (pc + 3) = .ok (.dup, 1) := by rw [hb]; exact d3
  have d4' : decode c.code (pc + 4) = .ok (.ldc_w is, 3) := by rw [hb]; exact d4
  have hstr' : vk_R own is text sa s' := vk_R.warm hW0 hstr
  obtain ⟨U, hsteps, hrun, hend, hW, hsame, ce, hce, hO⟩ := X₁.ctorThrowS hexec htr (own := own) (cls := cls) (names := names) (ic := ic) hown' hcls hnames h (fun x hx => nomatch hx) hfX hkX hcellA (by rw [hhp, hT]; exact Nat.le_refl _) (msg := .ref sa) rfl
    (g := { method := m, pc := pc + 7, locals := ls, stack := .ref sa :: .ref T.heap.size :: .ref T.heap.size :: rest, locked := none }) rfl hsize rfl rfl (rest := rest) rfl
    (by rw [hb]; exact d7) (by rw [hb]; exact d10) hout hRframes (by simp only [List.map_cons, List.sum_cons, hcat]; omega) hlocks
  obtain ⟨f1, f2⟩ := vx_frame hsame
  rw [hhp] at f1 f2
  have hWs : s.WarmedH U.vm := State.WarmedH.trans hW0 hW
  have hcl : s.vm.findClass cls = some ce.cls := by
    have h9 := hO.cls
    rw [hvm] at h9
    exact h9
  have hall : s.sameButNew ({ U with vm := s.vm } : State) locs mc ms := by
    subst hA
    obtain ⟨e1, e2⟩ := hsame
    rw [State.setFrames_setFrames] at e1
    have h2 : (T.setVm s.vm).sameButNew ({ U with vm := s.vm } : State) [] (0 + 1) (0 + 6) := ⟨e1, e2⟩
    have h3 := X.same.trans h2
    rw [List.append_nil] at h3
    exact h3.mono hc hs
  refine ⟨U, ?_, .threw T.heap.size, hrun, hend, Or.inr ⟨T.heap.size, rfl, cls, ce, locs, hx U hWs.alike f1 (fun q hq => f2 q hq (fun z hz => nomatch hz)), hce, hO.vm, hcl, hWs, hall, hf⟩⟩
  refine st1 _ ?_
  show Steps p.tables e below (T1.setTop { method := m, pc := pc + 3, locals := ls, stack := .ref T.heap.size :: rest, locked := none }) _
  jvm_step X₁.here [X₁.here.top, hexec, d3', Value.category]
  exact X₁.ldcStringW hexec (own := own) (text := text) (index := is) (a := sa) hown' hstr'.1 hstr'.2
    (g := { method := m, pc := pc + 4, locals := ls, stack := .ref T.heap.size :: .ref T.heap.size :: rest, locked := none }) rfl d4' _ hsteps
end Ends
section Bodies
variable {l : Launch}
theorem vx_ofW {y : MethodName} {ws ws' : List Cond} {rm : Room} {Pc : Array Value → State → Prop} {Qc : Array Value → State → Outcome → State → Prop} {XC : String → State → State → Prop} {mc ms : Nat} {free : Addr → Prop} {cc : ByteArray} {maxL : Nat} {ret : Option FieldType}
    (hy : plainName y.cls = true) (hw : ws = Cond.code y cc maxL ret :: ws')
    (body : ∀ p e s m args below meth c s₁, BodyLoose p l y (headSpec ws rm) cc maxL ret e s m args below meth c s₁ → c.maxLocals = maxL → (∀ x ∈ c.exceptionTable.toList, False) → Pc args s →
      W p l e (headSpec ws rm).room s m args below meth c s.heap [] 0 0 (vx_MQ below Qc XC args s mc ms free) (entryFrame m args maxL)) : vx_Met l y ws rm Pc Qc XC mc ms free := by
  refine MetFree.of_bodyS (code := cc) (maxLocals := maxL) (ret := ret) hy ?_ ?_
  · intro args s m h hn
    obtain ⟨meth, c, h1, h2, h3, h4, h5, h6, -, -⟩ := Cond.code_spec hn (atoms_spec (ws := ws) h _ (by rw [hw]; exact List.mem_cons_self))
    exact ⟨meth, c, h1, h2, h3, h4, h5, h6⟩
  · intro p e s m args below meth c s₁ B hml hP _
    have hh0 : s₁.heap = s.heap := by rw [B.state]; rfl
    have ht : ∀ x ∈ c.exceptionTable.toList, False := by
      obtain ⟨meth9, c9, h1, h2, -, -, -, -, h7, -⟩ := Cond.code_spec B.named (atoms_spec (ws := ws) B.pre _ (by rw [hw]; exact List.mem_cons_self))
      cases Option.some.inj (h1.symm.trans B.method)
      cases Option.some.inj (h2.symm.trans (Stand.of_body B).code)
      intro x hx
      rw [Array.isEmpty_iff.mp h7] at hx
      cases hx
    obtain ⟨t, a1, o, b1, b2, b3⟩ := body p e s m args below meth c s₁ B hml ht hP s₁ hh0 (Stand.of_body B)
    exact ⟨t, o, a1, b1, b2, b3⟩
/-- the table of a body with handlers -/
theorem vx_table {p : Program} {x y : MethodName} {S : Spec} {cc bytes : ByteArray} {maxL maxL' : Nat} {ret ret' : Option FieldType} {e : Env} {s s₁ : State} {m : MethodId} {args : Array Value} {below : List Frame} {meth : Method} {c : Code} {hh : List (Nat × Nat × Nat × Nat)}
    (B : BodyLoose p l y S cc maxL ret e s m args below meth c s₁) (h : (Cond.codeWith y bytes maxL' ret' hh).before args s = true) : c.exceptionTable.toList = tableOf hh := by
  obtain ⟨m9, meth9, c9, hn9, h1, h2, -, -, h6, -⟩ := Cond.codeWith_spec h
  cases Option.some.inj (hn9.symm.trans B.named)
  cases Option.some.inj (h1.symm.trans B.method)
  cases Option.some.inj (h2.symm.trans (Stand.of_body B).code)
  rw [← h6, table_eq]
end Bodies
end VXA
/-! ===== END ===== -/
/-! ===== BEGIN a static call of a method with an exception table ===== -/
section VXS
variable {p : Program} {l : Launch} {e : Env} {R : Room} {s : State} {m : MethodId} {args : Array Value} {below : List Frame} {meth : Method} {c : Code} {T : State} {H : Heap} {locs : List Loc} {cells slots : Nat}
abbrev vx_CSW (R : Room) (s : State) (args : Array Value) (own : String) (index : Nat) (y : MethodName) (bytes : ByteArray) (maxL : Nat) (ret : Option FieldType) (hh : List (Nat × Nat × Nat × Nat)) (ws : List Cond) (rm : Room) (mc ms n : Nat) : Prop :=
  (rm.cells = mc ∧ rm.slots = ms ∧ rm.frames + 1 ≤ R.frames ∧ 8 + (maxL + 11) + rm.locals ≤ R.locals ∧ (∀ w ∈ ws, ∀ (a' : Array Value) (U : State), s.WarmedH U.vm → w.before a' U = true) ∧ Cond.codeWith y bytes maxL ret hh ∈ ws) ∧
  (Cond.codeWith y bytes maxL ret hh).before args s = true ∧ (Cond.initialized y.cls).before args s = true ∧ (y.cls ≠ "java/lang/invoke/MethodHandle" ∧ y.cls ≠ "java/lang/invoke/VarHandle") ∧
  (∀ sig, parseMethodDescriptor y.desc = some sig → n = sig.parameters.length) ∧ (Cond.methodLink own index y).before args s = true ∧ (Cond.static y).before args s = true
theorem vx_cwSW {own : String} {index maxL mc ms : Nat} {y : MethodName} {bytes : ByteArray} {ret : Option FieldType} {hh : List (Nat × Nat × Nat × Nat)} {Ts ws ws' : List Cond} {rm : Room} (n : Nat) (ht : ∀ w ∈ Ts, w.before args s = true) (hT : GoodIn Ts (va_wsS own index y ws)) (hw : ws = Cond.codeWith y bytes maxL ret hh :: ws') (hrc : rm.cells = mc) (hrs : rm.slots = ms)
    (hd : y.cls ≠ "java/lang/invoke/MethodHandle" ∧ y.cls ≠ "java/lang/invoke/VarHandle" ∧ (parseMethodDescriptor y.desc).map (fun d => d.parameters.length) = some n) (hR : rm.frames + 1 ≤ R.frames ∧ 8 + (maxL + 11) + rm.locals ≤ R.locals) :
    vx_CSW R s args own index y bytes maxL ret hh ws rm mc ms n := by
  have ok : ∀ w ∈ va_wsS own index y ws, w.before args s = true := fun w h => ht w (hT w h).1
  have hG : GoodIn Ts ws := fun w h => hT w (by unfold va_wsS; exact List.mem_append_right _ h)
  have hc : Cond.codeWith y bytes maxL ret hh ∈ ws := by rw [hw]; exact List.mem_cons_self
  refine ⟨⟨hrc, hrs, hR.1, hR.2, pay_in ht hG, hc⟩, ht _ (hG _ hc).1, ok _ (by simp [va_wsS]), ⟨hd.1, hd.2.1⟩, fun sig h => ?_, ok _ (by simp [va_wsS]), ok _ (by simp [va_wsS])⟩
  have h2 := hd.2.2
  rw [h] at h2
  exact (Option.some.inj h2).symm
theorem vx_callSW (X : Stand p l e R s m args below meth c T locs cells slots) (hexec : p.tables.exec = Jvm.exec) {own : String} {index : Nat} {y : MethodName} {bytes : ByteArray} {maxL : Nat} {ret : Option FieldType} {hh : List (Nat × Nat × Nat × Nat)}
    (hown : s.vm.findClass own = some m.cls) (hlink : (Cond.methodLink own index y).before args s = true) (hstat : (Cond.static y).before args s = true) (hinit : (Cond.initialized y.cls).before args s = true)
    (hcode : (Cond.codeWith y bytes maxL ret hh).before args s = true) (hy : y.cls ≠ "java/lang/invoke/MethodHandle" ∧ y.cls ≠ "java/lang/invoke/VarHandle")
    {W9 : Nat} {Pre : Pt → Array Value → Prop} {Post : Pt → Array Value → Option Value → Pt → Prop} (hK : Back l R p e below s args y 3 W9 Pre Post)
    {g : JFrame} (hg : g.method = m) (hsize : g.locals.size = c.maxLocals) {argsL rest : List Value} (hlen : ∀ sig, parseMethodDescriptor y.desc = some sig → argsL.length = sig.parameters.length)
    (hstack : g.stack = argsL.reverse ++ rest) (hW : 2 * g.monitorRoom + (rest.map fun v => v.category).sum ≤ W9) (hdg : decode c.code g.pc = .ok (.invokestatic index, 3))
    (hpre : ∀ vm₁, s.WarmedH vm₁ → Pre ⟨T.setVm vm₁, locs, cells, slots⟩ argsL.toArray) :
    ∃ (v : Option Value) (vm₁ : Vm) (B : Pt), s.WarmedH vm₁ ∧ Stand p l e R s m args below meth c B.U B.locs B.cells B.slots ∧ Post ⟨T.setVm vm₁, locs, cells, slots⟩ argsL.toArray v B ∧
      ∀ target, Steps p.tables e below (B.U.setTop { g with pc := g.pc + 3, stack := v.toList ++ rest }) target → Steps p.tables e below (T.setTop g) target := by
  obtain ⟨mk, methM, cM, hnamed, hmethM, -, -, -, -, -, -, hsigM⟩ := Cond.codeWith_spec hcode
  have hstatic : methM.isStatic = true := Cond.static_spec hnamed hmethM hstat
  obtain ⟨kP, hkP, -⟩ := className_of_methodNamed hnamed
  have hinitP : kP.init = .initialized := Cond.initialized_spec (findClass_of_methodNamed hnamed) hkP hinit
  obtain ⟨vm₁, X₁, hstep₁⟩ := X.invokestatic hexec hown hlink hnamed hmethM hstatic hkP hinitP hy (g := g) hg (argsL := argsL) (rest := rest) (hlen _ hsigM) hstack hdg
  obtain ⟨v, B, X', hpost, hsteps⟩ := hK m meth c ⟨T.setVm vm₁, locs, cells, slots⟩ { g with stack := rest } (.invokestatic index) mk argsL.toArray X₁ hg hsize hdg hW (X₁.named hnamed) (hpre vm₁ X₁.warmed)
  exact ⟨v, vm₁, B, X₁.warmed, X', hpost, fun target h => hstep₁ _ fun acts => by rw [doInvoke_state]; exact hsteps.trans h⟩
theorem vx_runSW {y : MethodName} {bytes cc : ByteArray} {maxL nL mc ms n index : Nat} {ret : Option FieldType} {hh : List (Nat × Nat × Nat × Nat)} {ws : List Cond} {rm : Room} {Pc : Array Value → State → Prop} {Qc : Array Value → State → Outcome → State → Prop} {free : Addr → Prop} {Ts : List Cond} {own : String} {As rest : List Value} {g : JFrame}
    (S : CallFix p m c cc nL s args Ts own) (hM : Met l y ws rm Pc Qc mc ms free) (cw : vx_CSW R s args own index y bytes maxL ret hh ws rm mc ms n) (hp : PreS s H Pc As)
    (hg : g.method = m) (hn : As.length = n) (hsize : g.locals.size = nL) (hstack : g.stack = As.reverse ++ rest) (hW : 2 * g.monitorRoom + (rest.map fun v => v.category).sum ≤ 8) (hdg : decode cc g.pc = .ok (.invokestatic index, 3)) (hf : cells + mc ≤ R.cells ∧ slots + ms ≤ R.slots) :
    va_Run p l e R s m args below meth c H locs cells slots mc ms g rest (Qc As.toArray) (free) := by
  obtain ⟨⟨hrc, hrs, hfr, hlo, hws, hcw⟩, hcode, hini, hy, hlen, hl, hstt⟩ := cw
  have hK : Back l R p e below s args y 3 8 (PreOf R mc ms Pc) (PostOf Qc mc ms free) := va_backW (hh := hh) (bytes := bytes) (maxL := maxL) (ret := ret) hM hp.1 hrc hrs hfr hlo hws hcw (fun a' U hW => word_at hW (Or.inl (by first | rfl | simp [Cond.onTables, Cond.keeps, Cond.steady])) hini)
  obtain ⟨hx, hb, hml, ho, -⟩ := S
  intro T hT X
  obtain ⟨v, vm₁, ⟨U', l2, c2, s2⟩, hW₁, X', ⟨g', mk, t, L, e1, e2, hq, h1, hL, h2, h3⟩, st⟩ := vx_callSW X hx (hh := hh) (bytes := bytes) (maxL := maxL) (ret := ret) ho hl hstt hini hcode hy hK hg (hsize.trans hml.symm) (argsL := As) (rest := rest) (fun sig h => hn.trans (hlen sig h)) hstack hW (by rw [hb]; exact hdg)
    (fun vm₁ hW₁ => ⟨hf.1, hf.2, hp.2 (T.setVm vm₁) hT hW₁⟩)
  dsimp only [Pt.U, Pt.locs, Pt.cells, Pt.slots] at X' e1 e2 h1 h2 h3 st
  subst h1; subst h2; subst h3
  exact ⟨v, (T.setVm vm₁).calling g' mk As.toArray, t, U', L, hT, X', hL, e1, e2, hq, st⟩
/-- not caught here, past rows that name other classes: it goes on to the caller -/
theorem vx_outP {p : Program} {l : Launch} {e : Env} {R : Room} {s : State} {m : MethodId} {args : Array Value} {below : List Frame} {meth : Method} {c : Code} {H : Heap} {locs : List Loc} {cells slots : Nat} {free : Addr → Prop} {ls : Array Slot} {rest : List Value} {Qc : Array Value → State → Outcome → State → Prop} {XC : String → State → State → Prop}
    {pc : Nat} {own E : String} {ce : Cell} {q : Addr} {mc ms : Nat} (hown : s.vm.findClass own = some m.cls) (hlocks : meth.locks = false)
    (hpass : ∀ z ∈ c.exceptionTable.toList, covers z pc = false ∨ (z.catchType ≠ 0 ∧ ∃ nm : String, (Cond.classLink own z.catchType nm).before args s = true ∧ va_Nc E nm s)) (hcell : H[q]? = some ce) (hv : ce.vm = .none) (hcl : s.vm.findClass E = some ce.cls)
    (hx : ∀ t : State, t.heap = H → s.vm.Alike t.vm → XC E s t) (hf : ∀ z ∈ locs, free z.base) (hc : cells ≤ mc) (hs : slots ≤ ms) :
    vx_W p l e R s m args below meth c H locs cells slots (vx_MQ below Qc XC args s mc ms free) (F0 m pc ls rest) q := by
  intro T hT X
  have hpl : e.platform.magicAccessors = ({} : Platform).magicAccessors := by rw [X.admits.platform]
  obtain ⟨vm', hW', X', st⟩ := X.outThrough hlocks q (g := F0 m pc ls rest) rfl rfl rfl (cell := ce) (by rw [hT]; exact hcell) (by rw [hv]; rfl)
    (by obtain ⟨k9, h9, -⟩ := Vm.findClass_spec hcl; exact ⟨k9, h9⟩) (fun z hz => by
      rcases hpass z hz with h | ⟨hz0, nm, hl1, hn1⟩
      · exact Or.inl h
      · obtain ⟨c6, hc6, hcl6⟩ := Cond.classLink_spec hown hl1 e.platform hpl
        obtain ⟨a8, b8, h1, h2, h3⟩ := hn1
        cases Option.some.inj (h1.symm.trans hcl)
        cases Option.some.inj (h2.symm.trans hc6)
        exact Or.inr ⟨hz0, _, hcl6, h3⟩)
  obtain ⟨g₀, hfr⟩ := X'.frames_eq
  have hcell9 : ((T.setVm vm').setFrames (.throwing q :: below)).heap[q]? = some ce := by
    show T.heap[q]? = some ce
    rw [hT]; exact hcell
  have hend : Ended ((T.setVm vm').setFrames (.throwing q :: below)) below (.threw q) := State.frames_setFrames _ (State.cur_lt_of_frames hfr)
  refine ⟨(T.setVm vm').setFrames (.throwing q :: below), ?_, .threw q, X'.here.running, hend, Or.inr ⟨q, rfl, E, ce, locs, hx _ hT (X'.ends _).1.alike, hcell9, hv, hcl, (X'.ends _).1, (X'.ends _).2.mono hc hs, hf⟩⟩
  rw [X.pushThrowing_eq]
  exact st
/-- a thing of a world lies in the heap -/
theorem vx_lt {D : va_G} {cl : List vw_C} {ws : va_W} {H1 : Heap} (h : va_P D cl ws H1) {k : Nat} {q : Nat × va_E} (hk : ws[k]? = some q) : q.1 < H1.size := (h k q hk).lt
end VXS
/-! ===== END ===== -/
/-! ===== BEGIN methods with a table of their own: called by a name, returning or throwing ===== -/
section VXH
/-! vx_backW, vx_callVX, vx_callSX, vx_callVW, vx_runVW, vx_runVX, vx_runSX, vx_ofWH follow the same proofs as their sisters above (Free/Laws.lean, Shelf42/LK1.lean); vx_outP calls Shelf42/NT130.lean (outThrough). -/
section
variable {l : Launch} {R : Room} {p : Program} {e : Env} {below : List Frame} {s : State} {sargs : Array Value} {y : MethodName} {len W9 : Nat}
theorem vx_backW {ws : List Cond} {rm : Room} {Pc : Array Value → State → Prop} {Qc : Array Value → State → Outcome → State → Prop} {XC : String → State → State → Prop} {mc ms : Nat} {free : Addr → Prop} {bytes : ByteArray} {maxL : Nat} {ret : Option FieldType} {hh : List (Nat × Nat × Nat × Nat)}
    (hM : vx_Met l y ws rm Pc Qc XC mc ms free) (hblind : FrameBlind Pc) (hrc : rm.cells = mc) (hrs : rm.slots = ms)
    (hframes : rm.frames + 1 ≤ R.frames) (hlocals : W9 + (maxL + 11) + rm.locals ≤ R.locals)
    (hws : ∀ w ∈ ws, ∀ a' U, s.WarmedH U.vm → w.before a' U = true) (hcode : Cond.codeWith y bytes maxL ret hh ∈ ws) (hinit : ∀ a' U, s.WarmedH U.vm → (Cond.initialized y.cls).before a' U = true) :
    vx_Back l R p e below s sargs y len W9 (PreOf R mc ms Pc) (PostOf Qc mc ms free) (vx_Post XC mc ms free) := by
  intro m meth c A g ig mk a X hg hsize hdg hW hn hp
  have h1 : (headSpec ws rm).pre.before a A.U = true := atoms_intro fun w hw => hws w hw _ _ X.warmed
  have h2 : (Cond.codeWith y bytes maxL ret hh).before a A.U = true := hws _ hcode _ _ X.warmed
  have h3 : (Cond.initialized y.cls).before a A.U = true := hinit _ _ X.warmed
  have h4 : A.cells + (headSpec ws rm).room.cells ≤ R.cells := by rw [show (headSpec ws rm).room.cells = mc from hrc]; exact hp.1
  have h5 : A.slots + (headSpec ws rm).room.slots ≤ R.slots := by rw [show (headSpec ws rm).room.slots = ms from hrs]; exact hp.2.1
  have hPc : Pc a (A.U.calling g mk a) := hblind _ _ _ _ hp.2.2
  obtain ⟨U, Ls, c0, s0⟩ := A
  dsimp only [Pt.U, Pt.locs, Pt.cells, Pt.slots] at h1 h2 h3 h4 h5 X hn hPc ⊢
  obtain ⟨m9, methY, cY, hn9, hmY, hcY, -, hlY, -⟩ := Cond.codeWith_spec h2
  cases Option.some.inj (hn9.symm.trans hn)
  obtain ⟨kY, hkY, -⟩ := className_of_methodNamed hn
  have hinitY : kY.init = .initialized := Cond.initialized_spec (findClass_of_methodNamed hn) hkY h3
  have h : At U g.method c below := by rw [hg]; exact X.here
  have hlocals9 : W9 + (maxL + 11) + (headSpec ws rm).room.locals ≤ R.locals := hlocals
  have happ : (headSpec ws rm).appliesLoose y e.platform (U.calling g mk a) = true :=
    Spec.appliesLoose_calling (g := g) h hdg hn hkY hinitY
      (X.room_calling (g := g) (R' := (headSpec ws rm).room) hsize hmY hcY hframes (by rw [hlY]; omega) h4 h5) h1
  obtain ⟨mid, hmid⟩ := h.above
  have hfr : (U.setTop g).frames = (.java g :: mid) ++ below := by rw [State.frames_setTop' g h.top, hmid]; rfl
  obtain ⟨o, s₂, hsteps, -, hend, hq⟩ := Steps.callFree hM p X.admits X.cas X.clock (acts := []) hfr happ hPc trivial
  have hq' : vx_Q Qc XC mc ms free a (U.calling g mk a) o s₂ := hq
  rw [State.frames_setTop' g h.top] at hend
  obtain ⟨g₀, hg0⟩ := Option.isSome_iff_exists.mp h.top
  obtain ⟨r, hr⟩ := State.topJava?_eq_some.mp hg0
  have hr' : (({ U with heap := s₂.heap, slotsUsed := s₂.slotsUsed } : State).setVm s₂.vm).frames = .java g₀ :: r := hr
  rcases hq' with ⟨hqc, L, hfe, hL⟩ | ⟨q, rfl, E, ce, L, hx, hce, hcv, hcl, hW₂, hsm, hL⟩
  · obtain ⟨⟨v, rfl⟩, hW₂, e2, q2, q3, q4, q5, q6⟩ := id hfe
    have e3 : s₂ = ({ (U.calling g mk a).setFrames s₂.frames with heap := s₂.heap, slotsUsed := s₂.slotsUsed } : State).setVm s₂.vm := by
      have : s₂ = ({ s₂ with vm := (U.calling g mk a).vm } : State).setVm s₂.vm := rfl
      rw [e2] at this
      exact this
    obtain ⟨c₂, i₂, len₂, hc₂, hd₂, hf₂⟩ := hend
    have hW' : U.WarmedH s₂.vm := hW₂
    have hcc : c₂ = c := by
      have h1 : s₂.code? g.method = U.code? g.method := by
        rw [State.code?_eq, State.code?_eq, hW'.alike.method?]
      exact Option.some.inj (hc₂.symm.trans (h1.trans h.code))
    subst hcc
    have hlen : len₂ = len := by rw [hdg] at hd₂; cases hd₂; rfl
    subst hlen
    have hs₂ : s₂ = (({ U with heap := s₂.heap, slotsUsed := s₂.slotsUsed } : State).setVm s₂.vm).setTop { g with pc := g.pc + len₂, stack := v.toList ++ g.stack } := by
      refine e3.trans ?_
      rw [hf₂, State.calling_eq h.top, State.setFrames_setFrames, State.setTop_of_frames _ hr', hr]
      rfl
    have hsame : U.sameButNew ({ U with heap := s₂.heap, slotsUsed := s₂.slotsUsed } : State) L mc ms := by
      refine ⟨?_, q2, q3, q4, q5, q6⟩
      obtain ⟨t, ht, -⟩ := State.frames_cons hr
      show ({ U with heap := s₂.heap, slotsUsed := s₂.slotsUsed } : State) = { U.setFrames U.frames with heap := s₂.heap, slotsUsed := s₂.slotsUsed }
      rw [State.setFrames_self ht]
    subst hg
    refine Or.inl ⟨v, ⟨(({ U with heap := s₂.heap, slotsUsed := s₂.slotsUsed } : State).setVm s₂.vm), Ls ++ L, c0 + mc, s0 + ms⟩,
      ⟨X.admits, X.cas, X.clock, X.frames, X.room, X.hears, X.method, X.code, (X.here.setHeapUsed s₂.heap s₂.slotsUsed).setVm hW'.alike, X.tail, State.WarmedH.trans X.warmed hW', X.limits, X.bytes, X.same.trans (hsame.setVm s.vm)⟩,
      ⟨g, mk, s₂, L, rfl, rfl, hqc, rfl, hL, rfl, rfl⟩, ?_⟩
    show Steps p.tables e below _ ((({ U with heap := s₂.heap, slotsUsed := s₂.slotsUsed } : State).setVm s₂.vm).setTop { g with pc := g.pc + len₂, stack := v.toList ++ g.stack })
    rw [← hs₂]
    exact hsteps
  · obtain ⟨e2, q2, q3, q4, q5, q6⟩ := id hsm
    have e3 : s₂ = ({ (U.calling g mk a).setFrames s₂.frames with heap := s₂.heap, slotsUsed := s₂.slotsUsed } : State).setVm s₂.vm := by
      have : s₂ = ({ s₂ with vm := (U.calling g mk a).vm } : State).setVm s₂.vm := rfl
      rw [e2] at this
      exact this
    have hf₂ : s₂.frames = .throwing q :: .java g :: U.frames.tail := hend
    have hW' : U.WarmedH s₂.vm := hW₂
    have hs₂ : s₂ = ((({ U with heap := s₂.heap, slotsUsed := s₂.slotsUsed } : State).setVm s₂.vm).setTop g).pushFrame (.throwing q) := by
      refine e3.trans ?_
      rw [hf₂, State.calling_eq h.top, State.setFrames_setFrames, State.pushFrame, State.frames_setTop _ hr', State.setTop_of_frames _ hr', State.setFrames_setFrames, hr]
      rfl
    have hsame : U.sameButNew ({ U with heap := s₂.heap, slotsUsed := s₂.slotsUsed } : State) L mc ms := by
      refine ⟨?_, q2, q3, q4, q5, q6⟩
      obtain ⟨t, ht, -⟩ := State.frames_cons hr
      show ({ U with heap := s₂.heap, slotsUsed := s₂.slotsUsed } : State) = { U.setFrames U.frames with heap := s₂.heap, slotsUsed := s₂.slotsUsed }
      rw [State.setFrames_self ht]
    subst hg
    refine Or.inr ⟨q, ⟨(({ U with heap := s₂.heap, slotsUsed := s₂.slotsUsed } : State).setVm s₂.vm), Ls ++ L, c0 + mc, s0 + ms⟩,
      ⟨X.admits, X.cas, X.clock, X.frames, X.room, X.hears, X.method, X.code, (X.here.setHeapUsed s₂.heap s₂.slotsUsed).setVm hW'.alike, X.tail, State.WarmedH.trans X.warmed hW', X.limits, X.bytes, X.same.trans (hsame.setVm s.vm)⟩,
      ⟨g, mk, s₂, L, E, ce, rfl, rfl, hx, hce, hcv, hcl, rfl, hL, rfl, rfl⟩, ?_⟩
    show Steps p.tables e below _ (((({ U with heap := s₂.heap, slotsUsed := s₂.slotsUsed } : State).setVm s₂.vm).setTop g).pushFrame (.throwing q))
    rw [← hs₂]
    exact hsteps
end
variable {p : Program} {l : Launch} {e : Env} {R : Room} {s : State} {m : MethodId} {args : Array Value} {below : List Frame} {meth : Method} {c : Code} {T : State} {H : Heap} {locs : List Loc} {cells slots : Nat}
theorem vx_callVX (X : Stand p l e R s m args below meth c T locs cells slots) (hexec : p.tables.exec = Jvm.exec) {own C : String} {index : Nat} {y : MethodName} {bytes : ByteArray} {maxL : Nat} {ret : Option FieldType} {hh : List (Nat × Nat × Nat × Nat)}
    (hown : s.vm.findClass own = some m.cls) (hlink : (Cond.methodLink own index y).before args s = true) (hinst : (Cond.instanceMethod y).before args s = true) (hsel : (Cond.selects C y y).before args s = true)
    (hcode : (Cond.codeWith y bytes maxL ret hh).before args s = true) (hy : y.cls ≠ "java/lang/invoke/MethodHandle" ∧ y.cls ≠ "java/lang/invoke/VarHandle")
    {W9 : Nat} {Pre : Pt → Array Value → Prop} {Post : Pt → Array Value → Option Value → Pt → Prop} {PostX : Pt → Array Value → Addr → Pt → Prop} (hK : vx_Back l R p e below s args y 3 W9 Pre Post PostX)
    {b : Addr} {cellB : Cell} (hcell : T.heap[b]? = some cellB) (hobj : cellB.vm.isStatics = false) (hcls : s.vm.findClass C = some cellB.cls)
    {g : JFrame} (hg : g.method = m) (hsize : g.locals.size = c.maxLocals) {argsL rest : List Value} (hlen : ∀ sig, parseMethodDescriptor y.desc = some sig → argsL.length = sig.parameters.length)
    (hstack : g.stack = argsL.reverse ++ .ref b :: rest) (hW : 2 * g.monitorRoom + (rest.map fun v => v.category).sum ≤ W9) (hdg : decode c.code g.pc = .ok (.invokevirtual index, 3))
    (hpre : ∀ vm₁, s.WarmedH vm₁ → Pre ⟨T.setVm vm₁, locs, cells, slots⟩ (Value.ref b :: argsL).toArray) :
    (∃ (v : Option Value) (vm₁ : Vm) (B : Pt), s.WarmedH vm₁ ∧ Stand p l e R s m args below meth c B.U B.locs B.cells B.slots ∧ Post ⟨T.setVm vm₁, locs, cells, slots⟩ (Value.ref b :: argsL).toArray v B ∧
      ∀ target, Steps p.tables e below (B.U.setTop { g with pc := g.pc + 3, stack := v.toList ++ rest }) target → Steps p.tables e below (T.setTop g) target) ∨
    (∃ (q : Addr) (vm₁ : Vm) (B : Pt), s.WarmedH vm₁ ∧ Stand p l e R s m args below meth c B.U B.locs B.cells B.slots ∧ PostX ⟨T.setVm vm₁, locs, cells, slots⟩ (Value.ref b :: argsL).toArray q B ∧
      Steps p.tables e below (T.setTop g) ((B.U.setTop { g with stack := rest }).pushFrame (.throwing q))) := by
  obtain ⟨mk, methM, hnamed, hmethM, hstM, habM⟩ := Cond.instanceMethod_spec hinst
  obtain ⟨m8, methM', cM, hn8, hmethM', -, -, -, -, -, -, hsigM⟩ := Cond.codeWith_spec hcode
  cases Option.some.inj (hn8.symm.trans hnamed)
  cases hmethM.symm.trans hmethM'
  obtain ⟨c2, r2, m2, q1, q2, q3, q4, kP, hkP, hkPi⟩ := Cond.selects_spec hsel
  cases hcls.symm.trans q1
  cases (State.methodFound?_of_named hnamed hy).symm.trans q2
  cases hnamed.symm.trans q3
  have hselP : selectMethod e.platform s.vm cellB.cls mk = .method mk := by rw [Launch.admits_selectMethod X.admits]; exact q4
  obtain ⟨vm₁, X₁, hstep₁⟩ := X.invokevirtual hexec hown hlink hnamed hmethM hstM hkP hkPi hy (a := b) (cell := cellB) hcell
    (fun z h => by rw [h] at hobj; cases hobj) hselP hmethM habM hkP hkPi (g := g) hg (argsL := argsL) (rest := rest) (hlen _ hsigM) hstack hdg
  rcases hK m meth c ⟨T.setVm vm₁, locs, cells, slots⟩ { g with stack := rest } (.invokevirtual index) mk (Value.ref b :: argsL).toArray X₁ hg hsize hdg hW (X₁.named hnamed) (hpre vm₁ X₁.warmed) with ⟨v, B, X', hpost, hsteps⟩ | ⟨q, B, X', hpost, hsteps⟩
  · exact Or.inl ⟨v, vm₁, B, X₁.warmed, X', hpost, fun target h => hstep₁ _ fun acts => by rw [doInvoke_state]; exact hsteps.trans h⟩
  · exact Or.inr ⟨q, vm₁, B, X₁.warmed, X', hpost, hstep₁ _ fun acts => by rw [doInvoke_state]; exact hsteps⟩
theorem vx_callSX (X : Stand p l e R s m args below meth c T locs cells slots) (hexec : p.tables.exec = Jvm.exec) {own : String} {index : Nat} {y : MethodName} {bytes : ByteArray} {maxL : Nat} {ret : Option FieldType} {hh : List (Nat × Nat × Nat × Nat)}
    (hown : s.vm.findClass own = some m.cls) (hlink : (Cond.methodLink own index y).before args s = true) (hstat : (Cond.static y).before args s = true) (hinit : (Cond.initialized y.cls).before args s = true)
    (hcode : (Cond.codeWith y bytes maxL ret hh).before args s = true) (hy : y.cls ≠ "java/lang/invoke/MethodHandle" ∧ y.cls ≠ "java/lang/invoke/VarHandle")
    {W9 : Nat} {Pre : Pt → Array Value → Prop} {Post : Pt → Array Value → Option Value → Pt → Prop} {PostX : Pt → Array Value → Addr → Pt → Prop} (hK : vx_Back l R p e below s args y 3 W9 Pre Post PostX)
    {g : JFrame} (hg : g.method = m) (hsize : g.locals.size = c.maxLocals) {argsL rest : List Value} (hlen : ∀ sig, parseMethodDescriptor y.desc = some sig → argsL.length = sig.parameters.length)
    (hstack : g.stack = argsL.reverse ++ rest) (hW : 2 * g.monitorRoom + (rest.map fun v => v.category).sum ≤ W9) (hdg : decode c.code g.pc = .ok (.invokestatic index, 3))
    (hpre : ∀ vm₁, s.WarmedH vm₁ → Pre ⟨T.setVm vm₁, locs, cells, slots⟩ argsL.toArray) :
    (∃ (v : Option Value) (vm₁ : Vm) (B : Pt), s.WarmedH vm₁ ∧ Stand p l e R s m args below meth c B.U B.locs B.cells B.slots ∧ Post ⟨T.setVm vm₁, locs, cells, slots⟩ argsL.toArray v B ∧
      ∀ target, Steps p.tables e below (B.U.setTop { g with pc := g.pc + 3, stack := v.toList ++ rest }) target → Steps p.tables e below (T.setTop g) target) ∨
    (∃ (q : Addr) (vm₁ : Vm) (B : Pt), s.WarmedH vm₁ ∧ Stand p l e R s m args below meth c B.U B.locs B.cells B.slots ∧ PostX ⟨T.setVm vm₁, locs, cells, slots⟩ argsL.toArray q B ∧
      Steps p.tables e below (T.setTop g) ((B.U.setTop { g with stack := rest }).pushFrame (.throwing q))) := by
  obtain ⟨mk, methM, cM, hnamed, hmethM, -, -, -, -, -, -, hsigM⟩ := Cond.codeWith_spec hcode
  have hstatic : methM.isStatic = true := Cond.static_spec hnamed hmethM hstat
  obtain ⟨kP, hkP, -⟩ := className_of_methodNamed hnamed
  have hinitP : kP.init = .initialized := Cond.initialized_spec (findClass_of_methodNamed hnamed) hkP hinit
  obtain ⟨vm₁, X₁, hstep₁⟩ := X.invokestatic hexec hown hlink hnamed hmethM hstatic hkP hinitP hy (g := g) hg (argsL := argsL) (rest := rest) (hlen _ hsigM) hstack hdg
  rcases hK m meth c ⟨T.setVm vm₁, locs, cells, slots⟩ { g with stack := rest } (.invokestatic index) mk argsL.toArray X₁ hg hsize hdg hW (X₁.named hnamed) (hpre vm₁ X₁.warmed) with ⟨v, B, X', hpost, hsteps⟩ | ⟨q, B, X', hpost, hsteps⟩
  · exact Or.inl ⟨v, vm₁, B, X₁.warmed, X', hpost, fun target h => hstep₁ _ fun acts => by rw [doInvoke_state]; exact hsteps.trans h⟩
  · exact Or.inr ⟨q, vm₁, B, X₁.warmed, X', hpost, hstep₁ _ fun acts => by rw [doInvoke_state]; exact hsteps⟩
theorem vx_callVW (X : Stand p l e R s m args below meth c T locs cells slots) (hexec : p.tables.exec = Jvm.exec) {own C : String} {index : Nat} {y : MethodName} {bytes : ByteArray} {maxL : Nat} {ret : Option FieldType} {hh : List (Nat × Nat × Nat × Nat)}
    (hown : s.vm.findClass own = some m.cls) (hlink : (Cond.methodLink own index y).before args s = true) (hinst : (Cond.instanceMethod y).before args s = true) (hsel : (Cond.selects C y y).before args s = true)
    (hcode : (Cond.codeWith y bytes maxL ret hh).before args s = true) (hy : y.cls ≠ "java/lang/invoke/MethodHandle" ∧ y.cls ≠ "java/lang/invoke/VarHandle")
    {W9 : Nat} {Pre : Pt → Array Value → Prop} {Post : Pt → Array Value → Option Value → Pt → Prop} (hK : Back l R p e below s args y 3 W9 Pre Post)
    {b : Addr} {cellB : Cell} (hcell : T.heap[b]? = some cellB) (hobj : cellB.vm.isStatics = false) (hcls : s.vm.findClass C = some cellB.cls)
    {g : JFrame} (hg : g.method = m) (hsize : g.locals.size = c.maxLocals) {argsL rest : List Value} (hlen : ∀ sig, parseMethodDescriptor y.desc = some sig → argsL.length = sig.parameters.length)
    (hstack : g.stack = argsL.reverse ++ .ref b :: rest) (hW : 2 * g.monitorRoom + (rest.map fun v => v.category).sum ≤ W9) (hdg : decode c.code g.pc = .ok (.invokevirtual index, 3))
    (hpre : ∀ vm₁, s.WarmedH vm₁ → Pre ⟨T.setVm vm₁, locs, cells, slots⟩ (Value.ref b :: argsL).toArray) :
    ∃ (v : Option Value) (vm₁ : Vm) (B : Pt), s.WarmedH vm₁ ∧ Stand p l e R s m args below meth c B.U B.locs B.cells B.slots ∧ Post ⟨T.setVm vm₁, locs, cells, slots⟩ (Value.ref b :: argsL).toArray v B ∧
      ∀ target, Steps p.tables e below (B.U.setTop { g with pc := g.pc + 3, stack := v.toList ++ rest }) target → Steps p.tables e below (T.setTop g) target := by
  obtain ⟨mk, methM, hnamed, hmethM, hstM, habM⟩ := Cond.instanceMethod_spec hinst
  obtain ⟨m8, methM', cM, hn8, hmethM', -, -, -, -, -, -, hsigM⟩ := Cond.codeWith_spec hcode
  cases Option.some.inj (hn8.symm.trans hnamed)
  cases hmethM.symm.trans hmethM'
  obtain ⟨c2, r2, m2, q1, q2, q3, q4, kP, hkP, hkPi⟩ := Cond.selects_spec hsel
  cases hcls.symm.trans q1
  cases (State.methodFound?_of_named hnamed hy).symm.trans q2
  cases hnamed.symm.trans q3
  have hselP : selectMethod e.platform s.vm cellB.cls mk = .method mk := by rw [Launch.admits_selectMethod X.admits]; exact q4
  obtain ⟨vm₁, X₁, hstep₁⟩ := X.invokevirtual hexec hown hlink hnamed hmethM hstM hkP hkPi hy (a := b) (cell := cellB) hcell
    (fun z h => by rw [h] at hobj; cases hobj) hselP hmethM habM hkP hkPi (g := g) hg (argsL := argsL) (rest := rest) (hlen _ hsigM) hstack hdg
  obtain ⟨v, B, X', hpost, hsteps⟩ := hK m meth c ⟨T.setVm vm₁, locs, cells, slots⟩ { g with stack := rest } (.invokevirtual index) mk (Value.ref b :: argsL).toArray X₁ hg hsize hdg hW (X₁.named hnamed) (hpre vm₁ X₁.warmed)
  exact ⟨v, vm₁, B, X₁.warmed, X', hpost, fun target h => hstep₁ _ fun acts => by rw [doInvoke_state]; exact hsteps.trans h⟩
abbrev vx_CVW (R : Room) (s : State) (args : Array Value) (own C : String) (index : Nat) (y : MethodName) (bytes : ByteArray) (maxL : Nat) (ret : Option FieldType) (hh : List (Nat × Nat × Nat × Nat)) (ws : List Cond) (rm : Room) (mc ms n : Nat) : Prop :=
  (rm.cells = mc ∧ rm.slots = ms ∧ rm.frames + 1 ≤ R.frames ∧ 8 + (maxL + 11) + rm.locals ≤ R.locals ∧ (∀ w ∈ ws, ∀ (a' : Array Value) (U : State), s.WarmedH U.vm → w.before a' U = true) ∧ Cond.codeWith y bytes maxL ret hh ∈ ws) ∧
  (Cond.codeWith y bytes maxL ret hh).before args s = true ∧ (Cond.initialized y.cls).before args s = true ∧ (y.cls ≠ "java/lang/invoke/MethodHandle" ∧ y.cls ≠ "java/lang/invoke/VarHandle") ∧
  (∀ sig, parseMethodDescriptor y.desc = some sig → n = sig.parameters.length) ∧ (Cond.methodLink own index y).before args s = true ∧ (Cond.instanceMethod y).before args s = true ∧ (Cond.selects C y y).before args s = true
theorem vx_cwVW {own C : String} {index maxL mc ms : Nat} {y : MethodName} {bytes : ByteArray} {ret : Option FieldType} {hh : List (Nat × Nat × Nat × Nat)} {Ts ws ws' : List Cond} {rm : Room} (n : Nat) (ht : ∀ w ∈ Ts, w.before args s = true) (hT : GoodIn Ts (wsV own index C y ws)) (hw : ws = Cond.codeWith y bytes maxL ret hh :: ws') (hrc : rm.cells = mc) (hrs : rm.slots = ms)
    (hd : y.cls = C ∧ y.cls ≠ "java/lang/invoke/MethodHandle" ∧ y.cls ≠ "java/lang/invoke/VarHandle" ∧ (parseMethodDescriptor y.desc).map (fun d => d.parameters.length) = some n) (hR : rm.frames + 1 ≤ R.frames ∧ 8 + (maxL + 11) + rm.locals ≤ R.locals) :
    vx_CVW R s args own C index y bytes maxL ret hh ws rm mc ms n := by
  obtain ⟨hC, hd⟩ := hd
  subst hC
  have ok : ∀ w ∈ wsV own index y.cls y ws, w.before args s = true := fun w h => ht w (hT w h).1
  have hG : GoodIn Ts ws := fun w h => hT w (by unfold wsV; exact List.mem_append_right _ h)
  have hc : Cond.codeWith y bytes maxL ret hh ∈ ws := by rw [hw]; exact List.mem_cons_self
  refine ⟨⟨hrc, hrs, hR.1, hR.2, pay_in ht hG, hc⟩, ht _ (hG _ hc).1, ok _ (by simp [wsV]), ⟨hd.1, hd.2.1⟩, fun sig h => ?_, ok _ (by simp [wsV]), ok _ (by simp [wsV]), ok _ (by simp [wsV])⟩
  have h2 := hd.2.2
  rw [h] at h2
  exact (Option.some.inj h2).symm
theorem vx_runVW {y : MethodName} {bytes cc : ByteArray} {maxL nL mc ms n index : Nat} {ret : Option FieldType} {hh : List (Nat × Nat × Nat × Nat)} {ws : List Cond} {rm : Room} {Pc : Array Value → State → Prop} {Qc : Array Value → State → Outcome → State → Prop} {free : Addr → Prop} {Ts : List Cond} {own C : String} {b : Addr} {As rest : List Value} {g : JFrame}
    (S : CallFix p m c cc nL s args Ts own) (hM : Met l y ws rm Pc Qc mc ms free) (cw : vx_CVW R s args own C index y bytes maxL ret hh ws rm mc ms n) (hp : PreV s H C b Pc As)
    (hg : g.method = m) (hn : As.length = n) (hsize : g.locals.size = nL) (hstack : g.stack = As.reverse ++ .ref b :: rest) (hW : 2 * g.monitorRoom + (rest.map fun v => v.category).sum ≤ 8) (hdg : decode cc g.pc = .ok (.invokevirtual index, 3)) (hf : cells + mc ≤ R.cells ∧ slots + ms ≤ R.slots) :
    va_Run p l e R s m args below meth c H locs cells slots mc ms g rest (Qc (Value.ref b :: As).toArray) free := by
  obtain ⟨⟨hrc, hrs, hfr, hlo, hws, hcw⟩, hcode, hini, hy, hlen, hl, hin, hse⟩ := cw
  have hK : Back l R p e below s args y 3 8 (PreOf R mc ms Pc) (PostOf Qc mc ms free) := va_backW (hh := hh) (bytes := bytes) (maxL := maxL) (ret := ret) hM hp.1 hrc hrs hfr hlo hws hcw (fun a' U hW => word_at hW (Or.inl (by first | rfl | simp [Cond.onTables, Cond.keeps, Cond.steady])) hini)
  obtain ⟨hx, hb, hml, ho, -⟩ := S
  obtain ⟨-, ⟨cellB, hcB, hoB, hclB⟩, hPc⟩ := hp
  intro T hT X
  obtain ⟨v, vm₁, ⟨U', l2, c2, s2⟩, hW₁, X', ⟨g', mk, t, L, e1, e2, hq, h1, hL, h2, h3⟩, st⟩ := vx_callVW X hx (C := C) (hh := hh) (bytes := bytes) (maxL := maxL) (ret := ret) ho hl hin hse hcode hy hK (by rw [hT]; exact hcB) hoB hclB hg (hsize.trans hml.symm) (argsL := As) (rest := rest) (fun sig h => hn.trans (hlen sig h)) hstack hW (by rw [hb]; exact hdg)
    (fun vm₁ hW₁ => ⟨hf.1, hf.2, hPc (T.setVm vm₁) hT hW₁⟩)
  dsimp only [Pt.U, Pt.locs, Pt.cells, Pt.slots] at X' e1 e2 h1 h2 h3 st
  subst h1; subst h2; subst h3
  exact ⟨v, (T.setVm vm₁).calling g' mk (Value.ref b :: As).toArray, t, U', L, hT, X', hL, e1, e2, hq, st⟩
section
variable {y : MethodName} {bytes cc : ByteArray} {maxL nL mc ms n index : Nat} {ret : Option FieldType} {ws : List Cond} {rm : Room} {Pc : Array Value → State → Prop} {Qc : Array Value → State → Outcome → State → Prop} {XC : String → State → State → Prop} {free : Addr → Prop} {Ts : List Cond} {own C : String} {b : Addr} {As rest : List Value} {g : JFrame}
theorem vx_runVX {hh : List (Nat × Nat × Nat × Nat)} (S : CallFix p m c cc nL s args Ts own) (hM : vx_Met l y ws rm Pc Qc XC mc ms free) (cw : vx_CVW R s args own C index y bytes maxL ret hh ws rm mc ms n) (hp : PreV s H C b Pc As)
    (hg : g.method = m) (hn : As.length = n) (hsize : g.locals.size = nL) (hstack : g.stack = As.reverse ++ .ref b :: rest) (hW : 2 * g.monitorRoom + (rest.map fun v => v.category).sum ≤ 8) (hdg : decode cc g.pc = .ok (.invokevirtual index, 3)) (hf : cells + mc ≤ R.cells ∧ slots + ms ≤ R.slots) :
    vx_Run p l e R s m args below meth c H locs cells slots mc ms g rest (Qc (Value.ref b :: As).toArray) XC free := by
  obtain ⟨⟨hrc, hrs, hfr, hlo, hws, hcw⟩, hcode, hini, hy, hlen, hl, hin, hse⟩ := cw
  have hK : vx_Back l R p e below s args y 3 8 (PreOf R mc ms Pc) (PostOf Qc mc ms free) (vx_Post XC mc ms free) := vx_backW (hh := hh) (bytes := bytes) (maxL := maxL) (ret := ret) hM hp.1 hrc hrs hfr hlo hws hcw (fun a' U hW => word_at hW (Or.inl (by first | rfl | simp [Cond.onTables, Cond.keeps, Cond.steady])) hini)
  obtain ⟨hx, hb, hml, ho, -⟩ := S
  obtain ⟨-, ⟨cellB, hcB, hoB, hclB⟩, hPc⟩ := hp
  intro T hT X
  rcases vx_callVX X hx (C := C) (hh := hh) (bytes := bytes) (maxL := maxL) (ret := ret) ho hl hin hse hcode hy hK (by rw [hT]; exact hcB) hoB hclB hg (hsize.trans hml.symm) (argsL := As) (rest := rest) (fun sig h => hn.trans (hlen sig h)) hstack hW (by rw [hb]; exact hdg)
    (fun vm₁ hW₁ => ⟨hf.1, hf.2, hPc (T.setVm vm₁) hT hW₁⟩) with ⟨v, vm₁, ⟨U', l2, c2, s2⟩, hW₁, X', ⟨g', mk, t, L, e1, e2, hq, h1, hL, h2, h3⟩, st⟩ | ⟨q, vm₁, ⟨U', l2, c2, s2⟩, hW₁, X', ⟨g', mk, t, L, E, ce, e1, e2, hq, hce, hcv, hcl, h1, hL, h2, h3⟩, st⟩
  · dsimp only [Pt.U, Pt.locs, Pt.cells, Pt.slots] at X' e1 e2 h1 h2 h3 st
    subst h1; subst h2; subst h3
    exact Or.inl ⟨v, (T.setVm vm₁).calling g' mk (Value.ref b :: As).toArray, t, U', L, hT, X', hL, e1, e2, hq, st⟩
  · dsimp only [Pt.U, Pt.locs, Pt.cells, Pt.slots] at X' e1 e2 h1 h2 h3 st hcl
    subst h1; subst h2; subst h3
    exact Or.inr ⟨q, (T.setVm vm₁).calling g' mk (Value.ref b :: As).toArray, t, U', L, E, ce, hT, X', hL, e1, e2, hq, hce, hcv, vx_cls hW₁ hcl, st⟩
theorem vx_runSX {hh : List (Nat × Nat × Nat × Nat)} (S : CallFix p m c cc nL s args Ts own) (hM : vx_Met l y ws rm Pc Qc XC mc ms free) (cw : vx_CSW R s args own index y bytes maxL ret hh ws rm mc ms n) (hp : PreS s H Pc As)
    (hg : g.method = m) (hn : As.length = n) (hsize : g.locals.size = nL) (hstack : g.stack = As.reverse ++ rest) (hW : 2 * g.monitorRoom + (rest.map fun v => v.category).sum ≤ 8) (hdg : decode cc g.pc = .ok (.invokestatic index, 3)) (hf : cells + mc ≤ R.cells ∧ slots + ms ≤ R.slots) :
    vx_Run p l e R s m args below meth c H locs cells slots mc ms g rest (Qc As.toArray) XC free := by
  obtain ⟨⟨hrc, hrs, hfr, hlo, hws, hcw⟩, hcode, hini, hy, hlen, hl, hstt⟩ := cw
  have hK : vx_Back l R p e below s args y 3 8 (PreOf R mc ms Pc) (PostOf Qc mc ms free) (vx_Post XC mc ms free) := vx_backW (hh := hh) (bytes := bytes) (maxL := maxL) (ret := ret) hM hp.1 hrc hrs hfr hlo hws hcw (fun a' U hW => word_at hW (Or.inl (by first | rfl | simp [Cond.onTables, Cond.keeps, Cond.steady])) hini)
  obtain ⟨hx, hb, hml, ho, -⟩ := S
  intro T hT X
  rcases vx_callSX X hx (hh := hh) (bytes := bytes) (maxL := maxL) (ret := ret) ho hl hstt hini hcode hy hK hg (hsize.trans hml.symm) (argsL := As) (rest := rest) (fun sig h => hn.trans (hlen sig h)) hstack hW (by rw [hb]; exact hdg)
    (fun vm₁ hW₁ => ⟨hf.1, hf.2, hp.2 (T.setVm vm₁) hT hW₁⟩) with ⟨v, vm₁, ⟨U', l2, c2, s2⟩, hW₁, X', ⟨g', mk, t, L, e1, e2, hq, h1, hL, h2, h3⟩, st⟩ | ⟨q, vm₁, ⟨U', l2, c2, s2⟩, hW₁, X', ⟨g', mk, t, L, E, ce, e1, e2, hq, hce, hcv, hcl, h1, hL, h2, h3⟩, st⟩
  · dsimp only [Pt.U, Pt.locs, Pt.cells, Pt.slots] at X' e1 e2 h1 h2 h3 st
    subst h1; subst h2; subst h3
    exact Or.inl ⟨v, (T.setVm vm₁).calling g' mk As.toArray, t, U', L, hT, X', hL, e1, e2, hq, st⟩
  · dsimp only [Pt.U, Pt.locs, Pt.cells, Pt.slots] at X' e1 e2 h1 h2 h3 st hcl
    subst h1; subst h2; subst h3
    exact Or.inr ⟨q, (T.setVm vm₁).calling g' mk As.toArray, t, U', L, E, ce, hT, X', hL, e1, e2, hq, hce, hcv, vx_cls hW₁ hcl, st⟩
end
end VXH
theorem vx_ofWH {l : Launch} {y : MethodName} {ws ws' : List Cond} {rm : Room} {Pc : Array Value → State → Prop} {Qc : Array Value → State → Outcome → State → Prop} {XC : String → State → State → Prop} {mc ms : Nat} {free : Addr → Prop} {cc : ByteArray} {maxL : Nat} {ret : Option FieldType} {hh : List (Nat × Nat × Nat × Nat)}
    (hy : plainName y.cls = true) (hw : ws = Cond.codeWith y cc maxL ret hh :: ws')
    (body : ∀ p e s m args below meth c s₁, BodyLoose p l y (headSpec ws rm) cc maxL ret e s m args below meth c s₁ → c.maxLocals = maxL → Pc args s →
      W p l e (headSpec ws rm).room s m args below meth c s.heap [] 0 0 (vx_MQ below Qc XC args s mc ms free) (entryFrame m args maxL)) : vx_Met l y ws rm Pc Qc XC mc ms free := by
  refine MetFree.of_bodyS (code := cc) (maxLocals := maxL) (ret := ret) hy ?_ ?_
  · intro args s m h hn
    obtain ⟨m9, meth, c, hn9, h1, h2, h3, h4, -, h5, h6, -⟩ := Cond.codeWith_spec (atoms_spec (ws := ws) h _ (by rw [hw]; exact List.mem_cons_self))
    cases hn.symm.trans hn9
    exact ⟨meth, c, h1, h2, h3, h4, h5, h6⟩
  · intro p e s m args below meth c s₁ B hml hP _
    have hh0 : s₁.heap = s.heap := by rw [B.state]; rfl
    obtain ⟨t, a1, o, b1, b2, b3⟩ := body p e s m args below meth c s₁ B hml hP s₁ hh0 (Stand.of_body B)
    exact ⟨t, o, a1, b1, b2, b3⟩
/-! ===== END ===== -/

/-! ===== BEGIN printed: names, fields, word lists, decode rows ===== -/
def RX0 : String := "WardrobeKeeper"
def TX0 : u_T := fun k => match k with
  | 0 => ("WardrobeKeeper", "kinds", "[I", true)
  | 1 => ("WardrobeKeeper", "colours", "[I", true)
  | 2 => ("WardrobeKeeper", "warmths", "[I", true)
  | 3 => ("WardrobeKeeper", "wearsWhenClean", "[I", true)
  | 4 => ("WardrobeKeeper", "cares", "[I", true)
  | 5 => ("WardrobeKeeper", "wearsLeft", "[I", true)
  | 6 => ("WardrobeKeeper", "added", "I", false)
  | 7 => ("WardrobeKeeper", "owned", "I", false)
  | 8 => ("WardrobeKeeper", "today", "I", false)
  | 9 => ("WardrobeKeeper", "clashes", "J", false)
  | 10 => ("WardrobeKeeper", "freeFrom", "[I", true)
  | _ => ("WardrobeKeeper", "partners", "[I", true)
def tyX0 : Nat → FieldType := fun k => match k with
  | 0 => .array .int
  | 1 => .array .int
  | 2 => .array .int
  | 3 => .array .int
  | 4 => .array .int
  | 5 => .array .int
  | 6 => .int
  | 7 => .int
  | 8 => .int
  | 9 => .long
  | 10 => .array .int
  | _ => .array .int
abbrev wsX00 : List Cond := u_ws RX0 TX0 12
theorem nmX0 : ∀ a, a < 12 → ∀ b, b < 12 → a ≠ b → (TX0 a).2.1 ≠ (TX0 b).2.1 := by decide +kernel
theorem tyX0_ok : ∀ k, k < 12 → parseFieldDescriptor (TX0 k).2.2.1 = some (tyX0 k) := by decide +kernel
abbrev cX0_init : ByteArray := prog_1_method_1_code
def yX0_init : MethodName := ⟨RX0, "<init>", "()V"⟩
abbrev cX0_add : ByteArray := prog_1_method_2_code
def yX0_add : MethodName := ⟨RX0, "add", "(IIIII)I"⟩
abbrev cX0_giveAway : ByteArray := prog_1_method_3_code
def yX0_giveAway : MethodName := ⟨RX0, "giveAway", "(I)I"⟩
abbrev cX0_setClash : ByteArray := prog_1_method_4_code
def yX0_setClash : MethodName := ⟨RX0, "setClash", "(IIZ)Z"⟩
abbrev cX0_things : ByteArray := prog_1_method_5_code
def yX0_things : MethodName := ⟨RX0, "things", "()I"⟩
abbrev cX0_left : ByteArray := prog_1_method_6_code
def yX0_left : MethodName := ⟨RX0, "left", "(I)I"⟩
abbrev cX0_isPossible : ByteArray := prog_1_method_7_code
def yX0_isPossible : MethodName := ⟨RX0, "isPossible", "(III)Z"⟩
abbrev cX0_isTooSoon : ByteArray := prog_1_method_8_code
def yX0_isTooSoon : MethodName := ⟨RX0, "isTooSoon", "(III)Z"⟩
abbrev cX0_wear : ByteArray := prog_1_method_9_code
def yX0_wear : MethodName := ⟨RX0, "wear", "(IIII)I"⟩
abbrev cX0_outfits : ByteArray := prog_1_method_10_code
def yX0_outfits : MethodName := ⟨RX0, "outfits", "(I)I"⟩
abbrev cX0_adds : ByteArray := prog_1_method_11_code
def yX0_adds : MethodName := ⟨RX0, "adds", "(II)I"⟩
abbrev cX0_missingTop : ByteArray := prog_1_method_12_code
def yX0_missingTop : MethodName := ⟨RX0, "missingTop", "()I"⟩
abbrev cX0_outfitFor : ByteArray := prog_1_method_13_code
def yX0_outfitFor : MethodName := ⟨RX0, "outfitFor", "(II)I"⟩
abbrev cX0_load : ByteArray := prog_1_method_14_code
def yX0_load : MethodName := ⟨RX0, "load", "(IZ)I"⟩
abbrev cX0_wash : ByteArray := prog_1_method_15_code
def yX0_wash : MethodName := ⟨RX0, "wash", "(IZ)I"⟩
abbrev cX0_pass : ByteArray := prog_1_method_16_code
def yX0_pass : MethodName := ⟨RX0, "pass", "(I)I"⟩
abbrev cX0_isEnough : ByteArray := prog_1_method_17_code
def yX0_isEnough : MethodName := ⟨RX0, "isEnough", "(III)Z"⟩
abbrev cX0_bag : ByteArray := prog_1_method_18_code
def yX0_bag : MethodName := ⟨RX0, "bag", "(II)I"⟩
abbrev cX0_isWithin : ByteArray := prog_1_method_19_code
def yX0_isWithin : MethodName := ⟨RX0, "isWithin", "(III)Z"⟩
abbrev cX0_isColour : ByteArray := prog_1_method_20_code
def yX0_isColour : MethodName := ⟨RX0, "isColour", "(I)Z"⟩
abbrev cX0_isCare : ByteArray := prog_1_method_21_code
def yX0_isCare : MethodName := ⟨RX0, "isCare", "(I)Z"⟩
abbrev cX0_arePeople : ByteArray := prog_1_method_22_code
def yX0_arePeople : MethodName := ⟨RX0, "arePeople", "(I)Z"⟩
abbrev cX0_isOutfitWarmth : ByteArray := prog_1_method_23_code
def yX0_isOutfitWarmth : MethodName := ⟨RX0, "isOutfitWarmth", "(I)Z"⟩
abbrev cX0_isBagQuestion : ByteArray := prog_1_method_24_code
def yX0_isBagQuestion : MethodName := ⟨RX0, "isBagQuestion", "(II)Z"⟩
abbrev cX0_isThing : ByteArray := prog_1_method_25_code
def yX0_isThing : MethodName := ⟨RX0, "isThing", "(I)Z"⟩
abbrev cX0_areThings : ByteArray := prog_1_method_26_code
def yX0_areThings : MethodName := ⟨RX0, "areThings", "(III)Z"⟩
abbrev cX0_isOfKind : ByteArray := prog_1_method_27_code
def yX0_isOfKind : MethodName := ⟨RX0, "isOfKind", "(II)Z"⟩
abbrev cX0_areOfTheirKinds : ByteArray := prog_1_method_28_code
def yX0_areOfTheirKinds : MethodName := ⟨RX0, "areOfTheirKinds", "(III)Z"⟩
abbrev cX0_wearsLeftOf : ByteArray := prog_1_method_29_code
def yX0_wearsLeftOf : MethodName := ⟨RX0, "wearsLeftOf", "(I)I"⟩
abbrev cX0_warmthOf : ByteArray := prog_1_method_30_code
def yX0_warmthOf : MethodName := ⟨RX0, "warmthOf", "(I)I"⟩
abbrev cX0_isCleanOfKind : ByteArray := prog_1_method_31_code
def yX0_isCleanOfKind : MethodName := ⟨RX0, "isCleanOfKind", "(II)Z"⟩
abbrev cX0_wearOnce : ByteArray := prog_1_method_32_code
def yX0_wearOnce : MethodName := ⟨RX0, "wearOnce", "(I)V"⟩
abbrev cX0_makeClean : ByteArray := prog_1_method_33_code
def yX0_makeClean : MethodName := ⟨RX0, "makeClean", "(I)V"⟩
abbrev cX0_clashBit : ByteArray := prog_1_method_34_code
def yX0_clashBit : MethodName := ⟨RX0, "clashBit", "(II)J"⟩
abbrev cX0_coloursClash : ByteArray := prog_1_method_35_code
def yX0_coloursClash : MethodName := ⟨RX0, "coloursClash", "(II)Z"⟩
abbrev cX0_doClash : ByteArray := prog_1_method_36_code
def yX0_doClash : MethodName := ⟨RX0, "doClash", "(II)Z"⟩
abbrev cX0_canBeWorn : ByteArray := prog_1_method_37_code
def yX0_canBeWorn : MethodName := ⟨RX0, "canBeWorn", "(III)Z"⟩
abbrev cX0_fitsOver : ByteArray := prog_1_method_38_code
def yX0_fitsOver : MethodName := ⟨RX0, "fitsOver", "(III)Z"⟩
abbrev cX0_outfitWarmth : ByteArray := prog_1_method_39_code
def yX0_outfitWarmth : MethodName := ⟨RX0, "outfitWarmth", "(III)I"⟩
abbrev cX0_isWarmOutfit : ByteArray := prog_1_method_40_code
def yX0_isWarmOutfit : MethodName := ⟨RX0, "isWarmOutfit", "(IIII)Z"⟩
abbrev cX0_countOutfitsOf : ByteArray := prog_1_method_41_code
def yX0_countOutfitsOf : MethodName := ⟨RX0, "countOutfitsOf", "(III)I"⟩
abbrev cX0_countBottomsFor : ByteArray := prog_1_method_42_code
def yX0_countBottomsFor : MethodName := ⟨RX0, "countBottomsFor", "(I)I"⟩
abbrev cX0_firstSeat : ByteArray := prog_1_method_43_code
def yX0_firstSeat : MethodName := ⟨RX0, "firstSeat", "(II)I"⟩
abbrev cX0_wasSeenLately : ByteArray := prog_1_method_44_code
def yX0_wasSeenLately : MethodName := ⟨RX0, "wasSeenLately", "(III)Z"⟩
abbrev cX0_showTo : ByteArray := prog_1_method_45_code
def yX0_showTo : MethodName := ⟨RX0, "showTo", "(III)V"⟩
abbrev cX0_isWashedWith : ByteArray := prog_1_method_46_code
def yX0_isWashedWith : MethodName := ⟨RX0, "isWashedWith", "(IIZ)Z"⟩
abbrev cX0_nextToWash : ByteArray := prog_1_method_47_code
def yX0_nextToWash : MethodName := ⟨RX0, "nextToWash", "(IZ)I"⟩
abbrev cX0_thingsOfKind : ByteArray := prog_1_method_48_code
def yX0_thingsOfKind : MethodName := ⟨RX0, "thingsOfKind", "(I)I"⟩
abbrev cX0_findPartners : ByteArray := prog_1_method_49_code
def yX0_findPartners : MethodName := ⟨RX0, "findPartners", "(I)V"⟩
abbrev cX0_arePartners : ByteArray := prog_1_method_50_code
def yX0_arePartners : MethodName := ⟨RX0, "arePartners", "(III)Z"⟩
abbrev cX0_usefulThings : ByteArray := prog_1_method_51_code
def yX0_usefulThings : MethodName := ⟨RX0, "usefulThings", "()I"⟩
abbrev cX0_partnersOf : ByteArray := prog_1_method_52_code
def yX0_partnersOf : MethodName := ⟨RX0, "partnersOf", "(I)I"⟩
abbrev cX0_wearsLeftIn : ByteArray := prog_1_method_53_code
def yX0_wearsLeftIn : MethodName := ⟨RX0, "wearsLeftIn", "(I)I"⟩
abbrev cX0_nextPart : ByteArray := prog_1_method_54_code
def yX0_nextPart : MethodName := ⟨RX0, "nextPart", "(II)I"⟩
abbrev cX0_lasts : ByteArray := prog_1_method_55_code
def yX0_lasts : MethodName := ⟨RX0, "lasts", "(III)Z"⟩
def RX1 : String := "WardrobeKeeperModel"
def TX1 : u_T := fun k => match k with
  | 0 => ("WardrobeKeeperModel", "today", "I", false)
  | 1 => ("WardrobeKeeperModel", "added", "I", false)
  | 2 => ("WardrobeKeeperModel", "isGone", "[Z", true)
  | 3 => ("WardrobeKeeperModel", "kinds", "[I", true)
  | 4 => ("WardrobeKeeperModel", "colours", "[I", true)
  | 5 => ("WardrobeKeeperModel", "warmths", "[I", true)
  | 6 => ("WardrobeKeeperModel", "wears", "[I", true)
  | 7 => ("WardrobeKeeperModel", "cares", "[I", true)
  | 8 => ("WardrobeKeeperModel", "lefts", "[I", true)
  | 9 => ("WardrobeKeeperModel", "clash", "[Z", true)
  | 10 => ("WardrobeKeeperModel", "seen", "[I", true)
  | 11 => ("WardrobeKeeperModel", "goesWith", "[I", true)
  | _ => ("WardrobeKeeperModel", "thrown", "I", false)
def tyX1 : Nat → FieldType := fun k => match k with
  | 0 => .int
  | 1 => .int
  | 2 => .array .boolean
  | 3 => .array .int
  | 4 => .array .int
  | 5 => .array .int
  | 6 => .array .int
  | 7 => .array .int
  | 8 => .array .int
  | 9 => .array .boolean
  | 10 => .array .int
  | 11 => .array .int
  | _ => .int
abbrev wsX10 : List Cond := u_ws RX1 TX1 13
theorem nmX1 : ∀ a, a < 13 → ∀ b, b < 13 → a ≠ b → (TX1 a).2.1 ≠ (TX1 b).2.1 := by decide +kernel
theorem tyX1_ok : ∀ k, k < 13 → parseFieldDescriptor (TX1 k).2.2.1 = some (tyX1 k) := by decide +kernel
abbrev cX1_init : ByteArray := prog_3_method_1_code
def yX1_init : MethodName := ⟨RX1, "<init>", "()V"⟩
abbrev cX1_thrown : ByteArray := prog_3_method_2_code
def yX1_thrown : MethodName := ⟨RX1, "thrown", "()I"⟩
abbrev cX1_goes : ByteArray := prog_3_method_3_code
def yX1_goes : MethodName := ⟨RX1, "goes", "(I)Z"⟩
abbrev cX1_isIn : ByteArray := prog_3_method_4_code
def yX1_isIn : MethodName := ⟨RX1, "isIn", "(III)Z"⟩
abbrev cX1_isThing : ByteArray := prog_3_method_5_code
def yX1_isThing : MethodName := ⟨RX1, "isThing", "(I)Z"⟩
abbrev cX1_isColour : ByteArray := prog_3_method_6_code
def yX1_isColour : MethodName := ⟨RX1, "isColour", "(I)Z"⟩
abbrev cX1_arePeople : ByteArray := prog_3_method_7_code
def yX1_arePeople : MethodName := ⟨RX1, "arePeople", "(I)Z"⟩
abbrev cX1_isCare : ByteArray := prog_3_method_8_code
def yX1_isCare : MethodName := ⟨RX1, "isCare", "(I)Z"⟩
abbrev cX1_add : ByteArray := prog_3_method_9_code
def yX1_add : MethodName := ⟨RX1, "add", "(IIIII)I"⟩
abbrev cX1_here : ByteArray := prog_3_method_10_code
def yX1_here : MethodName := ⟨RX1, "here", "()I"⟩
abbrev cX1_giveAway : ByteArray := prog_3_method_11_code
def yX1_giveAway : MethodName := ⟨RX1, "giveAway", "(I)I"⟩
abbrev cX1_setClash : ByteArray := prog_3_method_12_code
def yX1_setClash : MethodName := ⟨RX1, "setClash", "(IIZ)Z"⟩
abbrev cX1_things : ByteArray := prog_3_method_13_code
def yX1_things : MethodName := ⟨RX1, "things", "()I"⟩
abbrev cX1_left : ByteArray := prog_3_method_14_code
def yX1_left : MethodName := ⟨RX1, "left", "(I)I"⟩
abbrev cX1_doClash : ByteArray := prog_3_method_15_code
def yX1_doClash : MethodName := ⟨RX1, "doClash", "(II)Z"⟩
abbrev cX1_wrong : ByteArray := prog_3_method_16_code
def yX1_wrong : MethodName := ⟨RX1, "wrong", "(III)I"⟩
abbrev cX1_fits : ByteArray := prog_3_method_17_code
def yX1_fits : MethodName := ⟨RX1, "fits", "(III)Z"⟩
abbrev cX1_warmthOf : ByteArray := prog_3_method_18_code
def yX1_warmthOf : MethodName := ⟨RX1, "warmthOf", "(III)I"⟩
abbrev cX1_isSoon : ByteArray := prog_3_method_19_code
def yX1_isSoon : MethodName := ⟨RX1, "isSoon", "(III)Z"⟩
abbrev cX1_isPossible : ByteArray := prog_3_method_20_code
def yX1_isPossible : MethodName := ⟨RX1, "isPossible", "(III)Z"⟩
abbrev cX1_isTooSoon : ByteArray := prog_3_method_21_code
def yX1_isTooSoon : MethodName := ⟨RX1, "isTooSoon", "(III)Z"⟩
abbrev cX1_wear : ByteArray := prog_3_method_22_code
def yX1_wear : MethodName := ⟨RX1, "wear", "(IIII)I"⟩
abbrev cX1_count : ByteArray := prog_3_method_23_code
def yX1_count : MethodName := ⟨RX1, "count", "(II)I"⟩
abbrev cX1_outfits : ByteArray := prog_3_method_24_code
def yX1_outfits : MethodName := ⟨RX1, "outfits", "(I)I"⟩
abbrev cX1_adds : ByteArray := prog_3_method_25_code
def yX1_adds : MethodName := ⟨RX1, "adds", "(II)I"⟩
abbrev cX1_missingTop : ByteArray := prog_3_method_26_code
def yX1_missingTop : MethodName := ⟨RX1, "missingTop", "()I"⟩
abbrev cX1_outfitFor : ByteArray := prog_3_method_27_code
def yX1_outfitFor : MethodName := ⟨RX1, "outfitFor", "(II)I"⟩
abbrev cX1_isOf : ByteArray := prog_3_method_28_code
def yX1_isOf : MethodName := ⟨RX1, "isOf", "(IIZ)Z"⟩
abbrev cX1_load : ByteArray := prog_3_method_29_code
def yX1_load : MethodName := ⟨RX1, "load", "(IZ)I"⟩
abbrev cX1_wash : ByteArray := prog_3_method_30_code
def yX1_wash : MethodName := ⟨RX1, "wash", "(IZ)I"⟩
abbrev cX1_pass : ByteArray := prog_3_method_31_code
def yX1_pass : MethodName := ⟨RX1, "pass", "(I)I"⟩
abbrev cX1_laysPairs : ByteArray := prog_3_method_32_code
def yX1_laysPairs : MethodName := ⟨RX1, "laysPairs", "(I)V"⟩
abbrev cX1_setOf : ByteArray := prog_3_method_33_code
def yX1_setOf : MethodName := ⟨RX1, "setOf", "(I)I"⟩
abbrev cX1_worn : ByteArray := prog_3_method_34_code
def yX1_worn : MethodName := ⟨RX1, "worn", "(I)I"⟩
abbrev cX1_daysOf : ByteArray := prog_3_method_35_code
def yX1_daysOf : MethodName := ⟨RX1, "daysOf", "(III)I"⟩
abbrev cX1_isEnough : ByteArray := prog_3_method_36_code
def yX1_isEnough : MethodName := ⟨RX1, "isEnough", "(III)Z"⟩
abbrev cX1_size : ByteArray := prog_3_method_37_code
def yX1_size : MethodName := ⟨RX1, "size", "(I)I"⟩
abbrev cX1_bag : ByteArray := prog_3_method_38_code
def yX1_bag : MethodName := ⟨RX1, "bag", "(II)I"⟩
def RJ6 : String := "java/lang/Integer"
def TJ6 : u_T := fun k => match k with
  | _ => ("", "", "", false)
def tyJ6 : Nat → FieldType := fun k => match k with
  | _ => .int
abbrev wsJ60 : List Cond := u_ws RJ6 TJ6 0
theorem nmJ6 : ∀ a, a < 0 → ∀ b, b < 0 → a ≠ b → (TJ6 a).2.1 ≠ (TJ6 b).2.1 := by decide +kernel
theorem tyJ6_ok : ∀ k, k < 0 → parseFieldDescriptor (TJ6 k).2.2.1 = some (tyJ6 k) := by decide +kernel
abbrev cJ6_bitCount_0f7a4 : ByteArray := prog_8_method_49_code
def yJ6_bitCount_0f7a4 : MethodName := ⟨RJ6, "bitCount", "(I)I"⟩
def RJ0 : String := "java/lang/String"
def TJ0 : u_T := fun k => match k with
  | _ => ("", "", "", false)
def tyJ0 : Nat → FieldType := fun k => match k with
  | _ => .int
abbrev wsJ00 : List Cond := u_ws RJ0 TJ0 0
theorem nmJ0 : ∀ a, a < 0 → ∀ b, b < 0 → a ≠ b → (TJ0 a).2.1 ≠ (TJ0 b).2.1 := by decide +kernel
theorem tyJ0_ok : ∀ k, k < 0 → parseFieldDescriptor (TJ0 k).2.2.1 = some (tyJ0 k) := by decide +kernel
def RL : String := "WardrobeKeeperLaw"
abbrev cL_add : ByteArray := method_3_code
def yL_add : MethodName := ⟨RL, "add", "(LWardrobeKeeper;IIIII[J)I"⟩
abbrev cL_giveAway : ByteArray := method_4_code
def yL_giveAway : MethodName := ⟨RL, "giveAway", "(LWardrobeKeeper;I[J)I"⟩
abbrev cL_setClash : ByteArray := method_5_code
def yL_setClash : MethodName := ⟨RL, "setClash", "(LWardrobeKeeper;IIZ[J)I"⟩
abbrev cL_left : ByteArray := method_6_code
def yL_left : MethodName := ⟨RL, "left", "(LWardrobeKeeper;I[J)I"⟩
abbrev cL_isPossible : ByteArray := method_7_code
def yL_isPossible : MethodName := ⟨RL, "isPossible", "(LWardrobeKeeper;III[J)I"⟩
abbrev cL_isTooSoon : ByteArray := method_8_code
def yL_isTooSoon : MethodName := ⟨RL, "isTooSoon", "(LWardrobeKeeper;III[J)I"⟩
abbrev cL_wear : ByteArray := method_9_code
def yL_wear : MethodName := ⟨RL, "wear", "(LWardrobeKeeper;IIII[J)I"⟩
abbrev cL_outfits : ByteArray := method_10_code
def yL_outfits : MethodName := ⟨RL, "outfits", "(LWardrobeKeeper;I[J)I"⟩
abbrev cL_adds : ByteArray := method_11_code
def yL_adds : MethodName := ⟨RL, "adds", "(LWardrobeKeeper;II[J)I"⟩
abbrev cL_outfitFor : ByteArray := method_12_code
def yL_outfitFor : MethodName := ⟨RL, "outfitFor", "(LWardrobeKeeper;II[J)I"⟩
abbrev cL_load : ByteArray := method_13_code
def yL_load : MethodName := ⟨RL, "load", "(LWardrobeKeeper;IZ[J)I"⟩
abbrev cL_wash : ByteArray := method_14_code
def yL_wash : MethodName := ⟨RL, "wash", "(LWardrobeKeeper;IZ[J)I"⟩
abbrev cL_pass : ByteArray := method_15_code
def yL_pass : MethodName := ⟨RL, "pass", "(LWardrobeKeeper;I[J)I"⟩
abbrev cL_isEnough : ByteArray := method_16_code
def yL_isEnough : MethodName := ⟨RL, "isEnough", "(LWardrobeKeeper;III[J)I"⟩
abbrev cL_bag : ByteArray := method_17_code
def yL_bag : MethodName := ⟨RL, "bag", "(LWardrobeKeeper;II[J)I"⟩
abbrev cL_law : ByteArray := code
def yL_law : MethodName := ⟨RL, "law", "([I)Z"⟩
def wsX0_init : List Cond := .code yX0_init cX0_init 1 none :: ([.methodLink RX0 1 objectInit, .instanceMethod objectInit, .code objectInit ⟨#[0xb1]⟩ 1 none, .arrayClass .int, .fieldLink RX0 9 "WardrobeKeeper" "kinds" "[I", .fieldLink RX0 13 "WardrobeKeeper" "colours" "[I", .fieldLink RX0 16 "WardrobeKeeper" "warmths" "[I", .fieldLink RX0 19 "WardrobeKeeper" "wearsWhenClean" "[I", .fieldLink RX0 22 "WardrobeKeeper" "cares" "[I", .fieldLink RX0 25 "WardrobeKeeper" "wearsLeft" "[I", .fieldLink RX0 28 "WardrobeKeeper" "freeFrom" "[I", .fieldLink RX0 31 "WardrobeKeeper" "partners" "[I"] ++ wsX00)
def wsX0_isWithin : List Cond := .code yX0_isWithin cX0_isWithin 3 (some .boolean) :: ([])
def wsX0_isColour : List Cond := .code yX0_isColour cX0_isColour 1 (some .boolean) :: ([.methodLink RX0 34 yX0_isWithin, .static yX0_isWithin, .initialized RX0, .code yX0_isWithin cX0_isWithin 3 (some .boolean)])
def wsX0_isCare : List Cond := .code yX0_isCare cX0_isCare 1 (some .boolean) :: ([.methodLink RX0 34 yX0_isWithin, .static yX0_isWithin, .initialized RX0, .code yX0_isWithin cX0_isWithin 3 (some .boolean)])
def wsX0_add : List Cond := .code yX0_add cX0_add 7 (some .int) :: ([.classLink RX0 45 "java/lang/IllegalArgumentException", .initialized "java/lang/IllegalArgumentException", .classLink RX0 56 "java/lang/IllegalStateException", .initialized "java/lang/IllegalStateException", .fieldLink RX0 52 "WardrobeKeeper" "added" "I", .fieldLink RX0 9 "WardrobeKeeper" "kinds" "[I", .fieldLink RX0 13 "WardrobeKeeper" "colours" "[I", .fieldLink RX0 16 "WardrobeKeeper" "warmths" "[I", .fieldLink RX0 19 "WardrobeKeeper" "wearsWhenClean" "[I", .fieldLink RX0 22 "WardrobeKeeper" "cares" "[I", .fieldLink RX0 25 "WardrobeKeeper" "wearsLeft" "[I", .fieldLink RX0 61 "WardrobeKeeper" "owned" "I", .methodLink RX0 34 yX0_isWithin, .static yX0_isWithin, .initialized RX0, .code yX0_isWithin cX0_isWithin 3 (some .boolean), .methodLink RX0 38 yX0_isColour, .static yX0_isColour, .code yX0_isColour cX0_isColour 1 (some .boolean), .methodLink RX0 42 yX0_isCare, .static yX0_isCare, .code yX0_isCare cX0_isCare 1 (some .boolean)] ++ wsX00 ++ (vx_atS RX0 49 "java/lang/IllegalArgumentException" ["java/lang/RuntimeException", "java/lang/Exception"]).filter goodWord ++ (vx_atS RX0 60 "java/lang/IllegalStateException" ["java/lang/RuntimeException", "java/lang/Exception"]).filter goodWord)
def wsX0_isThing : List Cond := .code yX0_isThing cX0_isThing 2 (some .boolean) :: ([.fieldLink RX0 61 "WardrobeKeeper" "owned" "I", .methodLink RX0 34 yX0_isWithin, .static yX0_isWithin, .initialized RX0, .code yX0_isWithin cX0_isWithin 3 (some .boolean)] ++ wsX00)
def wsJ6_bitCount_0f7a4 : List Cond := .code yJ6_bitCount_0f7a4 cJ6_bitCount_0f7a4 1 (some .int) :: ([.constant RJ6 265 (1431655765), .constant RJ6 266 (858993459), .constant RJ6 267 (252645135)])
def wsX0_giveAway : List Cond := .code yX0_giveAway cX0_giveAway 2 (some .int) :: ([.classLink RX0 67 "java/lang/IndexOutOfBoundsException", .initialized "java/lang/IndexOutOfBoundsException", .fieldLink RX0 61 "WardrobeKeeper" "owned" "I", .methodLink RX0 64 yX0_isThing, .instanceMethod yX0_isThing, .selects RX0 yX0_isThing yX0_isThing, .initialized RX0, .code yX0_isThing cX0_isThing 2 (some .boolean), .methodLink RX0 34 yX0_isWithin, .static yX0_isWithin, .code yX0_isWithin cX0_isWithin 3 (some .boolean), .methodLink RX0 72 yJ6_bitCount_0f7a4, .static yJ6_bitCount_0f7a4, .initialized RJ6, .code yJ6_bitCount_0f7a4 cJ6_bitCount_0f7a4 1 (some .int), .constant RJ6 265 (1431655765), .constant RJ6 266 (858993459), .constant RJ6 267 (252645135)] ++ wsX00 ++ (vx_atS RX0 71 "java/lang/IndexOutOfBoundsException" ["java/lang/RuntimeException", "java/lang/Exception"]).filter goodWord)
def wsX0_clashBit : List Cond := .code yX0_clashBit cX0_clashBit 2 (some .long) :: ([])
def wsX0_coloursClash : List Cond := .code yX0_coloursClash cX0_coloursClash 3 (some .boolean) :: ([.fieldLink RX0 88 "WardrobeKeeper" "clashes" "J", .methodLink RX0 84 yX0_clashBit, .static yX0_clashBit, .initialized RX0, .code yX0_clashBit cX0_clashBit 2 (some .long)] ++ wsX00)
def wsX0_setClash : List Cond := .code yX0_setClash cX0_setClash 7 (some .boolean) :: ([.classLink RX0 45 "java/lang/IllegalArgumentException", .initialized "java/lang/IllegalArgumentException", .fieldLink RX0 88 "WardrobeKeeper" "clashes" "J", .constantLong RX0 92 (-1), .methodLink RX0 38 yX0_isColour, .static yX0_isColour, .initialized RX0, .code yX0_isColour cX0_isColour 1 (some .boolean), .methodLink RX0 34 yX0_isWithin, .static yX0_isWithin, .code yX0_isWithin cX0_isWithin 3 (some .boolean), .methodLink RX0 80 yX0_coloursClash, .instanceMethod yX0_coloursClash, .selects RX0 yX0_coloursClash yX0_coloursClash, .code yX0_coloursClash cX0_coloursClash 3 (some .boolean), .methodLink RX0 84 yX0_clashBit, .static yX0_clashBit, .code yX0_clashBit cX0_clashBit 2 (some .long)] ++ wsX00 ++ (vx_atS RX0 49 "java/lang/IllegalArgumentException" ["java/lang/RuntimeException", "java/lang/Exception"]).filter goodWord)
def wsX0_things : List Cond := .code yX0_things cX0_things 1 (some .int) :: ([.fieldLink RX0 61 "WardrobeKeeper" "owned" "I", .methodLink RX0 72 yJ6_bitCount_0f7a4, .static yJ6_bitCount_0f7a4, .initialized RJ6, .code yJ6_bitCount_0f7a4 cJ6_bitCount_0f7a4 1 (some .int), .constant RJ6 265 (1431655765), .constant RJ6 266 (858993459), .constant RJ6 267 (252645135)] ++ wsX00)
def wsX0_left : List Cond := .code yX0_left cX0_left 2 (some .int) :: ([.classLink RX0 67 "java/lang/IndexOutOfBoundsException", .initialized "java/lang/IndexOutOfBoundsException", .fieldLink RX0 25 "WardrobeKeeper" "wearsLeft" "[I", .methodLink RX0 64 yX0_isThing, .instanceMethod yX0_isThing, .selects RX0 yX0_isThing yX0_isThing, .initialized RX0, .code yX0_isThing cX0_isThing 2 (some .boolean), .fieldLink RX0 61 "WardrobeKeeper" "owned" "I", .methodLink RX0 34 yX0_isWithin, .static yX0_isWithin, .code yX0_isWithin cX0_isWithin 3 (some .boolean)] ++ wsX00 ++ (vx_atS RX0 71 "java/lang/IndexOutOfBoundsException" ["java/lang/RuntimeException", "java/lang/Exception"]).filter goodWord)
def wsX0_areThings : List Cond := .code yX0_areThings cX0_areThings 4 (some .boolean) :: ([.methodLink RX0 64 yX0_isThing, .instanceMethod yX0_isThing, .selects RX0 yX0_isThing yX0_isThing, .initialized RX0, .code yX0_isThing cX0_isThing 2 (some .boolean), .fieldLink RX0 61 "WardrobeKeeper" "owned" "I", .methodLink RX0 34 yX0_isWithin, .static yX0_isWithin, .code yX0_isWithin cX0_isWithin 3 (some .boolean)] ++ wsX00)
def wsX0_isOfKind : List Cond := .code yX0_isOfKind cX0_isOfKind 3 (some .boolean) :: ([.fieldLink RX0 9 "WardrobeKeeper" "kinds" "[I", .methodLink RX0 64 yX0_isThing, .instanceMethod yX0_isThing, .selects RX0 yX0_isThing yX0_isThing, .initialized RX0, .code yX0_isThing cX0_isThing 2 (some .boolean), .fieldLink RX0 61 "WardrobeKeeper" "owned" "I", .methodLink RX0 34 yX0_isWithin, .static yX0_isWithin, .code yX0_isWithin cX0_isWithin 3 (some .boolean)] ++ wsX00)
def wsX0_areOfTheirKinds : List Cond := .code yX0_areOfTheirKinds cX0_areOfTheirKinds 4 (some .boolean) :: ([.methodLink RX0 191 yX0_isOfKind, .instanceMethod yX0_isOfKind, .selects RX0 yX0_isOfKind yX0_isOfKind, .initialized RX0, .code yX0_isOfKind cX0_isOfKind 3 (some .boolean), .fieldLink RX0 9 "WardrobeKeeper" "kinds" "[I", .methodLink RX0 64 yX0_isThing, .instanceMethod yX0_isThing, .selects RX0 yX0_isThing yX0_isThing, .code yX0_isThing cX0_isThing 2 (some .boolean), .fieldLink RX0 61 "WardrobeKeeper" "owned" "I", .methodLink RX0 34 yX0_isWithin, .static yX0_isWithin, .code yX0_isWithin cX0_isWithin 3 (some .boolean)] ++ wsX00)
def wsX0_isCleanOfKind : List Cond := .code yX0_isCleanOfKind cX0_isCleanOfKind 3 (some .boolean) :: ([.fieldLink RX0 25 "WardrobeKeeper" "wearsLeft" "[I", .methodLink RX0 191 yX0_isOfKind, .instanceMethod yX0_isOfKind, .selects RX0 yX0_isOfKind yX0_isOfKind, .initialized RX0, .code yX0_isOfKind cX0_isOfKind 3 (some .boolean), .fieldLink RX0 9 "WardrobeKeeper" "kinds" "[I", .methodLink RX0 64 yX0_isThing, .instanceMethod yX0_isThing, .selects RX0 yX0_isThing yX0_isThing, .code yX0_isThing cX0_isThing 2 (some .boolean), .fieldLink RX0 61 "WardrobeKeeper" "owned" "I", .methodLink RX0 34 yX0_isWithin, .static yX0_isWithin, .code yX0_isWithin cX0_isWithin 3 (some .boolean)] ++ wsX00)
def wsX0_doClash : List Cond := .code yX0_doClash cX0_doClash 3 (some .boolean) :: ([.fieldLink RX0 13 "WardrobeKeeper" "colours" "[I", .methodLink RX0 64 yX0_isThing, .instanceMethod yX0_isThing, .selects RX0 yX0_isThing yX0_isThing, .initialized RX0, .code yX0_isThing cX0_isThing 2 (some .boolean), .fieldLink RX0 61 "WardrobeKeeper" "owned" "I", .methodLink RX0 34 yX0_isWithin, .static yX0_isWithin, .code yX0_isWithin cX0_isWithin 3 (some .boolean), .methodLink RX0 80 yX0_coloursClash, .instanceMethod yX0_coloursClash, .selects RX0 yX0_coloursClash yX0_coloursClash, .code yX0_coloursClash cX0_coloursClash 3 (some .boolean), .fieldLink RX0 88 "WardrobeKeeper" "clashes" "J", .methodLink RX0 84 yX0_clashBit, .static yX0_clashBit, .code yX0_clashBit cX0_clashBit 2 (some .long)] ++ wsX00)
def wsX0_fitsOver_r1 : List Cond := [Cond.methodLink RX0 194 yX0_isCleanOfKind, Cond.instanceMethod yX0_isCleanOfKind, Cond.selects RX0 yX0_isCleanOfKind yX0_isCleanOfKind, Cond.initialized RX0, Cond.code yX0_isCleanOfKind cX0_isCleanOfKind 3 (some .boolean), Cond.fieldLink RX0 25 "WardrobeKeeper" "wearsLeft" "[I", Cond.methodLink RX0 191 yX0_isOfKind, Cond.instanceMethod yX0_isOfKind, Cond.selects RX0 yX0_isOfKind yX0_isOfKind, Cond.code yX0_isOfKind cX0_isOfKind 3 (some .boolean), Cond.fieldLink RX0 9 "WardrobeKeeper" "kinds" "[I", Cond.methodLink RX0 64 yX0_isThing, Cond.instanceMethod yX0_isThing, Cond.selects RX0 yX0_isThing yX0_isThing, Cond.code yX0_isThing cX0_isThing 2 (some .boolean), Cond.fieldLink RX0 61 "WardrobeKeeper" "owned" "I", Cond.methodLink RX0 34 yX0_isWithin, Cond.static yX0_isWithin, Cond.code yX0_isWithin cX0_isWithin 3 (some .boolean), Cond.methodLink RX0 197 yX0_doClash, Cond.instanceMethod yX0_doClash, Cond.selects RX0 yX0_doClash yX0_doClash, Cond.code yX0_doClash cX0_doClash 3 (some .boolean), Cond.fieldLink RX0 13 "WardrobeKeeper" "colours" "[I"]
def wsX0_fitsOver_r2 : List Cond := [Cond.methodLink RX0 80 yX0_coloursClash, Cond.instanceMethod yX0_coloursClash, Cond.selects RX0 yX0_coloursClash yX0_coloursClash, Cond.code yX0_coloursClash cX0_coloursClash 3 (some .boolean), Cond.fieldLink RX0 88 "WardrobeKeeper" "clashes" "J", Cond.methodLink RX0 84 yX0_clashBit, Cond.static yX0_clashBit, Cond.code yX0_clashBit cX0_clashBit 2 (some .long)]
def wsX0_fitsOver : List Cond := .code yX0_fitsOver cX0_fitsOver 4 (some .boolean) :: ((wsX0_fitsOver_r1 ++ wsX0_fitsOver_r2) ++ wsX00)
def wsX0_canBeWorn_r1 : List Cond := [Cond.methodLink RX0 194 yX0_isCleanOfKind, Cond.instanceMethod yX0_isCleanOfKind, Cond.selects RX0 yX0_isCleanOfKind yX0_isCleanOfKind, Cond.initialized RX0, Cond.code yX0_isCleanOfKind cX0_isCleanOfKind 3 (some .boolean), Cond.fieldLink RX0 25 "WardrobeKeeper" "wearsLeft" "[I", Cond.methodLink RX0 191 yX0_isOfKind, Cond.instanceMethod yX0_isOfKind, Cond.selects RX0 yX0_isOfKind yX0_isOfKind, Cond.code yX0_isOfKind cX0_isOfKind 3 (some .boolean), Cond.fieldLink RX0 9 "WardrobeKeeper" "kinds" "[I", Cond.methodLink RX0 64 yX0_isThing, Cond.instanceMethod yX0_isThing, Cond.selects RX0 yX0_isThing yX0_isThing, Cond.code yX0_isThing cX0_isThing 2 (some .boolean), Cond.fieldLink RX0 61 "WardrobeKeeper" "owned" "I", Cond.methodLink RX0 34 yX0_isWithin, Cond.static yX0_isWithin, Cond.code yX0_isWithin cX0_isWithin 3 (some .boolean), Cond.methodLink RX0 197 yX0_doClash, Cond.instanceMethod yX0_doClash, Cond.selects RX0 yX0_doClash yX0_doClash, Cond.code yX0_doClash cX0_doClash 3 (some .boolean), Cond.fieldLink RX0 13 "WardrobeKeeper" "colours" "[I"]
def wsX0_canBeWorn_r2 : List Cond := [Cond.methodLink RX0 80 yX0_coloursClash, Cond.instanceMethod yX0_coloursClash, Cond.selects RX0 yX0_coloursClash yX0_coloursClash, Cond.code yX0_coloursClash cX0_coloursClash 3 (some .boolean), Cond.fieldLink RX0 88 "WardrobeKeeper" "clashes" "J", Cond.methodLink RX0 84 yX0_clashBit, Cond.static yX0_clashBit, Cond.code yX0_clashBit cX0_clashBit 2 (some .long), Cond.methodLink RX0 200 yX0_fitsOver, Cond.instanceMethod yX0_fitsOver, Cond.selects RX0 yX0_fitsOver yX0_fitsOver, Cond.code yX0_fitsOver cX0_fitsOver 4 (some .boolean)]
def wsX0_canBeWorn : List Cond := .code yX0_canBeWorn cX0_canBeWorn 4 (some .boolean) :: ((wsX0_canBeWorn_r1 ++ wsX0_canBeWorn_r2) ++ wsX00)
def wsX0_isPossible_r1 : List Cond := [Cond.classLink RX0 67 "java/lang/IndexOutOfBoundsException", Cond.initialized "java/lang/IndexOutOfBoundsException", Cond.classLink RX0 45 "java/lang/IllegalArgumentException", Cond.initialized "java/lang/IllegalArgumentException", Cond.methodLink RX0 94 yX0_areThings, Cond.instanceMethod yX0_areThings, Cond.selects RX0 yX0_areThings yX0_areThings, Cond.initialized RX0, Cond.code yX0_areThings cX0_areThings 4 (some .boolean), Cond.methodLink RX0 64 yX0_isThing, Cond.instanceMethod yX0_isThing, Cond.selects RX0 yX0_isThing yX0_isThing, Cond.code yX0_isThing cX0_isThing 2 (some .boolean), Cond.fieldLink RX0 61 "WardrobeKeeper" "owned" "I", Cond.methodLink RX0 34 yX0_isWithin, Cond.static yX0_isWithin, Cond.code yX0_isWithin cX0_isWithin 3 (some .boolean), Cond.methodLink RX0 97 yX0_areOfTheirKinds, Cond.instanceMethod yX0_areOfTheirKinds, Cond.selects RX0 yX0_areOfTheirKinds yX0_areOfTheirKinds, Cond.code yX0_areOfTheirKinds cX0_areOfTheirKinds 4 (some .boolean), Cond.methodLink RX0 191 yX0_isOfKind, Cond.instanceMethod yX0_isOfKind, Cond.selects RX0 yX0_isOfKind yX0_isOfKind]
def wsX0_isPossible_r2 : List Cond := [Cond.code yX0_isOfKind cX0_isOfKind 3 (some .boolean), Cond.fieldLink RX0 9 "WardrobeKeeper" "kinds" "[I", Cond.methodLink RX0 102 yX0_canBeWorn, Cond.instanceMethod yX0_canBeWorn, Cond.selects RX0 yX0_canBeWorn yX0_canBeWorn, Cond.code yX0_canBeWorn cX0_canBeWorn 4 (some .boolean), Cond.methodLink RX0 194 yX0_isCleanOfKind, Cond.instanceMethod yX0_isCleanOfKind, Cond.selects RX0 yX0_isCleanOfKind yX0_isCleanOfKind, Cond.code yX0_isCleanOfKind cX0_isCleanOfKind 3 (some .boolean), Cond.fieldLink RX0 25 "WardrobeKeeper" "wearsLeft" "[I", Cond.methodLink RX0 197 yX0_doClash, Cond.instanceMethod yX0_doClash, Cond.selects RX0 yX0_doClash yX0_doClash, Cond.code yX0_doClash cX0_doClash 3 (some .boolean), Cond.fieldLink RX0 13 "WardrobeKeeper" "colours" "[I", Cond.methodLink RX0 80 yX0_coloursClash, Cond.instanceMethod yX0_coloursClash, Cond.selects RX0 yX0_coloursClash yX0_coloursClash, Cond.code yX0_coloursClash cX0_coloursClash 3 (some .boolean), Cond.fieldLink RX0 88 "WardrobeKeeper" "clashes" "J", Cond.methodLink RX0 84 yX0_clashBit, Cond.static yX0_clashBit, Cond.code yX0_clashBit cX0_clashBit 2 (some .long)]
def wsX0_isPossible_r3 : List Cond := [Cond.methodLink RX0 200 yX0_fitsOver, Cond.instanceMethod yX0_fitsOver, Cond.selects RX0 yX0_fitsOver yX0_fitsOver, Cond.code yX0_fitsOver cX0_fitsOver 4 (some .boolean)]
def wsX0_isPossible : List Cond := .code yX0_isPossible cX0_isPossible 4 (some .boolean) :: ((wsX0_isPossible_r1 ++ (wsX0_isPossible_r2 ++ wsX0_isPossible_r3)) ++ wsX00 ++ (vx_atS RX0 71 "java/lang/IndexOutOfBoundsException" ["java/lang/RuntimeException", "java/lang/Exception"]).filter goodWord ++ (vx_atS RX0 49 "java/lang/IllegalArgumentException" ["java/lang/RuntimeException", "java/lang/Exception"]).filter goodWord)
def wsX0_arePeople : List Cond := .code yX0_arePeople cX0_arePeople 1 (some .boolean) :: ([.methodLink RX0 34 yX0_isWithin, .static yX0_isWithin, .initialized RX0, .code yX0_isWithin cX0_isWithin 3 (some .boolean)])
def wsX0_firstSeat : List Cond := .code yX0_firstSeat cX0_firstSeat 2 (some .int) :: ([])
def wsX0_wasSeenLately : List Cond := .code yX0_wasSeenLately cX0_wasSeenLately 6 (some .boolean) :: ([.fieldLink RX0 162 "WardrobeKeeper" "today" "I", .fieldLink RX0 28 "WardrobeKeeper" "freeFrom" "[I", .methodLink RX0 64 yX0_isThing, .instanceMethod yX0_isThing, .selects RX0 yX0_isThing yX0_isThing, .initialized RX0, .code yX0_isThing cX0_isThing 2 (some .boolean), .fieldLink RX0 61 "WardrobeKeeper" "owned" "I", .methodLink RX0 34 yX0_isWithin, .static yX0_isWithin, .code yX0_isWithin cX0_isWithin 3 (some .boolean), .methodLink RX0 206 yX0_firstSeat, .static yX0_firstSeat, .code yX0_firstSeat cX0_firstSeat 2 (some .int)] ++ wsX00)
def wsX0_isTooSoon_r1 : List Cond := [Cond.classLink RX0 67 "java/lang/IndexOutOfBoundsException", Cond.initialized "java/lang/IndexOutOfBoundsException", Cond.classLink RX0 45 "java/lang/IllegalArgumentException", Cond.initialized "java/lang/IllegalArgumentException", Cond.methodLink RX0 94 yX0_areThings, Cond.instanceMethod yX0_areThings, Cond.selects RX0 yX0_areThings yX0_areThings, Cond.initialized RX0, Cond.code yX0_areThings cX0_areThings 4 (some .boolean), Cond.methodLink RX0 64 yX0_isThing, Cond.instanceMethod yX0_isThing, Cond.selects RX0 yX0_isThing yX0_isThing, Cond.code yX0_isThing cX0_isThing 2 (some .boolean), Cond.fieldLink RX0 61 "WardrobeKeeper" "owned" "I", Cond.methodLink RX0 34 yX0_isWithin, Cond.static yX0_isWithin, Cond.code yX0_isWithin cX0_isWithin 3 (some .boolean), Cond.methodLink RX0 97 yX0_areOfTheirKinds, Cond.instanceMethod yX0_areOfTheirKinds, Cond.selects RX0 yX0_areOfTheirKinds yX0_areOfTheirKinds, Cond.code yX0_areOfTheirKinds cX0_areOfTheirKinds 4 (some .boolean), Cond.methodLink RX0 191 yX0_isOfKind, Cond.instanceMethod yX0_isOfKind, Cond.selects RX0 yX0_isOfKind yX0_isOfKind]
def wsX0_isTooSoon_r2 : List Cond := [Cond.code yX0_isOfKind cX0_isOfKind 3 (some .boolean), Cond.fieldLink RX0 9 "WardrobeKeeper" "kinds" "[I", Cond.methodLink RX0 105 yX0_arePeople, Cond.static yX0_arePeople, Cond.code yX0_arePeople cX0_arePeople 1 (some .boolean), Cond.methodLink RX0 110 yX0_wasSeenLately, Cond.instanceMethod yX0_wasSeenLately, Cond.selects RX0 yX0_wasSeenLately yX0_wasSeenLately, Cond.code yX0_wasSeenLately cX0_wasSeenLately 6 (some .boolean), Cond.fieldLink RX0 162 "WardrobeKeeper" "today" "I", Cond.fieldLink RX0 28 "WardrobeKeeper" "freeFrom" "[I", Cond.methodLink RX0 206 yX0_firstSeat, Cond.static yX0_firstSeat, Cond.code yX0_firstSeat cX0_firstSeat 2 (some .int)]
def wsX0_isTooSoon : List Cond := .code yX0_isTooSoon cX0_isTooSoon 4 (some .boolean) :: ((wsX0_isTooSoon_r1 ++ wsX0_isTooSoon_r2) ++ wsX00 ++ (vx_atS RX0 71 "java/lang/IndexOutOfBoundsException" ["java/lang/RuntimeException", "java/lang/Exception"]).filter goodWord ++ (vx_atS RX0 49 "java/lang/IllegalArgumentException" ["java/lang/RuntimeException", "java/lang/Exception"]).filter goodWord)
def wsX0_wearsLeftOf : List Cond := .code yX0_wearsLeftOf cX0_wearsLeftOf 2 (some .int) :: ([.fieldLink RX0 25 "WardrobeKeeper" "wearsLeft" "[I", .methodLink RX0 64 yX0_isThing, .instanceMethod yX0_isThing, .selects RX0 yX0_isThing yX0_isThing, .initialized RX0, .code yX0_isThing cX0_isThing 2 (some .boolean), .fieldLink RX0 61 "WardrobeKeeper" "owned" "I", .methodLink RX0 34 yX0_isWithin, .static yX0_isWithin, .code yX0_isWithin cX0_isWithin 3 (some .boolean)] ++ wsX00)
def wsX0_wearOnce : List Cond := .code yX0_wearOnce cX0_wearOnce 2 none :: ([.fieldLink RX0 25 "WardrobeKeeper" "wearsLeft" "[I", .methodLink RX0 150 yX0_wearsLeftOf, .instanceMethod yX0_wearsLeftOf, .selects RX0 yX0_wearsLeftOf yX0_wearsLeftOf, .initialized RX0, .code yX0_wearsLeftOf cX0_wearsLeftOf 2 (some .int), .methodLink RX0 64 yX0_isThing, .instanceMethod yX0_isThing, .selects RX0 yX0_isThing yX0_isThing, .code yX0_isThing cX0_isThing 2 (some .boolean), .fieldLink RX0 61 "WardrobeKeeper" "owned" "I", .methodLink RX0 34 yX0_isWithin, .static yX0_isWithin, .code yX0_isWithin cX0_isWithin 3 (some .boolean)] ++ wsX00)
def wsX0_showTo : List Cond := .code yX0_showTo cX0_showTo 6 none :: ([.fieldLink RX0 28 "WardrobeKeeper" "freeFrom" "[I", .fieldLink RX0 162 "WardrobeKeeper" "today" "I", .methodLink RX0 64 yX0_isThing, .instanceMethod yX0_isThing, .selects RX0 yX0_isThing yX0_isThing, .initialized RX0, .code yX0_isThing cX0_isThing 2 (some .boolean), .fieldLink RX0 61 "WardrobeKeeper" "owned" "I", .methodLink RX0 34 yX0_isWithin, .static yX0_isWithin, .code yX0_isWithin cX0_isWithin 3 (some .boolean), .methodLink RX0 206 yX0_firstSeat, .static yX0_firstSeat, .code yX0_firstSeat cX0_firstSeat 2 (some .int)] ++ wsX00)
def wsX0_warmthOf : List Cond := .code yX0_warmthOf cX0_warmthOf 2 (some .int) :: ([.fieldLink RX0 16 "WardrobeKeeper" "warmths" "[I", .methodLink RX0 64 yX0_isThing, .instanceMethod yX0_isThing, .selects RX0 yX0_isThing yX0_isThing, .initialized RX0, .code yX0_isThing cX0_isThing 2 (some .boolean), .fieldLink RX0 61 "WardrobeKeeper" "owned" "I", .methodLink RX0 34 yX0_isWithin, .static yX0_isWithin, .code yX0_isWithin cX0_isWithin 3 (some .boolean)] ++ wsX00)
def wsX0_outfitWarmth : List Cond := .code yX0_outfitWarmth cX0_outfitWarmth 4 (some .int) :: ([.methodLink RX0 203 yX0_warmthOf, .instanceMethod yX0_warmthOf, .selects RX0 yX0_warmthOf yX0_warmthOf, .initialized RX0, .code yX0_warmthOf cX0_warmthOf 2 (some .int), .fieldLink RX0 16 "WardrobeKeeper" "warmths" "[I", .methodLink RX0 64 yX0_isThing, .instanceMethod yX0_isThing, .selects RX0 yX0_isThing yX0_isThing, .code yX0_isThing cX0_isThing 2 (some .boolean), .fieldLink RX0 61 "WardrobeKeeper" "owned" "I", .methodLink RX0 34 yX0_isWithin, .static yX0_isWithin, .code yX0_isWithin cX0_isWithin 3 (some .boolean)] ++ wsX00)
def wsX0_wear_r1 : List Cond := [Cond.classLink RX0 67 "java/lang/IndexOutOfBoundsException", Cond.initialized "java/lang/IndexOutOfBoundsException", Cond.classLink RX0 45 "java/lang/IllegalArgumentException", Cond.initialized "java/lang/IllegalArgumentException", Cond.classLink RX0 56 "java/lang/IllegalStateException", Cond.initialized "java/lang/IllegalStateException", Cond.methodLink RX0 94 yX0_areThings, Cond.instanceMethod yX0_areThings, Cond.selects RX0 yX0_areThings yX0_areThings, Cond.initialized RX0, Cond.code yX0_areThings cX0_areThings 4 (some .boolean), Cond.methodLink RX0 64 yX0_isThing, Cond.instanceMethod yX0_isThing, Cond.selects RX0 yX0_isThing yX0_isThing, Cond.code yX0_isThing cX0_isThing 2 (some .boolean), Cond.fieldLink RX0 61 "WardrobeKeeper" "owned" "I", Cond.methodLink RX0 34 yX0_isWithin, Cond.static yX0_isWithin, Cond.code yX0_isWithin cX0_isWithin 3 (some .boolean), Cond.methodLink RX0 97 yX0_areOfTheirKinds, Cond.instanceMethod yX0_areOfTheirKinds, Cond.selects RX0 yX0_areOfTheirKinds yX0_areOfTheirKinds, Cond.code yX0_areOfTheirKinds cX0_areOfTheirKinds 4 (some .boolean), Cond.methodLink RX0 191 yX0_isOfKind]
def wsX0_wear_r2 : List Cond := [Cond.instanceMethod yX0_isOfKind, Cond.selects RX0 yX0_isOfKind yX0_isOfKind, Cond.code yX0_isOfKind cX0_isOfKind 3 (some .boolean), Cond.fieldLink RX0 9 "WardrobeKeeper" "kinds" "[I", Cond.methodLink RX0 105 yX0_arePeople, Cond.static yX0_arePeople, Cond.code yX0_arePeople cX0_arePeople 1 (some .boolean), Cond.methodLink RX0 102 yX0_canBeWorn, Cond.instanceMethod yX0_canBeWorn, Cond.selects RX0 yX0_canBeWorn yX0_canBeWorn, Cond.code yX0_canBeWorn cX0_canBeWorn 4 (some .boolean), Cond.methodLink RX0 194 yX0_isCleanOfKind, Cond.instanceMethod yX0_isCleanOfKind, Cond.selects RX0 yX0_isCleanOfKind yX0_isCleanOfKind, Cond.code yX0_isCleanOfKind cX0_isCleanOfKind 3 (some .boolean), Cond.fieldLink RX0 25 "WardrobeKeeper" "wearsLeft" "[I", Cond.methodLink RX0 197 yX0_doClash, Cond.instanceMethod yX0_doClash, Cond.selects RX0 yX0_doClash yX0_doClash, Cond.code yX0_doClash cX0_doClash 3 (some .boolean), Cond.fieldLink RX0 13 "WardrobeKeeper" "colours" "[I", Cond.methodLink RX0 80 yX0_coloursClash, Cond.instanceMethod yX0_coloursClash, Cond.selects RX0 yX0_coloursClash yX0_coloursClash]
def wsX0_wear_r3 : List Cond := [Cond.code yX0_coloursClash cX0_coloursClash 3 (some .boolean), Cond.fieldLink RX0 88 "WardrobeKeeper" "clashes" "J", Cond.methodLink RX0 84 yX0_clashBit, Cond.static yX0_clashBit, Cond.code yX0_clashBit cX0_clashBit 2 (some .long), Cond.methodLink RX0 200 yX0_fitsOver, Cond.instanceMethod yX0_fitsOver, Cond.selects RX0 yX0_fitsOver yX0_fitsOver, Cond.code yX0_fitsOver cX0_fitsOver 4 (some .boolean), Cond.methodLink RX0 110 yX0_wasSeenLately, Cond.instanceMethod yX0_wasSeenLately, Cond.selects RX0 yX0_wasSeenLately yX0_wasSeenLately, Cond.code yX0_wasSeenLately cX0_wasSeenLately 6 (some .boolean), Cond.fieldLink RX0 162 "WardrobeKeeper" "today" "I", Cond.fieldLink RX0 28 "WardrobeKeeper" "freeFrom" "[I", Cond.methodLink RX0 206 yX0_firstSeat, Cond.static yX0_firstSeat, Cond.code yX0_firstSeat cX0_firstSeat 2 (some .int), Cond.methodLink RX0 115 yX0_wearOnce, Cond.instanceMethod yX0_wearOnce, Cond.selects RX0 yX0_wearOnce yX0_wearOnce, Cond.code yX0_wearOnce cX0_wearOnce 2 none, Cond.methodLink RX0 150 yX0_wearsLeftOf, Cond.instanceMethod yX0_wearsLeftOf]
def wsX0_wear_r4 : List Cond := [Cond.selects RX0 yX0_wearsLeftOf yX0_wearsLeftOf, Cond.code yX0_wearsLeftOf cX0_wearsLeftOf 2 (some .int), Cond.methodLink RX0 119 yX0_showTo, Cond.instanceMethod yX0_showTo, Cond.selects RX0 yX0_showTo yX0_showTo, Cond.code yX0_showTo cX0_showTo 6 none, Cond.methodLink RX0 123 yX0_outfitWarmth, Cond.instanceMethod yX0_outfitWarmth, Cond.selects RX0 yX0_outfitWarmth yX0_outfitWarmth, Cond.code yX0_outfitWarmth cX0_outfitWarmth 4 (some .int), Cond.methodLink RX0 203 yX0_warmthOf, Cond.instanceMethod yX0_warmthOf, Cond.selects RX0 yX0_warmthOf yX0_warmthOf, Cond.code yX0_warmthOf cX0_warmthOf 2 (some .int), Cond.fieldLink RX0 16 "WardrobeKeeper" "warmths" "[I"]
def wsX0_wear : List Cond := .code yX0_wear cX0_wear 5 (some .int) :: ((wsX0_wear_r1 ++ (wsX0_wear_r2 ++ (wsX0_wear_r3 ++ wsX0_wear_r4))) ++ wsX00 ++ (vx_atS RX0 71 "java/lang/IndexOutOfBoundsException" ["java/lang/RuntimeException", "java/lang/Exception"]).filter goodWord ++ (vx_atS RX0 49 "java/lang/IllegalArgumentException" ["java/lang/RuntimeException", "java/lang/Exception"]).filter goodWord ++ (vx_atS RX0 60 "java/lang/IllegalStateException" ["java/lang/RuntimeException", "java/lang/Exception"]).filter goodWord)
def wsX0_isOutfitWarmth : List Cond := .code yX0_isOutfitWarmth cX0_isOutfitWarmth 1 (some .boolean) :: ([.methodLink RX0 34 yX0_isWithin, .static yX0_isWithin, .initialized RX0, .code yX0_isWithin cX0_isWithin 3 (some .boolean)])
def wsX0_isWarmOutfit_r1 : List Cond := [Cond.methodLink RX0 123 yX0_outfitWarmth, Cond.instanceMethod yX0_outfitWarmth, Cond.selects RX0 yX0_outfitWarmth yX0_outfitWarmth, Cond.initialized RX0, Cond.code yX0_outfitWarmth cX0_outfitWarmth 4 (some .int), Cond.methodLink RX0 203 yX0_warmthOf, Cond.instanceMethod yX0_warmthOf, Cond.selects RX0 yX0_warmthOf yX0_warmthOf, Cond.code yX0_warmthOf cX0_warmthOf 2 (some .int), Cond.fieldLink RX0 16 "WardrobeKeeper" "warmths" "[I", Cond.methodLink RX0 64 yX0_isThing, Cond.instanceMethod yX0_isThing, Cond.selects RX0 yX0_isThing yX0_isThing, Cond.code yX0_isThing cX0_isThing 2 (some .boolean), Cond.fieldLink RX0 61 "WardrobeKeeper" "owned" "I", Cond.methodLink RX0 34 yX0_isWithin, Cond.static yX0_isWithin, Cond.code yX0_isWithin cX0_isWithin 3 (some .boolean), Cond.methodLink RX0 102 yX0_canBeWorn, Cond.instanceMethod yX0_canBeWorn, Cond.selects RX0 yX0_canBeWorn yX0_canBeWorn, Cond.code yX0_canBeWorn cX0_canBeWorn 4 (some .boolean), Cond.methodLink RX0 194 yX0_isCleanOfKind, Cond.instanceMethod yX0_isCleanOfKind]
def wsX0_isWarmOutfit_r2 : List Cond := [Cond.selects RX0 yX0_isCleanOfKind yX0_isCleanOfKind, Cond.code yX0_isCleanOfKind cX0_isCleanOfKind 3 (some .boolean), Cond.fieldLink RX0 25 "WardrobeKeeper" "wearsLeft" "[I", Cond.methodLink RX0 191 yX0_isOfKind, Cond.instanceMethod yX0_isOfKind, Cond.selects RX0 yX0_isOfKind yX0_isOfKind, Cond.code yX0_isOfKind cX0_isOfKind 3 (some .boolean), Cond.fieldLink RX0 9 "WardrobeKeeper" "kinds" "[I", Cond.methodLink RX0 197 yX0_doClash, Cond.instanceMethod yX0_doClash, Cond.selects RX0 yX0_doClash yX0_doClash, Cond.code yX0_doClash cX0_doClash 3 (some .boolean), Cond.fieldLink RX0 13 "WardrobeKeeper" "colours" "[I", Cond.methodLink RX0 80 yX0_coloursClash, Cond.instanceMethod yX0_coloursClash, Cond.selects RX0 yX0_coloursClash yX0_coloursClash, Cond.code yX0_coloursClash cX0_coloursClash 3 (some .boolean), Cond.fieldLink RX0 88 "WardrobeKeeper" "clashes" "J", Cond.methodLink RX0 84 yX0_clashBit, Cond.static yX0_clashBit, Cond.code yX0_clashBit cX0_clashBit 2 (some .long), Cond.methodLink RX0 200 yX0_fitsOver, Cond.instanceMethod yX0_fitsOver, Cond.selects RX0 yX0_fitsOver yX0_fitsOver]
def wsX0_isWarmOutfit_r3 : List Cond := [Cond.code yX0_fitsOver cX0_fitsOver 4 (some .boolean)]
def wsX0_isWarmOutfit : List Cond := .code yX0_isWarmOutfit cX0_isWarmOutfit 5 (some .boolean) :: ((wsX0_isWarmOutfit_r1 ++ (wsX0_isWarmOutfit_r2 ++ wsX0_isWarmOutfit_r3)) ++ wsX00)
def wsX0_countOutfitsOf_r1 : List Cond := [Cond.fieldLink RX0 52 "WardrobeKeeper" "added" "I", Cond.methodLink RX0 102 yX0_canBeWorn, Cond.instanceMethod yX0_canBeWorn, Cond.selects RX0 yX0_canBeWorn yX0_canBeWorn, Cond.initialized RX0, Cond.code yX0_canBeWorn cX0_canBeWorn 4 (some .boolean), Cond.methodLink RX0 194 yX0_isCleanOfKind, Cond.instanceMethod yX0_isCleanOfKind, Cond.selects RX0 yX0_isCleanOfKind yX0_isCleanOfKind, Cond.code yX0_isCleanOfKind cX0_isCleanOfKind 3 (some .boolean), Cond.fieldLink RX0 25 "WardrobeKeeper" "wearsLeft" "[I", Cond.methodLink RX0 191 yX0_isOfKind, Cond.instanceMethod yX0_isOfKind, Cond.selects RX0 yX0_isOfKind yX0_isOfKind, Cond.code yX0_isOfKind cX0_isOfKind 3 (some .boolean), Cond.fieldLink RX0 9 "WardrobeKeeper" "kinds" "[I", Cond.methodLink RX0 64 yX0_isThing, Cond.instanceMethod yX0_isThing, Cond.selects RX0 yX0_isThing yX0_isThing, Cond.code yX0_isThing cX0_isThing 2 (some .boolean), Cond.fieldLink RX0 61 "WardrobeKeeper" "owned" "I", Cond.methodLink RX0 34 yX0_isWithin, Cond.static yX0_isWithin, Cond.code yX0_isWithin cX0_isWithin 3 (some .boolean)]
def wsX0_countOutfitsOf_r2 : List Cond := [Cond.methodLink RX0 197 yX0_doClash, Cond.instanceMethod yX0_doClash, Cond.selects RX0 yX0_doClash yX0_doClash, Cond.code yX0_doClash cX0_doClash 3 (some .boolean), Cond.fieldLink RX0 13 "WardrobeKeeper" "colours" "[I", Cond.methodLink RX0 80 yX0_coloursClash, Cond.instanceMethod yX0_coloursClash, Cond.selects RX0 yX0_coloursClash yX0_coloursClash, Cond.code yX0_coloursClash cX0_coloursClash 3 (some .boolean), Cond.fieldLink RX0 88 "WardrobeKeeper" "clashes" "J", Cond.methodLink RX0 84 yX0_clashBit, Cond.static yX0_clashBit, Cond.code yX0_clashBit cX0_clashBit 2 (some .long), Cond.methodLink RX0 200 yX0_fitsOver, Cond.instanceMethod yX0_fitsOver, Cond.selects RX0 yX0_fitsOver yX0_fitsOver, Cond.code yX0_fitsOver cX0_fitsOver 4 (some .boolean), Cond.methodLink RX0 135 yX0_isWarmOutfit, Cond.instanceMethod yX0_isWarmOutfit, Cond.selects RX0 yX0_isWarmOutfit yX0_isWarmOutfit, Cond.code yX0_isWarmOutfit cX0_isWarmOutfit 5 (some .boolean), Cond.methodLink RX0 123 yX0_outfitWarmth, Cond.instanceMethod yX0_outfitWarmth, Cond.selects RX0 yX0_outfitWarmth yX0_outfitWarmth]
def wsX0_countOutfitsOf_r3 : List Cond := [Cond.code yX0_outfitWarmth cX0_outfitWarmth 4 (some .int), Cond.methodLink RX0 203 yX0_warmthOf, Cond.instanceMethod yX0_warmthOf, Cond.selects RX0 yX0_warmthOf yX0_warmthOf, Cond.code yX0_warmthOf cX0_warmthOf 2 (some .int), Cond.fieldLink RX0 16 "WardrobeKeeper" "warmths" "[I"]
def wsX0_countOutfitsOf : List Cond := .code yX0_countOutfitsOf cX0_countOutfitsOf 6 (some .int) :: ((wsX0_countOutfitsOf_r1 ++ (wsX0_countOutfitsOf_r2 ++ wsX0_countOutfitsOf_r3)) ++ wsX00)
def wsX0_outfits_r1 : List Cond := [Cond.classLink RX0 45 "java/lang/IllegalArgumentException", Cond.initialized "java/lang/IllegalArgumentException", Cond.fieldLink RX0 52 "WardrobeKeeper" "added" "I", Cond.methodLink RX0 127 yX0_isOutfitWarmth, Cond.static yX0_isOutfitWarmth, Cond.initialized RX0, Cond.code yX0_isOutfitWarmth cX0_isOutfitWarmth 1 (some .boolean), Cond.methodLink RX0 34 yX0_isWithin, Cond.static yX0_isWithin, Cond.code yX0_isWithin cX0_isWithin 3 (some .boolean), Cond.methodLink RX0 132 yX0_countOutfitsOf, Cond.instanceMethod yX0_countOutfitsOf, Cond.selects RX0 yX0_countOutfitsOf yX0_countOutfitsOf, Cond.code yX0_countOutfitsOf cX0_countOutfitsOf 6 (some .int), Cond.methodLink RX0 102 yX0_canBeWorn, Cond.instanceMethod yX0_canBeWorn, Cond.selects RX0 yX0_canBeWorn yX0_canBeWorn, Cond.code yX0_canBeWorn cX0_canBeWorn 4 (some .boolean), Cond.methodLink RX0 194 yX0_isCleanOfKind, Cond.instanceMethod yX0_isCleanOfKind, Cond.selects RX0 yX0_isCleanOfKind yX0_isCleanOfKind, Cond.code yX0_isCleanOfKind cX0_isCleanOfKind 3 (some .boolean), Cond.fieldLink RX0 25 "WardrobeKeeper" "wearsLeft" "[I", Cond.methodLink RX0 191 yX0_isOfKind]
def wsX0_outfits_r2 : List Cond := [Cond.instanceMethod yX0_isOfKind, Cond.selects RX0 yX0_isOfKind yX0_isOfKind, Cond.code yX0_isOfKind cX0_isOfKind 3 (some .boolean), Cond.fieldLink RX0 9 "WardrobeKeeper" "kinds" "[I", Cond.methodLink RX0 64 yX0_isThing, Cond.instanceMethod yX0_isThing, Cond.selects RX0 yX0_isThing yX0_isThing, Cond.code yX0_isThing cX0_isThing 2 (some .boolean), Cond.fieldLink RX0 61 "WardrobeKeeper" "owned" "I", Cond.methodLink RX0 197 yX0_doClash, Cond.instanceMethod yX0_doClash, Cond.selects RX0 yX0_doClash yX0_doClash, Cond.code yX0_doClash cX0_doClash 3 (some .boolean), Cond.fieldLink RX0 13 "WardrobeKeeper" "colours" "[I", Cond.methodLink RX0 80 yX0_coloursClash, Cond.instanceMethod yX0_coloursClash, Cond.selects RX0 yX0_coloursClash yX0_coloursClash, Cond.code yX0_coloursClash cX0_coloursClash 3 (some .boolean), Cond.fieldLink RX0 88 "WardrobeKeeper" "clashes" "J", Cond.methodLink RX0 84 yX0_clashBit, Cond.static yX0_clashBit, Cond.code yX0_clashBit cX0_clashBit 2 (some .long), Cond.methodLink RX0 200 yX0_fitsOver, Cond.instanceMethod yX0_fitsOver]
def wsX0_outfits_r3 : List Cond := [Cond.selects RX0 yX0_fitsOver yX0_fitsOver, Cond.code yX0_fitsOver cX0_fitsOver 4 (some .boolean), Cond.methodLink RX0 135 yX0_isWarmOutfit, Cond.instanceMethod yX0_isWarmOutfit, Cond.selects RX0 yX0_isWarmOutfit yX0_isWarmOutfit, Cond.code yX0_isWarmOutfit cX0_isWarmOutfit 5 (some .boolean), Cond.methodLink RX0 123 yX0_outfitWarmth, Cond.instanceMethod yX0_outfitWarmth, Cond.selects RX0 yX0_outfitWarmth yX0_outfitWarmth, Cond.code yX0_outfitWarmth cX0_outfitWarmth 4 (some .int), Cond.methodLink RX0 203 yX0_warmthOf, Cond.instanceMethod yX0_warmthOf, Cond.selects RX0 yX0_warmthOf yX0_warmthOf, Cond.code yX0_warmthOf cX0_warmthOf 2 (some .int), Cond.fieldLink RX0 16 "WardrobeKeeper" "warmths" "[I"]
def wsX0_outfits : List Cond := .code yX0_outfits cX0_outfits 5 (some .int) :: ((wsX0_outfits_r1 ++ (wsX0_outfits_r2 ++ wsX0_outfits_r3)) ++ wsX00 ++ (vx_atS RX0 49 "java/lang/IllegalArgumentException" ["java/lang/RuntimeException", "java/lang/Exception"]).filter goodWord)
def wsX0_adds_r1 : List Cond := [Cond.classLink RX0 67 "java/lang/IndexOutOfBoundsException", Cond.initialized "java/lang/IndexOutOfBoundsException", Cond.classLink RX0 45 "java/lang/IllegalArgumentException", Cond.initialized "java/lang/IllegalArgumentException", Cond.fieldLink RX0 52 "WardrobeKeeper" "added" "I", Cond.methodLink RX0 64 yX0_isThing, Cond.instanceMethod yX0_isThing, Cond.selects RX0 yX0_isThing yX0_isThing, Cond.initialized RX0, Cond.code yX0_isThing cX0_isThing 2 (some .boolean), Cond.fieldLink RX0 61 "WardrobeKeeper" "owned" "I", Cond.methodLink RX0 34 yX0_isWithin, Cond.static yX0_isWithin, Cond.code yX0_isWithin cX0_isWithin 3 (some .boolean), Cond.methodLink RX0 127 yX0_isOutfitWarmth, Cond.static yX0_isOutfitWarmth, Cond.code yX0_isOutfitWarmth cX0_isOutfitWarmth 1 (some .boolean), Cond.methodLink RX0 132 yX0_countOutfitsOf, Cond.instanceMethod yX0_countOutfitsOf, Cond.selects RX0 yX0_countOutfitsOf yX0_countOutfitsOf, Cond.code yX0_countOutfitsOf cX0_countOutfitsOf 6 (some .int), Cond.methodLink RX0 102 yX0_canBeWorn, Cond.instanceMethod yX0_canBeWorn, Cond.selects RX0 yX0_canBeWorn yX0_canBeWorn]
def wsX0_adds_r2 : List Cond := [Cond.code yX0_canBeWorn cX0_canBeWorn 4 (some .boolean), Cond.methodLink RX0 194 yX0_isCleanOfKind, Cond.instanceMethod yX0_isCleanOfKind, Cond.selects RX0 yX0_isCleanOfKind yX0_isCleanOfKind, Cond.code yX0_isCleanOfKind cX0_isCleanOfKind 3 (some .boolean), Cond.fieldLink RX0 25 "WardrobeKeeper" "wearsLeft" "[I", Cond.methodLink RX0 191 yX0_isOfKind, Cond.instanceMethod yX0_isOfKind, Cond.selects RX0 yX0_isOfKind yX0_isOfKind, Cond.code yX0_isOfKind cX0_isOfKind 3 (some .boolean), Cond.fieldLink RX0 9 "WardrobeKeeper" "kinds" "[I", Cond.methodLink RX0 197 yX0_doClash, Cond.instanceMethod yX0_doClash, Cond.selects RX0 yX0_doClash yX0_doClash, Cond.code yX0_doClash cX0_doClash 3 (some .boolean), Cond.fieldLink RX0 13 "WardrobeKeeper" "colours" "[I", Cond.methodLink RX0 80 yX0_coloursClash, Cond.instanceMethod yX0_coloursClash, Cond.selects RX0 yX0_coloursClash yX0_coloursClash, Cond.code yX0_coloursClash cX0_coloursClash 3 (some .boolean), Cond.fieldLink RX0 88 "WardrobeKeeper" "clashes" "J", Cond.methodLink RX0 84 yX0_clashBit, Cond.static yX0_clashBit, Cond.code yX0_clashBit cX0_clashBit 2 (some .long)]
def wsX0_adds_r3 : List Cond := [Cond.methodLink RX0 200 yX0_fitsOver, Cond.instanceMethod yX0_fitsOver, Cond.selects RX0 yX0_fitsOver yX0_fitsOver, Cond.code yX0_fitsOver cX0_fitsOver 4 (some .boolean), Cond.methodLink RX0 135 yX0_isWarmOutfit, Cond.instanceMethod yX0_isWarmOutfit, Cond.selects RX0 yX0_isWarmOutfit yX0_isWarmOutfit, Cond.code yX0_isWarmOutfit cX0_isWarmOutfit 5 (some .boolean), Cond.methodLink RX0 123 yX0_outfitWarmth, Cond.instanceMethod yX0_outfitWarmth, Cond.selects RX0 yX0_outfitWarmth yX0_outfitWarmth, Cond.code yX0_outfitWarmth cX0_outfitWarmth 4 (some .int), Cond.methodLink RX0 203 yX0_warmthOf, Cond.instanceMethod yX0_warmthOf, Cond.selects RX0 yX0_warmthOf yX0_warmthOf, Cond.code yX0_warmthOf cX0_warmthOf 2 (some .int), Cond.fieldLink RX0 16 "WardrobeKeeper" "warmths" "[I"]
def wsX0_adds : List Cond := .code yX0_adds cX0_adds 6 (some .int) :: ((wsX0_adds_r1 ++ (wsX0_adds_r2 ++ wsX0_adds_r3)) ++ wsX00 ++ (vx_atS RX0 71 "java/lang/IndexOutOfBoundsException" ["java/lang/RuntimeException", "java/lang/Exception"]).filter goodWord ++ (vx_atS RX0 49 "java/lang/IllegalArgumentException" ["java/lang/RuntimeException", "java/lang/Exception"]).filter goodWord)
def wsX0_countBottomsFor_r1 : List Cond := [Cond.fieldLink RX0 52 "WardrobeKeeper" "added" "I", Cond.fieldLink RX0 13 "WardrobeKeeper" "colours" "[I", Cond.methodLink RX0 194 yX0_isCleanOfKind, Cond.instanceMethod yX0_isCleanOfKind, Cond.selects RX0 yX0_isCleanOfKind yX0_isCleanOfKind, Cond.initialized RX0, Cond.code yX0_isCleanOfKind cX0_isCleanOfKind 3 (some .boolean), Cond.fieldLink RX0 25 "WardrobeKeeper" "wearsLeft" "[I", Cond.methodLink RX0 191 yX0_isOfKind, Cond.instanceMethod yX0_isOfKind, Cond.selects RX0 yX0_isOfKind yX0_isOfKind, Cond.code yX0_isOfKind cX0_isOfKind 3 (some .boolean), Cond.fieldLink RX0 9 "WardrobeKeeper" "kinds" "[I", Cond.methodLink RX0 64 yX0_isThing, Cond.instanceMethod yX0_isThing, Cond.selects RX0 yX0_isThing yX0_isThing, Cond.code yX0_isThing cX0_isThing 2 (some .boolean), Cond.fieldLink RX0 61 "WardrobeKeeper" "owned" "I", Cond.methodLink RX0 34 yX0_isWithin, Cond.static yX0_isWithin, Cond.code yX0_isWithin cX0_isWithin 3 (some .boolean), Cond.methodLink RX0 80 yX0_coloursClash, Cond.instanceMethod yX0_coloursClash, Cond.selects RX0 yX0_coloursClash yX0_coloursClash]
def wsX0_countBottomsFor_r2 : List Cond := [Cond.code yX0_coloursClash cX0_coloursClash 3 (some .boolean), Cond.fieldLink RX0 88 "WardrobeKeeper" "clashes" "J", Cond.methodLink RX0 84 yX0_clashBit, Cond.static yX0_clashBit, Cond.code yX0_clashBit cX0_clashBit 2 (some .long)]
def wsX0_countBottomsFor : List Cond := .code yX0_countBottomsFor cX0_countBottomsFor 4 (some .int) :: ((wsX0_countBottomsFor_r1 ++ wsX0_countBottomsFor_r2) ++ wsX00)
def wsX0_missingTop_r1 : List Cond := [Cond.methodLink RX0 139 yX0_countBottomsFor, Cond.instanceMethod yX0_countBottomsFor, Cond.selects RX0 yX0_countBottomsFor yX0_countBottomsFor, Cond.initialized RX0, Cond.code yX0_countBottomsFor cX0_countBottomsFor 4 (some .int), Cond.fieldLink RX0 52 "WardrobeKeeper" "added" "I", Cond.fieldLink RX0 13 "WardrobeKeeper" "colours" "[I", Cond.methodLink RX0 194 yX0_isCleanOfKind, Cond.instanceMethod yX0_isCleanOfKind, Cond.selects RX0 yX0_isCleanOfKind yX0_isCleanOfKind, Cond.code yX0_isCleanOfKind cX0_isCleanOfKind 3 (some .boolean), Cond.fieldLink RX0 25 "WardrobeKeeper" "wearsLeft" "[I", Cond.methodLink RX0 191 yX0_isOfKind, Cond.instanceMethod yX0_isOfKind, Cond.selects RX0 yX0_isOfKind yX0_isOfKind, Cond.code yX0_isOfKind cX0_isOfKind 3 (some .boolean), Cond.fieldLink RX0 9 "WardrobeKeeper" "kinds" "[I", Cond.methodLink RX0 64 yX0_isThing, Cond.instanceMethod yX0_isThing, Cond.selects RX0 yX0_isThing yX0_isThing, Cond.code yX0_isThing cX0_isThing 2 (some .boolean), Cond.fieldLink RX0 61 "WardrobeKeeper" "owned" "I", Cond.methodLink RX0 34 yX0_isWithin, Cond.static yX0_isWithin]
def wsX0_missingTop_r2 : List Cond := [Cond.code yX0_isWithin cX0_isWithin 3 (some .boolean), Cond.methodLink RX0 80 yX0_coloursClash, Cond.instanceMethod yX0_coloursClash, Cond.selects RX0 yX0_coloursClash yX0_coloursClash, Cond.code yX0_coloursClash cX0_coloursClash 3 (some .boolean), Cond.fieldLink RX0 88 "WardrobeKeeper" "clashes" "J", Cond.methodLink RX0 84 yX0_clashBit, Cond.static yX0_clashBit, Cond.code yX0_clashBit cX0_clashBit 2 (some .long)]
def wsX0_missingTop : List Cond := .code yX0_missingTop cX0_missingTop 5 (some .int) :: ((wsX0_missingTop_r1 ++ wsX0_missingTop_r2) ++ wsX00)
def wsX0_outfitFor_r1 : List Cond := [Cond.classLink RX0 45 "java/lang/IllegalArgumentException", Cond.initialized "java/lang/IllegalArgumentException", Cond.fieldLink RX0 52 "WardrobeKeeper" "added" "I", Cond.methodLink RX0 127 yX0_isOutfitWarmth, Cond.static yX0_isOutfitWarmth, Cond.initialized RX0, Cond.code yX0_isOutfitWarmth cX0_isOutfitWarmth 1 (some .boolean), Cond.methodLink RX0 34 yX0_isWithin, Cond.static yX0_isWithin, Cond.code yX0_isWithin cX0_isWithin 3 (some .boolean), Cond.methodLink RX0 105 yX0_arePeople, Cond.static yX0_arePeople, Cond.code yX0_arePeople cX0_arePeople 1 (some .boolean), Cond.methodLink RX0 102 yX0_canBeWorn, Cond.instanceMethod yX0_canBeWorn, Cond.selects RX0 yX0_canBeWorn yX0_canBeWorn, Cond.code yX0_canBeWorn cX0_canBeWorn 4 (some .boolean), Cond.methodLink RX0 194 yX0_isCleanOfKind, Cond.instanceMethod yX0_isCleanOfKind, Cond.selects RX0 yX0_isCleanOfKind yX0_isCleanOfKind, Cond.code yX0_isCleanOfKind cX0_isCleanOfKind 3 (some .boolean), Cond.fieldLink RX0 25 "WardrobeKeeper" "wearsLeft" "[I", Cond.methodLink RX0 191 yX0_isOfKind, Cond.instanceMethod yX0_isOfKind]
def wsX0_outfitFor_r2 : List Cond := [Cond.selects RX0 yX0_isOfKind yX0_isOfKind, Cond.code yX0_isOfKind cX0_isOfKind 3 (some .boolean), Cond.fieldLink RX0 9 "WardrobeKeeper" "kinds" "[I", Cond.methodLink RX0 64 yX0_isThing, Cond.instanceMethod yX0_isThing, Cond.selects RX0 yX0_isThing yX0_isThing, Cond.code yX0_isThing cX0_isThing 2 (some .boolean), Cond.fieldLink RX0 61 "WardrobeKeeper" "owned" "I", Cond.methodLink RX0 197 yX0_doClash, Cond.instanceMethod yX0_doClash, Cond.selects RX0 yX0_doClash yX0_doClash, Cond.code yX0_doClash cX0_doClash 3 (some .boolean), Cond.fieldLink RX0 13 "WardrobeKeeper" "colours" "[I", Cond.methodLink RX0 80 yX0_coloursClash, Cond.instanceMethod yX0_coloursClash, Cond.selects RX0 yX0_coloursClash yX0_coloursClash, Cond.code yX0_coloursClash cX0_coloursClash 3 (some .boolean), Cond.fieldLink RX0 88 "WardrobeKeeper" "clashes" "J", Cond.methodLink RX0 84 yX0_clashBit, Cond.static yX0_clashBit, Cond.code yX0_clashBit cX0_clashBit 2 (some .long), Cond.methodLink RX0 200 yX0_fitsOver, Cond.instanceMethod yX0_fitsOver, Cond.selects RX0 yX0_fitsOver yX0_fitsOver]
def wsX0_outfitFor_r3 : List Cond := [Cond.code yX0_fitsOver cX0_fitsOver 4 (some .boolean), Cond.methodLink RX0 110 yX0_wasSeenLately, Cond.instanceMethod yX0_wasSeenLately, Cond.selects RX0 yX0_wasSeenLately yX0_wasSeenLately, Cond.code yX0_wasSeenLately cX0_wasSeenLately 6 (some .boolean), Cond.fieldLink RX0 162 "WardrobeKeeper" "today" "I", Cond.fieldLink RX0 28 "WardrobeKeeper" "freeFrom" "[I", Cond.methodLink RX0 206 yX0_firstSeat, Cond.static yX0_firstSeat, Cond.code yX0_firstSeat cX0_firstSeat 2 (some .int), Cond.methodLink RX0 123 yX0_outfitWarmth, Cond.instanceMethod yX0_outfitWarmth, Cond.selects RX0 yX0_outfitWarmth yX0_outfitWarmth, Cond.code yX0_outfitWarmth cX0_outfitWarmth 4 (some .int), Cond.methodLink RX0 203 yX0_warmthOf, Cond.instanceMethod yX0_warmthOf, Cond.selects RX0 yX0_warmthOf yX0_warmthOf, Cond.code yX0_warmthOf cX0_warmthOf 2 (some .int), Cond.fieldLink RX0 16 "WardrobeKeeper" "warmths" "[I", Cond.methodLink RX0 135 yX0_isWarmOutfit, Cond.instanceMethod yX0_isWarmOutfit, Cond.selects RX0 yX0_isWarmOutfit yX0_isWarmOutfit, Cond.code yX0_isWarmOutfit cX0_isWarmOutfit 5 (some .boolean)]
def wsX0_outfitFor : List Cond := .code yX0_outfitFor cX0_outfitFor 9 (some .int) :: ((wsX0_outfitFor_r1 ++ (wsX0_outfitFor_r2 ++ wsX0_outfitFor_r3)) ++ wsX00 ++ (vx_atS RX0 49 "java/lang/IllegalArgumentException" ["java/lang/RuntimeException", "java/lang/Exception"]).filter goodWord)
def wsX0_isWashedWith : List Cond := .code yX0_isWashedWith cX0_isWashedWith 4 (some .boolean) :: ([.fieldLink RX0 22 "WardrobeKeeper" "cares" "[I", .fieldLink RX0 13 "WardrobeKeeper" "colours" "[I", .methodLink RX0 64 yX0_isThing, .instanceMethod yX0_isThing, .selects RX0 yX0_isThing yX0_isThing, .initialized RX0, .code yX0_isThing cX0_isThing 2 (some .boolean), .fieldLink RX0 61 "WardrobeKeeper" "owned" "I", .methodLink RX0 34 yX0_isWithin, .static yX0_isWithin, .code yX0_isWithin cX0_isWithin 3 (some .boolean)] ++ wsX00)
def wsX0_load_r1 : List Cond := [Cond.classLink RX0 45 "java/lang/IllegalArgumentException", Cond.initialized "java/lang/IllegalArgumentException", Cond.fieldLink RX0 52 "WardrobeKeeper" "added" "I", Cond.methodLink RX0 42 yX0_isCare, Cond.static yX0_isCare, Cond.initialized RX0, Cond.code yX0_isCare cX0_isCare 1 (some .boolean), Cond.methodLink RX0 34 yX0_isWithin, Cond.static yX0_isWithin, Cond.code yX0_isWithin cX0_isWithin 3 (some .boolean), Cond.methodLink RX0 146 yX0_isWashedWith, Cond.instanceMethod yX0_isWashedWith, Cond.selects RX0 yX0_isWashedWith yX0_isWashedWith, Cond.code yX0_isWashedWith cX0_isWashedWith 4 (some .boolean), Cond.fieldLink RX0 22 "WardrobeKeeper" "cares" "[I", Cond.fieldLink RX0 13 "WardrobeKeeper" "colours" "[I", Cond.methodLink RX0 64 yX0_isThing, Cond.instanceMethod yX0_isThing, Cond.selects RX0 yX0_isThing yX0_isThing, Cond.code yX0_isThing cX0_isThing 2 (some .boolean), Cond.fieldLink RX0 61 "WardrobeKeeper" "owned" "I", Cond.methodLink RX0 150 yX0_wearsLeftOf, Cond.instanceMethod yX0_wearsLeftOf, Cond.selects RX0 yX0_wearsLeftOf yX0_wearsLeftOf]
def wsX0_load_r2 : List Cond := [Cond.code yX0_wearsLeftOf cX0_wearsLeftOf 2 (some .int), Cond.fieldLink RX0 25 "WardrobeKeeper" "wearsLeft" "[I"]
def wsX0_load : List Cond := .code yX0_load cX0_load 5 (some .int) :: ((wsX0_load_r1 ++ wsX0_load_r2) ++ wsX00 ++ (vx_atS RX0 49 "java/lang/IllegalArgumentException" ["java/lang/RuntimeException", "java/lang/Exception"]).filter goodWord)
def wsX0_nextToWash : List Cond := .code yX0_nextToWash cX0_nextToWash 5 (some .int) :: ([.fieldLink RX0 52 "WardrobeKeeper" "added" "I", .fieldLink RX0 25 "WardrobeKeeper" "wearsLeft" "[I", .fieldLink RX0 19 "WardrobeKeeper" "wearsWhenClean" "[I", .methodLink RX0 146 yX0_isWashedWith, .instanceMethod yX0_isWashedWith, .selects RX0 yX0_isWashedWith yX0_isWashedWith, .initialized RX0, .code yX0_isWashedWith cX0_isWashedWith 4 (some .boolean), .fieldLink RX0 22 "WardrobeKeeper" "cares" "[I", .fieldLink RX0 13 "WardrobeKeeper" "colours" "[I", .methodLink RX0 64 yX0_isThing, .instanceMethod yX0_isThing, .selects RX0 yX0_isThing yX0_isThing, .code yX0_isThing cX0_isThing 2 (some .boolean), .fieldLink RX0 61 "WardrobeKeeper" "owned" "I", .methodLink RX0 34 yX0_isWithin, .static yX0_isWithin, .code yX0_isWithin cX0_isWithin 3 (some .boolean), .methodLink RX0 150 yX0_wearsLeftOf, .instanceMethod yX0_wearsLeftOf, .selects RX0 yX0_wearsLeftOf yX0_wearsLeftOf, .code yX0_wearsLeftOf cX0_wearsLeftOf 2 (some .int)] ++ wsX00)
def wsX0_makeClean : List Cond := .code yX0_makeClean cX0_makeClean 2 none :: ([.fieldLink RX0 25 "WardrobeKeeper" "wearsLeft" "[I", .fieldLink RX0 19 "WardrobeKeeper" "wearsWhenClean" "[I", .methodLink RX0 64 yX0_isThing, .instanceMethod yX0_isThing, .selects RX0 yX0_isThing yX0_isThing, .initialized RX0, .code yX0_isThing cX0_isThing 2 (some .boolean), .fieldLink RX0 61 "WardrobeKeeper" "owned" "I", .methodLink RX0 34 yX0_isWithin, .static yX0_isWithin, .code yX0_isWithin cX0_isWithin 3 (some .boolean)] ++ wsX00)
def wsX0_wash_r1 : List Cond := [Cond.classLink RX0 45 "java/lang/IllegalArgumentException", Cond.initialized "java/lang/IllegalArgumentException", Cond.methodLink RX0 42 yX0_isCare, Cond.static yX0_isCare, Cond.initialized RX0, Cond.code yX0_isCare cX0_isCare 1 (some .boolean), Cond.methodLink RX0 34 yX0_isWithin, Cond.static yX0_isWithin, Cond.code yX0_isWithin cX0_isWithin 3 (some .boolean), Cond.methodLink RX0 153 yX0_nextToWash, Cond.instanceMethod yX0_nextToWash, Cond.selects RX0 yX0_nextToWash yX0_nextToWash, Cond.code yX0_nextToWash cX0_nextToWash 5 (some .int), Cond.fieldLink RX0 52 "WardrobeKeeper" "added" "I", Cond.fieldLink RX0 25 "WardrobeKeeper" "wearsLeft" "[I", Cond.fieldLink RX0 19 "WardrobeKeeper" "wearsWhenClean" "[I", Cond.methodLink RX0 146 yX0_isWashedWith, Cond.instanceMethod yX0_isWashedWith, Cond.selects RX0 yX0_isWashedWith yX0_isWashedWith, Cond.code yX0_isWashedWith cX0_isWashedWith 4 (some .boolean), Cond.fieldLink RX0 22 "WardrobeKeeper" "cares" "[I", Cond.fieldLink RX0 13 "WardrobeKeeper" "colours" "[I", Cond.methodLink RX0 64 yX0_isThing, Cond.instanceMethod yX0_isThing]
def wsX0_wash_r2 : List Cond := [Cond.selects RX0 yX0_isThing yX0_isThing, Cond.code yX0_isThing cX0_isThing 2 (some .boolean), Cond.fieldLink RX0 61 "WardrobeKeeper" "owned" "I", Cond.methodLink RX0 150 yX0_wearsLeftOf, Cond.instanceMethod yX0_wearsLeftOf, Cond.selects RX0 yX0_wearsLeftOf yX0_wearsLeftOf, Cond.code yX0_wearsLeftOf cX0_wearsLeftOf 2 (some .int), Cond.methodLink RX0 157 yX0_makeClean, Cond.instanceMethod yX0_makeClean, Cond.selects RX0 yX0_makeClean yX0_makeClean, Cond.code yX0_makeClean cX0_makeClean 2 none]
def wsX0_wash : List Cond := .code yX0_wash cX0_wash 6 (some .int) :: ((wsX0_wash_r1 ++ wsX0_wash_r2) ++ wsX00 ++ (vx_atS RX0 49 "java/lang/IllegalArgumentException" ["java/lang/RuntimeException", "java/lang/Exception"]).filter goodWord)
def wsX0_pass : List Cond := .code yX0_pass cX0_pass 2 (some .int) :: ([.classLink RX0 45 "java/lang/IllegalArgumentException", .initialized "java/lang/IllegalArgumentException", .classLink RX0 56 "java/lang/IllegalStateException", .initialized "java/lang/IllegalStateException", .fieldLink RX0 162 "WardrobeKeeper" "today" "I", .methodLink RX0 34 yX0_isWithin, .static yX0_isWithin, .initialized RX0, .code yX0_isWithin cX0_isWithin 3 (some .boolean)] ++ wsX00 ++ (vx_atS RX0 49 "java/lang/IllegalArgumentException" ["java/lang/RuntimeException", "java/lang/Exception"]).filter goodWord ++ (vx_atS RX0 60 "java/lang/IllegalStateException" ["java/lang/RuntimeException", "java/lang/Exception"]).filter goodWord)
def wsX0_isBagQuestion : List Cond := .code yX0_isBagQuestion cX0_isBagQuestion 2 (some .boolean) :: ([.methodLink RX0 34 yX0_isWithin, .static yX0_isWithin, .initialized RX0, .code yX0_isWithin cX0_isWithin 3 (some .boolean)])
def wsX0_arePartners_r1 : List Cond := [Cond.methodLink RX0 97 yX0_areOfTheirKinds, Cond.instanceMethod yX0_areOfTheirKinds, Cond.selects RX0 yX0_areOfTheirKinds yX0_areOfTheirKinds, Cond.initialized RX0, Cond.code yX0_areOfTheirKinds cX0_areOfTheirKinds 4 (some .boolean), Cond.methodLink RX0 191 yX0_isOfKind, Cond.instanceMethod yX0_isOfKind, Cond.selects RX0 yX0_isOfKind yX0_isOfKind, Cond.code yX0_isOfKind cX0_isOfKind 3 (some .boolean), Cond.fieldLink RX0 9 "WardrobeKeeper" "kinds" "[I", Cond.methodLink RX0 64 yX0_isThing, Cond.instanceMethod yX0_isThing, Cond.selects RX0 yX0_isThing yX0_isThing, Cond.code yX0_isThing cX0_isThing 2 (some .boolean), Cond.fieldLink RX0 61 "WardrobeKeeper" "owned" "I", Cond.methodLink RX0 34 yX0_isWithin, Cond.static yX0_isWithin, Cond.code yX0_isWithin cX0_isWithin 3 (some .boolean), Cond.methodLink RX0 197 yX0_doClash, Cond.instanceMethod yX0_doClash, Cond.selects RX0 yX0_doClash yX0_doClash, Cond.code yX0_doClash cX0_doClash 3 (some .boolean), Cond.fieldLink RX0 13 "WardrobeKeeper" "colours" "[I", Cond.methodLink RX0 80 yX0_coloursClash]
def wsX0_arePartners_r2 : List Cond := [Cond.instanceMethod yX0_coloursClash, Cond.selects RX0 yX0_coloursClash yX0_coloursClash, Cond.code yX0_coloursClash cX0_coloursClash 3 (some .boolean), Cond.fieldLink RX0 88 "WardrobeKeeper" "clashes" "J", Cond.methodLink RX0 84 yX0_clashBit, Cond.static yX0_clashBit, Cond.code yX0_clashBit cX0_clashBit 2 (some .long), Cond.methodLink RX0 123 yX0_outfitWarmth, Cond.instanceMethod yX0_outfitWarmth, Cond.selects RX0 yX0_outfitWarmth yX0_outfitWarmth, Cond.code yX0_outfitWarmth cX0_outfitWarmth 4 (some .int), Cond.methodLink RX0 203 yX0_warmthOf, Cond.instanceMethod yX0_warmthOf, Cond.selects RX0 yX0_warmthOf yX0_warmthOf, Cond.code yX0_warmthOf cX0_warmthOf 2 (some .int), Cond.fieldLink RX0 16 "WardrobeKeeper" "warmths" "[I"]
def wsX0_arePartners : List Cond := .code yX0_arePartners cX0_arePartners 4 (some .boolean) :: ((wsX0_arePartners_r1 ++ wsX0_arePartners_r2) ++ wsX00)
def wsX0_findPartners_r1 : List Cond := [Cond.fieldLink RX0 31 "WardrobeKeeper" "partners" "[I", Cond.fieldLink RX0 52 "WardrobeKeeper" "added" "I", Cond.methodLink RX0 209 yX0_arePartners, Cond.instanceMethod yX0_arePartners, Cond.selects RX0 yX0_arePartners yX0_arePartners, Cond.initialized RX0, Cond.code yX0_arePartners cX0_arePartners 4 (some .boolean), Cond.methodLink RX0 97 yX0_areOfTheirKinds, Cond.instanceMethod yX0_areOfTheirKinds, Cond.selects RX0 yX0_areOfTheirKinds yX0_areOfTheirKinds, Cond.code yX0_areOfTheirKinds cX0_areOfTheirKinds 4 (some .boolean), Cond.methodLink RX0 191 yX0_isOfKind, Cond.instanceMethod yX0_isOfKind, Cond.selects RX0 yX0_isOfKind yX0_isOfKind, Cond.code yX0_isOfKind cX0_isOfKind 3 (some .boolean), Cond.fieldLink RX0 9 "WardrobeKeeper" "kinds" "[I", Cond.methodLink RX0 64 yX0_isThing, Cond.instanceMethod yX0_isThing, Cond.selects RX0 yX0_isThing yX0_isThing, Cond.code yX0_isThing cX0_isThing 2 (some .boolean), Cond.fieldLink RX0 61 "WardrobeKeeper" "owned" "I", Cond.methodLink RX0 34 yX0_isWithin, Cond.static yX0_isWithin, Cond.code yX0_isWithin cX0_isWithin 3 (some .boolean)]
def wsX0_findPartners_r2 : List Cond := [Cond.methodLink RX0 197 yX0_doClash, Cond.instanceMethod yX0_doClash, Cond.selects RX0 yX0_doClash yX0_doClash, Cond.code yX0_doClash cX0_doClash 3 (some .boolean), Cond.fieldLink RX0 13 "WardrobeKeeper" "colours" "[I", Cond.methodLink RX0 80 yX0_coloursClash, Cond.instanceMethod yX0_coloursClash, Cond.selects RX0 yX0_coloursClash yX0_coloursClash, Cond.code yX0_coloursClash cX0_coloursClash 3 (some .boolean), Cond.fieldLink RX0 88 "WardrobeKeeper" "clashes" "J", Cond.methodLink RX0 84 yX0_clashBit, Cond.static yX0_clashBit, Cond.code yX0_clashBit cX0_clashBit 2 (some .long), Cond.methodLink RX0 123 yX0_outfitWarmth, Cond.instanceMethod yX0_outfitWarmth, Cond.selects RX0 yX0_outfitWarmth yX0_outfitWarmth, Cond.code yX0_outfitWarmth cX0_outfitWarmth 4 (some .int), Cond.methodLink RX0 203 yX0_warmthOf, Cond.instanceMethod yX0_warmthOf, Cond.selects RX0 yX0_warmthOf yX0_warmthOf, Cond.code yX0_warmthOf cX0_warmthOf 2 (some .int), Cond.fieldLink RX0 16 "WardrobeKeeper" "warmths" "[I"]
def wsX0_findPartners : List Cond := .code yX0_findPartners cX0_findPartners 4 none :: ((wsX0_findPartners_r1 ++ wsX0_findPartners_r2) ++ wsX00)
def wsX0_thingsOfKind : List Cond := .code yX0_thingsOfKind cX0_thingsOfKind 4 (some .int) :: ([.fieldLink RX0 52 "WardrobeKeeper" "added" "I", .methodLink RX0 191 yX0_isOfKind, .instanceMethod yX0_isOfKind, .selects RX0 yX0_isOfKind yX0_isOfKind, .initialized RX0, .code yX0_isOfKind cX0_isOfKind 3 (some .boolean), .fieldLink RX0 9 "WardrobeKeeper" "kinds" "[I", .methodLink RX0 64 yX0_isThing, .instanceMethod yX0_isThing, .selects RX0 yX0_isThing yX0_isThing, .code yX0_isThing cX0_isThing 2 (some .boolean), .fieldLink RX0 61 "WardrobeKeeper" "owned" "I", .methodLink RX0 34 yX0_isWithin, .static yX0_isWithin, .code yX0_isWithin cX0_isWithin 3 (some .boolean)] ++ wsX00)
def wsX0_wearsLeftIn : List Cond := .code yX0_wearsLeftIn cX0_wearsLeftIn 4 (some .int) :: ([.fieldLink RX0 25 "WardrobeKeeper" "wearsLeft" "[I"] ++ wsX00)
def wsX0_partnersOf : List Cond := .code yX0_partnersOf cX0_partnersOf 4 (some .int) :: ([.fieldLink RX0 31 "WardrobeKeeper" "partners" "[I"] ++ wsX00)
def wsX0_nextPart : List Cond := .code yX0_nextPart cX0_nextPart 2 (some .int) :: ([])
def wsX0_lasts : List Cond := .code yX0_lasts cX0_lasts 9 (some .boolean) :: ([.methodLink RX0 72 yJ6_bitCount_0f7a4, .static yJ6_bitCount_0f7a4, .initialized RJ6, .code yJ6_bitCount_0f7a4 cJ6_bitCount_0f7a4 1 (some .int), .constant RJ6 265 (1431655765), .constant RJ6 266 (858993459), .constant RJ6 267 (252645135), .methodLink RX0 212 yX0_wearsLeftIn, .instanceMethod yX0_wearsLeftIn, .selects RX0 yX0_wearsLeftIn yX0_wearsLeftIn, .initialized RX0, .code yX0_wearsLeftIn cX0_wearsLeftIn 4 (some .int), .fieldLink RX0 25 "WardrobeKeeper" "wearsLeft" "[I", .methodLink RX0 215 yX0_partnersOf, .instanceMethod yX0_partnersOf, .selects RX0 yX0_partnersOf yX0_partnersOf, .code yX0_partnersOf cX0_partnersOf 4 (some .int), .fieldLink RX0 31 "WardrobeKeeper" "partners" "[I", .methodLink RX0 187 yX0_nextPart, .static yX0_nextPart, .code yX0_nextPart cX0_nextPart 2 (some .int)] ++ wsX00)
def wsX0_isEnough_r1 : List Cond := [Cond.classLink RX0 45 "java/lang/IllegalArgumentException", Cond.initialized "java/lang/IllegalArgumentException", Cond.fieldLink RX0 61 "WardrobeKeeper" "owned" "I", Cond.methodLink RX0 167 yX0_isBagQuestion, Cond.static yX0_isBagQuestion, Cond.initialized RX0, Cond.code yX0_isBagQuestion cX0_isBagQuestion 2 (some .boolean), Cond.methodLink RX0 34 yX0_isWithin, Cond.static yX0_isWithin, Cond.code yX0_isWithin cX0_isWithin 3 (some .boolean), Cond.methodLink RX0 172 yX0_findPartners, Cond.instanceMethod yX0_findPartners, Cond.selects RX0 yX0_findPartners yX0_findPartners, Cond.code yX0_findPartners cX0_findPartners 4 none, Cond.fieldLink RX0 31 "WardrobeKeeper" "partners" "[I", Cond.fieldLink RX0 52 "WardrobeKeeper" "added" "I", Cond.methodLink RX0 209 yX0_arePartners, Cond.instanceMethod yX0_arePartners, Cond.selects RX0 yX0_arePartners yX0_arePartners, Cond.code yX0_arePartners cX0_arePartners 4 (some .boolean), Cond.methodLink RX0 97 yX0_areOfTheirKinds, Cond.instanceMethod yX0_areOfTheirKinds, Cond.selects RX0 yX0_areOfTheirKinds yX0_areOfTheirKinds, Cond.code yX0_areOfTheirKinds cX0_areOfTheirKinds 4 (some .boolean)]
def wsX0_isEnough_r2 : List Cond := [Cond.methodLink RX0 191 yX0_isOfKind, Cond.instanceMethod yX0_isOfKind, Cond.selects RX0 yX0_isOfKind yX0_isOfKind, Cond.code yX0_isOfKind cX0_isOfKind 3 (some .boolean), Cond.fieldLink RX0 9 "WardrobeKeeper" "kinds" "[I", Cond.methodLink RX0 64 yX0_isThing, Cond.instanceMethod yX0_isThing, Cond.selects RX0 yX0_isThing yX0_isThing, Cond.code yX0_isThing cX0_isThing 2 (some .boolean), Cond.methodLink RX0 197 yX0_doClash, Cond.instanceMethod yX0_doClash, Cond.selects RX0 yX0_doClash yX0_doClash, Cond.code yX0_doClash cX0_doClash 3 (some .boolean), Cond.fieldLink RX0 13 "WardrobeKeeper" "colours" "[I", Cond.methodLink RX0 80 yX0_coloursClash, Cond.instanceMethod yX0_coloursClash, Cond.selects RX0 yX0_coloursClash yX0_coloursClash, Cond.code yX0_coloursClash cX0_coloursClash 3 (some .boolean), Cond.fieldLink RX0 88 "WardrobeKeeper" "clashes" "J", Cond.methodLink RX0 84 yX0_clashBit, Cond.static yX0_clashBit, Cond.code yX0_clashBit cX0_clashBit 2 (some .long), Cond.methodLink RX0 123 yX0_outfitWarmth, Cond.instanceMethod yX0_outfitWarmth]
def wsX0_isEnough_r3 : List Cond := [Cond.selects RX0 yX0_outfitWarmth yX0_outfitWarmth, Cond.code yX0_outfitWarmth cX0_outfitWarmth 4 (some .int), Cond.methodLink RX0 203 yX0_warmthOf, Cond.instanceMethod yX0_warmthOf, Cond.selects RX0 yX0_warmthOf yX0_warmthOf, Cond.code yX0_warmthOf cX0_warmthOf 2 (some .int), Cond.fieldLink RX0 16 "WardrobeKeeper" "warmths" "[I", Cond.methodLink RX0 175 yX0_thingsOfKind, Cond.instanceMethod yX0_thingsOfKind, Cond.selects RX0 yX0_thingsOfKind yX0_thingsOfKind, Cond.code yX0_thingsOfKind cX0_thingsOfKind 4 (some .int), Cond.methodLink RX0 178 yX0_lasts, Cond.instanceMethod yX0_lasts, Cond.selects RX0 yX0_lasts yX0_lasts, Cond.code yX0_lasts cX0_lasts 9 (some .boolean), Cond.methodLink RX0 72 yJ6_bitCount_0f7a4, Cond.static yJ6_bitCount_0f7a4, Cond.initialized RJ6, Cond.code yJ6_bitCount_0f7a4 cJ6_bitCount_0f7a4 1 (some .int), Cond.constant RJ6 265 (1431655765), Cond.constant RJ6 266 (858993459), Cond.constant RJ6 267 (252645135), Cond.methodLink RX0 212 yX0_wearsLeftIn, Cond.instanceMethod yX0_wearsLeftIn]
def wsX0_isEnough_r4 : List Cond := [Cond.selects RX0 yX0_wearsLeftIn yX0_wearsLeftIn, Cond.code yX0_wearsLeftIn cX0_wearsLeftIn 4 (some .int), Cond.fieldLink RX0 25 "WardrobeKeeper" "wearsLeft" "[I", Cond.methodLink RX0 215 yX0_partnersOf, Cond.instanceMethod yX0_partnersOf, Cond.selects RX0 yX0_partnersOf yX0_partnersOf, Cond.code yX0_partnersOf cX0_partnersOf 4 (some .int), Cond.methodLink RX0 187 yX0_nextPart, Cond.static yX0_nextPart, Cond.code yX0_nextPart cX0_nextPart 2 (some .int)]
def wsX0_isEnough : List Cond := .code yX0_isEnough cX0_isEnough 4 (some .boolean) :: ((wsX0_isEnough_r1 ++ (wsX0_isEnough_r2 ++ (wsX0_isEnough_r3 ++ wsX0_isEnough_r4))) ++ wsX00 ++ (vx_atS RX0 49 "java/lang/IllegalArgumentException" ["java/lang/RuntimeException", "java/lang/Exception"]).filter goodWord)
def wsX0_usefulThings : List Cond := .code yX0_usefulThings cX0_usefulThings 3 (some .int) :: ([.fieldLink RX0 52 "WardrobeKeeper" "added" "I", .fieldLink RX0 31 "WardrobeKeeper" "partners" "[I", .methodLink RX0 150 yX0_wearsLeftOf, .instanceMethod yX0_wearsLeftOf, .selects RX0 yX0_wearsLeftOf yX0_wearsLeftOf, .initialized RX0, .code yX0_wearsLeftOf cX0_wearsLeftOf 2 (some .int), .fieldLink RX0 25 "WardrobeKeeper" "wearsLeft" "[I", .methodLink RX0 64 yX0_isThing, .instanceMethod yX0_isThing, .selects RX0 yX0_isThing yX0_isThing, .code yX0_isThing cX0_isThing 2 (some .boolean), .fieldLink RX0 61 "WardrobeKeeper" "owned" "I", .methodLink RX0 34 yX0_isWithin, .static yX0_isWithin, .code yX0_isWithin cX0_isWithin 3 (some .boolean)] ++ wsX00)
def wsX0_bag_r1 : List Cond := [Cond.classLink RX0 45 "java/lang/IllegalArgumentException", Cond.initialized "java/lang/IllegalArgumentException", Cond.methodLink RX0 167 yX0_isBagQuestion, Cond.static yX0_isBagQuestion, Cond.initialized RX0, Cond.code yX0_isBagQuestion cX0_isBagQuestion 2 (some .boolean), Cond.methodLink RX0 34 yX0_isWithin, Cond.static yX0_isWithin, Cond.code yX0_isWithin cX0_isWithin 3 (some .boolean), Cond.methodLink RX0 172 yX0_findPartners, Cond.instanceMethod yX0_findPartners, Cond.selects RX0 yX0_findPartners yX0_findPartners, Cond.code yX0_findPartners cX0_findPartners 4 none, Cond.fieldLink RX0 31 "WardrobeKeeper" "partners" "[I", Cond.fieldLink RX0 52 "WardrobeKeeper" "added" "I", Cond.methodLink RX0 209 yX0_arePartners, Cond.instanceMethod yX0_arePartners, Cond.selects RX0 yX0_arePartners yX0_arePartners, Cond.code yX0_arePartners cX0_arePartners 4 (some .boolean), Cond.methodLink RX0 97 yX0_areOfTheirKinds, Cond.instanceMethod yX0_areOfTheirKinds, Cond.selects RX0 yX0_areOfTheirKinds yX0_areOfTheirKinds, Cond.code yX0_areOfTheirKinds cX0_areOfTheirKinds 4 (some .boolean), Cond.methodLink RX0 191 yX0_isOfKind]
def wsX0_bag_r2 : List Cond := [Cond.instanceMethod yX0_isOfKind, Cond.selects RX0 yX0_isOfKind yX0_isOfKind, Cond.code yX0_isOfKind cX0_isOfKind 3 (some .boolean), Cond.fieldLink RX0 9 "WardrobeKeeper" "kinds" "[I", Cond.methodLink RX0 64 yX0_isThing, Cond.instanceMethod yX0_isThing, Cond.selects RX0 yX0_isThing yX0_isThing, Cond.code yX0_isThing cX0_isThing 2 (some .boolean), Cond.fieldLink RX0 61 "WardrobeKeeper" "owned" "I", Cond.methodLink RX0 197 yX0_doClash, Cond.instanceMethod yX0_doClash, Cond.selects RX0 yX0_doClash yX0_doClash, Cond.code yX0_doClash cX0_doClash 3 (some .boolean), Cond.fieldLink RX0 13 "WardrobeKeeper" "colours" "[I", Cond.methodLink RX0 80 yX0_coloursClash, Cond.instanceMethod yX0_coloursClash, Cond.selects RX0 yX0_coloursClash yX0_coloursClash, Cond.code yX0_coloursClash cX0_coloursClash 3 (some .boolean), Cond.fieldLink RX0 88 "WardrobeKeeper" "clashes" "J", Cond.methodLink RX0 84 yX0_clashBit, Cond.static yX0_clashBit, Cond.code yX0_clashBit cX0_clashBit 2 (some .long), Cond.methodLink RX0 123 yX0_outfitWarmth, Cond.instanceMethod yX0_outfitWarmth]
def wsX0_bag_r3 : List Cond := [Cond.selects RX0 yX0_outfitWarmth yX0_outfitWarmth, Cond.code yX0_outfitWarmth cX0_outfitWarmth 4 (some .int), Cond.methodLink RX0 203 yX0_warmthOf, Cond.instanceMethod yX0_warmthOf, Cond.selects RX0 yX0_warmthOf yX0_warmthOf, Cond.code yX0_warmthOf cX0_warmthOf 2 (some .int), Cond.fieldLink RX0 16 "WardrobeKeeper" "warmths" "[I", Cond.methodLink RX0 183 yX0_usefulThings, Cond.instanceMethod yX0_usefulThings, Cond.selects RX0 yX0_usefulThings yX0_usefulThings, Cond.code yX0_usefulThings cX0_usefulThings 3 (some .int), Cond.methodLink RX0 150 yX0_wearsLeftOf, Cond.instanceMethod yX0_wearsLeftOf, Cond.selects RX0 yX0_wearsLeftOf yX0_wearsLeftOf, Cond.code yX0_wearsLeftOf cX0_wearsLeftOf 2 (some .int), Cond.fieldLink RX0 25 "WardrobeKeeper" "wearsLeft" "[I", Cond.methodLink RX0 175 yX0_thingsOfKind, Cond.instanceMethod yX0_thingsOfKind, Cond.selects RX0 yX0_thingsOfKind yX0_thingsOfKind, Cond.code yX0_thingsOfKind cX0_thingsOfKind 4 (some .int), Cond.methodLink RX0 178 yX0_lasts, Cond.instanceMethod yX0_lasts, Cond.selects RX0 yX0_lasts yX0_lasts, Cond.code yX0_lasts cX0_lasts 9 (some .boolean)]
def wsX0_bag_r4 : List Cond := [Cond.methodLink RX0 72 yJ6_bitCount_0f7a4, Cond.static yJ6_bitCount_0f7a4, Cond.initialized RJ6, Cond.code yJ6_bitCount_0f7a4 cJ6_bitCount_0f7a4 1 (some .int), Cond.constant RJ6 265 (1431655765), Cond.constant RJ6 266 (858993459), Cond.constant RJ6 267 (252645135), Cond.methodLink RX0 212 yX0_wearsLeftIn, Cond.instanceMethod yX0_wearsLeftIn, Cond.selects RX0 yX0_wearsLeftIn yX0_wearsLeftIn, Cond.code yX0_wearsLeftIn cX0_wearsLeftIn 4 (some .int), Cond.methodLink RX0 215 yX0_partnersOf, Cond.instanceMethod yX0_partnersOf, Cond.selects RX0 yX0_partnersOf yX0_partnersOf, Cond.code yX0_partnersOf cX0_partnersOf 4 (some .int), Cond.methodLink RX0 187 yX0_nextPart, Cond.static yX0_nextPart, Cond.code yX0_nextPart cX0_nextPart 2 (some .int)]
def wsX0_bag : List Cond := .code yX0_bag cX0_bag 11 (some .int) :: ((wsX0_bag_r1 ++ (wsX0_bag_r2 ++ (wsX0_bag_r3 ++ wsX0_bag_r4))) ++ wsX00 ++ (vx_atS RX0 49 "java/lang/IllegalArgumentException" ["java/lang/RuntimeException", "java/lang/Exception"]).filter goodWord)
def wsX1_init : List Cond := .code yX1_init cX1_init 1 none :: ([.methodLink RX1 1 objectInit, .instanceMethod objectInit, .code objectInit ⟨#[0xb1]⟩ 1 none, .arrayClass .boolean, .fieldLink RX1 7 "WardrobeKeeperModel" "isGone" "[Z", .arrayClass .int, .fieldLink RX1 13 "WardrobeKeeperModel" "kinds" "[I", .fieldLink RX1 17 "WardrobeKeeperModel" "colours" "[I", .fieldLink RX1 20 "WardrobeKeeperModel" "warmths" "[I", .fieldLink RX1 23 "WardrobeKeeperModel" "wears" "[I", .fieldLink RX1 26 "WardrobeKeeperModel" "cares" "[I", .fieldLink RX1 29 "WardrobeKeeperModel" "lefts" "[I", .fieldLink RX1 32 "WardrobeKeeperModel" "clash" "[Z", .fieldLink RX1 35 "WardrobeKeeperModel" "seen" "[I", .fieldLink RX1 38 "WardrobeKeeperModel" "goesWith" "[I"] ++ wsX10)
def wsX1_thrown : List Cond := .code yX1_thrown cX1_thrown 1 (some .int) :: ([.fieldLink RX1 41 "WardrobeKeeperModel" "thrown" "I"] ++ wsX10)
def wsX1_goes : List Cond := .code yX1_goes cX1_goes 2 (some .boolean) :: ([.fieldLink RX1 41 "WardrobeKeeperModel" "thrown" "I"] ++ wsX10)
def wsX1_isIn : List Cond := .code yX1_isIn cX1_isIn 3 (some .boolean) :: ([])
def wsX1_isThing : List Cond := .code yX1_isThing cX1_isThing 2 (some .boolean) :: ([.fieldLink RX1 45 "WardrobeKeeperModel" "added" "I", .fieldLink RX1 7 "WardrobeKeeperModel" "isGone" "[Z", .methodLink RX1 48 yX1_isIn, .static yX1_isIn, .initialized RX1, .code yX1_isIn cX1_isIn 3 (some .boolean)] ++ wsX10)
def wsX1_isColour : List Cond := .code yX1_isColour cX1_isColour 1 (some .boolean) :: ([.methodLink RX1 48 yX1_isIn, .static yX1_isIn, .initialized RX1, .code yX1_isIn cX1_isIn 3 (some .boolean)])
def wsX1_arePeople : List Cond := .code yX1_arePeople cX1_arePeople 1 (some .boolean) :: ([.methodLink RX1 48 yX1_isIn, .static yX1_isIn, .initialized RX1, .code yX1_isIn cX1_isIn 3 (some .boolean)])
def wsX1_isCare : List Cond := .code yX1_isCare cX1_isCare 1 (some .boolean) :: ([.methodLink RX1 48 yX1_isIn, .static yX1_isIn, .initialized RX1, .code yX1_isIn cX1_isIn 3 (some .boolean)])
def wsX1_add : List Cond := .code yX1_add cX1_add 7 (some .int) :: ([.fieldLink RX1 45 "WardrobeKeeperModel" "added" "I", .fieldLink RX1 13 "WardrobeKeeperModel" "kinds" "[I", .fieldLink RX1 17 "WardrobeKeeperModel" "colours" "[I", .fieldLink RX1 20 "WardrobeKeeperModel" "warmths" "[I", .fieldLink RX1 23 "WardrobeKeeperModel" "wears" "[I", .fieldLink RX1 26 "WardrobeKeeperModel" "cares" "[I", .fieldLink RX1 29 "WardrobeKeeperModel" "lefts" "[I", .methodLink RX1 48 yX1_isIn, .static yX1_isIn, .initialized RX1, .code yX1_isIn cX1_isIn 3 (some .boolean), .methodLink RX1 52 yX1_isColour, .static yX1_isColour, .code yX1_isColour cX1_isColour 1 (some .boolean), .methodLink RX1 56 yX1_isCare, .static yX1_isCare, .code yX1_isCare cX1_isCare 1 (some .boolean), .methodLink RX1 59 yX1_goes, .instanceMethod yX1_goes, .selects RX1 yX1_goes yX1_goes, .code yX1_goes cX1_goes 2 (some .boolean), .fieldLink RX1 41 "WardrobeKeeperModel" "thrown" "I"] ++ wsX10)
def wsX1_here : List Cond := .code yX1_here cX1_here 3 (some .int) :: ([.fieldLink RX1 45 "WardrobeKeeperModel" "added" "I", .fieldLink RX1 7 "WardrobeKeeperModel" "isGone" "[Z"] ++ wsX10)
def wsX1_giveAway : List Cond := .code yX1_giveAway cX1_giveAway 2 (some .int) :: ([.fieldLink RX1 7 "WardrobeKeeperModel" "isGone" "[Z", .methodLink RX1 62 yX1_isThing, .instanceMethod yX1_isThing, .selects RX1 yX1_isThing yX1_isThing, .initialized RX1, .code yX1_isThing cX1_isThing 2 (some .boolean), .fieldLink RX1 45 "WardrobeKeeperModel" "added" "I", .methodLink RX1 48 yX1_isIn, .static yX1_isIn, .code yX1_isIn cX1_isIn 3 (some .boolean), .methodLink RX1 59 yX1_goes, .instanceMethod yX1_goes, .selects RX1 yX1_goes yX1_goes, .code yX1_goes cX1_goes 2 (some .boolean), .fieldLink RX1 41 "WardrobeKeeperModel" "thrown" "I", .methodLink RX1 65 yX1_here, .instanceMethod yX1_here, .selects RX1 yX1_here yX1_here, .code yX1_here cX1_here 3 (some .int)] ++ wsX10)
def wsX1_setClash : List Cond := .code yX1_setClash cX1_setClash 5 (some .boolean) :: ([.fieldLink RX1 32 "WardrobeKeeperModel" "clash" "[Z", .methodLink RX1 52 yX1_isColour, .static yX1_isColour, .initialized RX1, .code yX1_isColour cX1_isColour 1 (some .boolean), .methodLink RX1 48 yX1_isIn, .static yX1_isIn, .code yX1_isIn cX1_isIn 3 (some .boolean), .methodLink RX1 59 yX1_goes, .instanceMethod yX1_goes, .selects RX1 yX1_goes yX1_goes, .code yX1_goes cX1_goes 2 (some .boolean), .fieldLink RX1 41 "WardrobeKeeperModel" "thrown" "I"] ++ wsX10)
def wsX1_things : List Cond := .code yX1_things cX1_things 1 (some .int) :: ([.fieldLink RX1 41 "WardrobeKeeperModel" "thrown" "I", .methodLink RX1 65 yX1_here, .instanceMethod yX1_here, .selects RX1 yX1_here yX1_here, .initialized RX1, .code yX1_here cX1_here 3 (some .int), .fieldLink RX1 45 "WardrobeKeeperModel" "added" "I", .fieldLink RX1 7 "WardrobeKeeperModel" "isGone" "[Z"] ++ wsX10)
def wsX1_left : List Cond := .code yX1_left cX1_left 2 (some .int) :: ([.fieldLink RX1 29 "WardrobeKeeperModel" "lefts" "[I", .methodLink RX1 62 yX1_isThing, .instanceMethod yX1_isThing, .selects RX1 yX1_isThing yX1_isThing, .initialized RX1, .code yX1_isThing cX1_isThing 2 (some .boolean), .fieldLink RX1 45 "WardrobeKeeperModel" "added" "I", .fieldLink RX1 7 "WardrobeKeeperModel" "isGone" "[Z", .methodLink RX1 48 yX1_isIn, .static yX1_isIn, .code yX1_isIn cX1_isIn 3 (some .boolean), .methodLink RX1 59 yX1_goes, .instanceMethod yX1_goes, .selects RX1 yX1_goes yX1_goes, .code yX1_goes cX1_goes 2 (some .boolean), .fieldLink RX1 41 "WardrobeKeeperModel" "thrown" "I"] ++ wsX10)
def wsX1_doClash : List Cond := .code yX1_doClash cX1_doClash 3 (some .boolean) :: ([.fieldLink RX1 32 "WardrobeKeeperModel" "clash" "[Z", .fieldLink RX1 17 "WardrobeKeeperModel" "colours" "[I"] ++ wsX10)
def wsX1_wrong : List Cond := .code yX1_wrong cX1_wrong 5 (some .int) :: ([.fieldLink RX1 13 "WardrobeKeeperModel" "kinds" "[I", .methodLink RX1 62 yX1_isThing, .instanceMethod yX1_isThing, .selects RX1 yX1_isThing yX1_isThing, .initialized RX1, .code yX1_isThing cX1_isThing 2 (some .boolean), .fieldLink RX1 45 "WardrobeKeeperModel" "added" "I", .fieldLink RX1 7 "WardrobeKeeperModel" "isGone" "[Z", .methodLink RX1 48 yX1_isIn, .static yX1_isIn, .code yX1_isIn cX1_isIn 3 (some .boolean)] ++ wsX10)
def wsX1_fits : List Cond := .code yX1_fits cX1_fits 5 (some .boolean) :: ([.fieldLink RX1 29 "WardrobeKeeperModel" "lefts" "[I", .methodLink RX1 69 yX1_doClash, .instanceMethod yX1_doClash, .selects RX1 yX1_doClash yX1_doClash, .initialized RX1, .code yX1_doClash cX1_doClash 3 (some .boolean), .fieldLink RX1 32 "WardrobeKeeperModel" "clash" "[Z", .fieldLink RX1 17 "WardrobeKeeperModel" "colours" "[I"] ++ wsX10)
def wsX1_warmthOf : List Cond := .code yX1_warmthOf cX1_warmthOf 4 (some .int) :: ([.fieldLink RX1 20 "WardrobeKeeperModel" "warmths" "[I"] ++ wsX10)
def wsX1_isSoon : List Cond := .code yX1_isSoon cX1_isSoon 7 (some .boolean) :: ([.fieldLink RX1 35 "WardrobeKeeperModel" "seen" "[I", .fieldLink RX1 73 "WardrobeKeeperModel" "today" "I"] ++ wsX10)
def wsX1_isPossible_r1 : List Cond := [Cond.methodLink RX1 76 yX1_wrong, Cond.instanceMethod yX1_wrong, Cond.selects RX1 yX1_wrong yX1_wrong, Cond.initialized RX1, Cond.code yX1_wrong cX1_wrong 5 (some .int), Cond.fieldLink RX1 13 "WardrobeKeeperModel" "kinds" "[I", Cond.methodLink RX1 62 yX1_isThing, Cond.instanceMethod yX1_isThing, Cond.selects RX1 yX1_isThing yX1_isThing, Cond.code yX1_isThing cX1_isThing 2 (some .boolean), Cond.fieldLink RX1 45 "WardrobeKeeperModel" "added" "I", Cond.fieldLink RX1 7 "WardrobeKeeperModel" "isGone" "[Z", Cond.methodLink RX1 48 yX1_isIn, Cond.static yX1_isIn, Cond.code yX1_isIn cX1_isIn 3 (some .boolean), Cond.methodLink RX1 59 yX1_goes, Cond.instanceMethod yX1_goes, Cond.selects RX1 yX1_goes yX1_goes, Cond.code yX1_goes cX1_goes 2 (some .boolean), Cond.fieldLink RX1 41 "WardrobeKeeperModel" "thrown" "I", Cond.methodLink RX1 80 yX1_fits, Cond.instanceMethod yX1_fits, Cond.selects RX1 yX1_fits yX1_fits, Cond.code yX1_fits cX1_fits 5 (some .boolean)]
def wsX1_isPossible_r2 : List Cond := [Cond.fieldLink RX1 29 "WardrobeKeeperModel" "lefts" "[I", Cond.methodLink RX1 69 yX1_doClash, Cond.instanceMethod yX1_doClash, Cond.selects RX1 yX1_doClash yX1_doClash, Cond.code yX1_doClash cX1_doClash 3 (some .boolean), Cond.fieldLink RX1 32 "WardrobeKeeperModel" "clash" "[Z", Cond.fieldLink RX1 17 "WardrobeKeeperModel" "colours" "[I"]
def wsX1_isPossible : List Cond := .code yX1_isPossible cX1_isPossible 4 (some .boolean) :: ((wsX1_isPossible_r1 ++ wsX1_isPossible_r2) ++ wsX10)
def wsX1_isTooSoon_r1 : List Cond := [Cond.methodLink RX1 76 yX1_wrong, Cond.instanceMethod yX1_wrong, Cond.selects RX1 yX1_wrong yX1_wrong, Cond.initialized RX1, Cond.code yX1_wrong cX1_wrong 5 (some .int), Cond.fieldLink RX1 13 "WardrobeKeeperModel" "kinds" "[I", Cond.methodLink RX1 62 yX1_isThing, Cond.instanceMethod yX1_isThing, Cond.selects RX1 yX1_isThing yX1_isThing, Cond.code yX1_isThing cX1_isThing 2 (some .boolean), Cond.fieldLink RX1 45 "WardrobeKeeperModel" "added" "I", Cond.fieldLink RX1 7 "WardrobeKeeperModel" "isGone" "[Z", Cond.methodLink RX1 48 yX1_isIn, Cond.static yX1_isIn, Cond.code yX1_isIn cX1_isIn 3 (some .boolean), Cond.methodLink RX1 83 yX1_arePeople, Cond.static yX1_arePeople, Cond.code yX1_arePeople cX1_arePeople 1 (some .boolean), Cond.methodLink RX1 59 yX1_goes, Cond.instanceMethod yX1_goes, Cond.selects RX1 yX1_goes yX1_goes, Cond.code yX1_goes cX1_goes 2 (some .boolean), Cond.fieldLink RX1 41 "WardrobeKeeperModel" "thrown" "I", Cond.methodLink RX1 86 yX1_isSoon]
def wsX1_isTooSoon_r2 : List Cond := [Cond.instanceMethod yX1_isSoon, Cond.selects RX1 yX1_isSoon yX1_isSoon, Cond.code yX1_isSoon cX1_isSoon 7 (some .boolean), Cond.fieldLink RX1 35 "WardrobeKeeperModel" "seen" "[I", Cond.fieldLink RX1 73 "WardrobeKeeperModel" "today" "I"]
def wsX1_isTooSoon : List Cond := .code yX1_isTooSoon cX1_isTooSoon 5 (some .boolean) :: ((wsX1_isTooSoon_r1 ++ wsX1_isTooSoon_r2) ++ wsX10)
def wsX1_wear_r1 : List Cond := [Cond.fieldLink RX1 29 "WardrobeKeeperModel" "lefts" "[I", Cond.fieldLink RX1 35 "WardrobeKeeperModel" "seen" "[I", Cond.fieldLink RX1 73 "WardrobeKeeperModel" "today" "I", Cond.methodLink RX1 76 yX1_wrong, Cond.instanceMethod yX1_wrong, Cond.selects RX1 yX1_wrong yX1_wrong, Cond.initialized RX1, Cond.code yX1_wrong cX1_wrong 5 (some .int), Cond.fieldLink RX1 13 "WardrobeKeeperModel" "kinds" "[I", Cond.methodLink RX1 62 yX1_isThing, Cond.instanceMethod yX1_isThing, Cond.selects RX1 yX1_isThing yX1_isThing, Cond.code yX1_isThing cX1_isThing 2 (some .boolean), Cond.fieldLink RX1 45 "WardrobeKeeperModel" "added" "I", Cond.fieldLink RX1 7 "WardrobeKeeperModel" "isGone" "[Z", Cond.methodLink RX1 48 yX1_isIn, Cond.static yX1_isIn, Cond.code yX1_isIn cX1_isIn 3 (some .boolean), Cond.methodLink RX1 83 yX1_arePeople, Cond.static yX1_arePeople, Cond.code yX1_arePeople cX1_arePeople 1 (some .boolean), Cond.methodLink RX1 80 yX1_fits, Cond.instanceMethod yX1_fits, Cond.selects RX1 yX1_fits yX1_fits]
def wsX1_wear_r2 : List Cond := [Cond.code yX1_fits cX1_fits 5 (some .boolean), Cond.methodLink RX1 69 yX1_doClash, Cond.instanceMethod yX1_doClash, Cond.selects RX1 yX1_doClash yX1_doClash, Cond.code yX1_doClash cX1_doClash 3 (some .boolean), Cond.fieldLink RX1 32 "WardrobeKeeperModel" "clash" "[Z", Cond.fieldLink RX1 17 "WardrobeKeeperModel" "colours" "[I", Cond.methodLink RX1 86 yX1_isSoon, Cond.instanceMethod yX1_isSoon, Cond.selects RX1 yX1_isSoon yX1_isSoon, Cond.code yX1_isSoon cX1_isSoon 7 (some .boolean), Cond.methodLink RX1 59 yX1_goes, Cond.instanceMethod yX1_goes, Cond.selects RX1 yX1_goes yX1_goes, Cond.code yX1_goes cX1_goes 2 (some .boolean), Cond.fieldLink RX1 41 "WardrobeKeeperModel" "thrown" "I", Cond.methodLink RX1 89 yX1_warmthOf, Cond.instanceMethod yX1_warmthOf, Cond.selects RX1 yX1_warmthOf yX1_warmthOf, Cond.code yX1_warmthOf cX1_warmthOf 4 (some .int), Cond.fieldLink RX1 20 "WardrobeKeeperModel" "warmths" "[I"]
def wsX1_wear : List Cond := .code yX1_wear cX1_wear 8 (some .int) :: ((wsX1_wear_r1 ++ wsX1_wear_r2) ++ wsX10)
def wsX1_count_r1 : List Cond := [Cond.methodLink RX1 76 yX1_wrong, Cond.instanceMethod yX1_wrong, Cond.selects RX1 yX1_wrong yX1_wrong, Cond.initialized RX1, Cond.code yX1_wrong cX1_wrong 5 (some .int), Cond.fieldLink RX1 13 "WardrobeKeeperModel" "kinds" "[I", Cond.methodLink RX1 62 yX1_isThing, Cond.instanceMethod yX1_isThing, Cond.selects RX1 yX1_isThing yX1_isThing, Cond.code yX1_isThing cX1_isThing 2 (some .boolean), Cond.fieldLink RX1 45 "WardrobeKeeperModel" "added" "I", Cond.fieldLink RX1 7 "WardrobeKeeperModel" "isGone" "[Z", Cond.methodLink RX1 48 yX1_isIn, Cond.static yX1_isIn, Cond.code yX1_isIn cX1_isIn 3 (some .boolean), Cond.methodLink RX1 80 yX1_fits, Cond.instanceMethod yX1_fits, Cond.selects RX1 yX1_fits yX1_fits, Cond.code yX1_fits cX1_fits 5 (some .boolean), Cond.fieldLink RX1 29 "WardrobeKeeperModel" "lefts" "[I", Cond.methodLink RX1 69 yX1_doClash, Cond.instanceMethod yX1_doClash, Cond.selects RX1 yX1_doClash yX1_doClash, Cond.code yX1_doClash cX1_doClash 3 (some .boolean)]
def wsX1_count_r2 : List Cond := [Cond.fieldLink RX1 32 "WardrobeKeeperModel" "clash" "[Z", Cond.fieldLink RX1 17 "WardrobeKeeperModel" "colours" "[I", Cond.methodLink RX1 89 yX1_warmthOf, Cond.instanceMethod yX1_warmthOf, Cond.selects RX1 yX1_warmthOf yX1_warmthOf, Cond.code yX1_warmthOf cX1_warmthOf 4 (some .int), Cond.fieldLink RX1 20 "WardrobeKeeperModel" "warmths" "[I"]
def wsX1_count : List Cond := .code yX1_count cX1_count 9 (some .int) :: ((wsX1_count_r1 ++ wsX1_count_r2) ++ wsX10)
def wsX1_outfits_r1 : List Cond := [Cond.methodLink RX1 48 yX1_isIn, Cond.static yX1_isIn, Cond.initialized RX1, Cond.code yX1_isIn cX1_isIn 3 (some .boolean), Cond.methodLink RX1 59 yX1_goes, Cond.instanceMethod yX1_goes, Cond.selects RX1 yX1_goes yX1_goes, Cond.code yX1_goes cX1_goes 2 (some .boolean), Cond.fieldLink RX1 41 "WardrobeKeeperModel" "thrown" "I", Cond.methodLink RX1 92 yX1_count, Cond.instanceMethod yX1_count, Cond.selects RX1 yX1_count yX1_count, Cond.code yX1_count cX1_count 9 (some .int), Cond.methodLink RX1 76 yX1_wrong, Cond.instanceMethod yX1_wrong, Cond.selects RX1 yX1_wrong yX1_wrong, Cond.code yX1_wrong cX1_wrong 5 (some .int), Cond.fieldLink RX1 13 "WardrobeKeeperModel" "kinds" "[I", Cond.methodLink RX1 62 yX1_isThing, Cond.instanceMethod yX1_isThing, Cond.selects RX1 yX1_isThing yX1_isThing, Cond.code yX1_isThing cX1_isThing 2 (some .boolean), Cond.fieldLink RX1 45 "WardrobeKeeperModel" "added" "I", Cond.fieldLink RX1 7 "WardrobeKeeperModel" "isGone" "[Z"]
def wsX1_outfits_r2 : List Cond := [Cond.methodLink RX1 80 yX1_fits, Cond.instanceMethod yX1_fits, Cond.selects RX1 yX1_fits yX1_fits, Cond.code yX1_fits cX1_fits 5 (some .boolean), Cond.fieldLink RX1 29 "WardrobeKeeperModel" "lefts" "[I", Cond.methodLink RX1 69 yX1_doClash, Cond.instanceMethod yX1_doClash, Cond.selects RX1 yX1_doClash yX1_doClash, Cond.code yX1_doClash cX1_doClash 3 (some .boolean), Cond.fieldLink RX1 32 "WardrobeKeeperModel" "clash" "[Z", Cond.fieldLink RX1 17 "WardrobeKeeperModel" "colours" "[I", Cond.methodLink RX1 89 yX1_warmthOf, Cond.instanceMethod yX1_warmthOf, Cond.selects RX1 yX1_warmthOf yX1_warmthOf, Cond.code yX1_warmthOf cX1_warmthOf 4 (some .int), Cond.fieldLink RX1 20 "WardrobeKeeperModel" "warmths" "[I"]
def wsX1_outfits : List Cond := .code yX1_outfits cX1_outfits 2 (some .int) :: ((wsX1_outfits_r1 ++ wsX1_outfits_r2) ++ wsX10)
def wsX1_adds_r1 : List Cond := [Cond.methodLink RX1 62 yX1_isThing, Cond.instanceMethod yX1_isThing, Cond.selects RX1 yX1_isThing yX1_isThing, Cond.initialized RX1, Cond.code yX1_isThing cX1_isThing 2 (some .boolean), Cond.fieldLink RX1 45 "WardrobeKeeperModel" "added" "I", Cond.fieldLink RX1 7 "WardrobeKeeperModel" "isGone" "[Z", Cond.methodLink RX1 48 yX1_isIn, Cond.static yX1_isIn, Cond.code yX1_isIn cX1_isIn 3 (some .boolean), Cond.methodLink RX1 59 yX1_goes, Cond.instanceMethod yX1_goes, Cond.selects RX1 yX1_goes yX1_goes, Cond.code yX1_goes cX1_goes 2 (some .boolean), Cond.fieldLink RX1 41 "WardrobeKeeperModel" "thrown" "I", Cond.methodLink RX1 92 yX1_count, Cond.instanceMethod yX1_count, Cond.selects RX1 yX1_count yX1_count, Cond.code yX1_count cX1_count 9 (some .int), Cond.methodLink RX1 76 yX1_wrong, Cond.instanceMethod yX1_wrong, Cond.selects RX1 yX1_wrong yX1_wrong, Cond.code yX1_wrong cX1_wrong 5 (some .int), Cond.fieldLink RX1 13 "WardrobeKeeperModel" "kinds" "[I"]
def wsX1_adds_r2 : List Cond := [Cond.methodLink RX1 80 yX1_fits, Cond.instanceMethod yX1_fits, Cond.selects RX1 yX1_fits yX1_fits, Cond.code yX1_fits cX1_fits 5 (some .boolean), Cond.fieldLink RX1 29 "WardrobeKeeperModel" "lefts" "[I", Cond.methodLink RX1 69 yX1_doClash, Cond.instanceMethod yX1_doClash, Cond.selects RX1 yX1_doClash yX1_doClash, Cond.code yX1_doClash cX1_doClash 3 (some .boolean), Cond.fieldLink RX1 32 "WardrobeKeeperModel" "clash" "[Z", Cond.fieldLink RX1 17 "WardrobeKeeperModel" "colours" "[I", Cond.methodLink RX1 89 yX1_warmthOf, Cond.instanceMethod yX1_warmthOf, Cond.selects RX1 yX1_warmthOf yX1_warmthOf, Cond.code yX1_warmthOf cX1_warmthOf 4 (some .int), Cond.fieldLink RX1 20 "WardrobeKeeperModel" "warmths" "[I"]
def wsX1_adds : List Cond := .code yX1_adds cX1_adds 3 (some .int) :: ((wsX1_adds_r1 ++ wsX1_adds_r2) ++ wsX10)
def wsX1_missingTop : List Cond := .code yX1_missingTop cX1_missingTop 7 (some .int) :: ([.fieldLink RX1 41 "WardrobeKeeperModel" "thrown" "I", .fieldLink RX1 45 "WardrobeKeeperModel" "added" "I", .fieldLink RX1 7 "WardrobeKeeperModel" "isGone" "[Z", .fieldLink RX1 13 "WardrobeKeeperModel" "kinds" "[I", .fieldLink RX1 29 "WardrobeKeeperModel" "lefts" "[I", .fieldLink RX1 32 "WardrobeKeeperModel" "clash" "[Z", .fieldLink RX1 17 "WardrobeKeeperModel" "colours" "[I"] ++ wsX10)
def wsX1_outfitFor_r1 : List Cond := [Cond.methodLink RX1 48 yX1_isIn, Cond.static yX1_isIn, Cond.initialized RX1, Cond.code yX1_isIn cX1_isIn 3 (some .boolean), Cond.methodLink RX1 83 yX1_arePeople, Cond.static yX1_arePeople, Cond.code yX1_arePeople cX1_arePeople 1 (some .boolean), Cond.methodLink RX1 59 yX1_goes, Cond.instanceMethod yX1_goes, Cond.selects RX1 yX1_goes yX1_goes, Cond.code yX1_goes cX1_goes 2 (some .boolean), Cond.fieldLink RX1 41 "WardrobeKeeperModel" "thrown" "I", Cond.methodLink RX1 76 yX1_wrong, Cond.instanceMethod yX1_wrong, Cond.selects RX1 yX1_wrong yX1_wrong, Cond.code yX1_wrong cX1_wrong 5 (some .int), Cond.fieldLink RX1 13 "WardrobeKeeperModel" "kinds" "[I", Cond.methodLink RX1 62 yX1_isThing, Cond.instanceMethod yX1_isThing, Cond.selects RX1 yX1_isThing yX1_isThing, Cond.code yX1_isThing cX1_isThing 2 (some .boolean), Cond.fieldLink RX1 45 "WardrobeKeeperModel" "added" "I", Cond.fieldLink RX1 7 "WardrobeKeeperModel" "isGone" "[Z", Cond.methodLink RX1 80 yX1_fits]
def wsX1_outfitFor_r2 : List Cond := [Cond.instanceMethod yX1_fits, Cond.selects RX1 yX1_fits yX1_fits, Cond.code yX1_fits cX1_fits 5 (some .boolean), Cond.fieldLink RX1 29 "WardrobeKeeperModel" "lefts" "[I", Cond.methodLink RX1 69 yX1_doClash, Cond.instanceMethod yX1_doClash, Cond.selects RX1 yX1_doClash yX1_doClash, Cond.code yX1_doClash cX1_doClash 3 (some .boolean), Cond.fieldLink RX1 32 "WardrobeKeeperModel" "clash" "[Z", Cond.fieldLink RX1 17 "WardrobeKeeperModel" "colours" "[I", Cond.methodLink RX1 86 yX1_isSoon, Cond.instanceMethod yX1_isSoon, Cond.selects RX1 yX1_isSoon yX1_isSoon, Cond.code yX1_isSoon cX1_isSoon 7 (some .boolean), Cond.fieldLink RX1 35 "WardrobeKeeperModel" "seen" "[I", Cond.fieldLink RX1 73 "WardrobeKeeperModel" "today" "I", Cond.methodLink RX1 89 yX1_warmthOf, Cond.instanceMethod yX1_warmthOf, Cond.selects RX1 yX1_warmthOf yX1_warmthOf, Cond.code yX1_warmthOf cX1_warmthOf 4 (some .int), Cond.fieldLink RX1 20 "WardrobeKeeperModel" "warmths" "[I"]
def wsX1_outfitFor : List Cond := .code yX1_outfitFor cX1_outfitFor 11 (some .int) :: ((wsX1_outfitFor_r1 ++ wsX1_outfitFor_r2) ++ wsX10)
def wsX1_isOf : List Cond := .code yX1_isOf cX1_isOf 4 (some .boolean) :: ([.fieldLink RX1 7 "WardrobeKeeperModel" "isGone" "[Z", .fieldLink RX1 26 "WardrobeKeeperModel" "cares" "[I", .fieldLink RX1 17 "WardrobeKeeperModel" "colours" "[I"] ++ wsX10)
def wsX1_load : List Cond := .code yX1_load cX1_load 5 (some .int) :: ([.fieldLink RX1 45 "WardrobeKeeperModel" "added" "I", .fieldLink RX1 29 "WardrobeKeeperModel" "lefts" "[I", .methodLink RX1 56 yX1_isCare, .static yX1_isCare, .initialized RX1, .code yX1_isCare cX1_isCare 1 (some .boolean), .methodLink RX1 48 yX1_isIn, .static yX1_isIn, .code yX1_isIn cX1_isIn 3 (some .boolean), .methodLink RX1 59 yX1_goes, .instanceMethod yX1_goes, .selects RX1 yX1_goes yX1_goes, .code yX1_goes cX1_goes 2 (some .boolean), .fieldLink RX1 41 "WardrobeKeeperModel" "thrown" "I", .methodLink RX1 96 yX1_isOf, .instanceMethod yX1_isOf, .selects RX1 yX1_isOf yX1_isOf, .code yX1_isOf cX1_isOf 4 (some .boolean), .fieldLink RX1 7 "WardrobeKeeperModel" "isGone" "[Z", .fieldLink RX1 26 "WardrobeKeeperModel" "cares" "[I", .fieldLink RX1 17 "WardrobeKeeperModel" "colours" "[I"] ++ wsX10)
def wsX1_wash : List Cond := .code yX1_wash cX1_wash 7 (some .int) :: ([.fieldLink RX1 45 "WardrobeKeeperModel" "added" "I", .fieldLink RX1 29 "WardrobeKeeperModel" "lefts" "[I", .fieldLink RX1 23 "WardrobeKeeperModel" "wears" "[I", .methodLink RX1 56 yX1_isCare, .static yX1_isCare, .initialized RX1, .code yX1_isCare cX1_isCare 1 (some .boolean), .methodLink RX1 48 yX1_isIn, .static yX1_isIn, .code yX1_isIn cX1_isIn 3 (some .boolean), .methodLink RX1 59 yX1_goes, .instanceMethod yX1_goes, .selects RX1 yX1_goes yX1_goes, .code yX1_goes cX1_goes 2 (some .boolean), .fieldLink RX1 41 "WardrobeKeeperModel" "thrown" "I", .methodLink RX1 96 yX1_isOf, .instanceMethod yX1_isOf, .selects RX1 yX1_isOf yX1_isOf, .code yX1_isOf cX1_isOf 4 (some .boolean), .fieldLink RX1 7 "WardrobeKeeperModel" "isGone" "[Z", .fieldLink RX1 26 "WardrobeKeeperModel" "cares" "[I", .fieldLink RX1 17 "WardrobeKeeperModel" "colours" "[I"] ++ wsX10)
def wsX1_pass : List Cond := .code yX1_pass cX1_pass 2 (some .int) :: ([.fieldLink RX1 73 "WardrobeKeeperModel" "today" "I", .methodLink RX1 48 yX1_isIn, .static yX1_isIn, .initialized RX1, .code yX1_isIn cX1_isIn 3 (some .boolean), .methodLink RX1 59 yX1_goes, .instanceMethod yX1_goes, .selects RX1 yX1_goes yX1_goes, .code yX1_goes cX1_goes 2 (some .boolean), .fieldLink RX1 41 "WardrobeKeeperModel" "thrown" "I"] ++ wsX10)
def wsX1_laysPairs : List Cond := .code yX1_laysPairs cX1_laysPairs 5 none :: ([.fieldLink RX1 38 "WardrobeKeeperModel" "goesWith" "[I", .fieldLink RX1 20 "WardrobeKeeperModel" "warmths" "[I", .methodLink RX1 76 yX1_wrong, .instanceMethod yX1_wrong, .selects RX1 yX1_wrong yX1_wrong, .initialized RX1, .code yX1_wrong cX1_wrong 5 (some .int), .fieldLink RX1 13 "WardrobeKeeperModel" "kinds" "[I", .methodLink RX1 62 yX1_isThing, .instanceMethod yX1_isThing, .selects RX1 yX1_isThing yX1_isThing, .code yX1_isThing cX1_isThing 2 (some .boolean), .fieldLink RX1 45 "WardrobeKeeperModel" "added" "I", .fieldLink RX1 7 "WardrobeKeeperModel" "isGone" "[Z", .methodLink RX1 48 yX1_isIn, .static yX1_isIn, .code yX1_isIn cX1_isIn 3 (some .boolean), .methodLink RX1 69 yX1_doClash, .instanceMethod yX1_doClash, .selects RX1 yX1_doClash yX1_doClash, .code yX1_doClash cX1_doClash 3 (some .boolean), .fieldLink RX1 32 "WardrobeKeeperModel" "clash" "[Z", .fieldLink RX1 17 "WardrobeKeeperModel" "colours" "[I"] ++ wsX10)
def wsX1_setOf : List Cond := .code yX1_setOf cX1_setOf 4 (some .int) :: ([.fieldLink RX1 45 "WardrobeKeeperModel" "added" "I", .fieldLink RX1 7 "WardrobeKeeperModel" "isGone" "[Z", .fieldLink RX1 13 "WardrobeKeeperModel" "kinds" "[I"] ++ wsX10)
def wsX1_worn : List Cond := .code yX1_worn cX1_worn 4 (some .int) :: ([.fieldLink RX1 45 "WardrobeKeeperModel" "added" "I", .fieldLink RX1 29 "WardrobeKeeperModel" "lefts" "[I"] ++ wsX10)
def wsX1_daysOf : List Cond := .code yX1_daysOf cX1_daysOf 10 (some .int) :: ([.fieldLink RX1 45 "WardrobeKeeperModel" "added" "I", .fieldLink RX1 38 "WardrobeKeeperModel" "goesWith" "[I", .methodLink RX1 100 yX1_worn, .instanceMethod yX1_worn, .selects RX1 yX1_worn yX1_worn, .initialized RX1, .code yX1_worn cX1_worn 4 (some .int), .fieldLink RX1 29 "WardrobeKeeperModel" "lefts" "[I"] ++ wsX10)
def wsX1_isEnough_r1 : List Cond := [Cond.methodLink RX1 104 yX1_setOf, Cond.instanceMethod yX1_setOf, Cond.selects RX1 yX1_setOf yX1_setOf, Cond.initialized RX1, Cond.code yX1_setOf cX1_setOf 4 (some .int), Cond.fieldLink RX1 45 "WardrobeKeeperModel" "added" "I", Cond.fieldLink RX1 7 "WardrobeKeeperModel" "isGone" "[Z", Cond.fieldLink RX1 13 "WardrobeKeeperModel" "kinds" "[I", Cond.methodLink RX1 48 yX1_isIn, Cond.static yX1_isIn, Cond.code yX1_isIn cX1_isIn 3 (some .boolean), Cond.methodLink RX1 59 yX1_goes, Cond.instanceMethod yX1_goes, Cond.selects RX1 yX1_goes yX1_goes, Cond.code yX1_goes cX1_goes 2 (some .boolean), Cond.fieldLink RX1 41 "WardrobeKeeperModel" "thrown" "I", Cond.methodLink RX1 107 yX1_laysPairs, Cond.instanceMethod yX1_laysPairs, Cond.selects RX1 yX1_laysPairs yX1_laysPairs, Cond.code yX1_laysPairs cX1_laysPairs 5 none, Cond.fieldLink RX1 38 "WardrobeKeeperModel" "goesWith" "[I", Cond.fieldLink RX1 20 "WardrobeKeeperModel" "warmths" "[I", Cond.methodLink RX1 76 yX1_wrong, Cond.instanceMethod yX1_wrong]
def wsX1_isEnough_r2 : List Cond := [Cond.selects RX1 yX1_wrong yX1_wrong, Cond.code yX1_wrong cX1_wrong 5 (some .int), Cond.methodLink RX1 62 yX1_isThing, Cond.instanceMethod yX1_isThing, Cond.selects RX1 yX1_isThing yX1_isThing, Cond.code yX1_isThing cX1_isThing 2 (some .boolean), Cond.methodLink RX1 69 yX1_doClash, Cond.instanceMethod yX1_doClash, Cond.selects RX1 yX1_doClash yX1_doClash, Cond.code yX1_doClash cX1_doClash 3 (some .boolean), Cond.fieldLink RX1 32 "WardrobeKeeperModel" "clash" "[Z", Cond.fieldLink RX1 17 "WardrobeKeeperModel" "colours" "[I", Cond.methodLink RX1 111 yX1_daysOf, Cond.instanceMethod yX1_daysOf, Cond.selects RX1 yX1_daysOf yX1_daysOf, Cond.code yX1_daysOf cX1_daysOf 10 (some .int), Cond.methodLink RX1 100 yX1_worn, Cond.instanceMethod yX1_worn, Cond.selects RX1 yX1_worn yX1_worn, Cond.code yX1_worn cX1_worn 4 (some .int), Cond.fieldLink RX1 29 "WardrobeKeeperModel" "lefts" "[I"]
def wsX1_isEnough : List Cond := .code yX1_isEnough cX1_isEnough 5 (some .boolean) :: ((wsX1_isEnough_r1 ++ wsX1_isEnough_r2) ++ wsX10)
def wsX1_size : List Cond := .code yX1_size cX1_size 3 (some .int) :: ([])
def wsX1_bag_r1 : List Cond := [Cond.methodLink RX1 48 yX1_isIn, Cond.static yX1_isIn, Cond.initialized RX1, Cond.code yX1_isIn cX1_isIn 3 (some .boolean), Cond.methodLink RX1 59 yX1_goes, Cond.instanceMethod yX1_goes, Cond.selects RX1 yX1_goes yX1_goes, Cond.code yX1_goes cX1_goes 2 (some .boolean), Cond.fieldLink RX1 41 "WardrobeKeeperModel" "thrown" "I", Cond.methodLink RX1 107 yX1_laysPairs, Cond.instanceMethod yX1_laysPairs, Cond.selects RX1 yX1_laysPairs yX1_laysPairs, Cond.code yX1_laysPairs cX1_laysPairs 5 none, Cond.fieldLink RX1 38 "WardrobeKeeperModel" "goesWith" "[I", Cond.fieldLink RX1 20 "WardrobeKeeperModel" "warmths" "[I", Cond.methodLink RX1 76 yX1_wrong, Cond.instanceMethod yX1_wrong, Cond.selects RX1 yX1_wrong yX1_wrong, Cond.code yX1_wrong cX1_wrong 5 (some .int), Cond.fieldLink RX1 13 "WardrobeKeeperModel" "kinds" "[I", Cond.methodLink RX1 62 yX1_isThing, Cond.instanceMethod yX1_isThing, Cond.selects RX1 yX1_isThing yX1_isThing, Cond.code yX1_isThing cX1_isThing 2 (some .boolean)]
def wsX1_bag_r2 : List Cond := [Cond.fieldLink RX1 45 "WardrobeKeeperModel" "added" "I", Cond.fieldLink RX1 7 "WardrobeKeeperModel" "isGone" "[Z", Cond.methodLink RX1 69 yX1_doClash, Cond.instanceMethod yX1_doClash, Cond.selects RX1 yX1_doClash yX1_doClash, Cond.code yX1_doClash cX1_doClash 3 (some .boolean), Cond.fieldLink RX1 32 "WardrobeKeeperModel" "clash" "[Z", Cond.fieldLink RX1 17 "WardrobeKeeperModel" "colours" "[I", Cond.methodLink RX1 104 yX1_setOf, Cond.instanceMethod yX1_setOf, Cond.selects RX1 yX1_setOf yX1_setOf, Cond.code yX1_setOf cX1_setOf 4 (some .int), Cond.methodLink RX1 114 yX1_size, Cond.static yX1_size, Cond.code yX1_size cX1_size 3 (some .int), Cond.methodLink RX1 111 yX1_daysOf, Cond.instanceMethod yX1_daysOf, Cond.selects RX1 yX1_daysOf yX1_daysOf, Cond.code yX1_daysOf cX1_daysOf 10 (some .int), Cond.methodLink RX1 100 yX1_worn, Cond.instanceMethod yX1_worn, Cond.selects RX1 yX1_worn yX1_worn, Cond.code yX1_worn cX1_worn 4 (some .int), Cond.fieldLink RX1 29 "WardrobeKeeperModel" "lefts" "[I"]
def wsX1_bag : List Cond := .code yX1_bag cX1_bag 11 (some .int) :: ((wsX1_bag_r1 ++ wsX1_bag_r2) ++ wsX10)
def wsL_add_r1 : List Cond := [Cond.classLink RL 13 "java/lang/IllegalArgumentException", Cond.classLink RL 15 "java/lang/IllegalStateException", Cond.methodLink RL 7 yX0_add, Cond.instanceMethod yX0_add, Cond.selects RX0 yX0_add yX0_add, Cond.initialized RX0, Cond.code yX0_add cX0_add 7 (some .int), Cond.classLink RX0 45 "java/lang/IllegalArgumentException", Cond.initialized "java/lang/IllegalArgumentException", Cond.classLink RX0 56 "java/lang/IllegalStateException", Cond.initialized "java/lang/IllegalStateException", Cond.fieldLink RX0 52 "WardrobeKeeper" "added" "I", Cond.fieldLink RX0 9 "WardrobeKeeper" "kinds" "[I", Cond.fieldLink RX0 13 "WardrobeKeeper" "colours" "[I", Cond.fieldLink RX0 16 "WardrobeKeeper" "warmths" "[I", Cond.fieldLink RX0 19 "WardrobeKeeper" "wearsWhenClean" "[I", Cond.fieldLink RX0 22 "WardrobeKeeper" "cares" "[I", Cond.fieldLink RX0 25 "WardrobeKeeper" "wearsLeft" "[I", Cond.fieldLink RX0 61 "WardrobeKeeper" "owned" "I", Cond.methodLink RX0 34 yX0_isWithin, Cond.static yX0_isWithin, Cond.code yX0_isWithin cX0_isWithin 3 (some .boolean), Cond.methodLink RX0 38 yX0_isColour, Cond.static yX0_isColour]
def wsL_add_r2 : List Cond := [Cond.code yX0_isColour cX0_isColour 1 (some .boolean), Cond.methodLink RX0 42 yX0_isCare, Cond.static yX0_isCare, Cond.code yX0_isCare cX0_isCare 1 (some .boolean)]
def wsL_add : List Cond := .codeWith yL_add cL_add 8 (some .int) [(0, 16, 19, 13), (0, 16, 23, 15)] :: ((wsL_add_r1 ++ wsL_add_r2) ++ wsX00 ++ (vx_atS RX0 49 "java/lang/IllegalArgumentException" ["java/lang/RuntimeException", "java/lang/Exception"]).filter goodWord ++ (vx_atS RX0 60 "java/lang/IllegalStateException" ["java/lang/RuntimeException", "java/lang/Exception"]).filter goodWord)
def wsL_giveAway : List Cond := .codeWith yL_giveAway cL_giveAway 4 (some .int) [(0, 9, 12, 21)] :: ([.classLink RL 21 "java/lang/IndexOutOfBoundsException", .methodLink RL 17 yX0_giveAway, .instanceMethod yX0_giveAway, .selects RX0 yX0_giveAway yX0_giveAway, .initialized RX0, .code yX0_giveAway cX0_giveAway 2 (some .int), .classLink RX0 67 "java/lang/IndexOutOfBoundsException", .initialized "java/lang/IndexOutOfBoundsException", .fieldLink RX0 61 "WardrobeKeeper" "owned" "I", .methodLink RX0 64 yX0_isThing, .instanceMethod yX0_isThing, .selects RX0 yX0_isThing yX0_isThing, .code yX0_isThing cX0_isThing 2 (some .boolean), .methodLink RX0 34 yX0_isWithin, .static yX0_isWithin, .code yX0_isWithin cX0_isWithin 3 (some .boolean), .methodLink RX0 72 yJ6_bitCount_0f7a4, .static yJ6_bitCount_0f7a4, .initialized RJ6, .code yJ6_bitCount_0f7a4 cJ6_bitCount_0f7a4 1 (some .int), .constant RJ6 265 (1431655765), .constant RJ6 266 (858993459), .constant RJ6 267 (252645135)] ++ wsX00 ++ (vx_atS RX0 71 "java/lang/IndexOutOfBoundsException" ["java/lang/RuntimeException", "java/lang/Exception"]).filter goodWord)
def wsL_setClash : List Cond := .codeWith yL_setClash cL_setClash 6 (some .int) [(0, 19, 22, 13)] :: ([.classLink RL 13 "java/lang/IllegalArgumentException", .methodLink RL 23 yX0_setClash, .instanceMethod yX0_setClash, .selects RX0 yX0_setClash yX0_setClash, .initialized RX0, .code yX0_setClash cX0_setClash 7 (some .boolean), .classLink RX0 45 "java/lang/IllegalArgumentException", .initialized "java/lang/IllegalArgumentException", .fieldLink RX0 88 "WardrobeKeeper" "clashes" "J", .constantLong RX0 92 (-1), .methodLink RX0 38 yX0_isColour, .static yX0_isColour, .code yX0_isColour cX0_isColour 1 (some .boolean), .methodLink RX0 34 yX0_isWithin, .static yX0_isWithin, .code yX0_isWithin cX0_isWithin 3 (some .boolean), .methodLink RX0 80 yX0_coloursClash, .instanceMethod yX0_coloursClash, .selects RX0 yX0_coloursClash yX0_coloursClash, .code yX0_coloursClash cX0_coloursClash 3 (some .boolean), .methodLink RX0 84 yX0_clashBit, .static yX0_clashBit, .code yX0_clashBit cX0_clashBit 2 (some .long)] ++ wsX00 ++ (vx_atS RX0 49 "java/lang/IllegalArgumentException" ["java/lang/RuntimeException", "java/lang/Exception"]).filter goodWord)
def wsL_left : List Cond := .codeWith yL_left cL_left 4 (some .int) [(0, 9, 12, 21)] :: ([.classLink RL 21 "java/lang/IndexOutOfBoundsException", .methodLink RL 27 yX0_left, .instanceMethod yX0_left, .selects RX0 yX0_left yX0_left, .initialized RX0, .code yX0_left cX0_left 2 (some .int), .classLink RX0 67 "java/lang/IndexOutOfBoundsException", .initialized "java/lang/IndexOutOfBoundsException", .fieldLink RX0 25 "WardrobeKeeper" "wearsLeft" "[I", .methodLink RX0 64 yX0_isThing, .instanceMethod yX0_isThing, .selects RX0 yX0_isThing yX0_isThing, .code yX0_isThing cX0_isThing 2 (some .boolean), .fieldLink RX0 61 "WardrobeKeeper" "owned" "I", .methodLink RX0 34 yX0_isWithin, .static yX0_isWithin, .code yX0_isWithin cX0_isWithin 3 (some .boolean)] ++ wsX00 ++ (vx_atS RX0 71 "java/lang/IndexOutOfBoundsException" ["java/lang/RuntimeException", "java/lang/Exception"]).filter goodWord)
def wsL_isPossible_r1 : List Cond := [Cond.classLink RL 21 "java/lang/IndexOutOfBoundsException", Cond.classLink RL 13 "java/lang/IllegalArgumentException", Cond.methodLink RL 30 yX0_isPossible, Cond.instanceMethod yX0_isPossible, Cond.selects RX0 yX0_isPossible yX0_isPossible, Cond.initialized RX0, Cond.code yX0_isPossible cX0_isPossible 4 (some .boolean), Cond.classLink RX0 67 "java/lang/IndexOutOfBoundsException", Cond.initialized "java/lang/IndexOutOfBoundsException", Cond.classLink RX0 45 "java/lang/IllegalArgumentException", Cond.initialized "java/lang/IllegalArgumentException", Cond.methodLink RX0 94 yX0_areThings, Cond.instanceMethod yX0_areThings, Cond.selects RX0 yX0_areThings yX0_areThings, Cond.code yX0_areThings cX0_areThings 4 (some .boolean), Cond.methodLink RX0 64 yX0_isThing, Cond.instanceMethod yX0_isThing, Cond.selects RX0 yX0_isThing yX0_isThing, Cond.code yX0_isThing cX0_isThing 2 (some .boolean), Cond.fieldLink RX0 61 "WardrobeKeeper" "owned" "I", Cond.methodLink RX0 34 yX0_isWithin, Cond.static yX0_isWithin, Cond.code yX0_isWithin cX0_isWithin 3 (some .boolean), Cond.methodLink RX0 97 yX0_areOfTheirKinds]
def wsL_isPossible_r2 : List Cond := [Cond.instanceMethod yX0_areOfTheirKinds, Cond.selects RX0 yX0_areOfTheirKinds yX0_areOfTheirKinds, Cond.code yX0_areOfTheirKinds cX0_areOfTheirKinds 4 (some .boolean), Cond.methodLink RX0 191 yX0_isOfKind, Cond.instanceMethod yX0_isOfKind, Cond.selects RX0 yX0_isOfKind yX0_isOfKind, Cond.code yX0_isOfKind cX0_isOfKind 3 (some .boolean), Cond.fieldLink RX0 9 "WardrobeKeeper" "kinds" "[I", Cond.methodLink RX0 102 yX0_canBeWorn, Cond.instanceMethod yX0_canBeWorn, Cond.selects RX0 yX0_canBeWorn yX0_canBeWorn, Cond.code yX0_canBeWorn cX0_canBeWorn 4 (some .boolean), Cond.methodLink RX0 194 yX0_isCleanOfKind, Cond.instanceMethod yX0_isCleanOfKind, Cond.selects RX0 yX0_isCleanOfKind yX0_isCleanOfKind, Cond.code yX0_isCleanOfKind cX0_isCleanOfKind 3 (some .boolean), Cond.fieldLink RX0 25 "WardrobeKeeper" "wearsLeft" "[I", Cond.methodLink RX0 197 yX0_doClash, Cond.instanceMethod yX0_doClash, Cond.selects RX0 yX0_doClash yX0_doClash, Cond.code yX0_doClash cX0_doClash 3 (some .boolean), Cond.fieldLink RX0 13 "WardrobeKeeper" "colours" "[I", Cond.methodLink RX0 80 yX0_coloursClash, Cond.instanceMethod yX0_coloursClash]
def wsL_isPossible_r3 : List Cond := [Cond.selects RX0 yX0_coloursClash yX0_coloursClash, Cond.code yX0_coloursClash cX0_coloursClash 3 (some .boolean), Cond.fieldLink RX0 88 "WardrobeKeeper" "clashes" "J", Cond.methodLink RX0 84 yX0_clashBit, Cond.static yX0_clashBit, Cond.code yX0_clashBit cX0_clashBit 2 (some .long), Cond.methodLink RX0 200 yX0_fitsOver, Cond.instanceMethod yX0_fitsOver, Cond.selects RX0 yX0_fitsOver yX0_fitsOver, Cond.code yX0_fitsOver cX0_fitsOver 4 (some .boolean)]
def wsL_isPossible : List Cond := .codeWith yL_isPossible cL_isPossible 6 (some .int) [(0, 19, 22, 21), (0, 19, 26, 13)] :: ((wsL_isPossible_r1 ++ (wsL_isPossible_r2 ++ wsL_isPossible_r3)) ++ wsX00 ++ (vx_atS RX0 71 "java/lang/IndexOutOfBoundsException" ["java/lang/RuntimeException", "java/lang/Exception"]).filter goodWord ++ (vx_atS RX0 49 "java/lang/IllegalArgumentException" ["java/lang/RuntimeException", "java/lang/Exception"]).filter goodWord)
def wsL_isTooSoon_r1 : List Cond := [Cond.classLink RL 21 "java/lang/IndexOutOfBoundsException", Cond.classLink RL 13 "java/lang/IllegalArgumentException", Cond.methodLink RL 34 yX0_isTooSoon, Cond.instanceMethod yX0_isTooSoon, Cond.selects RX0 yX0_isTooSoon yX0_isTooSoon, Cond.initialized RX0, Cond.code yX0_isTooSoon cX0_isTooSoon 4 (some .boolean), Cond.classLink RX0 67 "java/lang/IndexOutOfBoundsException", Cond.initialized "java/lang/IndexOutOfBoundsException", Cond.classLink RX0 45 "java/lang/IllegalArgumentException", Cond.initialized "java/lang/IllegalArgumentException", Cond.methodLink RX0 94 yX0_areThings, Cond.instanceMethod yX0_areThings, Cond.selects RX0 yX0_areThings yX0_areThings, Cond.code yX0_areThings cX0_areThings 4 (some .boolean), Cond.methodLink RX0 64 yX0_isThing, Cond.instanceMethod yX0_isThing, Cond.selects RX0 yX0_isThing yX0_isThing, Cond.code yX0_isThing cX0_isThing 2 (some .boolean), Cond.fieldLink RX0 61 "WardrobeKeeper" "owned" "I", Cond.methodLink RX0 34 yX0_isWithin, Cond.static yX0_isWithin, Cond.code yX0_isWithin cX0_isWithin 3 (some .boolean), Cond.methodLink RX0 97 yX0_areOfTheirKinds]
def wsL_isTooSoon_r2 : List Cond := [Cond.instanceMethod yX0_areOfTheirKinds, Cond.selects RX0 yX0_areOfTheirKinds yX0_areOfTheirKinds, Cond.code yX0_areOfTheirKinds cX0_areOfTheirKinds 4 (some .boolean), Cond.methodLink RX0 191 yX0_isOfKind, Cond.instanceMethod yX0_isOfKind, Cond.selects RX0 yX0_isOfKind yX0_isOfKind, Cond.code yX0_isOfKind cX0_isOfKind 3 (some .boolean), Cond.fieldLink RX0 9 "WardrobeKeeper" "kinds" "[I", Cond.methodLink RX0 105 yX0_arePeople, Cond.static yX0_arePeople, Cond.code yX0_arePeople cX0_arePeople 1 (some .boolean), Cond.methodLink RX0 110 yX0_wasSeenLately, Cond.instanceMethod yX0_wasSeenLately, Cond.selects RX0 yX0_wasSeenLately yX0_wasSeenLately, Cond.code yX0_wasSeenLately cX0_wasSeenLately 6 (some .boolean), Cond.fieldLink RX0 162 "WardrobeKeeper" "today" "I", Cond.fieldLink RX0 28 "WardrobeKeeper" "freeFrom" "[I", Cond.methodLink RX0 206 yX0_firstSeat, Cond.static yX0_firstSeat, Cond.code yX0_firstSeat cX0_firstSeat 2 (some .int)]
def wsL_isTooSoon : List Cond := .codeWith yL_isTooSoon cL_isTooSoon 6 (some .int) [(0, 19, 22, 21), (0, 19, 26, 13)] :: ((wsL_isTooSoon_r1 ++ wsL_isTooSoon_r2) ++ wsX00 ++ (vx_atS RX0 71 "java/lang/IndexOutOfBoundsException" ["java/lang/RuntimeException", "java/lang/Exception"]).filter goodWord ++ (vx_atS RX0 49 "java/lang/IllegalArgumentException" ["java/lang/RuntimeException", "java/lang/Exception"]).filter goodWord)
def wsL_wear_r1 : List Cond := [Cond.classLink RL 21 "java/lang/IndexOutOfBoundsException", Cond.classLink RL 13 "java/lang/IllegalArgumentException", Cond.classLink RL 15 "java/lang/IllegalStateException", Cond.methodLink RL 37 yX0_wear, Cond.instanceMethod yX0_wear, Cond.selects RX0 yX0_wear yX0_wear, Cond.initialized RX0, Cond.code yX0_wear cX0_wear 5 (some .int), Cond.classLink RX0 67 "java/lang/IndexOutOfBoundsException", Cond.initialized "java/lang/IndexOutOfBoundsException", Cond.classLink RX0 45 "java/lang/IllegalArgumentException", Cond.initialized "java/lang/IllegalArgumentException", Cond.classLink RX0 56 "java/lang/IllegalStateException", Cond.initialized "java/lang/IllegalStateException", Cond.methodLink RX0 94 yX0_areThings, Cond.instanceMethod yX0_areThings, Cond.selects RX0 yX0_areThings yX0_areThings, Cond.code yX0_areThings cX0_areThings 4 (some .boolean), Cond.methodLink RX0 64 yX0_isThing, Cond.instanceMethod yX0_isThing, Cond.selects RX0 yX0_isThing yX0_isThing, Cond.code yX0_isThing cX0_isThing 2 (some .boolean), Cond.fieldLink RX0 61 "WardrobeKeeper" "owned" "I", Cond.methodLink RX0 34 yX0_isWithin]
def wsL_wear_r2 : List Cond := [Cond.static yX0_isWithin, Cond.code yX0_isWithin cX0_isWithin 3 (some .boolean), Cond.methodLink RX0 97 yX0_areOfTheirKinds, Cond.instanceMethod yX0_areOfTheirKinds, Cond.selects RX0 yX0_areOfTheirKinds yX0_areOfTheirKinds, Cond.code yX0_areOfTheirKinds cX0_areOfTheirKinds 4 (some .boolean), Cond.methodLink RX0 191 yX0_isOfKind, Cond.instanceMethod yX0_isOfKind, Cond.selects RX0 yX0_isOfKind yX0_isOfKind, Cond.code yX0_isOfKind cX0_isOfKind 3 (some .boolean), Cond.fieldLink RX0 9 "WardrobeKeeper" "kinds" "[I", Cond.methodLink RX0 105 yX0_arePeople, Cond.static yX0_arePeople, Cond.code yX0_arePeople cX0_arePeople 1 (some .boolean), Cond.methodLink RX0 102 yX0_canBeWorn, Cond.instanceMethod yX0_canBeWorn, Cond.selects RX0 yX0_canBeWorn yX0_canBeWorn, Cond.code yX0_canBeWorn cX0_canBeWorn 4 (some .boolean), Cond.methodLink RX0 194 yX0_isCleanOfKind, Cond.instanceMethod yX0_isCleanOfKind, Cond.selects RX0 yX0_isCleanOfKind yX0_isCleanOfKind, Cond.code yX0_isCleanOfKind cX0_isCleanOfKind 3 (some .boolean), Cond.fieldLink RX0 25 "WardrobeKeeper" "wearsLeft" "[I", Cond.methodLink RX0 197 yX0_doClash]
def wsL_wear_r3 : List Cond := [Cond.instanceMethod yX0_doClash, Cond.selects RX0 yX0_doClash yX0_doClash, Cond.code yX0_doClash cX0_doClash 3 (some .boolean), Cond.fieldLink RX0 13 "WardrobeKeeper" "colours" "[I", Cond.methodLink RX0 80 yX0_coloursClash, Cond.instanceMethod yX0_coloursClash, Cond.selects RX0 yX0_coloursClash yX0_coloursClash, Cond.code yX0_coloursClash cX0_coloursClash 3 (some .boolean), Cond.fieldLink RX0 88 "WardrobeKeeper" "clashes" "J", Cond.methodLink RX0 84 yX0_clashBit, Cond.static yX0_clashBit, Cond.code yX0_clashBit cX0_clashBit 2 (some .long), Cond.methodLink RX0 200 yX0_fitsOver, Cond.instanceMethod yX0_fitsOver, Cond.selects RX0 yX0_fitsOver yX0_fitsOver, Cond.code yX0_fitsOver cX0_fitsOver 4 (some .boolean), Cond.methodLink RX0 110 yX0_wasSeenLately, Cond.instanceMethod yX0_wasSeenLately, Cond.selects RX0 yX0_wasSeenLately yX0_wasSeenLately, Cond.code yX0_wasSeenLately cX0_wasSeenLately 6 (some .boolean), Cond.fieldLink RX0 162 "WardrobeKeeper" "today" "I", Cond.fieldLink RX0 28 "WardrobeKeeper" "freeFrom" "[I", Cond.methodLink RX0 206 yX0_firstSeat, Cond.static yX0_firstSeat]
def wsL_wear_r4 : List Cond := [Cond.code yX0_firstSeat cX0_firstSeat 2 (some .int), Cond.methodLink RX0 115 yX0_wearOnce, Cond.instanceMethod yX0_wearOnce, Cond.selects RX0 yX0_wearOnce yX0_wearOnce, Cond.code yX0_wearOnce cX0_wearOnce 2 none, Cond.methodLink RX0 150 yX0_wearsLeftOf, Cond.instanceMethod yX0_wearsLeftOf, Cond.selects RX0 yX0_wearsLeftOf yX0_wearsLeftOf, Cond.code yX0_wearsLeftOf cX0_wearsLeftOf 2 (some .int), Cond.methodLink RX0 119 yX0_showTo, Cond.instanceMethod yX0_showTo, Cond.selects RX0 yX0_showTo yX0_showTo, Cond.code yX0_showTo cX0_showTo 6 none, Cond.methodLink RX0 123 yX0_outfitWarmth, Cond.instanceMethod yX0_outfitWarmth, Cond.selects RX0 yX0_outfitWarmth yX0_outfitWarmth, Cond.code yX0_outfitWarmth cX0_outfitWarmth 4 (some .int), Cond.methodLink RX0 203 yX0_warmthOf, Cond.instanceMethod yX0_warmthOf, Cond.selects RX0 yX0_warmthOf yX0_warmthOf, Cond.code yX0_warmthOf cX0_warmthOf 2 (some .int), Cond.fieldLink RX0 16 "WardrobeKeeper" "warmths" "[I"]
def wsL_wear : List Cond := .codeWith yL_wear cL_wear 7 (some .int) [(0, 14, 17, 21), (0, 14, 21, 13), (0, 14, 25, 15)] :: ((wsL_wear_r1 ++ (wsL_wear_r2 ++ (wsL_wear_r3 ++ wsL_wear_r4))) ++ wsX00 ++ (vx_atS RX0 71 "java/lang/IndexOutOfBoundsException" ["java/lang/RuntimeException", "java/lang/Exception"]).filter goodWord ++ (vx_atS RX0 49 "java/lang/IllegalArgumentException" ["java/lang/RuntimeException", "java/lang/Exception"]).filter goodWord ++ (vx_atS RX0 60 "java/lang/IllegalStateException" ["java/lang/RuntimeException", "java/lang/Exception"]).filter goodWord)
def wsL_outfits_r1 : List Cond := [Cond.classLink RL 13 "java/lang/IllegalArgumentException", Cond.methodLink RL 41 yX0_outfits, Cond.instanceMethod yX0_outfits, Cond.selects RX0 yX0_outfits yX0_outfits, Cond.initialized RX0, Cond.code yX0_outfits cX0_outfits 5 (some .int), Cond.classLink RX0 45 "java/lang/IllegalArgumentException", Cond.initialized "java/lang/IllegalArgumentException", Cond.fieldLink RX0 52 "WardrobeKeeper" "added" "I", Cond.methodLink RX0 127 yX0_isOutfitWarmth, Cond.static yX0_isOutfitWarmth, Cond.code yX0_isOutfitWarmth cX0_isOutfitWarmth 1 (some .boolean), Cond.methodLink RX0 34 yX0_isWithin, Cond.static yX0_isWithin, Cond.code yX0_isWithin cX0_isWithin 3 (some .boolean), Cond.methodLink RX0 132 yX0_countOutfitsOf, Cond.instanceMethod yX0_countOutfitsOf, Cond.selects RX0 yX0_countOutfitsOf yX0_countOutfitsOf, Cond.code yX0_countOutfitsOf cX0_countOutfitsOf 6 (some .int), Cond.methodLink RX0 102 yX0_canBeWorn, Cond.instanceMethod yX0_canBeWorn, Cond.selects RX0 yX0_canBeWorn yX0_canBeWorn, Cond.code yX0_canBeWorn cX0_canBeWorn 4 (some .boolean), Cond.methodLink RX0 194 yX0_isCleanOfKind]
def wsL_outfits_r2 : List Cond := [Cond.instanceMethod yX0_isCleanOfKind, Cond.selects RX0 yX0_isCleanOfKind yX0_isCleanOfKind, Cond.code yX0_isCleanOfKind cX0_isCleanOfKind 3 (some .boolean), Cond.fieldLink RX0 25 "WardrobeKeeper" "wearsLeft" "[I", Cond.methodLink RX0 191 yX0_isOfKind, Cond.instanceMethod yX0_isOfKind, Cond.selects RX0 yX0_isOfKind yX0_isOfKind, Cond.code yX0_isOfKind cX0_isOfKind 3 (some .boolean), Cond.fieldLink RX0 9 "WardrobeKeeper" "kinds" "[I", Cond.methodLink RX0 64 yX0_isThing, Cond.instanceMethod yX0_isThing, Cond.selects RX0 yX0_isThing yX0_isThing, Cond.code yX0_isThing cX0_isThing 2 (some .boolean), Cond.fieldLink RX0 61 "WardrobeKeeper" "owned" "I", Cond.methodLink RX0 197 yX0_doClash, Cond.instanceMethod yX0_doClash, Cond.selects RX0 yX0_doClash yX0_doClash, Cond.code yX0_doClash cX0_doClash 3 (some .boolean), Cond.fieldLink RX0 13 "WardrobeKeeper" "colours" "[I", Cond.methodLink RX0 80 yX0_coloursClash, Cond.instanceMethod yX0_coloursClash, Cond.selects RX0 yX0_coloursClash yX0_coloursClash, Cond.code yX0_coloursClash cX0_coloursClash 3 (some .boolean), Cond.fieldLink RX0 88 "WardrobeKeeper" "clashes" "J"]
def wsL_outfits_r3 : List Cond := [Cond.methodLink RX0 84 yX0_clashBit, Cond.static yX0_clashBit, Cond.code yX0_clashBit cX0_clashBit 2 (some .long), Cond.methodLink RX0 200 yX0_fitsOver, Cond.instanceMethod yX0_fitsOver, Cond.selects RX0 yX0_fitsOver yX0_fitsOver, Cond.code yX0_fitsOver cX0_fitsOver 4 (some .boolean), Cond.methodLink RX0 135 yX0_isWarmOutfit, Cond.instanceMethod yX0_isWarmOutfit, Cond.selects RX0 yX0_isWarmOutfit yX0_isWarmOutfit, Cond.code yX0_isWarmOutfit cX0_isWarmOutfit 5 (some .boolean), Cond.methodLink RX0 123 yX0_outfitWarmth, Cond.instanceMethod yX0_outfitWarmth, Cond.selects RX0 yX0_outfitWarmth yX0_outfitWarmth, Cond.code yX0_outfitWarmth cX0_outfitWarmth 4 (some .int), Cond.methodLink RX0 203 yX0_warmthOf, Cond.instanceMethod yX0_warmthOf, Cond.selects RX0 yX0_warmthOf yX0_warmthOf, Cond.code yX0_warmthOf cX0_warmthOf 2 (some .int), Cond.fieldLink RX0 16 "WardrobeKeeper" "warmths" "[I"]
def wsL_outfits : List Cond := .codeWith yL_outfits cL_outfits 4 (some .int) [(0, 9, 12, 13)] :: ((wsL_outfits_r1 ++ (wsL_outfits_r2 ++ wsL_outfits_r3)) ++ wsX00 ++ (vx_atS RX0 49 "java/lang/IllegalArgumentException" ["java/lang/RuntimeException", "java/lang/Exception"]).filter goodWord)
def wsL_adds_r1 : List Cond := [Cond.classLink RL 21 "java/lang/IndexOutOfBoundsException", Cond.classLink RL 13 "java/lang/IllegalArgumentException", Cond.methodLink RL 44 yX0_adds, Cond.instanceMethod yX0_adds, Cond.selects RX0 yX0_adds yX0_adds, Cond.initialized RX0, Cond.code yX0_adds cX0_adds 6 (some .int), Cond.classLink RX0 67 "java/lang/IndexOutOfBoundsException", Cond.initialized "java/lang/IndexOutOfBoundsException", Cond.classLink RX0 45 "java/lang/IllegalArgumentException", Cond.initialized "java/lang/IllegalArgumentException", Cond.fieldLink RX0 52 "WardrobeKeeper" "added" "I", Cond.methodLink RX0 64 yX0_isThing, Cond.instanceMethod yX0_isThing, Cond.selects RX0 yX0_isThing yX0_isThing, Cond.code yX0_isThing cX0_isThing 2 (some .boolean), Cond.fieldLink RX0 61 "WardrobeKeeper" "owned" "I", Cond.methodLink RX0 34 yX0_isWithin, Cond.static yX0_isWithin, Cond.code yX0_isWithin cX0_isWithin 3 (some .boolean), Cond.methodLink RX0 127 yX0_isOutfitWarmth, Cond.static yX0_isOutfitWarmth, Cond.code yX0_isOutfitWarmth cX0_isOutfitWarmth 1 (some .boolean), Cond.methodLink RX0 132 yX0_countOutfitsOf]
def wsL_adds_r2 : List Cond := [Cond.instanceMethod yX0_countOutfitsOf, Cond.selects RX0 yX0_countOutfitsOf yX0_countOutfitsOf, Cond.code yX0_countOutfitsOf cX0_countOutfitsOf 6 (some .int), Cond.methodLink RX0 102 yX0_canBeWorn, Cond.instanceMethod yX0_canBeWorn, Cond.selects RX0 yX0_canBeWorn yX0_canBeWorn, Cond.code yX0_canBeWorn cX0_canBeWorn 4 (some .boolean), Cond.methodLink RX0 194 yX0_isCleanOfKind, Cond.instanceMethod yX0_isCleanOfKind, Cond.selects RX0 yX0_isCleanOfKind yX0_isCleanOfKind, Cond.code yX0_isCleanOfKind cX0_isCleanOfKind 3 (some .boolean), Cond.fieldLink RX0 25 "WardrobeKeeper" "wearsLeft" "[I", Cond.methodLink RX0 191 yX0_isOfKind, Cond.instanceMethod yX0_isOfKind, Cond.selects RX0 yX0_isOfKind yX0_isOfKind, Cond.code yX0_isOfKind cX0_isOfKind 3 (some .boolean), Cond.fieldLink RX0 9 "WardrobeKeeper" "kinds" "[I", Cond.methodLink RX0 197 yX0_doClash, Cond.instanceMethod yX0_doClash, Cond.selects RX0 yX0_doClash yX0_doClash, Cond.code yX0_doClash cX0_doClash 3 (some .boolean), Cond.fieldLink RX0 13 "WardrobeKeeper" "colours" "[I", Cond.methodLink RX0 80 yX0_coloursClash, Cond.instanceMethod yX0_coloursClash]
def wsL_adds_r3 : List Cond := [Cond.selects RX0 yX0_coloursClash yX0_coloursClash, Cond.code yX0_coloursClash cX0_coloursClash 3 (some .boolean), Cond.fieldLink RX0 88 "WardrobeKeeper" "clashes" "J", Cond.methodLink RX0 84 yX0_clashBit, Cond.static yX0_clashBit, Cond.code yX0_clashBit cX0_clashBit 2 (some .long), Cond.methodLink RX0 200 yX0_fitsOver, Cond.instanceMethod yX0_fitsOver, Cond.selects RX0 yX0_fitsOver yX0_fitsOver, Cond.code yX0_fitsOver cX0_fitsOver 4 (some .boolean), Cond.methodLink RX0 135 yX0_isWarmOutfit, Cond.instanceMethod yX0_isWarmOutfit, Cond.selects RX0 yX0_isWarmOutfit yX0_isWarmOutfit, Cond.code yX0_isWarmOutfit cX0_isWarmOutfit 5 (some .boolean), Cond.methodLink RX0 123 yX0_outfitWarmth, Cond.instanceMethod yX0_outfitWarmth, Cond.selects RX0 yX0_outfitWarmth yX0_outfitWarmth, Cond.code yX0_outfitWarmth cX0_outfitWarmth 4 (some .int), Cond.methodLink RX0 203 yX0_warmthOf, Cond.instanceMethod yX0_warmthOf, Cond.selects RX0 yX0_warmthOf yX0_warmthOf, Cond.code yX0_warmthOf cX0_warmthOf 2 (some .int), Cond.fieldLink RX0 16 "WardrobeKeeper" "warmths" "[I"]
def wsL_adds : List Cond := .codeWith yL_adds cL_adds 5 (some .int) [(0, 10, 13, 21), (0, 10, 17, 13)] :: ((wsL_adds_r1 ++ (wsL_adds_r2 ++ wsL_adds_r3)) ++ wsX00 ++ (vx_atS RX0 71 "java/lang/IndexOutOfBoundsException" ["java/lang/RuntimeException", "java/lang/Exception"]).filter goodWord ++ (vx_atS RX0 49 "java/lang/IllegalArgumentException" ["java/lang/RuntimeException", "java/lang/Exception"]).filter goodWord)
def wsL_outfitFor_r1 : List Cond := [Cond.classLink RL 13 "java/lang/IllegalArgumentException", Cond.methodLink RL 48 yX0_outfitFor, Cond.instanceMethod yX0_outfitFor, Cond.selects RX0 yX0_outfitFor yX0_outfitFor, Cond.initialized RX0, Cond.code yX0_outfitFor cX0_outfitFor 9 (some .int), Cond.classLink RX0 45 "java/lang/IllegalArgumentException", Cond.initialized "java/lang/IllegalArgumentException", Cond.fieldLink RX0 52 "WardrobeKeeper" "added" "I", Cond.methodLink RX0 127 yX0_isOutfitWarmth, Cond.static yX0_isOutfitWarmth, Cond.code yX0_isOutfitWarmth cX0_isOutfitWarmth 1 (some .boolean), Cond.methodLink RX0 34 yX0_isWithin, Cond.static yX0_isWithin, Cond.code yX0_isWithin cX0_isWithin 3 (some .boolean), Cond.methodLink RX0 105 yX0_arePeople, Cond.static yX0_arePeople, Cond.code yX0_arePeople cX0_arePeople 1 (some .boolean), Cond.methodLink RX0 102 yX0_canBeWorn, Cond.instanceMethod yX0_canBeWorn, Cond.selects RX0 yX0_canBeWorn yX0_canBeWorn, Cond.code yX0_canBeWorn cX0_canBeWorn 4 (some .boolean), Cond.methodLink RX0 194 yX0_isCleanOfKind, Cond.instanceMethod yX0_isCleanOfKind]
def wsL_outfitFor_r2 : List Cond := [Cond.selects RX0 yX0_isCleanOfKind yX0_isCleanOfKind, Cond.code yX0_isCleanOfKind cX0_isCleanOfKind 3 (some .boolean), Cond.fieldLink RX0 25 "WardrobeKeeper" "wearsLeft" "[I", Cond.methodLink RX0 191 yX0_isOfKind, Cond.instanceMethod yX0_isOfKind, Cond.selects RX0 yX0_isOfKind yX0_isOfKind, Cond.code yX0_isOfKind cX0_isOfKind 3 (some .boolean), Cond.fieldLink RX0 9 "WardrobeKeeper" "kinds" "[I", Cond.methodLink RX0 64 yX0_isThing, Cond.instanceMethod yX0_isThing, Cond.selects RX0 yX0_isThing yX0_isThing, Cond.code yX0_isThing cX0_isThing 2 (some .boolean), Cond.fieldLink RX0 61 "WardrobeKeeper" "owned" "I", Cond.methodLink RX0 197 yX0_doClash, Cond.instanceMethod yX0_doClash, Cond.selects RX0 yX0_doClash yX0_doClash, Cond.code yX0_doClash cX0_doClash 3 (some .boolean), Cond.fieldLink RX0 13 "WardrobeKeeper" "colours" "[I", Cond.methodLink RX0 80 yX0_coloursClash, Cond.instanceMethod yX0_coloursClash, Cond.selects RX0 yX0_coloursClash yX0_coloursClash, Cond.code yX0_coloursClash cX0_coloursClash 3 (some .boolean), Cond.fieldLink RX0 88 "WardrobeKeeper" "clashes" "J", Cond.methodLink RX0 84 yX0_clashBit]
def wsL_outfitFor_r3 : List Cond := [Cond.static yX0_clashBit, Cond.code yX0_clashBit cX0_clashBit 2 (some .long), Cond.methodLink RX0 200 yX0_fitsOver, Cond.instanceMethod yX0_fitsOver, Cond.selects RX0 yX0_fitsOver yX0_fitsOver, Cond.code yX0_fitsOver cX0_fitsOver 4 (some .boolean), Cond.methodLink RX0 110 yX0_wasSeenLately, Cond.instanceMethod yX0_wasSeenLately, Cond.selects RX0 yX0_wasSeenLately yX0_wasSeenLately, Cond.code yX0_wasSeenLately cX0_wasSeenLately 6 (some .boolean), Cond.fieldLink RX0 162 "WardrobeKeeper" "today" "I", Cond.fieldLink RX0 28 "WardrobeKeeper" "freeFrom" "[I", Cond.methodLink RX0 206 yX0_firstSeat, Cond.static yX0_firstSeat, Cond.code yX0_firstSeat cX0_firstSeat 2 (some .int), Cond.methodLink RX0 123 yX0_outfitWarmth, Cond.instanceMethod yX0_outfitWarmth, Cond.selects RX0 yX0_outfitWarmth yX0_outfitWarmth, Cond.code yX0_outfitWarmth cX0_outfitWarmth 4 (some .int), Cond.methodLink RX0 203 yX0_warmthOf, Cond.instanceMethod yX0_warmthOf, Cond.selects RX0 yX0_warmthOf yX0_warmthOf, Cond.code yX0_warmthOf cX0_warmthOf 2 (some .int), Cond.fieldLink RX0 16 "WardrobeKeeper" "warmths" "[I"]
def wsL_outfitFor_r4 : List Cond := [Cond.methodLink RX0 135 yX0_isWarmOutfit, Cond.instanceMethod yX0_isWarmOutfit, Cond.selects RX0 yX0_isWarmOutfit yX0_isWarmOutfit, Cond.code yX0_isWarmOutfit cX0_isWarmOutfit 5 (some .boolean)]
def wsL_outfitFor : List Cond := .codeWith yL_outfitFor cL_outfitFor 5 (some .int) [(0, 10, 13, 13)] :: ((wsL_outfitFor_r1 ++ (wsL_outfitFor_r2 ++ (wsL_outfitFor_r3 ++ wsL_outfitFor_r4))) ++ wsX00 ++ (vx_atS RX0 49 "java/lang/IllegalArgumentException" ["java/lang/RuntimeException", "java/lang/Exception"]).filter goodWord)
def wsL_load_r1 : List Cond := [Cond.classLink RL 13 "java/lang/IllegalArgumentException", Cond.methodLink RL 51 yX0_load, Cond.instanceMethod yX0_load, Cond.selects RX0 yX0_load yX0_load, Cond.initialized RX0, Cond.code yX0_load cX0_load 5 (some .int), Cond.classLink RX0 45 "java/lang/IllegalArgumentException", Cond.initialized "java/lang/IllegalArgumentException", Cond.fieldLink RX0 52 "WardrobeKeeper" "added" "I", Cond.methodLink RX0 42 yX0_isCare, Cond.static yX0_isCare, Cond.code yX0_isCare cX0_isCare 1 (some .boolean), Cond.methodLink RX0 34 yX0_isWithin, Cond.static yX0_isWithin, Cond.code yX0_isWithin cX0_isWithin 3 (some .boolean), Cond.methodLink RX0 146 yX0_isWashedWith, Cond.instanceMethod yX0_isWashedWith, Cond.selects RX0 yX0_isWashedWith yX0_isWashedWith, Cond.code yX0_isWashedWith cX0_isWashedWith 4 (some .boolean), Cond.fieldLink RX0 22 "WardrobeKeeper" "cares" "[I", Cond.fieldLink RX0 13 "WardrobeKeeper" "colours" "[I", Cond.methodLink RX0 64 yX0_isThing, Cond.instanceMethod yX0_isThing, Cond.selects RX0 yX0_isThing yX0_isThing]
def wsL_load_r2 : List Cond := [Cond.code yX0_isThing cX0_isThing 2 (some .boolean), Cond.fieldLink RX0 61 "WardrobeKeeper" "owned" "I", Cond.methodLink RX0 150 yX0_wearsLeftOf, Cond.instanceMethod yX0_wearsLeftOf, Cond.selects RX0 yX0_wearsLeftOf yX0_wearsLeftOf, Cond.code yX0_wearsLeftOf cX0_wearsLeftOf 2 (some .int), Cond.fieldLink RX0 25 "WardrobeKeeper" "wearsLeft" "[I"]
def wsL_load : List Cond := .codeWith yL_load cL_load 5 (some .int) [(0, 10, 13, 13)] :: ((wsL_load_r1 ++ wsL_load_r2) ++ wsX00 ++ (vx_atS RX0 49 "java/lang/IllegalArgumentException" ["java/lang/RuntimeException", "java/lang/Exception"]).filter goodWord)
def wsL_wash_r1 : List Cond := [Cond.classLink RL 13 "java/lang/IllegalArgumentException", Cond.methodLink RL 55 yX0_wash, Cond.instanceMethod yX0_wash, Cond.selects RX0 yX0_wash yX0_wash, Cond.initialized RX0, Cond.code yX0_wash cX0_wash 6 (some .int), Cond.classLink RX0 45 "java/lang/IllegalArgumentException", Cond.initialized "java/lang/IllegalArgumentException", Cond.methodLink RX0 42 yX0_isCare, Cond.static yX0_isCare, Cond.code yX0_isCare cX0_isCare 1 (some .boolean), Cond.methodLink RX0 34 yX0_isWithin, Cond.static yX0_isWithin, Cond.code yX0_isWithin cX0_isWithin 3 (some .boolean), Cond.methodLink RX0 153 yX0_nextToWash, Cond.instanceMethod yX0_nextToWash, Cond.selects RX0 yX0_nextToWash yX0_nextToWash, Cond.code yX0_nextToWash cX0_nextToWash 5 (some .int), Cond.fieldLink RX0 52 "WardrobeKeeper" "added" "I", Cond.fieldLink RX0 25 "WardrobeKeeper" "wearsLeft" "[I", Cond.fieldLink RX0 19 "WardrobeKeeper" "wearsWhenClean" "[I", Cond.methodLink RX0 146 yX0_isWashedWith, Cond.instanceMethod yX0_isWashedWith, Cond.selects RX0 yX0_isWashedWith yX0_isWashedWith]
def wsL_wash_r2 : List Cond := [Cond.code yX0_isWashedWith cX0_isWashedWith 4 (some .boolean), Cond.fieldLink RX0 22 "WardrobeKeeper" "cares" "[I", Cond.fieldLink RX0 13 "WardrobeKeeper" "colours" "[I", Cond.methodLink RX0 64 yX0_isThing, Cond.instanceMethod yX0_isThing, Cond.selects RX0 yX0_isThing yX0_isThing, Cond.code yX0_isThing cX0_isThing 2 (some .boolean), Cond.fieldLink RX0 61 "WardrobeKeeper" "owned" "I", Cond.methodLink RX0 150 yX0_wearsLeftOf, Cond.instanceMethod yX0_wearsLeftOf, Cond.selects RX0 yX0_wearsLeftOf yX0_wearsLeftOf, Cond.code yX0_wearsLeftOf cX0_wearsLeftOf 2 (some .int), Cond.methodLink RX0 157 yX0_makeClean, Cond.instanceMethod yX0_makeClean, Cond.selects RX0 yX0_makeClean yX0_makeClean, Cond.code yX0_makeClean cX0_makeClean 2 none]
def wsL_wash : List Cond := .codeWith yL_wash cL_wash 5 (some .int) [(0, 10, 13, 13)] :: ((wsL_wash_r1 ++ wsL_wash_r2) ++ wsX00 ++ (vx_atS RX0 49 "java/lang/IllegalArgumentException" ["java/lang/RuntimeException", "java/lang/Exception"]).filter goodWord)
def wsL_pass : List Cond := .codeWith yL_pass cL_pass 4 (some .int) [(0, 9, 12, 13), (0, 9, 15, 15)] :: ([.classLink RL 13 "java/lang/IllegalArgumentException", .classLink RL 15 "java/lang/IllegalStateException", .methodLink RL 58 yX0_pass, .instanceMethod yX0_pass, .selects RX0 yX0_pass yX0_pass, .initialized RX0, .code yX0_pass cX0_pass 2 (some .int), .classLink RX0 45 "java/lang/IllegalArgumentException", .initialized "java/lang/IllegalArgumentException", .classLink RX0 56 "java/lang/IllegalStateException", .initialized "java/lang/IllegalStateException", .fieldLink RX0 162 "WardrobeKeeper" "today" "I", .methodLink RX0 34 yX0_isWithin, .static yX0_isWithin, .code yX0_isWithin cX0_isWithin 3 (some .boolean)] ++ wsX00 ++ (vx_atS RX0 49 "java/lang/IllegalArgumentException" ["java/lang/RuntimeException", "java/lang/Exception"]).filter goodWord ++ (vx_atS RX0 60 "java/lang/IllegalStateException" ["java/lang/RuntimeException", "java/lang/Exception"]).filter goodWord)
def wsL_isEnough_r1 : List Cond := [Cond.classLink RL 13 "java/lang/IllegalArgumentException", Cond.methodLink RL 61 yX0_isEnough, Cond.instanceMethod yX0_isEnough, Cond.selects RX0 yX0_isEnough yX0_isEnough, Cond.initialized RX0, Cond.code yX0_isEnough cX0_isEnough 4 (some .boolean), Cond.classLink RX0 45 "java/lang/IllegalArgumentException", Cond.initialized "java/lang/IllegalArgumentException", Cond.fieldLink RX0 61 "WardrobeKeeper" "owned" "I", Cond.methodLink RX0 167 yX0_isBagQuestion, Cond.static yX0_isBagQuestion, Cond.code yX0_isBagQuestion cX0_isBagQuestion 2 (some .boolean), Cond.methodLink RX0 34 yX0_isWithin, Cond.static yX0_isWithin, Cond.code yX0_isWithin cX0_isWithin 3 (some .boolean), Cond.methodLink RX0 172 yX0_findPartners, Cond.instanceMethod yX0_findPartners, Cond.selects RX0 yX0_findPartners yX0_findPartners, Cond.code yX0_findPartners cX0_findPartners 4 none, Cond.fieldLink RX0 31 "WardrobeKeeper" "partners" "[I", Cond.fieldLink RX0 52 "WardrobeKeeper" "added" "I", Cond.methodLink RX0 209 yX0_arePartners, Cond.instanceMethod yX0_arePartners, Cond.selects RX0 yX0_arePartners yX0_arePartners]
def wsL_isEnough_r2 : List Cond := [Cond.code yX0_arePartners cX0_arePartners 4 (some .boolean), Cond.methodLink RX0 97 yX0_areOfTheirKinds, Cond.instanceMethod yX0_areOfTheirKinds, Cond.selects RX0 yX0_areOfTheirKinds yX0_areOfTheirKinds, Cond.code yX0_areOfTheirKinds cX0_areOfTheirKinds 4 (some .boolean), Cond.methodLink RX0 191 yX0_isOfKind, Cond.instanceMethod yX0_isOfKind, Cond.selects RX0 yX0_isOfKind yX0_isOfKind, Cond.code yX0_isOfKind cX0_isOfKind 3 (some .boolean), Cond.fieldLink RX0 9 "WardrobeKeeper" "kinds" "[I", Cond.methodLink RX0 64 yX0_isThing, Cond.instanceMethod yX0_isThing, Cond.selects RX0 yX0_isThing yX0_isThing, Cond.code yX0_isThing cX0_isThing 2 (some .boolean), Cond.methodLink RX0 197 yX0_doClash, Cond.instanceMethod yX0_doClash, Cond.selects RX0 yX0_doClash yX0_doClash, Cond.code yX0_doClash cX0_doClash 3 (some .boolean), Cond.fieldLink RX0 13 "WardrobeKeeper" "colours" "[I", Cond.methodLink RX0 80 yX0_coloursClash, Cond.instanceMethod yX0_coloursClash, Cond.selects RX0 yX0_coloursClash yX0_coloursClash, Cond.code yX0_coloursClash cX0_coloursClash 3 (some .boolean), Cond.fieldLink RX0 88 "WardrobeKeeper" "clashes" "J"]
def wsL_isEnough_r3 : List Cond := [Cond.methodLink RX0 84 yX0_clashBit, Cond.static yX0_clashBit, Cond.code yX0_clashBit cX0_clashBit 2 (some .long), Cond.methodLink RX0 123 yX0_outfitWarmth, Cond.instanceMethod yX0_outfitWarmth, Cond.selects RX0 yX0_outfitWarmth yX0_outfitWarmth, Cond.code yX0_outfitWarmth cX0_outfitWarmth 4 (some .int), Cond.methodLink RX0 203 yX0_warmthOf, Cond.instanceMethod yX0_warmthOf, Cond.selects RX0 yX0_warmthOf yX0_warmthOf, Cond.code yX0_warmthOf cX0_warmthOf 2 (some .int), Cond.fieldLink RX0 16 "WardrobeKeeper" "warmths" "[I", Cond.methodLink RX0 175 yX0_thingsOfKind, Cond.instanceMethod yX0_thingsOfKind, Cond.selects RX0 yX0_thingsOfKind yX0_thingsOfKind, Cond.code yX0_thingsOfKind cX0_thingsOfKind 4 (some .int), Cond.methodLink RX0 178 yX0_lasts, Cond.instanceMethod yX0_lasts, Cond.selects RX0 yX0_lasts yX0_lasts, Cond.code yX0_lasts cX0_lasts 9 (some .boolean), Cond.methodLink RX0 72 yJ6_bitCount_0f7a4, Cond.static yJ6_bitCount_0f7a4, Cond.initialized RJ6, Cond.code yJ6_bitCount_0f7a4 cJ6_bitCount_0f7a4 1 (some .int)]
def wsL_isEnough_r4 : List Cond := [Cond.constant RJ6 265 (1431655765), Cond.constant RJ6 266 (858993459), Cond.constant RJ6 267 (252645135), Cond.methodLink RX0 212 yX0_wearsLeftIn, Cond.instanceMethod yX0_wearsLeftIn, Cond.selects RX0 yX0_wearsLeftIn yX0_wearsLeftIn, Cond.code yX0_wearsLeftIn cX0_wearsLeftIn 4 (some .int), Cond.fieldLink RX0 25 "WardrobeKeeper" "wearsLeft" "[I", Cond.methodLink RX0 215 yX0_partnersOf, Cond.instanceMethod yX0_partnersOf, Cond.selects RX0 yX0_partnersOf yX0_partnersOf, Cond.code yX0_partnersOf cX0_partnersOf 4 (some .int), Cond.methodLink RX0 187 yX0_nextPart, Cond.static yX0_nextPart, Cond.code yX0_nextPart cX0_nextPart 2 (some .int)]
def wsL_isEnough : List Cond := .codeWith yL_isEnough cL_isEnough 6 (some .int) [(0, 19, 22, 13)] :: ((wsL_isEnough_r1 ++ (wsL_isEnough_r2 ++ (wsL_isEnough_r3 ++ wsL_isEnough_r4))) ++ wsX00 ++ (vx_atS RX0 49 "java/lang/IllegalArgumentException" ["java/lang/RuntimeException", "java/lang/Exception"]).filter goodWord)
def wsL_bag_r1 : List Cond := [Cond.classLink RL 13 "java/lang/IllegalArgumentException", Cond.methodLink RL 64 yX0_bag, Cond.instanceMethod yX0_bag, Cond.selects RX0 yX0_bag yX0_bag, Cond.initialized RX0, Cond.code yX0_bag cX0_bag 11 (some .int), Cond.classLink RX0 45 "java/lang/IllegalArgumentException", Cond.initialized "java/lang/IllegalArgumentException", Cond.methodLink RX0 167 yX0_isBagQuestion, Cond.static yX0_isBagQuestion, Cond.code yX0_isBagQuestion cX0_isBagQuestion 2 (some .boolean), Cond.methodLink RX0 34 yX0_isWithin, Cond.static yX0_isWithin, Cond.code yX0_isWithin cX0_isWithin 3 (some .boolean), Cond.methodLink RX0 172 yX0_findPartners, Cond.instanceMethod yX0_findPartners, Cond.selects RX0 yX0_findPartners yX0_findPartners, Cond.code yX0_findPartners cX0_findPartners 4 none, Cond.fieldLink RX0 31 "WardrobeKeeper" "partners" "[I", Cond.fieldLink RX0 52 "WardrobeKeeper" "added" "I", Cond.methodLink RX0 209 yX0_arePartners, Cond.instanceMethod yX0_arePartners, Cond.selects RX0 yX0_arePartners yX0_arePartners, Cond.code yX0_arePartners cX0_arePartners 4 (some .boolean)]
def wsL_bag_r2 : List Cond := [Cond.methodLink RX0 97 yX0_areOfTheirKinds, Cond.instanceMethod yX0_areOfTheirKinds, Cond.selects RX0 yX0_areOfTheirKinds yX0_areOfTheirKinds, Cond.code yX0_areOfTheirKinds cX0_areOfTheirKinds 4 (some .boolean), Cond.methodLink RX0 191 yX0_isOfKind, Cond.instanceMethod yX0_isOfKind, Cond.selects RX0 yX0_isOfKind yX0_isOfKind, Cond.code yX0_isOfKind cX0_isOfKind 3 (some .boolean), Cond.fieldLink RX0 9 "WardrobeKeeper" "kinds" "[I", Cond.methodLink RX0 64 yX0_isThing, Cond.instanceMethod yX0_isThing, Cond.selects RX0 yX0_isThing yX0_isThing, Cond.code yX0_isThing cX0_isThing 2 (some .boolean), Cond.fieldLink RX0 61 "WardrobeKeeper" "owned" "I", Cond.methodLink RX0 197 yX0_doClash, Cond.instanceMethod yX0_doClash, Cond.selects RX0 yX0_doClash yX0_doClash, Cond.code yX0_doClash cX0_doClash 3 (some .boolean), Cond.fieldLink RX0 13 "WardrobeKeeper" "colours" "[I", Cond.methodLink RX0 80 yX0_coloursClash, Cond.instanceMethod yX0_coloursClash, Cond.selects RX0 yX0_coloursClash yX0_coloursClash, Cond.code yX0_coloursClash cX0_coloursClash 3 (some .boolean), Cond.fieldLink RX0 88 "WardrobeKeeper" "clashes" "J"]
def wsL_bag_r3 : List Cond := [Cond.methodLink RX0 84 yX0_clashBit, Cond.static yX0_clashBit, Cond.code yX0_clashBit cX0_clashBit 2 (some .long), Cond.methodLink RX0 123 yX0_outfitWarmth, Cond.instanceMethod yX0_outfitWarmth, Cond.selects RX0 yX0_outfitWarmth yX0_outfitWarmth, Cond.code yX0_outfitWarmth cX0_outfitWarmth 4 (some .int), Cond.methodLink RX0 203 yX0_warmthOf, Cond.instanceMethod yX0_warmthOf, Cond.selects RX0 yX0_warmthOf yX0_warmthOf, Cond.code yX0_warmthOf cX0_warmthOf 2 (some .int), Cond.fieldLink RX0 16 "WardrobeKeeper" "warmths" "[I", Cond.methodLink RX0 183 yX0_usefulThings, Cond.instanceMethod yX0_usefulThings, Cond.selects RX0 yX0_usefulThings yX0_usefulThings, Cond.code yX0_usefulThings cX0_usefulThings 3 (some .int), Cond.methodLink RX0 150 yX0_wearsLeftOf, Cond.instanceMethod yX0_wearsLeftOf, Cond.selects RX0 yX0_wearsLeftOf yX0_wearsLeftOf, Cond.code yX0_wearsLeftOf cX0_wearsLeftOf 2 (some .int), Cond.fieldLink RX0 25 "WardrobeKeeper" "wearsLeft" "[I", Cond.methodLink RX0 175 yX0_thingsOfKind, Cond.instanceMethod yX0_thingsOfKind, Cond.selects RX0 yX0_thingsOfKind yX0_thingsOfKind]
def wsL_bag_r4 : List Cond := [Cond.code yX0_thingsOfKind cX0_thingsOfKind 4 (some .int), Cond.methodLink RX0 178 yX0_lasts, Cond.instanceMethod yX0_lasts, Cond.selects RX0 yX0_lasts yX0_lasts, Cond.code yX0_lasts cX0_lasts 9 (some .boolean), Cond.methodLink RX0 72 yJ6_bitCount_0f7a4, Cond.static yJ6_bitCount_0f7a4, Cond.initialized RJ6, Cond.code yJ6_bitCount_0f7a4 cJ6_bitCount_0f7a4 1 (some .int), Cond.constant RJ6 265 (1431655765), Cond.constant RJ6 266 (858993459), Cond.constant RJ6 267 (252645135), Cond.methodLink RX0 212 yX0_wearsLeftIn, Cond.instanceMethod yX0_wearsLeftIn, Cond.selects RX0 yX0_wearsLeftIn yX0_wearsLeftIn, Cond.code yX0_wearsLeftIn cX0_wearsLeftIn 4 (some .int), Cond.methodLink RX0 215 yX0_partnersOf, Cond.instanceMethod yX0_partnersOf, Cond.selects RX0 yX0_partnersOf yX0_partnersOf, Cond.code yX0_partnersOf cX0_partnersOf 4 (some .int), Cond.methodLink RX0 187 yX0_nextPart, Cond.static yX0_nextPart, Cond.code yX0_nextPart cX0_nextPart 2 (some .int)]
def wsL_bag : List Cond := .codeWith yL_bag cL_bag 5 (some .int) [(0, 10, 13, 13)] :: ((wsL_bag_r1 ++ (wsL_bag_r2 ++ (wsL_bag_r3 ++ wsL_bag_r4))) ++ wsX00 ++ (vx_atS RX0 49 "java/lang/IllegalArgumentException" ["java/lang/RuntimeException", "java/lang/Exception"]).filter goodWord)
def wsL_law0_r1 : List Cond := [Cond.classLink RL 8 RX0, Cond.instantiable RX0 12, Cond.initialized RX0, Cond.classLink RL 68 RX1, Cond.instantiable RX1 13, Cond.initialized RX1, Cond.arrayClass .long, Cond.methodLink RL 67 yX0_init, Cond.instanceMethod yX0_init, Cond.code yX0_init cX0_init 1 none, Cond.methodLink RX0 1 objectInit, Cond.instanceMethod objectInit, Cond.code objectInit ⟨#[0xb1]⟩ 1 none, Cond.arrayClass .int, Cond.fieldLink RX0 9 "WardrobeKeeper" "kinds" "[I", Cond.fieldLink RX0 13 "WardrobeKeeper" "colours" "[I", Cond.fieldLink RX0 16 "WardrobeKeeper" "warmths" "[I", Cond.fieldLink RX0 19 "WardrobeKeeper" "wearsWhenClean" "[I", Cond.fieldLink RX0 22 "WardrobeKeeper" "cares" "[I", Cond.fieldLink RX0 25 "WardrobeKeeper" "wearsLeft" "[I", Cond.fieldLink RX0 28 "WardrobeKeeper" "freeFrom" "[I", Cond.fieldLink RX0 31 "WardrobeKeeper" "partners" "[I", Cond.methodLink RL 70 yX1_init, Cond.instanceMethod yX1_init]
def wsL_law0_r2 : List Cond := [Cond.code yX1_init cX1_init 1 none, Cond.methodLink RX1 1 objectInit, Cond.arrayClass .boolean, Cond.fieldLink RX1 7 "WardrobeKeeperModel" "isGone" "[Z", Cond.fieldLink RX1 13 "WardrobeKeeperModel" "kinds" "[I", Cond.fieldLink RX1 17 "WardrobeKeeperModel" "colours" "[I", Cond.fieldLink RX1 20 "WardrobeKeeperModel" "warmths" "[I", Cond.fieldLink RX1 23 "WardrobeKeeperModel" "wears" "[I", Cond.fieldLink RX1 26 "WardrobeKeeperModel" "cares" "[I", Cond.fieldLink RX1 29 "WardrobeKeeperModel" "lefts" "[I", Cond.fieldLink RX1 32 "WardrobeKeeperModel" "clash" "[Z", Cond.fieldLink RX1 35 "WardrobeKeeperModel" "seen" "[I", Cond.fieldLink RX1 38 "WardrobeKeeperModel" "goesWith" "[I", Cond.methodLink RL 71 yL_add, Cond.static yL_add, Cond.initialized RL, Cond.codeWith yL_add cL_add 8 (some .int) [(0, 16, 19, 13), (0, 16, 23, 15)], Cond.classLink RL 13 "java/lang/IllegalArgumentException", Cond.classLink RL 15 "java/lang/IllegalStateException", Cond.methodLink RL 7 yX0_add, Cond.instanceMethod yX0_add, Cond.selects RX0 yX0_add yX0_add, Cond.code yX0_add cX0_add 7 (some .int), Cond.classLink RX0 45 "java/lang/IllegalArgumentException"]
def wsL_law0_r3 : List Cond := [Cond.initialized "java/lang/IllegalArgumentException", Cond.classLink RX0 56 "java/lang/IllegalStateException", Cond.initialized "java/lang/IllegalStateException", Cond.fieldLink RX0 52 "WardrobeKeeper" "added" "I", Cond.fieldLink RX0 61 "WardrobeKeeper" "owned" "I", Cond.methodLink RX0 34 yX0_isWithin, Cond.static yX0_isWithin, Cond.code yX0_isWithin cX0_isWithin 3 (some .boolean), Cond.methodLink RX0 38 yX0_isColour, Cond.static yX0_isColour, Cond.code yX0_isColour cX0_isColour 1 (some .boolean), Cond.methodLink RX0 42 yX0_isCare, Cond.static yX0_isCare, Cond.code yX0_isCare cX0_isCare 1 (some .boolean), Cond.methodLink RL 76 yX1_add, Cond.instanceMethod yX1_add, Cond.selects RX1 yX1_add yX1_add, Cond.code yX1_add cX1_add 7 (some .int), Cond.fieldLink RX1 45 "WardrobeKeeperModel" "added" "I", Cond.methodLink RX1 48 yX1_isIn, Cond.static yX1_isIn, Cond.code yX1_isIn cX1_isIn 3 (some .boolean), Cond.methodLink RX1 52 yX1_isColour, Cond.static yX1_isColour]
def wsL_law0_r4 : List Cond := [Cond.code yX1_isColour cX1_isColour 1 (some .boolean), Cond.methodLink RX1 56 yX1_isCare, Cond.static yX1_isCare, Cond.code yX1_isCare cX1_isCare 1 (some .boolean), Cond.methodLink RX1 59 yX1_goes, Cond.instanceMethod yX1_goes, Cond.selects RX1 yX1_goes yX1_goes, Cond.code yX1_goes cX1_goes 2 (some .boolean), Cond.fieldLink RX1 41 "WardrobeKeeperModel" "thrown" "I", Cond.methodLink RL 77 yX1_thrown, Cond.instanceMethod yX1_thrown, Cond.selects RX1 yX1_thrown yX1_thrown, Cond.code yX1_thrown cX1_thrown 1 (some .int), Cond.methodLink RL 81 yL_giveAway, Cond.static yL_giveAway, Cond.codeWith yL_giveAway cL_giveAway 4 (some .int) [(0, 9, 12, 21)], Cond.classLink RL 21 "java/lang/IndexOutOfBoundsException", Cond.methodLink RL 17 yX0_giveAway, Cond.instanceMethod yX0_giveAway, Cond.selects RX0 yX0_giveAway yX0_giveAway, Cond.code yX0_giveAway cX0_giveAway 2 (some .int), Cond.classLink RX0 67 "java/lang/IndexOutOfBoundsException", Cond.initialized "java/lang/IndexOutOfBoundsException", Cond.methodLink RX0 64 yX0_isThing]
def wsL_law0_r5 : List Cond := [Cond.instanceMethod yX0_isThing, Cond.selects RX0 yX0_isThing yX0_isThing, Cond.code yX0_isThing cX0_isThing 2 (some .boolean), Cond.methodLink RX0 72 yJ6_bitCount_0f7a4, Cond.static yJ6_bitCount_0f7a4, Cond.initialized RJ6, Cond.code yJ6_bitCount_0f7a4 cJ6_bitCount_0f7a4 1 (some .int), Cond.constant RJ6 265 (1431655765), Cond.constant RJ6 266 (858993459), Cond.constant RJ6 267 (252645135), Cond.methodLink RL 84 yX1_giveAway, Cond.instanceMethod yX1_giveAway, Cond.selects RX1 yX1_giveAway yX1_giveAway, Cond.code yX1_giveAway cX1_giveAway 2 (some .int), Cond.methodLink RX1 62 yX1_isThing, Cond.instanceMethod yX1_isThing, Cond.selects RX1 yX1_isThing yX1_isThing, Cond.code yX1_isThing cX1_isThing 2 (some .boolean), Cond.methodLink RX1 65 yX1_here, Cond.instanceMethod yX1_here, Cond.selects RX1 yX1_here yX1_here, Cond.code yX1_here cX1_here 3 (some .int), Cond.methodLink RL 85 yL_setClash, Cond.static yL_setClash]
def wsL_law0_r6 : List Cond := [Cond.codeWith yL_setClash cL_setClash 6 (some .int) [(0, 19, 22, 13)], Cond.methodLink RL 23 yX0_setClash, Cond.instanceMethod yX0_setClash, Cond.selects RX0 yX0_setClash yX0_setClash, Cond.code yX0_setClash cX0_setClash 7 (some .boolean), Cond.fieldLink RX0 88 "WardrobeKeeper" "clashes" "J", Cond.constantLong RX0 92 (-1), Cond.methodLink RX0 80 yX0_coloursClash, Cond.instanceMethod yX0_coloursClash, Cond.selects RX0 yX0_coloursClash yX0_coloursClash, Cond.code yX0_coloursClash cX0_coloursClash 3 (some .boolean), Cond.methodLink RX0 84 yX0_clashBit, Cond.static yX0_clashBit, Cond.code yX0_clashBit cX0_clashBit 2 (some .long), Cond.methodLink RL 88 yX1_setClash, Cond.instanceMethod yX1_setClash, Cond.selects RX1 yX1_setClash yX1_setClash, Cond.code yX1_setClash cX1_setClash 5 (some .boolean), Cond.methodLink RL 89 yX0_things, Cond.instanceMethod yX0_things, Cond.selects RX0 yX0_things yX0_things, Cond.code yX0_things cX0_things 1 (some .int), Cond.methodLink RL 92 yX1_things, Cond.instanceMethod yX1_things]
def wsL_law0_r7 : List Cond := [Cond.selects RX1 yX1_things yX1_things, Cond.code yX1_things cX1_things 1 (some .int), Cond.methodLink RL 93 yL_left, Cond.static yL_left, Cond.codeWith yL_left cL_left 4 (some .int) [(0, 9, 12, 21)], Cond.methodLink RL 27 yX0_left, Cond.instanceMethod yX0_left, Cond.selects RX0 yX0_left yX0_left, Cond.code yX0_left cX0_left 2 (some .int), Cond.methodLink RL 95 yX1_left, Cond.instanceMethod yX1_left, Cond.selects RX1 yX1_left yX1_left, Cond.code yX1_left cX1_left 2 (some .int), Cond.methodLink RL 96 yL_isPossible, Cond.static yL_isPossible, Cond.codeWith yL_isPossible cL_isPossible 6 (some .int) [(0, 19, 22, 21), (0, 19, 26, 13)], Cond.methodLink RL 30 yX0_isPossible, Cond.instanceMethod yX0_isPossible, Cond.selects RX0 yX0_isPossible yX0_isPossible, Cond.code yX0_isPossible cX0_isPossible 4 (some .boolean), Cond.methodLink RX0 94 yX0_areThings, Cond.instanceMethod yX0_areThings, Cond.selects RX0 yX0_areThings yX0_areThings, Cond.code yX0_areThings cX0_areThings 4 (some .boolean)]
def wsL_law0_r8 : List Cond := [Cond.methodLink RX0 97 yX0_areOfTheirKinds, Cond.instanceMethod yX0_areOfTheirKinds, Cond.selects RX0 yX0_areOfTheirKinds yX0_areOfTheirKinds, Cond.code yX0_areOfTheirKinds cX0_areOfTheirKinds 4 (some .boolean), Cond.methodLink RX0 191 yX0_isOfKind, Cond.instanceMethod yX0_isOfKind, Cond.selects RX0 yX0_isOfKind yX0_isOfKind, Cond.code yX0_isOfKind cX0_isOfKind 3 (some .boolean), Cond.methodLink RX0 102 yX0_canBeWorn, Cond.instanceMethod yX0_canBeWorn, Cond.selects RX0 yX0_canBeWorn yX0_canBeWorn, Cond.code yX0_canBeWorn cX0_canBeWorn 4 (some .boolean), Cond.methodLink RX0 194 yX0_isCleanOfKind, Cond.instanceMethod yX0_isCleanOfKind, Cond.selects RX0 yX0_isCleanOfKind yX0_isCleanOfKind, Cond.code yX0_isCleanOfKind cX0_isCleanOfKind 3 (some .boolean), Cond.methodLink RX0 197 yX0_doClash, Cond.instanceMethod yX0_doClash, Cond.selects RX0 yX0_doClash yX0_doClash, Cond.code yX0_doClash cX0_doClash 3 (some .boolean), Cond.methodLink RX0 200 yX0_fitsOver, Cond.instanceMethod yX0_fitsOver, Cond.selects RX0 yX0_fitsOver yX0_fitsOver, Cond.code yX0_fitsOver cX0_fitsOver 4 (some .boolean)]
def wsL_law0_r9 : List Cond := [Cond.methodLink RL 99 yX1_isPossible, Cond.instanceMethod yX1_isPossible, Cond.selects RX1 yX1_isPossible yX1_isPossible, Cond.code yX1_isPossible cX1_isPossible 4 (some .boolean), Cond.methodLink RX1 76 yX1_wrong, Cond.instanceMethod yX1_wrong, Cond.selects RX1 yX1_wrong yX1_wrong, Cond.code yX1_wrong cX1_wrong 5 (some .int), Cond.methodLink RX1 80 yX1_fits, Cond.instanceMethod yX1_fits, Cond.selects RX1 yX1_fits yX1_fits, Cond.code yX1_fits cX1_fits 5 (some .boolean), Cond.methodLink RX1 69 yX1_doClash, Cond.instanceMethod yX1_doClash, Cond.selects RX1 yX1_doClash yX1_doClash, Cond.code yX1_doClash cX1_doClash 3 (some .boolean), Cond.methodLink RL 100 yL_isTooSoon, Cond.static yL_isTooSoon, Cond.codeWith yL_isTooSoon cL_isTooSoon 6 (some .int) [(0, 19, 22, 21), (0, 19, 26, 13)], Cond.methodLink RL 34 yX0_isTooSoon, Cond.instanceMethod yX0_isTooSoon, Cond.selects RX0 yX0_isTooSoon yX0_isTooSoon, Cond.code yX0_isTooSoon cX0_isTooSoon 4 (some .boolean), Cond.methodLink RX0 105 yX0_arePeople]
def wsL_law0_r10 : List Cond := [Cond.static yX0_arePeople, Cond.code yX0_arePeople cX0_arePeople 1 (some .boolean), Cond.methodLink RX0 110 yX0_wasSeenLately, Cond.instanceMethod yX0_wasSeenLately, Cond.selects RX0 yX0_wasSeenLately yX0_wasSeenLately, Cond.code yX0_wasSeenLately cX0_wasSeenLately 6 (some .boolean), Cond.fieldLink RX0 162 "WardrobeKeeper" "today" "I", Cond.methodLink RX0 206 yX0_firstSeat, Cond.static yX0_firstSeat, Cond.code yX0_firstSeat cX0_firstSeat 2 (some .int), Cond.methodLink RL 102 yX1_isTooSoon, Cond.instanceMethod yX1_isTooSoon, Cond.selects RX1 yX1_isTooSoon yX1_isTooSoon, Cond.code yX1_isTooSoon cX1_isTooSoon 5 (some .boolean), Cond.methodLink RX1 83 yX1_arePeople, Cond.static yX1_arePeople, Cond.code yX1_arePeople cX1_arePeople 1 (some .boolean), Cond.methodLink RX1 86 yX1_isSoon, Cond.instanceMethod yX1_isSoon, Cond.selects RX1 yX1_isSoon yX1_isSoon, Cond.code yX1_isSoon cX1_isSoon 7 (some .boolean), Cond.fieldLink RX1 73 "WardrobeKeeperModel" "today" "I", Cond.methodLink RL 103 yL_wear, Cond.static yL_wear]
def wsL_law0_r11 : List Cond := [Cond.codeWith yL_wear cL_wear 7 (some .int) [(0, 14, 17, 21), (0, 14, 21, 13), (0, 14, 25, 15)], Cond.methodLink RL 37 yX0_wear, Cond.instanceMethod yX0_wear, Cond.selects RX0 yX0_wear yX0_wear, Cond.code yX0_wear cX0_wear 5 (some .int), Cond.methodLink RX0 115 yX0_wearOnce, Cond.instanceMethod yX0_wearOnce, Cond.selects RX0 yX0_wearOnce yX0_wearOnce, Cond.code yX0_wearOnce cX0_wearOnce 2 none, Cond.methodLink RX0 150 yX0_wearsLeftOf, Cond.instanceMethod yX0_wearsLeftOf, Cond.selects RX0 yX0_wearsLeftOf yX0_wearsLeftOf, Cond.code yX0_wearsLeftOf cX0_wearsLeftOf 2 (some .int), Cond.methodLink RX0 119 yX0_showTo, Cond.instanceMethod yX0_showTo, Cond.selects RX0 yX0_showTo yX0_showTo, Cond.code yX0_showTo cX0_showTo 6 none, Cond.methodLink RX0 123 yX0_outfitWarmth, Cond.instanceMethod yX0_outfitWarmth, Cond.selects RX0 yX0_outfitWarmth yX0_outfitWarmth, Cond.code yX0_outfitWarmth cX0_outfitWarmth 4 (some .int), Cond.methodLink RX0 203 yX0_warmthOf, Cond.instanceMethod yX0_warmthOf, Cond.selects RX0 yX0_warmthOf yX0_warmthOf]
def wsL_law0_r12 : List Cond := [Cond.code yX0_warmthOf cX0_warmthOf 2 (some .int), Cond.methodLink RL 106 yX1_wear, Cond.instanceMethod yX1_wear, Cond.selects RX1 yX1_wear yX1_wear, Cond.code yX1_wear cX1_wear 8 (some .int), Cond.methodLink RX1 89 yX1_warmthOf, Cond.instanceMethod yX1_warmthOf, Cond.selects RX1 yX1_warmthOf yX1_warmthOf, Cond.code yX1_warmthOf cX1_warmthOf 4 (some .int), Cond.methodLink RL 107 yL_outfits, Cond.static yL_outfits, Cond.codeWith yL_outfits cL_outfits 4 (some .int) [(0, 9, 12, 13)], Cond.methodLink RL 41 yX0_outfits, Cond.instanceMethod yX0_outfits, Cond.selects RX0 yX0_outfits yX0_outfits, Cond.code yX0_outfits cX0_outfits 5 (some .int), Cond.methodLink RX0 127 yX0_isOutfitWarmth, Cond.static yX0_isOutfitWarmth, Cond.code yX0_isOutfitWarmth cX0_isOutfitWarmth 1 (some .boolean), Cond.methodLink RX0 132 yX0_countOutfitsOf, Cond.instanceMethod yX0_countOutfitsOf, Cond.selects RX0 yX0_countOutfitsOf yX0_countOutfitsOf, Cond.code yX0_countOutfitsOf cX0_countOutfitsOf 6 (some .int), Cond.methodLink RX0 135 yX0_isWarmOutfit]
def wsL_law0_r13 : List Cond := [Cond.instanceMethod yX0_isWarmOutfit, Cond.selects RX0 yX0_isWarmOutfit yX0_isWarmOutfit, Cond.code yX0_isWarmOutfit cX0_isWarmOutfit 5 (some .boolean), Cond.methodLink RL 109 yX1_outfits, Cond.instanceMethod yX1_outfits, Cond.selects RX1 yX1_outfits yX1_outfits, Cond.code yX1_outfits cX1_outfits 2 (some .int), Cond.methodLink RX1 92 yX1_count, Cond.instanceMethod yX1_count, Cond.selects RX1 yX1_count yX1_count, Cond.code yX1_count cX1_count 9 (some .int), Cond.methodLink RL 110 yL_adds, Cond.static yL_adds, Cond.codeWith yL_adds cL_adds 5 (some .int) [(0, 10, 13, 21), (0, 10, 17, 13)], Cond.methodLink RL 44 yX0_adds, Cond.instanceMethod yX0_adds, Cond.selects RX0 yX0_adds yX0_adds, Cond.code yX0_adds cX0_adds 6 (some .int), Cond.methodLink RL 113 yX1_adds, Cond.instanceMethod yX1_adds, Cond.selects RX1 yX1_adds yX1_adds, Cond.code yX1_adds cX1_adds 3 (some .int), Cond.methodLink RL 114 yX0_missingTop, Cond.instanceMethod yX0_missingTop]
def wsL_law0_r14 : List Cond := [Cond.selects RX0 yX0_missingTop yX0_missingTop, Cond.code yX0_missingTop cX0_missingTop 5 (some .int), Cond.methodLink RX0 139 yX0_countBottomsFor, Cond.instanceMethod yX0_countBottomsFor, Cond.selects RX0 yX0_countBottomsFor yX0_countBottomsFor, Cond.code yX0_countBottomsFor cX0_countBottomsFor 4 (some .int), Cond.methodLink RL 117 yX1_missingTop, Cond.instanceMethod yX1_missingTop, Cond.selects RX1 yX1_missingTop yX1_missingTop, Cond.code yX1_missingTop cX1_missingTop 7 (some .int), Cond.methodLink RL 118 yL_outfitFor, Cond.static yL_outfitFor, Cond.codeWith yL_outfitFor cL_outfitFor 5 (some .int) [(0, 10, 13, 13)], Cond.methodLink RL 48 yX0_outfitFor, Cond.instanceMethod yX0_outfitFor, Cond.selects RX0 yX0_outfitFor yX0_outfitFor, Cond.code yX0_outfitFor cX0_outfitFor 9 (some .int), Cond.methodLink RL 120 yX1_outfitFor, Cond.instanceMethod yX1_outfitFor, Cond.selects RX1 yX1_outfitFor yX1_outfitFor, Cond.code yX1_outfitFor cX1_outfitFor 11 (some .int), Cond.methodLink RL 121 yL_load, Cond.static yL_load, Cond.codeWith yL_load cL_load 5 (some .int) [(0, 10, 13, 13)]]
def wsL_law0_r15 : List Cond := [Cond.methodLink RL 51 yX0_load, Cond.instanceMethod yX0_load, Cond.selects RX0 yX0_load yX0_load, Cond.code yX0_load cX0_load 5 (some .int), Cond.methodLink RX0 146 yX0_isWashedWith, Cond.instanceMethod yX0_isWashedWith, Cond.selects RX0 yX0_isWashedWith yX0_isWashedWith, Cond.code yX0_isWashedWith cX0_isWashedWith 4 (some .boolean), Cond.methodLink RL 124 yX1_load, Cond.instanceMethod yX1_load, Cond.selects RX1 yX1_load yX1_load, Cond.code yX1_load cX1_load 5 (some .int), Cond.methodLink RX1 96 yX1_isOf, Cond.instanceMethod yX1_isOf, Cond.selects RX1 yX1_isOf yX1_isOf, Cond.code yX1_isOf cX1_isOf 4 (some .boolean), Cond.methodLink RL 125 yL_wash, Cond.static yL_wash, Cond.codeWith yL_wash cL_wash 5 (some .int) [(0, 10, 13, 13)], Cond.methodLink RL 55 yX0_wash, Cond.instanceMethod yX0_wash, Cond.selects RX0 yX0_wash yX0_wash, Cond.code yX0_wash cX0_wash 6 (some .int), Cond.methodLink RX0 153 yX0_nextToWash]
def wsL_law0_r16 : List Cond := [Cond.instanceMethod yX0_nextToWash, Cond.selects RX0 yX0_nextToWash yX0_nextToWash, Cond.code yX0_nextToWash cX0_nextToWash 5 (some .int), Cond.methodLink RX0 157 yX0_makeClean, Cond.instanceMethod yX0_makeClean, Cond.selects RX0 yX0_makeClean yX0_makeClean, Cond.code yX0_makeClean cX0_makeClean 2 none, Cond.methodLink RL 127 yX1_wash, Cond.instanceMethod yX1_wash, Cond.selects RX1 yX1_wash yX1_wash, Cond.code yX1_wash cX1_wash 7 (some .int), Cond.methodLink RL 128 yL_pass, Cond.static yL_pass, Cond.codeWith yL_pass cL_pass 4 (some .int) [(0, 9, 12, 13), (0, 9, 15, 15)], Cond.methodLink RL 58 yX0_pass, Cond.instanceMethod yX0_pass, Cond.selects RX0 yX0_pass yX0_pass, Cond.code yX0_pass cX0_pass 2 (some .int), Cond.methodLink RL 130 yX1_pass, Cond.instanceMethod yX1_pass, Cond.selects RX1 yX1_pass yX1_pass, Cond.code yX1_pass cX1_pass 2 (some .int), Cond.methodLink RL 131 yL_isEnough, Cond.static yL_isEnough]
def wsL_law0_r17 : List Cond := [Cond.codeWith yL_isEnough cL_isEnough 6 (some .int) [(0, 19, 22, 13)], Cond.methodLink RL 61 yX0_isEnough, Cond.instanceMethod yX0_isEnough, Cond.selects RX0 yX0_isEnough yX0_isEnough, Cond.code yX0_isEnough cX0_isEnough 4 (some .boolean), Cond.methodLink RX0 167 yX0_isBagQuestion, Cond.static yX0_isBagQuestion, Cond.code yX0_isBagQuestion cX0_isBagQuestion 2 (some .boolean), Cond.methodLink RX0 172 yX0_findPartners, Cond.instanceMethod yX0_findPartners, Cond.selects RX0 yX0_findPartners yX0_findPartners, Cond.code yX0_findPartners cX0_findPartners 4 none, Cond.methodLink RX0 209 yX0_arePartners, Cond.instanceMethod yX0_arePartners, Cond.selects RX0 yX0_arePartners yX0_arePartners, Cond.code yX0_arePartners cX0_arePartners 4 (some .boolean), Cond.methodLink RX0 175 yX0_thingsOfKind, Cond.instanceMethod yX0_thingsOfKind, Cond.selects RX0 yX0_thingsOfKind yX0_thingsOfKind, Cond.code yX0_thingsOfKind cX0_thingsOfKind 4 (some .int), Cond.methodLink RX0 178 yX0_lasts, Cond.instanceMethod yX0_lasts, Cond.selects RX0 yX0_lasts yX0_lasts, Cond.code yX0_lasts cX0_lasts 9 (some .boolean)]
def wsL_law0_r18 : List Cond := [Cond.methodLink RX0 212 yX0_wearsLeftIn, Cond.instanceMethod yX0_wearsLeftIn, Cond.selects RX0 yX0_wearsLeftIn yX0_wearsLeftIn, Cond.code yX0_wearsLeftIn cX0_wearsLeftIn 4 (some .int), Cond.methodLink RX0 215 yX0_partnersOf, Cond.instanceMethod yX0_partnersOf, Cond.selects RX0 yX0_partnersOf yX0_partnersOf, Cond.code yX0_partnersOf cX0_partnersOf 4 (some .int), Cond.methodLink RX0 187 yX0_nextPart, Cond.static yX0_nextPart, Cond.code yX0_nextPart cX0_nextPart 2 (some .int), Cond.methodLink RL 133 yX1_isEnough, Cond.instanceMethod yX1_isEnough, Cond.selects RX1 yX1_isEnough yX1_isEnough, Cond.code yX1_isEnough cX1_isEnough 5 (some .boolean), Cond.methodLink RX1 104 yX1_setOf, Cond.instanceMethod yX1_setOf, Cond.selects RX1 yX1_setOf yX1_setOf, Cond.code yX1_setOf cX1_setOf 4 (some .int), Cond.methodLink RX1 107 yX1_laysPairs, Cond.instanceMethod yX1_laysPairs, Cond.selects RX1 yX1_laysPairs yX1_laysPairs, Cond.code yX1_laysPairs cX1_laysPairs 5 none, Cond.methodLink RX1 111 yX1_daysOf]
def wsL_law0_r19 : List Cond := [Cond.instanceMethod yX1_daysOf, Cond.selects RX1 yX1_daysOf yX1_daysOf, Cond.code yX1_daysOf cX1_daysOf 10 (some .int), Cond.methodLink RX1 100 yX1_worn, Cond.instanceMethod yX1_worn, Cond.selects RX1 yX1_worn yX1_worn, Cond.code yX1_worn cX1_worn 4 (some .int), Cond.methodLink RL 134 yL_bag, Cond.static yL_bag, Cond.codeWith yL_bag cL_bag 5 (some .int) [(0, 10, 13, 13)], Cond.methodLink RL 64 yX0_bag, Cond.instanceMethod yX0_bag, Cond.selects RX0 yX0_bag yX0_bag, Cond.code yX0_bag cX0_bag 11 (some .int), Cond.methodLink RX0 183 yX0_usefulThings, Cond.instanceMethod yX0_usefulThings, Cond.selects RX0 yX0_usefulThings yX0_usefulThings, Cond.code yX0_usefulThings cX0_usefulThings 3 (some .int), Cond.methodLink RL 136 yX1_bag, Cond.instanceMethod yX1_bag, Cond.selects RX1 yX1_bag yX1_bag, Cond.code yX1_bag cX1_bag 11 (some .int), Cond.methodLink RX1 114 yX1_size, Cond.static yX1_size]
def wsL_law0_r20 : List Cond := [Cond.code yX1_size cX1_size 3 (some .int)]
def wsL_law0 : List Cond := (wsL_law0_r1 ++ (wsL_law0_r2 ++ (wsL_law0_r3 ++ (wsL_law0_r4 ++ (wsL_law0_r5 ++ (wsL_law0_r6 ++ (wsL_law0_r7 ++ (wsL_law0_r8 ++ (wsL_law0_r9 ++ (wsL_law0_r10 ++ (wsL_law0_r11 ++ (wsL_law0_r12 ++ (wsL_law0_r13 ++ (wsL_law0_r14 ++ (wsL_law0_r15 ++ (wsL_law0_r16 ++ (wsL_law0_r17 ++ (wsL_law0_r18 ++ (wsL_law0_r19 ++ wsL_law0_r20))))))))))))))))))) ++ wsX00 ++ wsX10 ++ ([] : List Cond)
def wsL_law : List Cond := wsL_law0 ++ (vx_atS RX0 49 "java/lang/IllegalArgumentException" ["java/lang/RuntimeException", "java/lang/Exception"]).filter goodWord ++ (vx_atS RX0 60 "java/lang/IllegalStateException" ["java/lang/RuntimeException", "java/lang/Exception"]).filter goodWord ++ (vx_atS RX0 71 "java/lang/IndexOutOfBoundsException" ["java/lang/RuntimeException", "java/lang/Exception"]).filter goodWord
abbrev vwCl : List vw_C := [(RX0, TX0, 12), (RX1, TX1, 13)]
end
section
theorem dX0_init_0 : decode cX0_init 0 = .ok (.aload_n 0, 1) := by decide +kernel
theorem dX0_init_1 : decode cX0_init 1 = .ok (.invokespecial 1, 3) := by decide +kernel
theorem dX0_init_4 : decode cX0_init 4 = .ok (.aload_n 0, 1) := by decide +kernel
theorem dX0_init_5 : decode cX0_init 5 = .ok (.bipush 12, 2) := by decide +kernel
theorem dX0_init_7 : decode cX0_init 7 = .ok (.newarray .int, 2) := by decide +kernel
theorem dX0_init_9 : decode cX0_init 9 = .ok (.putfield 9, 3) := by decide +kernel
theorem dX0_init_12 : decode cX0_init 12 = .ok (.aload_n 0, 1) := by decide +kernel
theorem dX0_init_13 : decode cX0_init 13 = .ok (.bipush 12, 2) := by decide +kernel
theorem dX0_init_15 : decode cX0_init 15 = .ok (.newarray .int, 2) := by decide +kernel
theorem dX0_init_17 : decode cX0_init 17 = .ok (.putfield 13, 3) := by decide +kernel
theorem dX0_init_20 : decode cX0_init 20 = .ok (.aload_n 0, 1) := by decide +kernel
theorem dX0_init_21 : decode cX0_init 21 = .ok (.bipush 12, 2) := by decide +kernel
theorem dX0_init_23 : decode cX0_init 23 = .ok (.newarray .int, 2) := by decide +kernel
theorem dX0_init_25 : decode cX0_init 25 = .ok (.putfield 16, 3) := by decide +kernel
theorem dX0_init_28 : decode cX0_init 28 = .ok (.aload_n 0, 1) := by decide +kernel
theorem dX0_init_29 : decode cX0_init 29 = .ok (.bipush 12, 2) := by decide +kernel
theorem dX0_init_31 : decode cX0_init 31 = .ok (.newarray .int, 2) := by decide +kernel
theorem dX0_init_33 : decode cX0_init 33 = .ok (.putfield 19, 3) := by decide +kernel
theorem dX0_init_36 : decode cX0_init 36 = .ok (.aload_n 0, 1) := by decide +kernel
theorem dX0_init_37 : decode cX0_init 37 = .ok (.bipush 12, 2) := by decide +kernel
theorem dX0_init_39 : decode cX0_init 39 = .ok (.newarray .int, 2) := by decide +kernel
theorem dX0_init_41 : decode cX0_init 41 = .ok (.putfield 22, 3) := by decide +kernel
theorem dX0_init_44 : decode cX0_init 44 = .ok (.aload_n 0, 1) := by decide +kernel
theorem dX0_init_45 : decode cX0_init 45 = .ok (.bipush 12, 2) := by decide +kernel
theorem dX0_init_47 : decode cX0_init 47 = .ok (.newarray .int, 2) := by decide +kernel
theorem dX0_init_49 : decode cX0_init 49 = .ok (.putfield 25, 3) := by decide +kernel
theorem dX0_init_52 : decode cX0_init 52 = .ok (.aload_n 0, 1) := by decide +kernel
theorem dX0_init_53 : decode cX0_init 53 = .ok (.sipush 1152, 3) := by decide +kernel
theorem dX0_init_56 : decode cX0_init 56 = .ok (.newarray .int, 2) := by decide +kernel
theorem dX0_init_58 : decode cX0_init 58 = .ok (.putfield 28, 3) := by decide +kernel
theorem dX0_init_61 : decode cX0_init 61 = .ok (.aload_n 0, 1) := by decide +kernel
theorem dX0_init_62 : decode cX0_init 62 = .ok (.bipush 12, 2) := by decide +kernel
theorem dX0_init_64 : decode cX0_init 64 = .ok (.newarray .int, 2) := by decide +kernel
theorem dX0_init_66 : decode cX0_init 66 = .ok (.putfield 31, 3) := by decide +kernel
theorem dX0_init_69 : decode cX0_init 69 = .ok (.return_, 1) := by decide +kernel
set_option maxRecDepth 20000 in
theorem ggX0_add_X0_isWithin : GoodIn wsX0_add wsX0_isWithin := goodIn_r _ [16] (by decide +kernel) (by decide +kernel)
set_option maxRecDepth 20000 in
theorem gX0_add_X0_isWithin : GoodIn wsX0_add (va_wsS RX0 34 yX0_isWithin wsX0_isWithin) := goodIn_app (goodIn_of _ (by decide +kernel)) ggX0_add_X0_isWithin
set_option maxRecDepth 20000 in
theorem ggX0_add_X0_isColour : GoodIn wsX0_add wsX0_isColour := goodIn_r _ [19, 13, 14, 15, 16] (by decide +kernel) (by decide +kernel)
set_option maxRecDepth 20000 in
theorem gX0_add_X0_isColour : GoodIn wsX0_add (va_wsS RX0 38 yX0_isColour wsX0_isColour) := goodIn_app (goodIn_of _ (by decide +kernel)) ggX0_add_X0_isColour
set_option maxRecDepth 20000 in
theorem ggX0_add_X0_isCare : GoodIn wsX0_add wsX0_isCare := goodIn_r _ [22, 13, 14, 15, 16] (by decide +kernel) (by decide +kernel)
set_option maxRecDepth 20000 in
theorem gX0_add_X0_isCare : GoodIn wsX0_add (va_wsS RX0 42 yX0_isCare wsX0_isCare) := goodIn_app (goodIn_of _ (by decide +kernel)) ggX0_add_X0_isCare
theorem dX0_add_0 : decode cX0_add 0 = .ok (.iload_n 1, 1) := by decide +kernel
theorem dX0_add_1 : decode cX0_add 1 = .ok (.iconst 0, 1) := by decide +kernel
theorem dX0_add_2 : decode cX0_add 2 = .ok (.iconst 2, 1) := by decide +kernel
theorem dX0_add_3 : decode cX0_add 3 = .ok (.invokestatic 34, 3) := by decide +kernel
theorem dX0_add_6 : decode cX0_add 6 = .ok (.ifCond .eq 39, 3) := by decide +kernel
theorem dX0_add_9 : decode cX0_add 9 = .ok (.iload_n 2, 1) := by decide +kernel
theorem dX0_add_10 : decode cX0_add 10 = .ok (.invokestatic 38, 3) := by decide +kernel
theorem dX0_add_13 : decode cX0_add 13 = .ok (.ifCond .eq 32, 3) := by decide +kernel
theorem dX0_add_16 : decode cX0_add 16 = .ok (.iload_n 3, 1) := by decide +kernel
theorem dX0_add_17 : decode cX0_add 17 = .ok (.iconst 0, 1) := by decide +kernel
theorem dX0_add_18 : decode cX0_add 18 = .ok (.bipush 10, 2) := by decide +kernel
theorem dX0_add_20 : decode cX0_add 20 = .ok (.invokestatic 34, 3) := by decide +kernel
theorem dX0_add_23 : decode cX0_add 23 = .ok (.ifCond .eq 22, 3) := by decide +kernel
theorem dX0_add_26 : decode cX0_add 26 = .ok (.iload 4, 2) := by decide +kernel
theorem dX0_add_28 : decode cX0_add 28 = .ok (.iconst 1, 1) := by decide +kernel
theorem dX0_add_29 : decode cX0_add 29 = .ok (.bipush 9, 2) := by decide +kernel
theorem dX0_add_31 : decode cX0_add 31 = .ok (.invokestatic 34, 3) := by decide +kernel
theorem dX0_add_34 : decode cX0_add 34 = .ok (.ifCond .eq 11, 3) := by decide +kernel
theorem dX0_add_37 : decode cX0_add 37 = .ok (.iload 5, 2) := by decide +kernel
theorem dX0_add_39 : decode cX0_add 39 = .ok (.invokestatic 42, 3) := by decide +kernel
theorem dX0_add_42 : decode cX0_add 42 = .ok (.ifCond .ne 13, 3) := by decide +kernel
theorem dX0_add_45 : decode cX0_add 45 = .ok (.new 45, 3) := by decide +kernel
theorem dX0_add_48 : decode cX0_add 48 = .ok (.dup, 1) := by decide +kernel
theorem dX0_add_49 : decode cX0_add 49 = .ok (.ldc 47, 2) := by decide +kernel
theorem dX0_add_51 : decode cX0_add 51 = .ok (.invokespecial 49, 3) := by decide +kernel
theorem dX0_add_54 : decode cX0_add 54 = .ok (.athrow, 1) := by decide +kernel
theorem dX0_add_55 : decode cX0_add 55 = .ok (.aload_n 0, 1) := by decide +kernel
theorem dX0_add_56 : decode cX0_add 56 = .ok (.getfield 52, 3) := by decide +kernel
theorem dX0_add_59 : decode cX0_add 59 = .ok (.bipush 12, 2) := by decide +kernel
theorem dX0_add_61 : decode cX0_add 61 = .ok (.if_icmp .lt 13, 3) := by decide +kernel
theorem dX0_add_64 : decode cX0_add 64 = .ok (.new 56, 3) := by decide +kernel
theorem dX0_add_67 : decode cX0_add 67 = .ok (.dup, 1) := by decide +kernel
theorem dX0_add_68 : decode cX0_add 68 = .ok (.ldc 58, 2) := by decide +kernel
theorem dX0_add_70 : decode cX0_add 70 = .ok (.invokespecial 60, 3) := by decide +kernel
theorem dX0_add_73 : decode cX0_add 73 = .ok (.athrow, 1) := by decide +kernel
theorem dX0_add_74 : decode cX0_add 74 = .ok (.aload_n 0, 1) := by decide +kernel
theorem dX0_add_75 : decode cX0_add 75 = .ok (.getfield 52, 3) := by decide +kernel
theorem dX0_add_78 : decode cX0_add 78 = .ok (.istore 6, 2) := by decide +kernel
theorem dX0_add_80 : decode cX0_add 80 = .ok (.aload_n 0, 1) := by decide +kernel
theorem dX0_add_81 : decode cX0_add 81 = .ok (.getfield 9, 3) := by decide +kernel
theorem dX0_add_84 : decode cX0_add 84 = .ok (.iload 6, 2) := by decide +kernel
theorem dX0_add_86 : decode cX0_add 86 = .ok (.iload_n 1, 1) := by decide +kernel
theorem dX0_add_87 : decode cX0_add 87 = .ok (.iastore, 1) := by decide +kernel
theorem dX0_add_88 : decode cX0_add 88 = .ok (.aload_n 0, 1) := by decide +kernel
theorem dX0_add_89 : decode cX0_add 89 = .ok (.getfield 13, 3) := by decide +kernel
theorem dX0_add_92 : decode cX0_add 92 = .ok (.iload 6, 2) := by decide +kernel
theorem dX0_add_94 : decode cX0_add 94 = .ok (.iload_n 2, 1) := by decide +kernel
theorem dX0_add_95 : decode cX0_add 95 = .ok (.iastore, 1) := by decide +kernel
theorem dX0_add_96 : decode cX0_add 96 = .ok (.aload_n 0, 1) := by decide +kernel
theorem dX0_add_97 : decode cX0_add 97 = .ok (.getfield 16, 3) := by decide +kernel
theorem dX0_add_100 : decode cX0_add 100 = .ok (.iload 6, 2) := by decide +kernel
theorem dX0_add_102 : decode cX0_add 102 = .ok (.iload_n 3, 1) := by decide +kernel
theorem dX0_add_103 : decode cX0_add 103 = .ok (.iastore, 1) := by decide +kernel
theorem dX0_add_104 : decode cX0_add 104 = .ok (.aload_n 0, 1) := by decide +kernel
theorem dX0_add_105 : decode cX0_add 105 = .ok (.getfield 19, 3) := by decide +kernel
theorem dX0_add_108 : decode cX0_add 108 = .ok (.iload 6, 2) := by decide +kernel
theorem dX0_add_110 : decode cX0_add 110 = .ok (.iload 4, 2) := by decide +kernel
theorem dX0_add_112 : decode cX0_add 112 = .ok (.iastore, 1) := by decide +kernel
theorem dX0_add_113 : decode cX0_add 113 = .ok (.aload_n 0, 1) := by decide +kernel
theorem dX0_add_114 : decode cX0_add 114 = .ok (.getfield 22, 3) := by decide +kernel
theorem dX0_add_117 : decode cX0_add 117 = .ok (.iload 6, 2) := by decide +kernel
theorem dX0_add_119 : decode cX0_add 119 = .ok (.iload 5, 2) := by decide +kernel
theorem dX0_add_121 : decode cX0_add 121 = .ok (.iastore, 1) := by decide +kernel
theorem dX0_add_122 : decode cX0_add 122 = .ok (.aload_n 0, 1) := by decide +kernel
theorem dX0_add_123 : decode cX0_add 123 = .ok (.getfield 25, 3) := by decide +kernel
theorem dX0_add_126 : decode cX0_add 126 = .ok (.iload 6, 2) := by decide +kernel
theorem dX0_add_128 : decode cX0_add 128 = .ok (.iload 4, 2) := by decide +kernel
theorem dX0_add_130 : decode cX0_add 130 = .ok (.iastore, 1) := by decide +kernel
theorem dX0_add_131 : decode cX0_add 131 = .ok (.aload_n 0, 1) := by decide +kernel
theorem dX0_add_132 : decode cX0_add 132 = .ok (.dup, 1) := by decide +kernel
theorem dX0_add_133 : decode cX0_add 133 = .ok (.getfield 61, 3) := by decide +kernel
theorem dX0_add_136 : decode cX0_add 136 = .ok (.iconst 1, 1) := by decide +kernel
theorem dX0_add_137 : decode cX0_add 137 = .ok (.iload 6, 2) := by decide +kernel
theorem dX0_add_139 : decode cX0_add 139 = .ok (.ishl, 1) := by decide +kernel
theorem dX0_add_140 : decode cX0_add 140 = .ok (.ior, 1) := by decide +kernel
theorem dX0_add_141 : decode cX0_add 141 = .ok (.putfield 61, 3) := by decide +kernel
theorem dX0_add_144 : decode cX0_add 144 = .ok (.aload_n 0, 1) := by decide +kernel
theorem dX0_add_145 : decode cX0_add 145 = .ok (.dup, 1) := by decide +kernel
theorem dX0_add_146 : decode cX0_add 146 = .ok (.getfield 52, 3) := by decide +kernel
theorem dX0_add_149 : decode cX0_add 149 = .ok (.iconst 1, 1) := by decide +kernel
theorem dX0_add_150 : decode cX0_add 150 = .ok (.iadd, 1) := by decide +kernel
theorem dX0_add_151 : decode cX0_add 151 = .ok (.putfield 52, 3) := by decide +kernel
theorem dX0_add_154 : decode cX0_add 154 = .ok (.iload 6, 2) := by decide +kernel
theorem dX0_add_156 : decode cX0_add 156 = .ok (.ireturn, 1) := by decide +kernel
set_option maxRecDepth 20000 in
theorem ggX0_giveAway_X0_isThing : GoodIn wsX0_giveAway wsX0_isThing := goodIn_r _ [8, 3, 9, 10, 7, 11, 19, 20, 21, 22, 23, 24, 25, 26, 27, 28, 29, 30] (by decide +kernel) (by decide +kernel)
set_option maxRecDepth 20000 in
theorem gX0_giveAway_X0_isThing : GoodIn wsX0_giveAway (wsV RX0 64 RX0 yX0_isThing wsX0_isThing) := goodIn_app (goodIn_of _ (by decide +kernel)) ggX0_giveAway_X0_isThing
set_option maxRecDepth 20000 in
theorem ggX0_giveAway_J6_bitCount_0f7a4 : GoodIn wsX0_giveAway wsJ6_bitCount_0f7a4 := goodIn_r _ [15, 16, 17, 18] (by decide +kernel) (by decide +kernel)
set_option maxRecDepth 20000 in
theorem gX0_giveAway_J6_bitCount_0f7a4 : GoodIn wsX0_giveAway (va_wsS RX0 72 yJ6_bitCount_0f7a4 wsJ6_bitCount_0f7a4) := goodIn_app (goodIn_of _ (by decide +kernel)) ggX0_giveAway_J6_bitCount_0f7a4
theorem dX0_giveAway_0 : decode cX0_giveAway 0 = .ok (.aload_n 0, 1) := by decide +kernel
theorem dX0_giveAway_1 : decode cX0_giveAway 1 = .ok (.iload_n 1, 1) := by decide +kernel
theorem dX0_giveAway_2 : decode cX0_giveAway 2 = .ok (.invokevirtual 64, 3) := by decide +kernel
theorem dX0_giveAway_5 : decode cX0_giveAway 5 = .ok (.ifCond .ne 13, 3) := by decide +kernel
theorem dX0_giveAway_8 : decode cX0_giveAway 8 = .ok (.new 67, 3) := by decide +kernel
theorem dX0_giveAway_11 : decode cX0_giveAway 11 = .ok (.dup, 1) := by decide +kernel
theorem dX0_giveAway_12 : decode cX0_giveAway 12 = .ok (.ldc 69, 2) := by decide +kernel
theorem dX0_giveAway_14 : decode cX0_giveAway 14 = .ok (.invokespecial 71, 3) := by decide +kernel
theorem dX0_giveAway_17 : decode cX0_giveAway 17 = .ok (.athrow, 1) := by decide +kernel
theorem dX0_giveAway_18 : decode cX0_giveAway 18 = .ok (.aload_n 0, 1) := by decide +kernel
theorem dX0_giveAway_19 : decode cX0_giveAway 19 = .ok (.dup, 1) := by decide +kernel
theorem dX0_giveAway_20 : decode cX0_giveAway 20 = .ok (.getfield 61, 3) := by decide +kernel
theorem dX0_giveAway_23 : decode cX0_giveAway 23 = .ok (.iconst 1, 1) := by decide +kernel
theorem dX0_giveAway_24 : decode cX0_giveAway 24 = .ok (.iload_n 1, 1) := by decide +kernel
theorem dX0_giveAway_25 : decode cX0_giveAway 25 = .ok (.ishl, 1) := by decide +kernel
theorem dX0_giveAway_26 : decode cX0_giveAway 26 = .ok (.iconst (-1), 1) := by decide +kernel
theorem dX0_giveAway_27 : decode cX0_giveAway 27 = .ok (.ixor, 1) := by decide +kernel
theorem dX0_giveAway_28 : decode cX0_giveAway 28 = .ok (.iand, 1) := by decide +kernel
theorem dX0_giveAway_29 : decode cX0_giveAway 29 = .ok (.putfield 61, 3) := by decide +kernel
theorem dX0_giveAway_32 : decode cX0_giveAway 32 = .ok (.aload_n 0, 1) := by decide +kernel
theorem dX0_giveAway_33 : decode cX0_giveAway 33 = .ok (.getfield 61, 3) := by decide +kernel
theorem dX0_giveAway_36 : decode cX0_giveAway 36 = .ok (.invokestatic 72, 3) := by decide +kernel
theorem dX0_giveAway_39 : decode cX0_giveAway 39 = .ok (.ireturn, 1) := by decide +kernel
set_option maxRecDepth 20000 in
theorem ggX0_setClash_X0_isColour : GoodIn wsX0_setClash wsX0_isColour := goodIn_r _ [8, 9, 10, 7, 11] (by decide +kernel) (by decide +kernel)
set_option maxRecDepth 20000 in
theorem gX0_setClash_X0_isColour : GoodIn wsX0_setClash (va_wsS RX0 38 yX0_isColour wsX0_isColour) := goodIn_app (goodIn_of _ (by decide +kernel)) ggX0_setClash_X0_isColour
set_option maxRecDepth 20000 in
theorem ggX0_setClash_X0_coloursClash : GoodIn wsX0_setClash wsX0_coloursClash := goodIn_r _ [15, 3, 16, 17, 7, 18, 19, 20, 21, 22, 23, 24, 25, 26, 27, 28, 29, 30] (by decide +kernel) (by decide +kernel)
set_option maxRecDepth 20000 in
theorem gX0_setClash_X0_coloursClash : GoodIn wsX0_setClash (wsV RX0 80 RX0 yX0_coloursClash wsX0_coloursClash) := goodIn_app (goodIn_of _ (by decide +kernel)) ggX0_setClash_X0_coloursClash
set_option maxRecDepth 20000 in
theorem ggX0_setClash_X0_clashBit : GoodIn wsX0_setClash wsX0_clashBit := goodIn_r _ [18] (by decide +kernel) (by decide +kernel)
set_option maxRecDepth 20000 in
theorem gX0_setClash_X0_clashBit : GoodIn wsX0_setClash (va_wsS RX0 84 yX0_clashBit wsX0_clashBit) := goodIn_app (goodIn_of _ (by decide +kernel)) ggX0_setClash_X0_clashBit
theorem dX0_setClash_0 : decode cX0_setClash 0 = .ok (.iload_n 1, 1) := by decide +kernel
theorem dX0_setClash_1 : decode cX0_setClash 1 = .ok (.invokestatic 38, 3) := by decide +kernel
theorem dX0_setClash_4 : decode cX0_setClash 4 = .ok (.ifCond .eq 10, 3) := by decide +kernel
theorem dX0_setClash_7 : decode cX0_setClash 7 = .ok (.iload_n 2, 1) := by decide +kernel
theorem dX0_setClash_8 : decode cX0_setClash 8 = .ok (.invokestatic 38, 3) := by decide +kernel
theorem dX0_setClash_11 : decode cX0_setClash 11 = .ok (.ifCond .ne 13, 3) := by decide +kernel
theorem dX0_setClash_14 : decode cX0_setClash 14 = .ok (.new 45, 3) := by decide +kernel
theorem dX0_setClash_17 : decode cX0_setClash 17 = .ok (.dup, 1) := by decide +kernel
theorem dX0_setClash_18 : decode cX0_setClash 18 = .ok (.ldc 78, 2) := by decide +kernel
theorem dX0_setClash_20 : decode cX0_setClash 20 = .ok (.invokespecial 49, 3) := by decide +kernel
theorem dX0_setClash_23 : decode cX0_setClash 23 = .ok (.athrow, 1) := by decide +kernel
theorem dX0_setClash_24 : decode cX0_setClash 24 = .ok (.aload_n 0, 1) := by decide +kernel
theorem dX0_setClash_25 : decode cX0_setClash 25 = .ok (.iload_n 1, 1) := by decide +kernel
theorem dX0_setClash_26 : decode cX0_setClash 26 = .ok (.iload_n 2, 1) := by decide +kernel
theorem dX0_setClash_27 : decode cX0_setClash 27 = .ok (.invokevirtual 80, 3) := by decide +kernel
theorem dX0_setClash_30 : decode cX0_setClash 30 = .ok (.istore 4, 2) := by decide +kernel
theorem dX0_setClash_32 : decode cX0_setClash 32 = .ok (.iload_n 1, 1) := by decide +kernel
theorem dX0_setClash_33 : decode cX0_setClash 33 = .ok (.iload_n 2, 1) := by decide +kernel
theorem dX0_setClash_34 : decode cX0_setClash 34 = .ok (.invokestatic 84, 3) := by decide +kernel
theorem dX0_setClash_37 : decode cX0_setClash 37 = .ok (.iload_n 2, 1) := by decide +kernel
theorem dX0_setClash_38 : decode cX0_setClash 38 = .ok (.iload_n 1, 1) := by decide +kernel
theorem dX0_setClash_39 : decode cX0_setClash 39 = .ok (.invokestatic 84, 3) := by decide +kernel
theorem dX0_setClash_42 : decode cX0_setClash 42 = .ok (.lor, 1) := by decide +kernel
theorem dX0_setClash_43 : decode cX0_setClash 43 = .ok (.lstore 5, 2) := by decide +kernel
theorem dX0_setClash_45 : decode cX0_setClash 45 = .ok (.aload_n 0, 1) := by decide +kernel
theorem dX0_setClash_46 : decode cX0_setClash 46 = .ok (.iload_n 3, 1) := by decide +kernel
theorem dX0_setClash_47 : decode cX0_setClash 47 = .ok (.ifCond .eq 13, 3) := by decide +kernel
theorem dX0_setClash_50 : decode cX0_setClash 50 = .ok (.aload_n 0, 1) := by decide +kernel
theorem dX0_setClash_51 : decode cX0_setClash 51 = .ok (.getfield 88, 3) := by decide +kernel
theorem dX0_setClash_54 : decode cX0_setClash 54 = .ok (.lload 5, 2) := by decide +kernel
theorem dX0_setClash_56 : decode cX0_setClash 56 = .ok (.lor, 1) := by decide +kernel
theorem dX0_setClash_57 : decode cX0_setClash 57 = .ok (.goto 14, 3) := by decide +kernel
theorem dX0_setClash_60 : decode cX0_setClash 60 = .ok (.aload_n 0, 1) := by decide +kernel
theorem dX0_setClash_61 : decode cX0_setClash 61 = .ok (.getfield 88, 3) := by decide +kernel
theorem dX0_setClash_64 : decode cX0_setClash 64 = .ok (.lload 5, 2) := by decide +kernel
theorem dX0_setClash_66 : decode cX0_setClash 66 = .ok (.ldc2_w 92, 3) := by decide +kernel
theorem dX0_setClash_69 : decode cX0_setClash 69 = .ok (.lxor, 1) := by decide +kernel
theorem dX0_setClash_70 : decode cX0_setClash 70 = .ok (.land, 1) := by decide +kernel
theorem dX0_setClash_71 : decode cX0_setClash 71 = .ok (.putfield 88, 3) := by decide +kernel
theorem dX0_setClash_74 : decode cX0_setClash 74 = .ok (.iload 4, 2) := by decide +kernel
theorem dX0_setClash_76 : decode cX0_setClash 76 = .ok (.ireturn, 1) := by decide +kernel
set_option maxRecDepth 20000 in
theorem ggX0_things_J6_bitCount_0f7a4 : GoodIn wsX0_things wsJ6_bitCount_0f7a4 := goodIn_r _ [5, 6, 7, 8] (by decide +kernel) (by decide +kernel)
set_option maxRecDepth 20000 in
theorem gX0_things_J6_bitCount_0f7a4 : GoodIn wsX0_things (va_wsS RX0 72 yJ6_bitCount_0f7a4 wsJ6_bitCount_0f7a4) := goodIn_app (goodIn_of _ (by decide +kernel)) ggX0_things_J6_bitCount_0f7a4
theorem dX0_things_0 : decode cX0_things 0 = .ok (.aload_n 0, 1) := by decide +kernel
theorem dX0_things_1 : decode cX0_things 1 = .ok (.getfield 61, 3) := by decide +kernel
theorem dX0_things_4 : decode cX0_things 4 = .ok (.invokestatic 72, 3) := by decide +kernel
theorem dX0_things_7 : decode cX0_things 7 = .ok (.ireturn, 1) := by decide +kernel
set_option maxRecDepth 20000 in
theorem ggX0_left_X0_isThing : GoodIn wsX0_left wsX0_isThing := goodIn_r _ [8, 9, 10, 11, 7, 12, 13, 14, 15, 16, 17, 18, 19, 20, 21, 22, 23, 24] (by decide +kernel) (by decide +kernel)
set_option maxRecDepth 20000 in
theorem gX0_left_X0_isThing : GoodIn wsX0_left (wsV RX0 64 RX0 yX0_isThing wsX0_isThing) := goodIn_app (goodIn_of _ (by decide +kernel)) ggX0_left_X0_isThing
theorem dX0_left_0 : decode cX0_left 0 = .ok (.aload_n 0, 1) := by decide +kernel
theorem dX0_left_1 : decode cX0_left 1 = .ok (.iload_n 1, 1) := by decide +kernel
theorem dX0_left_2 : decode cX0_left 2 = .ok (.invokevirtual 64, 3) := by decide +kernel
theorem dX0_left_5 : decode cX0_left 5 = .ok (.ifCond .ne 13, 3) := by decide +kernel
theorem dX0_left_8 : decode cX0_left 8 = .ok (.new 67, 3) := by decide +kernel
theorem dX0_left_11 : decode cX0_left 11 = .ok (.dup, 1) := by decide +kernel
theorem dX0_left_12 : decode cX0_left 12 = .ok (.ldc 69, 2) := by decide +kernel
theorem dX0_left_14 : decode cX0_left 14 = .ok (.invokespecial 71, 3) := by decide +kernel
theorem dX0_left_17 : decode cX0_left 17 = .ok (.athrow, 1) := by decide +kernel
theorem dX0_left_18 : decode cX0_left 18 = .ok (.aload_n 0, 1) := by decide +kernel
theorem dX0_left_19 : decode cX0_left 19 = .ok (.getfield 25, 3) := by decide +kernel
theorem dX0_left_22 : decode cX0_left 22 = .ok (.iload_n 1, 1) := by decide +kernel
theorem dX0_left_23 : decode cX0_left 23 = .ok (.iaload, 1) := by decide +kernel
theorem dX0_left_24 : decode cX0_left 24 = .ok (.ireturn, 1) := by decide +kernel
set_option maxRecDepth 20000 in
theorem ggX0_isPossible_X0_areThings : GoodIn wsX0_isPossible wsX0_areThings := goodIn_r _ [9, 10, 11, 12, 8, 13, 14, 15, 16, 17, 53, 54, 55, 56, 57, 58, 59, 60, 61, 62, 63, 64] (by decide +kernel) (by decide +kernel)
set_option maxRecDepth 20000 in
theorem gX0_isPossible_X0_areThings : GoodIn wsX0_isPossible (wsV RX0 94 RX0 yX0_areThings wsX0_areThings) := goodIn_app (goodIn_of _ (by decide +kernel)) ggX0_isPossible_X0_areThings
set_option maxRecDepth 20000 in
theorem ggX0_isPossible_X0_areOfTheirKinds : GoodIn wsX0_isPossible wsX0_areOfTheirKinds := goodIn_r _ [21, 22, 23, 24, 8, 25, 26, 10, 11, 12, 13, 14, 15, 16, 17, 53, 54, 55, 56, 57, 58, 59, 60, 61, 62, 63, 64] (by decide +kernel) (by decide +kernel)
set_option maxRecDepth 20000 in
theorem gX0_isPossible_X0_areOfTheirKinds : GoodIn wsX0_isPossible (wsV RX0 97 RX0 yX0_areOfTheirKinds wsX0_areOfTheirKinds) := goodIn_app (goodIn_of _ (by decide +kernel)) ggX0_isPossible_X0_areOfTheirKinds
set_option maxRecDepth 20000 in
theorem ggX0_isPossible_X0_canBeWorn : GoodIn wsX0_isPossible wsX0_canBeWorn := goodIn_r _ [30, 31, 32, 33, 8, 34, 35, 22, 23, 24, 25, 26, 10, 11, 12, 13, 14, 15, 16, 17, 36, 37, 38, 39, 40, 41, 42, 43, 44, 45, 46, 47, 48, 49, 50, 51, 52, 53, 54, 55, 56, 57, 58, 59, 60, 61, 62, 63, 64] (by decide +kernel) (by decide +kernel)
set_option maxRecDepth 20000 in
theorem gX0_isPossible_X0_canBeWorn : GoodIn wsX0_isPossible (wsV RX0 102 RX0 yX0_canBeWorn wsX0_canBeWorn) := goodIn_app (goodIn_of _ (by decide +kernel)) ggX0_isPossible_X0_canBeWorn
theorem dX0_isPossible_0 : decode cX0_isPossible 0 = .ok (.aload_n 0, 1) := by decide +kernel
theorem dX0_isPossible_1 : decode cX0_isPossible 1 = .ok (.iload_n 1, 1) := by decide +kernel
theorem dX0_isPossible_2 : decode cX0_isPossible 2 = .ok (.iload_n 2, 1) := by decide +kernel
theorem dX0_isPossible_3 : decode cX0_isPossible 3 = .ok (.iload_n 3, 1) := by decide +kernel
theorem dX0_isPossible_4 : decode cX0_isPossible 4 = .ok (.invokevirtual 94, 3) := by decide +kernel
theorem dX0_isPossible_7 : decode cX0_isPossible 7 = .ok (.ifCond .ne 13, 3) := by decide +kernel
theorem dX0_isPossible_10 : decode cX0_isPossible 10 = .ok (.new 67, 3) := by decide +kernel
theorem dX0_isPossible_13 : decode cX0_isPossible 13 = .ok (.dup, 1) := by decide +kernel
theorem dX0_isPossible_14 : decode cX0_isPossible 14 = .ok (.ldc 69, 2) := by decide +kernel
theorem dX0_isPossible_16 : decode cX0_isPossible 16 = .ok (.invokespecial 71, 3) := by decide +kernel
theorem dX0_isPossible_19 : decode cX0_isPossible 19 = .ok (.athrow, 1) := by decide +kernel
theorem dX0_isPossible_20 : decode cX0_isPossible 20 = .ok (.aload_n 0, 1) := by decide +kernel
theorem dX0_isPossible_21 : decode cX0_isPossible 21 = .ok (.iload_n 1, 1) := by decide +kernel
theorem dX0_isPossible_22 : decode cX0_isPossible 22 = .ok (.iload_n 2, 1) := by decide +kernel
theorem dX0_isPossible_23 : decode cX0_isPossible 23 = .ok (.iload_n 3, 1) := by decide +kernel
theorem dX0_isPossible_24 : decode cX0_isPossible 24 = .ok (.invokevirtual 97, 3) := by decide +kernel
theorem dX0_isPossible_27 : decode cX0_isPossible 27 = .ok (.ifCond .ne 13, 3) := by decide +kernel
theorem dX0_isPossible_30 : decode cX0_isPossible 30 = .ok (.new 45, 3) := by decide +kernel
theorem dX0_isPossible_33 : decode cX0_isPossible 33 = .ok (.dup, 1) := by decide +kernel
theorem dX0_isPossible_34 : decode cX0_isPossible 34 = .ok (.ldc 100, 2) := by decide +kernel
theorem dX0_isPossible_36 : decode cX0_isPossible 36 = .ok (.invokespecial 49, 3) := by decide +kernel
theorem dX0_isPossible_39 : decode cX0_isPossible 39 = .ok (.athrow, 1) := by decide +kernel
theorem dX0_isPossible_40 : decode cX0_isPossible 40 = .ok (.aload_n 0, 1) := by decide +kernel
theorem dX0_isPossible_41 : decode cX0_isPossible 41 = .ok (.iload_n 1, 1) := by decide +kernel
theorem dX0_isPossible_42 : decode cX0_isPossible 42 = .ok (.iload_n 2, 1) := by decide +kernel
theorem dX0_isPossible_43 : decode cX0_isPossible 43 = .ok (.iload_n 3, 1) := by decide +kernel
theorem dX0_isPossible_44 : decode cX0_isPossible 44 = .ok (.invokevirtual 102, 3) := by decide +kernel
theorem dX0_isPossible_47 : decode cX0_isPossible 47 = .ok (.ireturn, 1) := by decide +kernel
set_option maxRecDepth 20000 in
theorem ggX0_isTooSoon_X0_areThings : GoodIn wsX0_isTooSoon wsX0_areThings := goodIn_r _ [9, 10, 11, 12, 8, 13, 14, 15, 16, 17, 39, 40, 41, 42, 43, 44, 45, 46, 47, 48, 49, 50] (by decide +kernel) (by decide +kernel)
set_option maxRecDepth 20000 in
theorem gX0_isTooSoon_X0_areThings : GoodIn wsX0_isTooSoon (wsV RX0 94 RX0 yX0_areThings wsX0_areThings) := goodIn_app (goodIn_of _ (by decide +kernel)) ggX0_isTooSoon_X0_areThings
set_option maxRecDepth 20000 in
theorem ggX0_isTooSoon_X0_areOfTheirKinds : GoodIn wsX0_isTooSoon wsX0_areOfTheirKinds := goodIn_r _ [21, 22, 23, 24, 8, 25, 26, 10, 11, 12, 13, 14, 15, 16, 17, 39, 40, 41, 42, 43, 44, 45, 46, 47, 48, 49, 50] (by decide +kernel) (by decide +kernel)
set_option maxRecDepth 20000 in
theorem gX0_isTooSoon_X0_areOfTheirKinds : GoodIn wsX0_isTooSoon (wsV RX0 97 RX0 yX0_areOfTheirKinds wsX0_areOfTheirKinds) := goodIn_app (goodIn_of _ (by decide +kernel)) ggX0_isTooSoon_X0_areOfTheirKinds
set_option maxRecDepth 20000 in
theorem ggX0_isTooSoon_X0_arePeople : GoodIn wsX0_isTooSoon wsX0_arePeople := goodIn_r _ [29, 15, 16, 8, 17] (by decide +kernel) (by decide +kernel)
set_option maxRecDepth 20000 in
theorem gX0_isTooSoon_X0_arePeople : GoodIn wsX0_isTooSoon (va_wsS RX0 105 yX0_arePeople wsX0_arePeople) := goodIn_app (goodIn_of _ (by decide +kernel)) ggX0_isTooSoon_X0_arePeople
set_option maxRecDepth 20000 in
theorem ggX0_isTooSoon_X0_wasSeenLately : GoodIn wsX0_isTooSoon wsX0_wasSeenLately := goodIn_r _ [33, 34, 35, 10, 11, 12, 8, 13, 14, 15, 16, 17, 36, 37, 38, 39, 40, 41, 42, 43, 44, 45, 46, 47, 48, 49, 50] (by decide +kernel) (by decide +kernel)
set_option maxRecDepth 20000 in
theorem gX0_isTooSoon_X0_wasSeenLately : GoodIn wsX0_isTooSoon (wsV RX0 110 RX0 yX0_wasSeenLately wsX0_wasSeenLately) := goodIn_app (goodIn_of _ (by decide +kernel)) ggX0_isTooSoon_X0_wasSeenLately
theorem dX0_isTooSoon_0 : decode cX0_isTooSoon 0 = .ok (.aload_n 0, 1) := by decide +kernel
theorem dX0_isTooSoon_1 : decode cX0_isTooSoon 1 = .ok (.iload_n 1, 1) := by decide +kernel
theorem dX0_isTooSoon_2 : decode cX0_isTooSoon 2 = .ok (.iload_n 2, 1) := by decide +kernel
theorem dX0_isTooSoon_3 : decode cX0_isTooSoon 3 = .ok (.iconst (-1), 1) := by decide +kernel
theorem dX0_isTooSoon_4 : decode cX0_isTooSoon 4 = .ok (.invokevirtual 94, 3) := by decide +kernel
theorem dX0_isTooSoon_7 : decode cX0_isTooSoon 7 = .ok (.ifCond .ne 13, 3) := by decide +kernel
theorem dX0_isTooSoon_10 : decode cX0_isTooSoon 10 = .ok (.new 67, 3) := by decide +kernel
theorem dX0_isTooSoon_13 : decode cX0_isTooSoon 13 = .ok (.dup, 1) := by decide +kernel
theorem dX0_isTooSoon_14 : decode cX0_isTooSoon 14 = .ok (.ldc 69, 2) := by decide +kernel
theorem dX0_isTooSoon_16 : decode cX0_isTooSoon 16 = .ok (.invokespecial 71, 3) := by decide +kernel
theorem dX0_isTooSoon_19 : decode cX0_isTooSoon 19 = .ok (.athrow, 1) := by decide +kernel
theorem dX0_isTooSoon_20 : decode cX0_isTooSoon 20 = .ok (.aload_n 0, 1) := by decide +kernel
theorem dX0_isTooSoon_21 : decode cX0_isTooSoon 21 = .ok (.iload_n 1, 1) := by decide +kernel
theorem dX0_isTooSoon_22 : decode cX0_isTooSoon 22 = .ok (.iload_n 2, 1) := by decide +kernel
theorem dX0_isTooSoon_23 : decode cX0_isTooSoon 23 = .ok (.iconst (-1), 1) := by decide +kernel
theorem dX0_isTooSoon_24 : decode cX0_isTooSoon 24 = .ok (.invokevirtual 97, 3) := by decide +kernel
theorem dX0_isTooSoon_27 : decode cX0_isTooSoon 27 = .ok (.ifCond .eq 10, 3) := by decide +kernel
theorem dX0_isTooSoon_30 : decode cX0_isTooSoon 30 = .ok (.iload_n 3, 1) := by decide +kernel
theorem dX0_isTooSoon_31 : decode cX0_isTooSoon 31 = .ok (.invokestatic 105, 3) := by decide +kernel
theorem dX0_isTooSoon_34 : decode cX0_isTooSoon 34 = .ok (.ifCond .ne 13, 3) := by decide +kernel
theorem dX0_isTooSoon_37 : decode cX0_isTooSoon 37 = .ok (.new 45, 3) := by decide +kernel
theorem dX0_isTooSoon_40 : decode cX0_isTooSoon 40 = .ok (.dup, 1) := by decide +kernel
theorem dX0_isTooSoon_41 : decode cX0_isTooSoon 41 = .ok (.ldc 108, 2) := by decide +kernel
theorem dX0_isTooSoon_43 : decode cX0_isTooSoon 43 = .ok (.invokespecial 49, 3) := by decide +kernel
theorem dX0_isTooSoon_46 : decode cX0_isTooSoon 46 = .ok (.athrow, 1) := by decide +kernel
theorem dX0_isTooSoon_47 : decode cX0_isTooSoon 47 = .ok (.aload_n 0, 1) := by decide +kernel
theorem dX0_isTooSoon_48 : decode cX0_isTooSoon 48 = .ok (.iload_n 1, 1) := by decide +kernel
theorem dX0_isTooSoon_49 : decode cX0_isTooSoon 49 = .ok (.iload_n 2, 1) := by decide +kernel
theorem dX0_isTooSoon_50 : decode cX0_isTooSoon 50 = .ok (.iload_n 3, 1) := by decide +kernel
theorem dX0_isTooSoon_51 : decode cX0_isTooSoon 51 = .ok (.invokevirtual 110, 3) := by decide +kernel
theorem dX0_isTooSoon_54 : decode cX0_isTooSoon 54 = .ok (.ireturn, 1) := by decide +kernel
set_option maxRecDepth 20000 in
theorem ggX0_wear_X0_areThings : GoodIn wsX0_wear wsX0_areThings := goodIn_r _ [11, 12, 13, 14, 10, 15, 16, 17, 18, 19, 88, 89, 90, 91, 92, 93, 94, 95, 96, 97, 98, 99] (by decide +kernel) (by decide +kernel)
set_option maxRecDepth 20000 in
theorem gX0_wear_X0_areThings : GoodIn wsX0_wear (wsV RX0 94 RX0 yX0_areThings wsX0_areThings) := goodIn_app (goodIn_of _ (by decide +kernel)) ggX0_wear_X0_areThings
set_option maxRecDepth 20000 in
theorem ggX0_wear_X0_areOfTheirKinds : GoodIn wsX0_wear wsX0_areOfTheirKinds := goodIn_r _ [23, 24, 25, 26, 10, 27, 28, 12, 13, 14, 15, 16, 17, 18, 19, 88, 89, 90, 91, 92, 93, 94, 95, 96, 97, 98, 99] (by decide +kernel) (by decide +kernel)
set_option maxRecDepth 20000 in
theorem gX0_wear_X0_areOfTheirKinds : GoodIn wsX0_wear (wsV RX0 97 RX0 yX0_areOfTheirKinds wsX0_areOfTheirKinds) := goodIn_app (goodIn_of _ (by decide +kernel)) ggX0_wear_X0_areOfTheirKinds
set_option maxRecDepth 20000 in
theorem ggX0_wear_X0_arePeople : GoodIn wsX0_wear wsX0_arePeople := goodIn_r _ [31, 17, 18, 10, 19] (by decide +kernel) (by decide +kernel)
set_option maxRecDepth 20000 in
theorem gX0_wear_X0_arePeople : GoodIn wsX0_wear (va_wsS RX0 105 yX0_arePeople wsX0_arePeople) := goodIn_app (goodIn_of _ (by decide +kernel)) ggX0_wear_X0_arePeople
set_option maxRecDepth 20000 in
theorem ggX0_wear_X0_canBeWorn : GoodIn wsX0_wear wsX0_canBeWorn := goodIn_r _ [35, 36, 37, 38, 10, 39, 40, 24, 25, 26, 27, 28, 12, 13, 14, 15, 16, 17, 18, 19, 41, 42, 43, 44, 45, 46, 47, 48, 49, 50, 51, 52, 53, 54, 55, 56, 57, 88, 89, 90, 91, 92, 93, 94, 95, 96, 97, 98, 99] (by decide +kernel) (by decide +kernel)
set_option maxRecDepth 20000 in
theorem gX0_wear_X0_canBeWorn : GoodIn wsX0_wear (wsV RX0 102 RX0 yX0_canBeWorn wsX0_canBeWorn) := goodIn_app (goodIn_of _ (by decide +kernel)) ggX0_wear_X0_canBeWorn
set_option maxRecDepth 20000 in
theorem ggX0_wear_X0_wasSeenLately : GoodIn wsX0_wear wsX0_wasSeenLately := goodIn_r _ [61, 62, 63, 12, 13, 14, 10, 15, 16, 17, 18, 19, 64, 65, 66, 88, 89, 90, 91, 92, 93, 94, 95, 96, 97, 98, 99] (by decide +kernel) (by decide +kernel)
set_option maxRecDepth 20000 in
theorem gX0_wear_X0_wasSeenLately : GoodIn wsX0_wear (wsV RX0 110 RX0 yX0_wasSeenLately wsX0_wasSeenLately) := goodIn_app (goodIn_of _ (by decide +kernel)) ggX0_wear_X0_wasSeenLately
set_option maxRecDepth 20000 in
theorem ggX0_wear_X0_wearOnce : GoodIn wsX0_wear wsX0_wearOnce := goodIn_r _ [70, 40, 71, 72, 73, 10, 74, 12, 13, 14, 15, 16, 17, 18, 19, 88, 89, 90, 91, 92, 93, 94, 95, 96, 97, 98, 99] (by decide +kernel) (by decide +kernel)
set_option maxRecDepth 20000 in
theorem gX0_wear_X0_wearOnce : GoodIn wsX0_wear (wsV RX0 115 RX0 yX0_wearOnce wsX0_wearOnce) := goodIn_app (goodIn_of _ (by decide +kernel)) ggX0_wear_X0_wearOnce
set_option maxRecDepth 20000 in
theorem ggX0_wear_X0_showTo : GoodIn wsX0_wear wsX0_showTo := goodIn_r _ [78, 63, 62, 12, 13, 14, 10, 15, 16, 17, 18, 19, 64, 65, 66, 88, 89, 90, 91, 92, 93, 94, 95, 96, 97, 98, 99] (by decide +kernel) (by decide +kernel)
set_option maxRecDepth 20000 in
theorem gX0_wear_X0_showTo : GoodIn wsX0_wear (wsV RX0 119 RX0 yX0_showTo wsX0_showTo) := goodIn_app (goodIn_of _ (by decide +kernel)) ggX0_wear_X0_showTo
set_option maxRecDepth 20000 in
theorem ggX0_wear_X0_outfitWarmth : GoodIn wsX0_wear wsX0_outfitWarmth := goodIn_r _ [82, 83, 84, 85, 10, 86, 87, 12, 13, 14, 15, 16, 17, 18, 19, 88, 89, 90, 91, 92, 93, 94, 95, 96, 97, 98, 99] (by decide +kernel) (by decide +kernel)
set_option maxRecDepth 20000 in
theorem gX0_wear_X0_outfitWarmth : GoodIn wsX0_wear (wsV RX0 123 RX0 yX0_outfitWarmth wsX0_outfitWarmth) := goodIn_app (goodIn_of _ (by decide +kernel)) ggX0_wear_X0_outfitWarmth
theorem dX0_wear_0 : decode cX0_wear 0 = .ok (.aload_n 0, 1) := by decide +kernel
theorem dX0_wear_1 : decode cX0_wear 1 = .ok (.iload_n 1, 1) := by decide +kernel
theorem dX0_wear_2 : decode cX0_wear 2 = .ok (.iload_n 2, 1) := by decide +kernel
theorem dX0_wear_3 : decode cX0_wear 3 = .ok (.iload_n 3, 1) := by decide +kernel
theorem dX0_wear_4 : decode cX0_wear 4 = .ok (.invokevirtual 94, 3) := by decide +kernel
theorem dX0_wear_7 : decode cX0_wear 7 = .ok (.ifCond .ne 13, 3) := by decide +kernel
theorem dX0_wear_10 : decode cX0_wear 10 = .ok (.new 67, 3) := by decide +kernel
theorem dX0_wear_13 : decode cX0_wear 13 = .ok (.dup, 1) := by decide +kernel
theorem dX0_wear_14 : decode cX0_wear 14 = .ok (.ldc 69, 2) := by decide +kernel
theorem dX0_wear_16 : decode cX0_wear 16 = .ok (.invokespecial 71, 3) := by decide +kernel
theorem dX0_wear_19 : decode cX0_wear 19 = .ok (.athrow, 1) := by decide +kernel
theorem dX0_wear_20 : decode cX0_wear 20 = .ok (.aload_n 0, 1) := by decide +kernel
theorem dX0_wear_21 : decode cX0_wear 21 = .ok (.iload_n 1, 1) := by decide +kernel
theorem dX0_wear_22 : decode cX0_wear 22 = .ok (.iload_n 2, 1) := by decide +kernel
theorem dX0_wear_23 : decode cX0_wear 23 = .ok (.iload_n 3, 1) := by decide +kernel
theorem dX0_wear_24 : decode cX0_wear 24 = .ok (.invokevirtual 97, 3) := by decide +kernel
theorem dX0_wear_27 : decode cX0_wear 27 = .ok (.ifCond .eq 11, 3) := by decide +kernel
theorem dX0_wear_30 : decode cX0_wear 30 = .ok (.iload 4, 2) := by decide +kernel
theorem dX0_wear_32 : decode cX0_wear 32 = .ok (.invokestatic 105, 3) := by decide +kernel
theorem dX0_wear_35 : decode cX0_wear 35 = .ok (.ifCond .ne 13, 3) := by decide +kernel
theorem dX0_wear_38 : decode cX0_wear 38 = .ok (.new 45, 3) := by decide +kernel
theorem dX0_wear_41 : decode cX0_wear 41 = .ok (.dup, 1) := by decide +kernel
theorem dX0_wear_42 : decode cX0_wear 42 = .ok (.ldc 108, 2) := by decide +kernel
theorem dX0_wear_44 : decode cX0_wear 44 = .ok (.invokespecial 49, 3) := by decide +kernel
theorem dX0_wear_47 : decode cX0_wear 47 = .ok (.athrow, 1) := by decide +kernel
theorem dX0_wear_48 : decode cX0_wear 48 = .ok (.aload_n 0, 1) := by decide +kernel
theorem dX0_wear_49 : decode cX0_wear 49 = .ok (.iload_n 1, 1) := by decide +kernel
theorem dX0_wear_50 : decode cX0_wear 50 = .ok (.iload_n 2, 1) := by decide +kernel
theorem dX0_wear_51 : decode cX0_wear 51 = .ok (.iload_n 3, 1) := by decide +kernel
theorem dX0_wear_52 : decode cX0_wear 52 = .ok (.invokevirtual 102, 3) := by decide +kernel
theorem dX0_wear_55 : decode cX0_wear 55 = .ok (.ifCond .eq 14, 3) := by decide +kernel
theorem dX0_wear_58 : decode cX0_wear 58 = .ok (.aload_n 0, 1) := by decide +kernel
theorem dX0_wear_59 : decode cX0_wear 59 = .ok (.iload_n 1, 1) := by decide +kernel
theorem dX0_wear_60 : decode cX0_wear 60 = .ok (.iload_n 2, 1) := by decide +kernel
theorem dX0_wear_61 : decode cX0_wear 61 = .ok (.iload 4, 2) := by decide +kernel
theorem dX0_wear_63 : decode cX0_wear 63 = .ok (.invokevirtual 110, 3) := by decide +kernel
theorem dX0_wear_66 : decode cX0_wear 66 = .ok (.ifCond .eq 13, 3) := by decide +kernel
theorem dX0_wear_69 : decode cX0_wear 69 = .ok (.new 56, 3) := by decide +kernel
theorem dX0_wear_72 : decode cX0_wear 72 = .ok (.dup, 1) := by decide +kernel
theorem dX0_wear_73 : decode cX0_wear 73 = .ok (.ldc 113, 2) := by decide +kernel
theorem dX0_wear_75 : decode cX0_wear 75 = .ok (.invokespecial 60, 3) := by decide +kernel
theorem dX0_wear_78 : decode cX0_wear 78 = .ok (.athrow, 1) := by decide +kernel
theorem dX0_wear_79 : decode cX0_wear 79 = .ok (.aload_n 0, 1) := by decide +kernel
theorem dX0_wear_80 : decode cX0_wear 80 = .ok (.iload_n 1, 1) := by decide +kernel
theorem dX0_wear_81 : decode cX0_wear 81 = .ok (.invokevirtual 115, 3) := by decide +kernel
theorem dX0_wear_84 : decode cX0_wear 84 = .ok (.aload_n 0, 1) := by decide +kernel
theorem dX0_wear_85 : decode cX0_wear 85 = .ok (.iload_n 2, 1) := by decide +kernel
theorem dX0_wear_86 : decode cX0_wear 86 = .ok (.invokevirtual 115, 3) := by decide +kernel
theorem dX0_wear_89 : decode cX0_wear 89 = .ok (.aload_n 0, 1) := by decide +kernel
theorem dX0_wear_90 : decode cX0_wear 90 = .ok (.iload_n 3, 1) := by decide +kernel
theorem dX0_wear_91 : decode cX0_wear 91 = .ok (.invokevirtual 115, 3) := by decide +kernel
theorem dX0_wear_94 : decode cX0_wear 94 = .ok (.aload_n 0, 1) := by decide +kernel
theorem dX0_wear_95 : decode cX0_wear 95 = .ok (.iload_n 1, 1) := by decide +kernel
theorem dX0_wear_96 : decode cX0_wear 96 = .ok (.iload_n 2, 1) := by decide +kernel
theorem dX0_wear_97 : decode cX0_wear 97 = .ok (.iload 4, 2) := by decide +kernel
theorem dX0_wear_99 : decode cX0_wear 99 = .ok (.invokevirtual 119, 3) := by decide +kernel
theorem dX0_wear_102 : decode cX0_wear 102 = .ok (.aload_n 0, 1) := by decide +kernel
theorem dX0_wear_103 : decode cX0_wear 103 = .ok (.iload_n 1, 1) := by decide +kernel
theorem dX0_wear_104 : decode cX0_wear 104 = .ok (.iload_n 2, 1) := by decide +kernel
theorem dX0_wear_105 : decode cX0_wear 105 = .ok (.iload_n 3, 1) := by decide +kernel
theorem dX0_wear_106 : decode cX0_wear 106 = .ok (.invokevirtual 123, 3) := by decide +kernel
theorem dX0_wear_109 : decode cX0_wear 109 = .ok (.ireturn, 1) := by decide +kernel
set_option maxRecDepth 20000 in
theorem ggX0_outfits_X0_isOutfitWarmth : GoodIn wsX0_outfits wsX0_isOutfitWarmth := goodIn_r _ [7, 8, 9, 6, 10] (by decide +kernel) (by decide +kernel)
set_option maxRecDepth 20000 in
theorem gX0_outfits_X0_isOutfitWarmth : GoodIn wsX0_outfits (va_wsS RX0 127 yX0_isOutfitWarmth wsX0_isOutfitWarmth) := goodIn_app (goodIn_of _ (by decide +kernel)) ggX0_outfits_X0_isOutfitWarmth
set_option maxRecDepth 20000 in
theorem ggX0_outfits_X0_countOutfitsOf : GoodIn wsX0_outfits wsX0_countOutfitsOf := goodIn_r _ [14, 3, 15, 16, 17, 6, 18, 19, 20, 21, 22, 23, 24, 25, 26, 27, 28, 29, 30, 31, 32, 33, 8, 9, 10, 34, 35, 36, 37, 38, 39, 40, 41, 42, 43, 44, 45, 46, 47, 48, 49, 50, 51, 52, 53, 54, 55, 56, 57, 58, 59, 60, 61, 62, 63, 64, 65, 66, 67, 68, 69, 70, 71, 72, 73, 74, 75] (by decide +kernel) (by decide +kernel)
set_option maxRecDepth 20000 in
theorem gX0_outfits_X0_countOutfitsOf : GoodIn wsX0_outfits (wsV RX0 132 RX0 yX0_countOutfitsOf wsX0_countOutfitsOf) := goodIn_app (goodIn_of _ (by decide +kernel)) ggX0_outfits_X0_countOutfitsOf
theorem dX0_outfits_0 : decode cX0_outfits 0 = .ok (.iload_n 1, 1) := by decide +kernel
theorem dX0_outfits_1 : decode cX0_outfits 1 = .ok (.invokestatic 127, 3) := by decide +kernel
theorem dX0_outfits_4 : decode cX0_outfits 4 = .ok (.ifCond .ne 13, 3) := by decide +kernel
theorem dX0_outfits_7 : decode cX0_outfits 7 = .ok (.new 45, 3) := by decide +kernel
theorem dX0_outfits_10 : decode cX0_outfits 10 = .ok (.dup, 1) := by decide +kernel
theorem dX0_outfits_11 : decode cX0_outfits 11 = .ok (.ldc 130, 2) := by decide +kernel
theorem dX0_outfits_13 : decode cX0_outfits 13 = .ok (.invokespecial 49, 3) := by decide +kernel
theorem dX0_outfits_16 : decode cX0_outfits 16 = .ok (.athrow, 1) := by decide +kernel
theorem dX0_outfits_17 : decode cX0_outfits 17 = .ok (.iconst 0, 1) := by decide +kernel
theorem dX0_outfits_18 : decode cX0_outfits 18 = .ok (.istore_n 2, 1) := by decide +kernel
theorem dX0_outfits_19 : decode cX0_outfits 19 = .ok (.iconst 0, 1) := by decide +kernel
theorem dX0_outfits_20 : decode cX0_outfits 20 = .ok (.istore_n 3, 1) := by decide +kernel
theorem dX0_outfits_21 : decode cX0_outfits 21 = .ok (.iload_n 3, 1) := by decide +kernel
theorem dX0_outfits_22 : decode cX0_outfits 22 = .ok (.aload_n 0, 1) := by decide +kernel
theorem dX0_outfits_23 : decode cX0_outfits 23 = .ok (.getfield 52, 3) := by decide +kernel
theorem dX0_outfits_26 : decode cX0_outfits 26 = .ok (.if_icmp .ge 38, 3) := by decide +kernel
theorem dX0_outfits_29 : decode cX0_outfits 29 = .ok (.iconst 0, 1) := by decide +kernel
theorem dX0_outfits_30 : decode cX0_outfits 30 = .ok (.istore 4, 2) := by decide +kernel
theorem dX0_outfits_32 : decode cX0_outfits 32 = .ok (.iload 4, 2) := by decide +kernel
theorem dX0_outfits_34 : decode cX0_outfits 34 = .ok (.aload_n 0, 1) := by decide +kernel
theorem dX0_outfits_35 : decode cX0_outfits 35 = .ok (.getfield 52, 3) := by decide +kernel
theorem dX0_outfits_38 : decode cX0_outfits 38 = .ok (.if_icmp .ge 20, 3) := by decide +kernel
theorem dX0_outfits_41 : decode cX0_outfits 41 = .ok (.iload_n 2, 1) := by decide +kernel
theorem dX0_outfits_42 : decode cX0_outfits 42 = .ok (.aload_n 0, 1) := by decide +kernel
theorem dX0_outfits_43 : decode cX0_outfits 43 = .ok (.iload_n 3, 1) := by decide +kernel
theorem dX0_outfits_44 : decode cX0_outfits 44 = .ok (.iload 4, 2) := by decide +kernel
theorem dX0_outfits_46 : decode cX0_outfits 46 = .ok (.iload_n 1, 1) := by decide +kernel
theorem dX0_outfits_47 : decode cX0_outfits 47 = .ok (.invokevirtual 132, 3) := by decide +kernel
theorem dX0_outfits_50 : decode cX0_outfits 50 = .ok (.iadd, 1) := by decide +kernel
theorem dX0_outfits_51 : decode cX0_outfits 51 = .ok (.istore_n 2, 1) := by decide +kernel
theorem dX0_outfits_52 : decode cX0_outfits 52 = .ok (.iinc 4 1, 3) := by decide +kernel
theorem dX0_outfits_55 : decode cX0_outfits 55 = .ok (.goto (-23), 3) := by decide +kernel
theorem dX0_outfits_58 : decode cX0_outfits 58 = .ok (.iinc 3 1, 3) := by decide +kernel
theorem dX0_outfits_61 : decode cX0_outfits 61 = .ok (.goto (-40), 3) := by decide +kernel
theorem dX0_outfits_64 : decode cX0_outfits 64 = .ok (.iload_n 2, 1) := by decide +kernel
theorem dX0_outfits_65 : decode cX0_outfits 65 = .ok (.ireturn, 1) := by decide +kernel
set_option maxRecDepth 20000 in
theorem ggX0_adds_X0_isThing : GoodIn wsX0_adds wsX0_isThing := goodIn_r _ [10, 11, 12, 13, 9, 14, 66, 67, 68, 69, 70, 71, 72, 73, 74, 75, 76, 77] (by decide +kernel) (by decide +kernel)
set_option maxRecDepth 20000 in
theorem gX0_adds_X0_isThing : GoodIn wsX0_adds (wsV RX0 64 RX0 yX0_isThing wsX0_isThing) := goodIn_app (goodIn_of _ (by decide +kernel)) ggX0_adds_X0_isThing
set_option maxRecDepth 20000 in
theorem ggX0_adds_X0_isOutfitWarmth : GoodIn wsX0_adds wsX0_isOutfitWarmth := goodIn_r _ [17, 12, 13, 9, 14] (by decide +kernel) (by decide +kernel)
set_option maxRecDepth 20000 in
theorem gX0_adds_X0_isOutfitWarmth : GoodIn wsX0_adds (va_wsS RX0 127 yX0_isOutfitWarmth wsX0_isOutfitWarmth) := goodIn_app (goodIn_of _ (by decide +kernel)) ggX0_adds_X0_isOutfitWarmth
set_option maxRecDepth 20000 in
theorem ggX0_adds_X0_countOutfitsOf : GoodIn wsX0_adds wsX0_countOutfitsOf := goodIn_r _ [21, 5, 22, 23, 24, 9, 25, 26, 27, 28, 29, 30, 31, 32, 33, 34, 35, 6, 7, 8, 10, 11, 12, 13, 14, 36, 37, 38, 39, 40, 41, 42, 43, 44, 45, 46, 47, 48, 49, 50, 51, 52, 53, 54, 55, 56, 57, 58, 59, 60, 61, 62, 63, 64, 65, 66, 67, 68, 69, 70, 71, 72, 73, 74, 75, 76, 77] (by decide +kernel) (by decide +kernel)
set_option maxRecDepth 20000 in
theorem gX0_adds_X0_countOutfitsOf : GoodIn wsX0_adds (wsV RX0 132 RX0 yX0_countOutfitsOf wsX0_countOutfitsOf) := goodIn_app (goodIn_of _ (by decide +kernel)) ggX0_adds_X0_countOutfitsOf
set_option maxRecDepth 20000 in
theorem ggX0_adds_X0_isWarmOutfit : GoodIn wsX0_adds wsX0_isWarmOutfit := goodIn_r _ [56, 57, 58, 59, 9, 60, 61, 62, 63, 64, 65, 6, 7, 8, 10, 11, 12, 13, 14, 22, 23, 24, 25, 26, 27, 28, 29, 30, 31, 32, 33, 34, 35, 36, 37, 38, 39, 40, 41, 42, 43, 44, 45, 46, 47, 48, 49, 50, 51, 52, 66, 67, 68, 69, 70, 71, 72, 73, 74, 75, 76, 77] (by decide +kernel) (by decide +kernel)
set_option maxRecDepth 20000 in
theorem gX0_adds_X0_isWarmOutfit : GoodIn wsX0_adds (wsV RX0 135 RX0 yX0_isWarmOutfit wsX0_isWarmOutfit) := goodIn_app (goodIn_of _ (by decide +kernel)) ggX0_adds_X0_isWarmOutfit
theorem dX0_adds_0 : decode cX0_adds 0 = .ok (.aload_n 0, 1) := by decide +kernel
theorem dX0_adds_1 : decode cX0_adds 1 = .ok (.iload_n 1, 1) := by decide +kernel
theorem dX0_adds_2 : decode cX0_adds 2 = .ok (.invokevirtual 64, 3) := by decide +kernel
theorem dX0_adds_5 : decode cX0_adds 5 = .ok (.ifCond .ne 13, 3) := by decide +kernel
theorem dX0_adds_8 : decode cX0_adds 8 = .ok (.new 67, 3) := by decide +kernel
theorem dX0_adds_11 : decode cX0_adds 11 = .ok (.dup, 1) := by decide +kernel
theorem dX0_adds_12 : decode cX0_adds 12 = .ok (.ldc 69, 2) := by decide +kernel
theorem dX0_adds_14 : decode cX0_adds 14 = .ok (.invokespecial 71, 3) := by decide +kernel
theorem dX0_adds_17 : decode cX0_adds 17 = .ok (.athrow, 1) := by decide +kernel
theorem dX0_adds_18 : decode cX0_adds 18 = .ok (.iload_n 2, 1) := by decide +kernel
theorem dX0_adds_19 : decode cX0_adds 19 = .ok (.invokestatic 127, 3) := by decide +kernel
theorem dX0_adds_22 : decode cX0_adds 22 = .ok (.ifCond .ne 13, 3) := by decide +kernel
theorem dX0_adds_25 : decode cX0_adds 25 = .ok (.new 45, 3) := by decide +kernel
theorem dX0_adds_28 : decode cX0_adds 28 = .ok (.dup, 1) := by decide +kernel
theorem dX0_adds_29 : decode cX0_adds 29 = .ok (.ldc 130, 2) := by decide +kernel
theorem dX0_adds_31 : decode cX0_adds 31 = .ok (.invokespecial 49, 3) := by decide +kernel
theorem dX0_adds_34 : decode cX0_adds 34 = .ok (.athrow, 1) := by decide +kernel
theorem dX0_adds_35 : decode cX0_adds 35 = .ok (.iconst 0, 1) := by decide +kernel
theorem dX0_adds_36 : decode cX0_adds 36 = .ok (.istore_n 3, 1) := by decide +kernel
theorem dX0_adds_37 : decode cX0_adds 37 = .ok (.iconst 0, 1) := by decide +kernel
theorem dX0_adds_38 : decode cX0_adds 38 = .ok (.istore 4, 2) := by decide +kernel
theorem dX0_adds_40 : decode cX0_adds 40 = .ok (.iload 4, 2) := by decide +kernel
theorem dX0_adds_42 : decode cX0_adds 42 = .ok (.aload_n 0, 1) := by decide +kernel
theorem dX0_adds_43 : decode cX0_adds 43 = .ok (.getfield 52, 3) := by decide +kernel
theorem dX0_adds_46 : decode cX0_adds 46 = .ok (.if_icmp .ge 70, 3) := by decide +kernel
theorem dX0_adds_49 : decode cX0_adds 49 = .ok (.iconst 0, 1) := by decide +kernel
theorem dX0_adds_50 : decode cX0_adds 50 = .ok (.istore 5, 2) := by decide +kernel
theorem dX0_adds_52 : decode cX0_adds 52 = .ok (.iload 5, 2) := by decide +kernel
theorem dX0_adds_54 : decode cX0_adds 54 = .ok (.aload_n 0, 1) := by decide +kernel
theorem dX0_adds_55 : decode cX0_adds 55 = .ok (.getfield 52, 3) := by decide +kernel
theorem dX0_adds_58 : decode cX0_adds 58 = .ok (.if_icmp .ge 52, 3) := by decide +kernel
theorem dX0_adds_61 : decode cX0_adds 61 = .ok (.iload 4, 2) := by decide +kernel
theorem dX0_adds_63 : decode cX0_adds 63 = .ok (.iload_n 1, 1) := by decide +kernel
theorem dX0_adds_64 : decode cX0_adds 64 = .ok (.if_icmp .eq 9, 3) := by decide +kernel
theorem dX0_adds_67 : decode cX0_adds 67 = .ok (.iload 5, 2) := by decide +kernel
theorem dX0_adds_69 : decode cX0_adds 69 = .ok (.iload_n 1, 1) := by decide +kernel
theorem dX0_adds_70 : decode cX0_adds 70 = .ok (.if_icmp .ne 18, 3) := by decide +kernel
theorem dX0_adds_73 : decode cX0_adds 73 = .ok (.iload_n 3, 1) := by decide +kernel
theorem dX0_adds_74 : decode cX0_adds 74 = .ok (.aload_n 0, 1) := by decide +kernel
theorem dX0_adds_75 : decode cX0_adds 75 = .ok (.iload 4, 2) := by decide +kernel
theorem dX0_adds_77 : decode cX0_adds 77 = .ok (.iload 5, 2) := by decide +kernel
theorem dX0_adds_79 : decode cX0_adds 79 = .ok (.iload_n 2, 1) := by decide +kernel
theorem dX0_adds_80 : decode cX0_adds 80 = .ok (.invokevirtual 132, 3) := by decide +kernel
theorem dX0_adds_83 : decode cX0_adds 83 = .ok (.iadd, 1) := by decide +kernel
theorem dX0_adds_84 : decode cX0_adds 84 = .ok (.istore_n 3, 1) := by decide +kernel
theorem dX0_adds_85 : decode cX0_adds 85 = .ok (.goto 19, 3) := by decide +kernel
theorem dX0_adds_88 : decode cX0_adds 88 = .ok (.aload_n 0, 1) := by decide +kernel
theorem dX0_adds_89 : decode cX0_adds 89 = .ok (.iload 4, 2) := by decide +kernel
theorem dX0_adds_91 : decode cX0_adds 91 = .ok (.iload 5, 2) := by decide +kernel
theorem dX0_adds_93 : decode cX0_adds 93 = .ok (.iload_n 1, 1) := by decide +kernel
theorem dX0_adds_94 : decode cX0_adds 94 = .ok (.iload_n 2, 1) := by decide +kernel
theorem dX0_adds_95 : decode cX0_adds 95 = .ok (.invokevirtual 135, 3) := by decide +kernel
theorem dX0_adds_98 : decode cX0_adds 98 = .ok (.ifCond .eq 6, 3) := by decide +kernel
theorem dX0_adds_101 : decode cX0_adds 101 = .ok (.iinc 3 1, 3) := by decide +kernel
theorem dX0_adds_104 : decode cX0_adds 104 = .ok (.iinc 5 1, 3) := by decide +kernel
theorem dX0_adds_107 : decode cX0_adds 107 = .ok (.goto (-55), 3) := by decide +kernel
theorem dX0_adds_110 : decode cX0_adds 110 = .ok (.iinc 4 1, 3) := by decide +kernel
theorem dX0_adds_113 : decode cX0_adds 113 = .ok (.goto (-73), 3) := by decide +kernel
theorem dX0_adds_116 : decode cX0_adds 116 = .ok (.iload_n 3, 1) := by decide +kernel
theorem dX0_adds_117 : decode cX0_adds 117 = .ok (.ireturn, 1) := by decide +kernel
set_option maxRecDepth 20000 in
theorem ggX0_missingTop_X0_countBottomsFor : GoodIn wsX0_missingTop wsX0_countBottomsFor := goodIn_r _ [5, 6, 7, 8, 9, 10, 4, 11, 12, 13, 14, 15, 16, 17, 18, 19, 20, 21, 22, 23, 24, 25, 26, 27, 28, 29, 30, 31, 32, 33, 34, 35, 36, 37, 38, 39, 40, 41, 42, 43, 44, 45] (by decide +kernel) (by decide +kernel)
set_option maxRecDepth 20000 in
theorem gX0_missingTop_X0_countBottomsFor : GoodIn wsX0_missingTop (wsV RX0 139 RX0 yX0_countBottomsFor wsX0_countBottomsFor) := goodIn_app (goodIn_of _ (by decide +kernel)) ggX0_missingTop_X0_countBottomsFor
theorem dX0_missingTop_0 : decode cX0_missingTop 0 = .ok (.iconst 0, 1) := by decide +kernel
theorem dX0_missingTop_1 : decode cX0_missingTop 1 = .ok (.istore_n 1, 1) := by decide +kernel
theorem dX0_missingTop_2 : decode cX0_missingTop 2 = .ok (.iconst 0, 1) := by decide +kernel
theorem dX0_missingTop_3 : decode cX0_missingTop 3 = .ok (.istore_n 2, 1) := by decide +kernel
theorem dX0_missingTop_4 : decode cX0_missingTop 4 = .ok (.iconst 0, 1) := by decide +kernel
theorem dX0_missingTop_5 : decode cX0_missingTop 5 = .ok (.istore_n 3, 1) := by decide +kernel
theorem dX0_missingTop_6 : decode cX0_missingTop 6 = .ok (.iload_n 3, 1) := by decide +kernel
theorem dX0_missingTop_7 : decode cX0_missingTop 7 = .ok (.bipush 8, 2) := by decide +kernel
theorem dX0_missingTop_9 : decode cX0_missingTop 9 = .ok (.if_icmp .ge 27, 3) := by decide +kernel
theorem dX0_missingTop_12 : decode cX0_missingTop 12 = .ok (.aload_n 0, 1) := by decide +kernel
theorem dX0_missingTop_13 : decode cX0_missingTop 13 = .ok (.iload_n 3, 1) := by decide +kernel
theorem dX0_missingTop_14 : decode cX0_missingTop 14 = .ok (.invokevirtual 139, 3) := by decide +kernel
theorem dX0_missingTop_17 : decode cX0_missingTop 17 = .ok (.istore 4, 2) := by decide +kernel
theorem dX0_missingTop_19 : decode cX0_missingTop 19 = .ok (.iload 4, 2) := by decide +kernel
theorem dX0_missingTop_21 : decode cX0_missingTop 21 = .ok (.iload_n 2, 1) := by decide +kernel
theorem dX0_missingTop_22 : decode cX0_missingTop 22 = .ok (.if_icmp .le 8, 3) := by decide +kernel
theorem dX0_missingTop_25 : decode cX0_missingTop 25 = .ok (.iload_n 3, 1) := by decide +kernel
theorem dX0_missingTop_26 : decode cX0_missingTop 26 = .ok (.istore_n 1, 1) := by decide +kernel
theorem dX0_missingTop_27 : decode cX0_missingTop 27 = .ok (.iload 4, 2) := by decide +kernel
theorem dX0_missingTop_29 : decode cX0_missingTop 29 = .ok (.istore_n 2, 1) := by decide +kernel
theorem dX0_missingTop_30 : decode cX0_missingTop 30 = .ok (.iinc 3 1, 3) := by decide +kernel
theorem dX0_missingTop_33 : decode cX0_missingTop 33 = .ok (.goto (-27), 3) := by decide +kernel
theorem dX0_missingTop_36 : decode cX0_missingTop 36 = .ok (.iload_n 1, 1) := by decide +kernel
theorem dX0_missingTop_37 : decode cX0_missingTop 37 = .ok (.ireturn, 1) := by decide +kernel
set_option maxRecDepth 20000 in
theorem ggX0_outfitFor_X0_isOutfitWarmth : GoodIn wsX0_outfitFor wsX0_isOutfitWarmth := goodIn_r _ [7, 8, 9, 6, 10] (by decide +kernel) (by decide +kernel)
set_option maxRecDepth 20000 in
theorem gX0_outfitFor_X0_isOutfitWarmth : GoodIn wsX0_outfitFor (va_wsS RX0 127 yX0_isOutfitWarmth wsX0_isOutfitWarmth) := goodIn_app (goodIn_of _ (by decide +kernel)) ggX0_outfitFor_X0_isOutfitWarmth
set_option maxRecDepth 20000 in
theorem ggX0_outfitFor_X0_arePeople : GoodIn wsX0_outfitFor wsX0_arePeople := goodIn_r _ [13, 8, 9, 6, 10] (by decide +kernel) (by decide +kernel)
set_option maxRecDepth 20000 in
theorem gX0_outfitFor_X0_arePeople : GoodIn wsX0_outfitFor (va_wsS RX0 105 yX0_arePeople wsX0_arePeople) := goodIn_app (goodIn_of _ (by decide +kernel)) ggX0_outfitFor_X0_arePeople
set_option maxRecDepth 20000 in
theorem ggX0_outfitFor_X0_canBeWorn : GoodIn wsX0_outfitFor wsX0_canBeWorn := goodIn_r _ [17, 18, 19, 20, 6, 21, 22, 23, 24, 25, 26, 27, 28, 29, 30, 31, 32, 8, 9, 10, 33, 34, 35, 36, 37, 38, 39, 40, 41, 42, 43, 44, 45, 46, 47, 48, 49, 72, 73, 74, 75, 76, 77, 78, 79, 80, 81, 82, 83] (by decide +kernel) (by decide +kernel)
set_option maxRecDepth 20000 in
theorem gX0_outfitFor_X0_canBeWorn : GoodIn wsX0_outfitFor (wsV RX0 102 RX0 yX0_canBeWorn wsX0_canBeWorn) := goodIn_app (goodIn_of _ (by decide +kernel)) ggX0_outfitFor_X0_canBeWorn
set_option maxRecDepth 20000 in
theorem ggX0_outfitFor_X0_wasSeenLately : GoodIn wsX0_outfitFor wsX0_wasSeenLately := goodIn_r _ [53, 54, 55, 28, 29, 30, 6, 31, 32, 8, 9, 10, 56, 57, 58, 72, 73, 74, 75, 76, 77, 78, 79, 80, 81, 82, 83] (by decide +kernel) (by decide +kernel)
set_option maxRecDepth 20000 in
theorem gX0_outfitFor_X0_wasSeenLately : GoodIn wsX0_outfitFor (wsV RX0 110 RX0 yX0_wasSeenLately wsX0_wasSeenLately) := goodIn_app (goodIn_of _ (by decide +kernel)) ggX0_outfitFor_X0_wasSeenLately
set_option maxRecDepth 20000 in
theorem ggX0_outfitFor_X0_outfitWarmth : GoodIn wsX0_outfitFor wsX0_outfitWarmth := goodIn_r _ [62, 63, 64, 65, 6, 66, 67, 28, 29, 30, 31, 32, 8, 9, 10, 72, 73, 74, 75, 76, 77, 78, 79, 80, 81, 82, 83] (by decide +kernel) (by decide +kernel)
set_option maxRecDepth 20000 in
theorem gX0_outfitFor_X0_outfitWarmth : GoodIn wsX0_outfitFor (wsV RX0 123 RX0 yX0_outfitWarmth wsX0_outfitWarmth) := goodIn_app (goodIn_of _ (by decide +kernel)) ggX0_outfitFor_X0_outfitWarmth
set_option maxRecDepth 20000 in
theorem ggX0_outfitFor_X0_isWarmOutfit : GoodIn wsX0_outfitFor wsX0_isWarmOutfit := goodIn_r _ [71, 59, 60, 61, 6, 62, 63, 64, 65, 66, 67, 28, 29, 30, 31, 32, 8, 9, 10, 14, 15, 16, 17, 18, 19, 20, 21, 22, 23, 24, 25, 26, 27, 33, 34, 35, 36, 37, 38, 39, 40, 41, 42, 43, 44, 45, 46, 47, 48, 49, 72, 73, 74, 75, 76, 77, 78, 79, 80, 81, 82, 83] (by decide +kernel) (by decide +kernel)
set_option maxRecDepth 20000 in
theorem gX0_outfitFor_X0_isWarmOutfit : GoodIn wsX0_outfitFor (wsV RX0 135 RX0 yX0_isWarmOutfit wsX0_isWarmOutfit) := goodIn_app (goodIn_of _ (by decide +kernel)) ggX0_outfitFor_X0_isWarmOutfit
theorem dX0_outfitFor_0 : decode cX0_outfitFor 0 = .ok (.iload_n 1, 1) := by decide +kernel
theorem dX0_outfitFor_1 : decode cX0_outfitFor 1 = .ok (.invokestatic 127, 3) := by decide +kernel
theorem dX0_outfitFor_4 : decode cX0_outfitFor 4 = .ok (.ifCond .eq 10, 3) := by decide +kernel
theorem dX0_outfitFor_7 : decode cX0_outfitFor 7 = .ok (.iload_n 2, 1) := by decide +kernel
theorem dX0_outfitFor_8 : decode cX0_outfitFor 8 = .ok (.invokestatic 105, 3) := by decide +kernel
theorem dX0_outfitFor_11 : decode cX0_outfitFor 11 = .ok (.ifCond .ne 13, 3) := by decide +kernel
theorem dX0_outfitFor_14 : decode cX0_outfitFor 14 = .ok (.new 45, 3) := by decide +kernel
theorem dX0_outfitFor_17 : decode cX0_outfitFor 17 = .ok (.dup, 1) := by decide +kernel
theorem dX0_outfitFor_18 : decode cX0_outfitFor 18 = .ok (.ldc 142, 2) := by decide +kernel
theorem dX0_outfitFor_20 : decode cX0_outfitFor 20 = .ok (.invokespecial 49, 3) := by decide +kernel
theorem dX0_outfitFor_23 : decode cX0_outfitFor 23 = .ok (.athrow, 1) := by decide +kernel
theorem dX0_outfitFor_24 : decode cX0_outfitFor 24 = .ok (.iconst (-1), 1) := by decide +kernel
theorem dX0_outfitFor_25 : decode cX0_outfitFor 25 = .ok (.istore_n 3, 1) := by decide +kernel
theorem dX0_outfitFor_26 : decode cX0_outfitFor 26 = .ok (.bipush 31, 2) := by decide +kernel
theorem dX0_outfitFor_28 : decode cX0_outfitFor 28 = .ok (.istore 4, 2) := by decide +kernel
theorem dX0_outfitFor_30 : decode cX0_outfitFor 30 = .ok (.iconst 0, 1) := by decide +kernel
theorem dX0_outfitFor_31 : decode cX0_outfitFor 31 = .ok (.istore 5, 2) := by decide +kernel
theorem dX0_outfitFor_33 : decode cX0_outfitFor 33 = .ok (.iload 5, 2) := by decide +kernel
theorem dX0_outfitFor_35 : decode cX0_outfitFor 35 = .ok (.aload_n 0, 1) := by decide +kernel
theorem dX0_outfitFor_36 : decode cX0_outfitFor 36 = .ok (.getfield 52, 3) := by decide +kernel
theorem dX0_outfitFor_39 : decode cX0_outfitFor 39 = .ok (.if_icmp .ge 127, 3) := by decide +kernel
theorem dX0_outfitFor_42 : decode cX0_outfitFor 42 = .ok (.iconst 0, 1) := by decide +kernel
theorem dX0_outfitFor_43 : decode cX0_outfitFor 43 = .ok (.istore 6, 2) := by decide +kernel
theorem dX0_outfitFor_45 : decode cX0_outfitFor 45 = .ok (.iload 6, 2) := by decide +kernel
theorem dX0_outfitFor_47 : decode cX0_outfitFor 47 = .ok (.aload_n 0, 1) := by decide +kernel
theorem dX0_outfitFor_48 : decode cX0_outfitFor 48 = .ok (.getfield 52, 3) := by decide +kernel
theorem dX0_outfitFor_51 : decode cX0_outfitFor 51 = .ok (.if_icmp .ge 109, 3) := by decide +kernel
theorem dX0_outfitFor_54 : decode cX0_outfitFor 54 = .ok (.aload_n 0, 1) := by decide +kernel
theorem dX0_outfitFor_55 : decode cX0_outfitFor 55 = .ok (.iload 5, 2) := by decide +kernel
theorem dX0_outfitFor_57 : decode cX0_outfitFor 57 = .ok (.iload 6, 2) := by decide +kernel
theorem dX0_outfitFor_59 : decode cX0_outfitFor 59 = .ok (.iconst (-1), 1) := by decide +kernel
theorem dX0_outfitFor_60 : decode cX0_outfitFor 60 = .ok (.invokevirtual 102, 3) := by decide +kernel
theorem dX0_outfitFor_63 : decode cX0_outfitFor 63 = .ok (.ifCond .eq 91, 3) := by decide +kernel
theorem dX0_outfitFor_66 : decode cX0_outfitFor 66 = .ok (.aload_n 0, 1) := by decide +kernel
theorem dX0_outfitFor_67 : decode cX0_outfitFor 67 = .ok (.iload 5, 2) := by decide +kernel
theorem dX0_outfitFor_69 : decode cX0_outfitFor 69 = .ok (.iload 6, 2) := by decide +kernel
theorem dX0_outfitFor_71 : decode cX0_outfitFor 71 = .ok (.iload_n 2, 1) := by decide +kernel
theorem dX0_outfitFor_72 : decode cX0_outfitFor 72 = .ok (.invokevirtual 110, 3) := by decide +kernel
theorem dX0_outfitFor_75 : decode cX0_outfitFor 75 = .ok (.ifCond .eq 6, 3) := by decide +kernel
theorem dX0_outfitFor_78 : decode cX0_outfitFor 78 = .ok (.goto 76, 3) := by decide +kernel
theorem dX0_outfitFor_81 : decode cX0_outfitFor 81 = .ok (.iconst (-1), 1) := by decide +kernel
theorem dX0_outfitFor_82 : decode cX0_outfitFor 82 = .ok (.istore 7, 2) := by decide +kernel
theorem dX0_outfitFor_84 : decode cX0_outfitFor 84 = .ok (.iload 7, 2) := by decide +kernel
theorem dX0_outfitFor_86 : decode cX0_outfitFor 86 = .ok (.aload_n 0, 1) := by decide +kernel
theorem dX0_outfitFor_87 : decode cX0_outfitFor 87 = .ok (.getfield 52, 3) := by decide +kernel
theorem dX0_outfitFor_90 : decode cX0_outfitFor 90 = .ok (.if_icmp .ge 64, 3) := by decide +kernel
theorem dX0_outfitFor_93 : decode cX0_outfitFor 93 = .ok (.aload_n 0, 1) := by decide +kernel
theorem dX0_outfitFor_94 : decode cX0_outfitFor 94 = .ok (.iload 5, 2) := by decide +kernel
theorem dX0_outfitFor_96 : decode cX0_outfitFor 96 = .ok (.iload 6, 2) := by decide +kernel
theorem dX0_outfitFor_98 : decode cX0_outfitFor 98 = .ok (.iload 7, 2) := by decide +kernel
theorem dX0_outfitFor_100 : decode cX0_outfitFor 100 = .ok (.invokevirtual 123, 3) := by decide +kernel
theorem dX0_outfitFor_103 : decode cX0_outfitFor 103 = .ok (.istore 8, 2) := by decide +kernel
theorem dX0_outfitFor_105 : decode cX0_outfitFor 105 = .ok (.iload 8, 2) := by decide +kernel
theorem dX0_outfitFor_107 : decode cX0_outfitFor 107 = .ok (.iload 4, 2) := by decide +kernel
theorem dX0_outfitFor_109 : decode cX0_outfitFor 109 = .ok (.if_icmp .ge 39, 3) := by decide +kernel
theorem dX0_outfitFor_112 : decode cX0_outfitFor 112 = .ok (.aload_n 0, 1) := by decide +kernel
theorem dX0_outfitFor_113 : decode cX0_outfitFor 113 = .ok (.iload 5, 2) := by decide +kernel
theorem dX0_outfitFor_115 : decode cX0_outfitFor 115 = .ok (.iload 6, 2) := by decide +kernel
theorem dX0_outfitFor_117 : decode cX0_outfitFor 117 = .ok (.iload 7, 2) := by decide +kernel
theorem dX0_outfitFor_119 : decode cX0_outfitFor 119 = .ok (.iload_n 1, 1) := by decide +kernel
theorem dX0_outfitFor_120 : decode cX0_outfitFor 120 = .ok (.invokevirtual 135, 3) := by decide +kernel
theorem dX0_outfitFor_123 : decode cX0_outfitFor 123 = .ok (.ifCond .eq 25, 3) := by decide +kernel
theorem dX0_outfitFor_126 : decode cX0_outfitFor 126 = .ok (.sipush 10000, 3) := by decide +kernel
theorem dX0_outfitFor_129 : decode cX0_outfitFor 129 = .ok (.iload 5, 2) := by decide +kernel
theorem dX0_outfitFor_131 : decode cX0_outfitFor 131 = .ok (.imul, 1) := by decide +kernel
theorem dX0_outfitFor_132 : decode cX0_outfitFor 132 = .ok (.bipush 100, 2) := by decide +kernel
theorem dX0_outfitFor_134 : decode cX0_outfitFor 134 = .ok (.iload 6, 2) := by decide +kernel
theorem dX0_outfitFor_136 : decode cX0_outfitFor 136 = .ok (.imul, 1) := by decide +kernel
theorem dX0_outfitFor_137 : decode cX0_outfitFor 137 = .ok (.iadd, 1) := by decide +kernel
theorem dX0_outfitFor_138 : decode cX0_outfitFor 138 = .ok (.iload 7, 2) := by decide +kernel
theorem dX0_outfitFor_140 : decode cX0_outfitFor 140 = .ok (.iadd, 1) := by decide +kernel
theorem dX0_outfitFor_141 : decode cX0_outfitFor 141 = .ok (.iconst 1, 1) := by decide +kernel
theorem dX0_outfitFor_142 : decode cX0_outfitFor 142 = .ok (.iadd, 1) := by decide +kernel
theorem dX0_outfitFor_143 : decode cX0_outfitFor 143 = .ok (.istore_n 3, 1) := by decide +kernel
theorem dX0_outfitFor_144 : decode cX0_outfitFor 144 = .ok (.iload 8, 2) := by decide +kernel
theorem dX0_outfitFor_146 : decode cX0_outfitFor 146 = .ok (.istore 4, 2) := by decide +kernel
theorem dX0_outfitFor_148 : decode cX0_outfitFor 148 = .ok (.iinc 7 1, 3) := by decide +kernel
theorem dX0_outfitFor_151 : decode cX0_outfitFor 151 = .ok (.goto (-67), 3) := by decide +kernel
theorem dX0_outfitFor_154 : decode cX0_outfitFor 154 = .ok (.iinc 6 1, 3) := by decide +kernel
theorem dX0_outfitFor_157 : decode cX0_outfitFor 157 = .ok (.goto (-112), 3) := by decide +kernel
theorem dX0_outfitFor_160 : decode cX0_outfitFor 160 = .ok (.iinc 5 1, 3) := by decide +kernel
theorem dX0_outfitFor_163 : decode cX0_outfitFor 163 = .ok (.goto (-130), 3) := by decide +kernel
theorem dX0_outfitFor_166 : decode cX0_outfitFor 166 = .ok (.iload_n 3, 1) := by decide +kernel
theorem dX0_outfitFor_167 : decode cX0_outfitFor 167 = .ok (.ireturn, 1) := by decide +kernel
set_option maxRecDepth 20000 in
theorem ggX0_load_X0_isCare : GoodIn wsX0_load wsX0_isCare := goodIn_r _ [7, 8, 9, 6, 10] (by decide +kernel) (by decide +kernel)
set_option maxRecDepth 20000 in
theorem gX0_load_X0_isCare : GoodIn wsX0_load (va_wsS RX0 42 yX0_isCare wsX0_isCare) := goodIn_app (goodIn_of _ (by decide +kernel)) ggX0_load_X0_isCare
set_option maxRecDepth 20000 in
theorem ggX0_load_X0_isWashedWith : GoodIn wsX0_load wsX0_isWashedWith := goodIn_r _ [14, 15, 16, 17, 18, 19, 6, 20, 21, 8, 9, 10, 27, 28, 29, 30, 31, 32, 33, 34, 35, 36, 37, 38] (by decide +kernel) (by decide +kernel)
set_option maxRecDepth 20000 in
theorem gX0_load_X0_isWashedWith : GoodIn wsX0_load (wsV RX0 146 RX0 yX0_isWashedWith wsX0_isWashedWith) := goodIn_app (goodIn_of _ (by decide +kernel)) ggX0_load_X0_isWashedWith
set_option maxRecDepth 20000 in
theorem ggX0_load_X0_wearsLeftOf : GoodIn wsX0_load wsX0_wearsLeftOf := goodIn_r _ [25, 26, 17, 18, 19, 6, 20, 21, 8, 9, 10, 27, 28, 29, 30, 31, 32, 33, 34, 35, 36, 37, 38] (by decide +kernel) (by decide +kernel)
set_option maxRecDepth 20000 in
theorem gX0_load_X0_wearsLeftOf : GoodIn wsX0_load (wsV RX0 150 RX0 yX0_wearsLeftOf wsX0_wearsLeftOf) := goodIn_app (goodIn_of _ (by decide +kernel)) ggX0_load_X0_wearsLeftOf
theorem dX0_load_0 : decode cX0_load 0 = .ok (.iload_n 1, 1) := by decide +kernel
theorem dX0_load_1 : decode cX0_load 1 = .ok (.invokestatic 42, 3) := by decide +kernel
theorem dX0_load_4 : decode cX0_load 4 = .ok (.ifCond .ne 13, 3) := by decide +kernel
theorem dX0_load_7 : decode cX0_load 7 = .ok (.new 45, 3) := by decide +kernel
theorem dX0_load_10 : decode cX0_load 10 = .ok (.dup, 1) := by decide +kernel
theorem dX0_load_11 : decode cX0_load 11 = .ok (.ldc 144, 2) := by decide +kernel
theorem dX0_load_13 : decode cX0_load 13 = .ok (.invokespecial 49, 3) := by decide +kernel
theorem dX0_load_16 : decode cX0_load 16 = .ok (.athrow, 1) := by decide +kernel
theorem dX0_load_17 : decode cX0_load 17 = .ok (.iconst 0, 1) := by decide +kernel
theorem dX0_load_18 : decode cX0_load 18 = .ok (.istore_n 3, 1) := by decide +kernel
theorem dX0_load_19 : decode cX0_load 19 = .ok (.iconst 0, 1) := by decide +kernel
theorem dX0_load_20 : decode cX0_load 20 = .ok (.istore 4, 2) := by decide +kernel
theorem dX0_load_22 : decode cX0_load 22 = .ok (.iload 4, 2) := by decide +kernel
theorem dX0_load_24 : decode cX0_load 24 = .ok (.aload_n 0, 1) := by decide +kernel
theorem dX0_load_25 : decode cX0_load 25 = .ok (.getfield 52, 3) := by decide +kernel
theorem dX0_load_28 : decode cX0_load 28 = .ok (.if_icmp .ge 32, 3) := by decide +kernel
theorem dX0_load_31 : decode cX0_load 31 = .ok (.aload_n 0, 1) := by decide +kernel
theorem dX0_load_32 : decode cX0_load 32 = .ok (.iload 4, 2) := by decide +kernel
theorem dX0_load_34 : decode cX0_load 34 = .ok (.iload_n 1, 1) := by decide +kernel
theorem dX0_load_35 : decode cX0_load 35 = .ok (.iload_n 2, 1) := by decide +kernel
theorem dX0_load_36 : decode cX0_load 36 = .ok (.invokevirtual 146, 3) := by decide +kernel
theorem dX0_load_39 : decode cX0_load 39 = .ok (.ifCond .eq 15, 3) := by decide +kernel
theorem dX0_load_42 : decode cX0_load 42 = .ok (.aload_n 0, 1) := by decide +kernel
theorem dX0_load_43 : decode cX0_load 43 = .ok (.iload 4, 2) := by decide +kernel
theorem dX0_load_45 : decode cX0_load 45 = .ok (.invokevirtual 150, 3) := by decide +kernel
theorem dX0_load_48 : decode cX0_load 48 = .ok (.ifCond .ne 6, 3) := by decide +kernel
theorem dX0_load_51 : decode cX0_load 51 = .ok (.iinc 3 1, 3) := by decide +kernel
theorem dX0_load_54 : decode cX0_load 54 = .ok (.iinc 4 1, 3) := by decide +kernel
theorem dX0_load_57 : decode cX0_load 57 = .ok (.goto (-35), 3) := by decide +kernel
theorem dX0_load_60 : decode cX0_load 60 = .ok (.iload_n 3, 1) := by decide +kernel
theorem dX0_load_61 : decode cX0_load 61 = .ok (.ireturn, 1) := by decide +kernel
set_option maxRecDepth 20000 in
theorem ggX0_wash_X0_isCare : GoodIn wsX0_wash wsX0_isCare := goodIn_r _ [6, 7, 8, 5, 9] (by decide +kernel) (by decide +kernel)
set_option maxRecDepth 20000 in
theorem gX0_wash_X0_isCare : GoodIn wsX0_wash (va_wsS RX0 42 yX0_isCare wsX0_isCare) := goodIn_app (goodIn_of _ (by decide +kernel)) ggX0_wash_X0_isCare
set_option maxRecDepth 20000 in
theorem ggX0_wash_X0_nextToWash : GoodIn wsX0_wash wsX0_nextToWash := goodIn_r _ [13, 14, 15, 16, 17, 18, 19, 5, 20, 21, 22, 23, 24, 25, 26, 27, 7, 8, 9, 28, 29, 30, 31, 36, 37, 38, 39, 40, 41, 42, 43, 44, 45, 46, 47] (by decide +kernel) (by decide +kernel)
set_option maxRecDepth 20000 in
theorem gX0_wash_X0_nextToWash : GoodIn wsX0_wash (wsV RX0 153 RX0 yX0_nextToWash wsX0_nextToWash) := goodIn_app (goodIn_of _ (by decide +kernel)) ggX0_wash_X0_nextToWash
set_option maxRecDepth 20000 in
theorem ggX0_wash_X0_makeClean : GoodIn wsX0_wash wsX0_makeClean := goodIn_r _ [35, 15, 16, 23, 24, 25, 5, 26, 27, 7, 8, 9, 36, 37, 38, 39, 40, 41, 42, 43, 44, 45, 46, 47] (by decide +kernel) (by decide +kernel)
set_option maxRecDepth 20000 in
theorem gX0_wash_X0_makeClean : GoodIn wsX0_wash (wsV RX0 157 RX0 yX0_makeClean wsX0_makeClean) := goodIn_app (goodIn_of _ (by decide +kernel)) ggX0_wash_X0_makeClean
theorem dX0_wash_0 : decode cX0_wash 0 = .ok (.iload_n 1, 1) := by decide +kernel
theorem dX0_wash_1 : decode cX0_wash 1 = .ok (.invokestatic 42, 3) := by decide +kernel
theorem dX0_wash_4 : decode cX0_wash 4 = .ok (.ifCond .ne 13, 3) := by decide +kernel
theorem dX0_wash_7 : decode cX0_wash 7 = .ok (.new 45, 3) := by decide +kernel
theorem dX0_wash_10 : decode cX0_wash 10 = .ok (.dup, 1) := by decide +kernel
theorem dX0_wash_11 : decode cX0_wash 11 = .ok (.ldc 144, 2) := by decide +kernel
theorem dX0_wash_13 : decode cX0_wash 13 = .ok (.invokespecial 49, 3) := by decide +kernel
theorem dX0_wash_16 : decode cX0_wash 16 = .ok (.athrow, 1) := by decide +kernel
theorem dX0_wash_17 : decode cX0_wash 17 = .ok (.iconst 0, 1) := by decide +kernel
theorem dX0_wash_18 : decode cX0_wash 18 = .ok (.istore_n 3, 1) := by decide +kernel
theorem dX0_wash_19 : decode cX0_wash 19 = .ok (.iconst 0, 1) := by decide +kernel
theorem dX0_wash_20 : decode cX0_wash 20 = .ok (.istore 4, 2) := by decide +kernel
theorem dX0_wash_22 : decode cX0_wash 22 = .ok (.iload 4, 2) := by decide +kernel
theorem dX0_wash_24 : decode cX0_wash 24 = .ok (.iconst 5, 1) := by decide +kernel
theorem dX0_wash_25 : decode cX0_wash 25 = .ok (.if_icmp .ge 32, 3) := by decide +kernel
theorem dX0_wash_28 : decode cX0_wash 28 = .ok (.aload_n 0, 1) := by decide +kernel
theorem dX0_wash_29 : decode cX0_wash 29 = .ok (.iload_n 1, 1) := by decide +kernel
theorem dX0_wash_30 : decode cX0_wash 30 = .ok (.iload_n 2, 1) := by decide +kernel
theorem dX0_wash_31 : decode cX0_wash 31 = .ok (.invokevirtual 153, 3) := by decide +kernel
theorem dX0_wash_34 : decode cX0_wash 34 = .ok (.istore 5, 2) := by decide +kernel
theorem dX0_wash_36 : decode cX0_wash 36 = .ok (.iload 5, 2) := by decide +kernel
theorem dX0_wash_38 : decode cX0_wash 38 = .ok (.iconst (-1), 1) := by decide +kernel
theorem dX0_wash_39 : decode cX0_wash 39 = .ok (.if_icmp .eq 12, 3) := by decide +kernel
theorem dX0_wash_42 : decode cX0_wash 42 = .ok (.aload_n 0, 1) := by decide +kernel
theorem dX0_wash_43 : decode cX0_wash 43 = .ok (.iload 5, 2) := by decide +kernel
theorem dX0_wash_45 : decode cX0_wash 45 = .ok (.invokevirtual 157, 3) := by decide +kernel
theorem dX0_wash_48 : decode cX0_wash 48 = .ok (.iinc 3 1, 3) := by decide +kernel
theorem dX0_wash_51 : decode cX0_wash 51 = .ok (.iinc 4 1, 3) := by decide +kernel
theorem dX0_wash_54 : decode cX0_wash 54 = .ok (.goto (-32), 3) := by decide +kernel
theorem dX0_wash_57 : decode cX0_wash 57 = .ok (.iload_n 3, 1) := by decide +kernel
theorem dX0_wash_58 : decode cX0_wash 58 = .ok (.ireturn, 1) := by decide +kernel
set_option maxRecDepth 20000 in
theorem ggX0_pass_X0_isWithin : GoodIn wsX0_pass wsX0_isWithin := goodIn_r _ [9] (by decide +kernel) (by decide +kernel)
set_option maxRecDepth 20000 in
theorem gX0_pass_X0_isWithin : GoodIn wsX0_pass (va_wsS RX0 34 yX0_isWithin wsX0_isWithin) := goodIn_app (goodIn_of _ (by decide +kernel)) ggX0_pass_X0_isWithin
theorem dX0_pass_0 : decode cX0_pass 0 = .ok (.iload_n 1, 1) := by decide +kernel
theorem dX0_pass_1 : decode cX0_pass 1 = .ok (.iconst 1, 1) := by decide +kernel
theorem dX0_pass_2 : decode cX0_pass 2 = .ok (.sipush 365, 3) := by decide +kernel
theorem dX0_pass_5 : decode cX0_pass 5 = .ok (.invokestatic 34, 3) := by decide +kernel
theorem dX0_pass_8 : decode cX0_pass 8 = .ok (.ifCond .ne 13, 3) := by decide +kernel
theorem dX0_pass_11 : decode cX0_pass 11 = .ok (.new 45, 3) := by decide +kernel
theorem dX0_pass_14 : decode cX0_pass 14 = .ok (.dup, 1) := by decide +kernel
theorem dX0_pass_15 : decode cX0_pass 15 = .ok (.ldc 160, 2) := by decide +kernel
theorem dX0_pass_17 : decode cX0_pass 17 = .ok (.invokespecial 49, 3) := by decide +kernel
theorem dX0_pass_20 : decode cX0_pass 20 = .ok (.athrow, 1) := by decide +kernel
theorem dX0_pass_21 : decode cX0_pass 21 = .ok (.aload_n 0, 1) := by decide +kernel
theorem dX0_pass_22 : decode cX0_pass 22 = .ok (.getfield 162, 3) := by decide +kernel
theorem dX0_pass_25 : decode cX0_pass 25 = .ok (.iload_n 1, 1) := by decide +kernel
theorem dX0_pass_26 : decode cX0_pass 26 = .ok (.iadd, 1) := by decide +kernel
theorem dX0_pass_27 : decode cX0_pass 27 = .ok (.sipush 10000, 3) := by decide +kernel
theorem dX0_pass_30 : decode cX0_pass 30 = .ok (.if_icmp .le 13, 3) := by decide +kernel
theorem dX0_pass_33 : decode cX0_pass 33 = .ok (.new 56, 3) := by decide +kernel
theorem dX0_pass_36 : decode cX0_pass 36 = .ok (.dup, 1) := by decide +kernel
theorem dX0_pass_37 : decode cX0_pass 37 = .ok (.ldc 165, 2) := by decide +kernel
theorem dX0_pass_39 : decode cX0_pass 39 = .ok (.invokespecial 60, 3) := by decide +kernel
theorem dX0_pass_42 : decode cX0_pass 42 = .ok (.athrow, 1) := by decide +kernel
theorem dX0_pass_43 : decode cX0_pass 43 = .ok (.aload_n 0, 1) := by decide +kernel
theorem dX0_pass_44 : decode cX0_pass 44 = .ok (.dup, 1) := by decide +kernel
theorem dX0_pass_45 : decode cX0_pass 45 = .ok (.getfield 162, 3) := by decide +kernel
theorem dX0_pass_48 : decode cX0_pass 48 = .ok (.iload_n 1, 1) := by decide +kernel
theorem dX0_pass_49 : decode cX0_pass 49 = .ok (.iadd, 1) := by decide +kernel
theorem dX0_pass_50 : decode cX0_pass 50 = .ok (.putfield 162, 3) := by decide +kernel
theorem dX0_pass_53 : decode cX0_pass 53 = .ok (.aload_n 0, 1) := by decide +kernel
theorem dX0_pass_54 : decode cX0_pass 54 = .ok (.getfield 162, 3) := by decide +kernel
theorem dX0_pass_57 : decode cX0_pass 57 = .ok (.ireturn, 1) := by decide +kernel
set_option maxRecDepth 20000 in
theorem ggX0_isEnough_X0_isBagQuestion : GoodIn wsX0_isEnough wsX0_isBagQuestion := goodIn_r _ [7, 8, 9, 6, 10] (by decide +kernel) (by decide +kernel)
set_option maxRecDepth 20000 in
theorem gX0_isEnough_X0_isBagQuestion : GoodIn wsX0_isEnough (va_wsS RX0 167 yX0_isBagQuestion wsX0_isBagQuestion) := goodIn_app (goodIn_of _ (by decide +kernel)) ggX0_isEnough_X0_isBagQuestion
set_option maxRecDepth 20000 in
theorem ggX0_isEnough_X0_findPartners : GoodIn wsX0_isEnough wsX0_findPartners := goodIn_r _ [14, 15, 16, 17, 18, 19, 6, 20, 21, 22, 23, 24, 25, 26, 27, 28, 29, 30, 31, 32, 33, 3, 8, 9, 10, 34, 35, 36, 37, 38, 39, 40, 41, 42, 43, 44, 45, 46, 47, 48, 49, 50, 51, 52, 53, 54, 55, 83, 84, 85, 86, 87, 88, 89, 90, 91, 92, 93, 94] (by decide +kernel) (by decide +kernel)
set_option maxRecDepth 20000 in
theorem gX0_isEnough_X0_findPartners : GoodIn wsX0_isEnough (wsV RX0 172 RX0 yX0_findPartners wsX0_findPartners) := goodIn_app (goodIn_of _ (by decide +kernel)) ggX0_isEnough_X0_findPartners
set_option maxRecDepth 20000 in
theorem ggX0_isEnough_X0_thingsOfKind : GoodIn wsX0_isEnough wsX0_thingsOfKind := goodIn_r _ [59, 16, 25, 26, 27, 6, 28, 29, 30, 31, 32, 33, 3, 8, 9, 10, 83, 84, 85, 86, 87, 88, 89, 90, 91, 92, 93, 94] (by decide +kernel) (by decide +kernel)
set_option maxRecDepth 20000 in
theorem gX0_isEnough_X0_thingsOfKind : GoodIn wsX0_isEnough (wsV RX0 175 RX0 yX0_thingsOfKind wsX0_thingsOfKind) := goodIn_app (goodIn_of _ (by decide +kernel)) ggX0_isEnough_X0_thingsOfKind
set_option maxRecDepth 20000 in
theorem ggX0_isEnough_X0_lasts : GoodIn wsX0_isEnough wsX0_lasts := goodIn_r _ [63, 64, 65, 66, 67, 68, 69, 70, 71, 72, 73, 6, 74, 75, 76, 77, 78, 79, 15, 80, 81, 82, 83, 84, 85, 86, 87, 88, 89, 90, 91, 92, 93, 94] (by decide +kernel) (by decide +kernel)
set_option maxRecDepth 20000 in
theorem gX0_isEnough_X0_lasts : GoodIn wsX0_isEnough (wsV RX0 178 RX0 yX0_lasts wsX0_lasts) := goodIn_app (goodIn_of _ (by decide +kernel)) ggX0_isEnough_X0_lasts
theorem dX0_isEnough_0 : decode cX0_isEnough 0 = .ok (.iload_n 1, 1) := by decide +kernel
theorem dX0_isEnough_1 : decode cX0_isEnough 1 = .ok (.aload_n 0, 1) := by decide +kernel
theorem dX0_isEnough_2 : decode cX0_isEnough 2 = .ok (.getfield 61, 3) := by decide +kernel
theorem dX0_isEnough_5 : decode cX0_isEnough 5 = .ok (.iconst (-1), 1) := by decide +kernel
theorem dX0_isEnough_6 : decode cX0_isEnough 6 = .ok (.ixor, 1) := by decide +kernel
theorem dX0_isEnough_7 : decode cX0_isEnough 7 = .ok (.iand, 1) := by decide +kernel
theorem dX0_isEnough_8 : decode cX0_isEnough 8 = .ok (.ifCond .ne 11, 3) := by decide +kernel
theorem dX0_isEnough_11 : decode cX0_isEnough 11 = .ok (.iload_n 2, 1) := by decide +kernel
theorem dX0_isEnough_12 : decode cX0_isEnough 12 = .ok (.iload_n 3, 1) := by decide +kernel
theorem dX0_isEnough_13 : decode cX0_isEnough 13 = .ok (.invokestatic 167, 3) := by decide +kernel
theorem dX0_isEnough_16 : decode cX0_isEnough 16 = .ok (.ifCond .ne 13, 3) := by decide +kernel
theorem dX0_isEnough_19 : decode cX0_isEnough 19 = .ok (.new 45, 3) := by decide +kernel
theorem dX0_isEnough_22 : decode cX0_isEnough 22 = .ok (.dup, 1) := by decide +kernel
theorem dX0_isEnough_23 : decode cX0_isEnough 23 = .ok (.ldc 170, 2) := by decide +kernel
theorem dX0_isEnough_25 : decode cX0_isEnough 25 = .ok (.invokespecial 49, 3) := by decide +kernel
theorem dX0_isEnough_28 : decode cX0_isEnough 28 = .ok (.athrow, 1) := by decide +kernel
theorem dX0_isEnough_29 : decode cX0_isEnough 29 = .ok (.aload_n 0, 1) := by decide +kernel
theorem dX0_isEnough_30 : decode cX0_isEnough 30 = .ok (.iload_n 3, 1) := by decide +kernel
theorem dX0_isEnough_31 : decode cX0_isEnough 31 = .ok (.invokevirtual 172, 3) := by decide +kernel
theorem dX0_isEnough_34 : decode cX0_isEnough 34 = .ok (.aload_n 0, 1) := by decide +kernel
theorem dX0_isEnough_35 : decode cX0_isEnough 35 = .ok (.iload_n 1, 1) := by decide +kernel
theorem dX0_isEnough_36 : decode cX0_isEnough 36 = .ok (.aload_n 0, 1) := by decide +kernel
theorem dX0_isEnough_37 : decode cX0_isEnough 37 = .ok (.iconst 0, 1) := by decide +kernel
theorem dX0_isEnough_38 : decode cX0_isEnough 38 = .ok (.invokevirtual 175, 3) := by decide +kernel
theorem dX0_isEnough_41 : decode cX0_isEnough 41 = .ok (.iand, 1) := by decide +kernel
theorem dX0_isEnough_42 : decode cX0_isEnough 42 = .ok (.iload_n 1, 1) := by decide +kernel
theorem dX0_isEnough_43 : decode cX0_isEnough 43 = .ok (.aload_n 0, 1) := by decide +kernel
theorem dX0_isEnough_44 : decode cX0_isEnough 44 = .ok (.iconst 1, 1) := by decide +kernel
theorem dX0_isEnough_45 : decode cX0_isEnough 45 = .ok (.invokevirtual 175, 3) := by decide +kernel
theorem dX0_isEnough_48 : decode cX0_isEnough 48 = .ok (.iand, 1) := by decide +kernel
theorem dX0_isEnough_49 : decode cX0_isEnough 49 = .ok (.iload_n 2, 1) := by decide +kernel
theorem dX0_isEnough_50 : decode cX0_isEnough 50 = .ok (.invokevirtual 178, 3) := by decide +kernel
theorem dX0_isEnough_53 : decode cX0_isEnough 53 = .ok (.ireturn, 1) := by decide +kernel
set_option maxRecDepth 20000 in
theorem ggX0_bag_X0_isBagQuestion : GoodIn wsX0_bag wsX0_isBagQuestion := goodIn_r _ [6, 7, 8, 5, 9] (by decide +kernel) (by decide +kernel)
set_option maxRecDepth 20000 in
theorem gX0_bag_X0_isBagQuestion : GoodIn wsX0_bag (va_wsS RX0 167 yX0_isBagQuestion wsX0_isBagQuestion) := goodIn_app (goodIn_of _ (by decide +kernel)) ggX0_bag_X0_isBagQuestion
set_option maxRecDepth 20000 in
theorem ggX0_bag_X0_findPartners : GoodIn wsX0_bag wsX0_findPartners := goodIn_r _ [13, 14, 15, 16, 17, 18, 5, 19, 20, 21, 22, 23, 24, 25, 26, 27, 28, 29, 30, 31, 32, 33, 7, 8, 9, 34, 35, 36, 37, 38, 39, 40, 41, 42, 43, 44, 45, 46, 47, 48, 49, 50, 51, 52, 53, 54, 55, 91, 92, 93, 94, 95, 96, 97, 98, 99, 100, 101, 102] (by decide +kernel) (by decide +kernel)
set_option maxRecDepth 20000 in
theorem gX0_bag_X0_findPartners : GoodIn wsX0_bag (wsV RX0 172 RX0 yX0_findPartners wsX0_findPartners) := goodIn_app (goodIn_of _ (by decide +kernel)) ggX0_bag_X0_findPartners
set_option maxRecDepth 20000 in
theorem ggX0_bag_X0_usefulThings : GoodIn wsX0_bag wsX0_usefulThings := goodIn_r _ [59, 15, 14, 60, 61, 62, 5, 63, 64, 29, 30, 31, 32, 33, 7, 8, 9, 91, 92, 93, 94, 95, 96, 97, 98, 99, 100, 101, 102] (by decide +kernel) (by decide +kernel)
set_option maxRecDepth 20000 in
theorem gX0_bag_X0_usefulThings : GoodIn wsX0_bag (wsV RX0 183 RX0 yX0_usefulThings wsX0_usefulThings) := goodIn_app (goodIn_of _ (by decide +kernel)) ggX0_bag_X0_usefulThings
set_option maxRecDepth 20000 in
theorem ggX0_bag_X0_thingsOfKind : GoodIn wsX0_bag wsX0_thingsOfKind := goodIn_r _ [68, 15, 24, 25, 26, 5, 27, 28, 29, 30, 31, 32, 33, 7, 8, 9, 91, 92, 93, 94, 95, 96, 97, 98, 99, 100, 101, 102] (by decide +kernel) (by decide +kernel)
set_option maxRecDepth 20000 in
theorem gX0_bag_X0_thingsOfKind : GoodIn wsX0_bag (wsV RX0 175 RX0 yX0_thingsOfKind wsX0_thingsOfKind) := goodIn_app (goodIn_of _ (by decide +kernel)) ggX0_bag_X0_thingsOfKind
set_option maxRecDepth 20000 in
theorem ggX0_bag_X0_lasts : GoodIn wsX0_bag wsX0_lasts := goodIn_r _ [72, 73, 74, 75, 76, 77, 78, 79, 80, 81, 82, 5, 83, 64, 84, 85, 86, 87, 14, 88, 89, 90, 91, 92, 93, 94, 95, 96, 97, 98, 99, 100, 101, 102] (by decide +kernel) (by decide +kernel)
set_option maxRecDepth 20000 in
theorem gX0_bag_X0_lasts : GoodIn wsX0_bag (wsV RX0 178 RX0 yX0_lasts wsX0_lasts) := goodIn_app (goodIn_of _ (by decide +kernel)) ggX0_bag_X0_lasts
set_option maxRecDepth 20000 in
theorem ggX0_bag_J6_bitCount_0f7a4 : GoodIn wsX0_bag wsJ6_bitCount_0f7a4 := goodIn_r _ [76, 77, 78, 79] (by decide +kernel) (by decide +kernel)
set_option maxRecDepth 20000 in
theorem gX0_bag_J6_bitCount_0f7a4 : GoodIn wsX0_bag (va_wsS RX0 72 yJ6_bitCount_0f7a4 wsJ6_bitCount_0f7a4) := goodIn_app (goodIn_of _ (by decide +kernel)) ggX0_bag_J6_bitCount_0f7a4
set_option maxRecDepth 20000 in
theorem ggX0_bag_X0_nextPart : GoodIn wsX0_bag wsX0_nextPart := goodIn_r _ [90] (by decide +kernel) (by decide +kernel)
set_option maxRecDepth 20000 in
theorem gX0_bag_X0_nextPart : GoodIn wsX0_bag (va_wsS RX0 187 yX0_nextPart wsX0_nextPart) := goodIn_app (goodIn_of _ (by decide +kernel)) ggX0_bag_X0_nextPart
theorem dX0_bag_0 : decode cX0_bag 0 = .ok (.iload_n 1, 1) := by decide +kernel
theorem dX0_bag_1 : decode cX0_bag 1 = .ok (.iload_n 2, 1) := by decide +kernel
theorem dX0_bag_2 : decode cX0_bag 2 = .ok (.invokestatic 167, 3) := by decide +kernel
theorem dX0_bag_5 : decode cX0_bag 5 = .ok (.ifCond .ne 13, 3) := by decide +kernel
theorem dX0_bag_8 : decode cX0_bag 8 = .ok (.new 45, 3) := by decide +kernel
theorem dX0_bag_11 : decode cX0_bag 11 = .ok (.dup, 1) := by decide +kernel
theorem dX0_bag_12 : decode cX0_bag 12 = .ok (.ldc 181, 2) := by decide +kernel
theorem dX0_bag_14 : decode cX0_bag 14 = .ok (.invokespecial 49, 3) := by decide +kernel
theorem dX0_bag_17 : decode cX0_bag 17 = .ok (.athrow, 1) := by decide +kernel
theorem dX0_bag_18 : decode cX0_bag 18 = .ok (.aload_n 0, 1) := by decide +kernel
theorem dX0_bag_19 : decode cX0_bag 19 = .ok (.iload_n 2, 1) := by decide +kernel
theorem dX0_bag_20 : decode cX0_bag 20 = .ok (.invokevirtual 172, 3) := by decide +kernel
theorem dX0_bag_23 : decode cX0_bag 23 = .ok (.aload_n 0, 1) := by decide +kernel
theorem dX0_bag_24 : decode cX0_bag 24 = .ok (.invokevirtual 183, 3) := by decide +kernel
theorem dX0_bag_27 : decode cX0_bag 27 = .ok (.istore_n 3, 1) := by decide +kernel
theorem dX0_bag_28 : decode cX0_bag 28 = .ok (.iload_n 3, 1) := by decide +kernel
theorem dX0_bag_29 : decode cX0_bag 29 = .ok (.aload_n 0, 1) := by decide +kernel
theorem dX0_bag_30 : decode cX0_bag 30 = .ok (.iconst 0, 1) := by decide +kernel
theorem dX0_bag_31 : decode cX0_bag 31 = .ok (.invokevirtual 175, 3) := by decide +kernel
theorem dX0_bag_34 : decode cX0_bag 34 = .ok (.iand, 1) := by decide +kernel
theorem dX0_bag_35 : decode cX0_bag 35 = .ok (.istore 4, 2) := by decide +kernel
theorem dX0_bag_37 : decode cX0_bag 37 = .ok (.iload_n 3, 1) := by decide +kernel
theorem dX0_bag_38 : decode cX0_bag 38 = .ok (.aload_n 0, 1) := by decide +kernel
theorem dX0_bag_39 : decode cX0_bag 39 = .ok (.iconst 1, 1) := by decide +kernel
theorem dX0_bag_40 : decode cX0_bag 40 = .ok (.invokevirtual 175, 3) := by decide +kernel
theorem dX0_bag_43 : decode cX0_bag 43 = .ok (.iand, 1) := by decide +kernel
theorem dX0_bag_44 : decode cX0_bag 44 = .ok (.istore 5, 2) := by decide +kernel
theorem dX0_bag_46 : decode cX0_bag 46 = .ok (.aload_n 0, 1) := by decide +kernel
theorem dX0_bag_47 : decode cX0_bag 47 = .ok (.iload 4, 2) := by decide +kernel
theorem dX0_bag_49 : decode cX0_bag 49 = .ok (.iload 5, 2) := by decide +kernel
theorem dX0_bag_51 : decode cX0_bag 51 = .ok (.iload_n 1, 1) := by decide +kernel
theorem dX0_bag_52 : decode cX0_bag 52 = .ok (.invokevirtual 178, 3) := by decide +kernel
theorem dX0_bag_55 : decode cX0_bag 55 = .ok (.ifCond .ne 5, 3) := by decide +kernel
theorem dX0_bag_58 : decode cX0_bag 58 = .ok (.iconst 0, 1) := by decide +kernel
theorem dX0_bag_59 : decode cX0_bag 59 = .ok (.ireturn, 1) := by decide +kernel
theorem dX0_bag_60 : decode cX0_bag 60 = .ok (.iload_n 3, 1) := by decide +kernel
theorem dX0_bag_61 : decode cX0_bag 61 = .ok (.istore 6, 2) := by decide +kernel
theorem dX0_bag_63 : decode cX0_bag 63 = .ok (.iload_n 3, 1) := by decide +kernel
theorem dX0_bag_64 : decode cX0_bag 64 = .ok (.invokestatic 72, 3) := by decide +kernel
theorem dX0_bag_67 : decode cX0_bag 67 = .ok (.istore 7, 2) := by decide +kernel
theorem dX0_bag_69 : decode cX0_bag 69 = .ok (.iconst 0, 1) := by decide +kernel
theorem dX0_bag_70 : decode cX0_bag 70 = .ok (.istore 8, 2) := by decide +kernel
theorem dX0_bag_72 : decode cX0_bag 72 = .ok (.iconst 1, 1) := by decide +kernel
theorem dX0_bag_73 : decode cX0_bag 73 = .ok (.iload 7, 2) := by decide +kernel
theorem dX0_bag_75 : decode cX0_bag 75 = .ok (.ishl, 1) := by decide +kernel
theorem dX0_bag_76 : decode cX0_bag 76 = .ok (.istore 9, 2) := by decide +kernel
theorem dX0_bag_78 : decode cX0_bag 78 = .ok (.iload 9, 2) := by decide +kernel
theorem dX0_bag_80 : decode cX0_bag 80 = .ok (.ifCond .le 57, 3) := by decide +kernel
theorem dX0_bag_83 : decode cX0_bag 83 = .ok (.iload 8, 2) := by decide +kernel
theorem dX0_bag_85 : decode cX0_bag 85 = .ok (.invokestatic 72, 3) := by decide +kernel
theorem dX0_bag_88 : decode cX0_bag 88 = .ok (.istore 10, 2) := by decide +kernel
theorem dX0_bag_90 : decode cX0_bag 90 = .ok (.iload 10, 2) := by decide +kernel
theorem dX0_bag_92 : decode cX0_bag 92 = .ok (.iload 7, 2) := by decide +kernel
theorem dX0_bag_94 : decode cX0_bag 94 = .ok (.if_icmp .ge 29, 3) := by decide +kernel
theorem dX0_bag_97 : decode cX0_bag 97 = .ok (.aload_n 0, 1) := by decide +kernel
theorem dX0_bag_98 : decode cX0_bag 98 = .ok (.iload 8, 2) := by decide +kernel
theorem dX0_bag_100 : decode cX0_bag 100 = .ok (.iload 4, 2) := by decide +kernel
theorem dX0_bag_102 : decode cX0_bag 102 = .ok (.iand, 1) := by decide +kernel
theorem dX0_bag_103 : decode cX0_bag 103 = .ok (.iload 8, 2) := by decide +kernel
theorem dX0_bag_105 : decode cX0_bag 105 = .ok (.iload 5, 2) := by decide +kernel
theorem dX0_bag_107 : decode cX0_bag 107 = .ok (.iand, 1) := by decide +kernel
theorem dX0_bag_108 : decode cX0_bag 108 = .ok (.iload_n 1, 1) := by decide +kernel
theorem dX0_bag_109 : decode cX0_bag 109 = .ok (.invokevirtual 178, 3) := by decide +kernel
theorem dX0_bag_112 : decode cX0_bag 112 = .ok (.ifCond .eq 11, 3) := by decide +kernel
theorem dX0_bag_115 : decode cX0_bag 115 = .ok (.iload 8, 2) := by decide +kernel
theorem dX0_bag_117 : decode cX0_bag 117 = .ok (.istore 6, 2) := by decide +kernel
theorem dX0_bag_119 : decode cX0_bag 119 = .ok (.iload 10, 2) := by decide +kernel
theorem dX0_bag_121 : decode cX0_bag 121 = .ok (.istore 7, 2) := by decide +kernel
theorem dX0_bag_123 : decode cX0_bag 123 = .ok (.iload 8, 2) := by decide +kernel
theorem dX0_bag_125 : decode cX0_bag 125 = .ok (.iload_n 3, 1) := by decide +kernel
theorem dX0_bag_126 : decode cX0_bag 126 = .ok (.invokestatic 187, 3) := by decide +kernel
theorem dX0_bag_129 : decode cX0_bag 129 = .ok (.istore 8, 2) := by decide +kernel
theorem dX0_bag_131 : decode cX0_bag 131 = .ok (.iinc 9 (-1), 3) := by decide +kernel
theorem dX0_bag_134 : decode cX0_bag 134 = .ok (.goto (-56), 3) := by decide +kernel
theorem dX0_bag_137 : decode cX0_bag 137 = .ok (.iload 6, 2) := by decide +kernel
theorem dX0_bag_139 : decode cX0_bag 139 = .ok (.ireturn, 1) := by decide +kernel
theorem dX0_isWithin_0 : decode cX0_isWithin 0 = .ok (.iload_n 0, 1) := by decide +kernel
theorem dX0_isWithin_1 : decode cX0_isWithin 1 = .ok (.iload_n 1, 1) := by decide +kernel
theorem dX0_isWithin_2 : decode cX0_isWithin 2 = .ok (.if_icmp .lt 12, 3) := by decide +kernel
theorem dX0_isWithin_5 : decode cX0_isWithin 5 = .ok (.iload_n 0, 1) := by decide +kernel
theorem dX0_isWithin_6 : decode cX0_isWithin 6 = .ok (.iload_n 2, 1) := by decide +kernel
theorem dX0_isWithin_7 : decode cX0_isWithin 7 = .ok (.if_icmp .gt 7, 3) := by decide +kernel
theorem dX0_isWithin_10 : decode cX0_isWithin 10 = .ok (.iconst 1, 1) := by decide +kernel
theorem dX0_isWithin_11 : decode cX0_isWithin 11 = .ok (.goto 4, 3) := by decide +kernel
theorem dX0_isWithin_14 : decode cX0_isWithin 14 = .ok (.iconst 0, 1) := by decide +kernel
theorem dX0_isWithin_15 : decode cX0_isWithin 15 = .ok (.ireturn, 1) := by decide +kernel
set_option maxRecDepth 20000 in
theorem ggX0_isColour_X0_isWithin : GoodIn wsX0_isColour wsX0_isWithin := goodIn_r _ [4] (by decide +kernel) (by decide +kernel)
set_option maxRecDepth 20000 in
theorem gX0_isColour_X0_isWithin : GoodIn wsX0_isColour (va_wsS RX0 34 yX0_isWithin wsX0_isWithin) := goodIn_app (goodIn_of _ (by decide +kernel)) ggX0_isColour_X0_isWithin
theorem dX0_isColour_0 : decode cX0_isColour 0 = .ok (.iload_n 0, 1) := by decide +kernel
theorem dX0_isColour_1 : decode cX0_isColour 1 = .ok (.iconst 0, 1) := by decide +kernel
theorem dX0_isColour_2 : decode cX0_isColour 2 = .ok (.bipush 7, 2) := by decide +kernel
theorem dX0_isColour_4 : decode cX0_isColour 4 = .ok (.invokestatic 34, 3) := by decide +kernel
theorem dX0_isColour_7 : decode cX0_isColour 7 = .ok (.ireturn, 1) := by decide +kernel
set_option maxRecDepth 20000 in
theorem ggX0_isCare_X0_isWithin : GoodIn wsX0_isCare wsX0_isWithin := goodIn_r _ [4] (by decide +kernel) (by decide +kernel)
set_option maxRecDepth 20000 in
theorem gX0_isCare_X0_isWithin : GoodIn wsX0_isCare (va_wsS RX0 34 yX0_isWithin wsX0_isWithin) := goodIn_app (goodIn_of _ (by decide +kernel)) ggX0_isCare_X0_isWithin
theorem dX0_isCare_0 : decode cX0_isCare 0 = .ok (.iload_n 0, 1) := by decide +kernel
theorem dX0_isCare_1 : decode cX0_isCare 1 = .ok (.iconst 0, 1) := by decide +kernel
theorem dX0_isCare_2 : decode cX0_isCare 2 = .ok (.iconst 2, 1) := by decide +kernel
theorem dX0_isCare_3 : decode cX0_isCare 3 = .ok (.invokestatic 34, 3) := by decide +kernel
theorem dX0_isCare_6 : decode cX0_isCare 6 = .ok (.ireturn, 1) := by decide +kernel
set_option maxRecDepth 20000 in
theorem ggX0_arePeople_X0_isWithin : GoodIn wsX0_arePeople wsX0_isWithin := goodIn_r _ [4] (by decide +kernel) (by decide +kernel)
set_option maxRecDepth 20000 in
theorem gX0_arePeople_X0_isWithin : GoodIn wsX0_arePeople (va_wsS RX0 34 yX0_isWithin wsX0_isWithin) := goodIn_app (goodIn_of _ (by decide +kernel)) ggX0_arePeople_X0_isWithin
theorem dX0_arePeople_0 : decode cX0_arePeople 0 = .ok (.iload_n 0, 1) := by decide +kernel
theorem dX0_arePeople_1 : decode cX0_arePeople 1 = .ok (.iconst 0, 1) := by decide +kernel
theorem dX0_arePeople_2 : decode cX0_arePeople 2 = .ok (.sipush 255, 3) := by decide +kernel
theorem dX0_arePeople_5 : decode cX0_arePeople 5 = .ok (.invokestatic 34, 3) := by decide +kernel
theorem dX0_arePeople_8 : decode cX0_arePeople 8 = .ok (.ireturn, 1) := by decide +kernel
set_option maxRecDepth 20000 in
theorem ggX0_isOutfitWarmth_X0_isWithin : GoodIn wsX0_isOutfitWarmth wsX0_isWithin := goodIn_r _ [4] (by decide +kernel) (by decide +kernel)
set_option maxRecDepth 20000 in
theorem gX0_isOutfitWarmth_X0_isWithin : GoodIn wsX0_isOutfitWarmth (va_wsS RX0 34 yX0_isWithin wsX0_isWithin) := goodIn_app (goodIn_of _ (by decide +kernel)) ggX0_isOutfitWarmth_X0_isWithin
theorem dX0_isOutfitWarmth_0 : decode cX0_isOutfitWarmth 0 = .ok (.iload_n 0, 1) := by decide +kernel
theorem dX0_isOutfitWarmth_1 : decode cX0_isOutfitWarmth 1 = .ok (.iconst 0, 1) := by decide +kernel
theorem dX0_isOutfitWarmth_2 : decode cX0_isOutfitWarmth 2 = .ok (.bipush 30, 2) := by decide +kernel
theorem dX0_isOutfitWarmth_4 : decode cX0_isOutfitWarmth 4 = .ok (.invokestatic 34, 3) := by decide +kernel
theorem dX0_isOutfitWarmth_7 : decode cX0_isOutfitWarmth 7 = .ok (.ireturn, 1) := by decide +kernel
set_option maxRecDepth 20000 in
theorem ggX0_isBagQuestion_X0_isWithin : GoodIn wsX0_isBagQuestion wsX0_isWithin := goodIn_r _ [4] (by decide +kernel) (by decide +kernel)
set_option maxRecDepth 20000 in
theorem gX0_isBagQuestion_X0_isWithin : GoodIn wsX0_isBagQuestion (va_wsS RX0 34 yX0_isWithin wsX0_isWithin) := goodIn_app (goodIn_of _ (by decide +kernel)) ggX0_isBagQuestion_X0_isWithin
theorem dX0_isBagQuestion_0 : decode cX0_isBagQuestion 0 = .ok (.iload_n 0, 1) := by decide +kernel
theorem dX0_isBagQuestion_1 : decode cX0_isBagQuestion 1 = .ok (.iconst 1, 1) := by decide +kernel
theorem dX0_isBagQuestion_2 : decode cX0_isBagQuestion 2 = .ok (.bipush 20, 2) := by decide +kernel
theorem dX0_isBagQuestion_4 : decode cX0_isBagQuestion 4 = .ok (.invokestatic 34, 3) := by decide +kernel
theorem dX0_isBagQuestion_7 : decode cX0_isBagQuestion 7 = .ok (.ifCond .eq 17, 3) := by decide +kernel
theorem dX0_isBagQuestion_10 : decode cX0_isBagQuestion 10 = .ok (.iload_n 1, 1) := by decide +kernel
theorem dX0_isBagQuestion_11 : decode cX0_isBagQuestion 11 = .ok (.iconst 0, 1) := by decide +kernel
theorem dX0_isBagQuestion_12 : decode cX0_isBagQuestion 12 = .ok (.bipush 20, 2) := by decide +kernel
theorem dX0_isBagQuestion_14 : decode cX0_isBagQuestion 14 = .ok (.invokestatic 34, 3) := by decide +kernel
theorem dX0_isBagQuestion_17 : decode cX0_isBagQuestion 17 = .ok (.ifCond .eq 7, 3) := by decide +kernel
theorem dX0_isBagQuestion_20 : decode cX0_isBagQuestion 20 = .ok (.iconst 1, 1) := by decide +kernel
theorem dX0_isBagQuestion_21 : decode cX0_isBagQuestion 21 = .ok (.goto 4, 3) := by decide +kernel
theorem dX0_isBagQuestion_24 : decode cX0_isBagQuestion 24 = .ok (.iconst 0, 1) := by decide +kernel
theorem dX0_isBagQuestion_25 : decode cX0_isBagQuestion 25 = .ok (.ireturn, 1) := by decide +kernel
set_option maxRecDepth 20000 in
theorem ggX0_isThing_X0_isWithin : GoodIn wsX0_isThing wsX0_isWithin := goodIn_r _ [5] (by decide +kernel) (by decide +kernel)
set_option maxRecDepth 20000 in
theorem gX0_isThing_X0_isWithin : GoodIn wsX0_isThing (va_wsS RX0 34 yX0_isWithin wsX0_isWithin) := goodIn_app (goodIn_of _ (by decide +kernel)) ggX0_isThing_X0_isWithin
theorem dX0_isThing_0 : decode cX0_isThing 0 = .ok (.iload_n 1, 1) := by decide +kernel
theorem dX0_isThing_1 : decode cX0_isThing 1 = .ok (.iconst 0, 1) := by decide +kernel
theorem dX0_isThing_2 : decode cX0_isThing 2 = .ok (.bipush 11, 2) := by decide +kernel
theorem dX0_isThing_4 : decode cX0_isThing 4 = .ok (.invokestatic 34, 3) := by decide +kernel
theorem dX0_isThing_7 : decode cX0_isThing 7 = .ok (.ifCond .eq 18, 3) := by decide +kernel
theorem dX0_isThing_10 : decode cX0_isThing 10 = .ok (.aload_n 0, 1) := by decide +kernel
theorem dX0_isThing_11 : decode cX0_isThing 11 = .ok (.getfield 61, 3) := by decide +kernel
theorem dX0_isThing_14 : decode cX0_isThing 14 = .ok (.iload_n 1, 1) := by decide +kernel
theorem dX0_isThing_15 : decode cX0_isThing 15 = .ok (.ishr, 1) := by decide +kernel
theorem dX0_isThing_16 : decode cX0_isThing 16 = .ok (.iconst 1, 1) := by decide +kernel
theorem dX0_isThing_17 : decode cX0_isThing 17 = .ok (.iand, 1) := by decide +kernel
theorem dX0_isThing_18 : decode cX0_isThing 18 = .ok (.ifCond .eq 7, 3) := by decide +kernel
theorem dX0_isThing_21 : decode cX0_isThing 21 = .ok (.iconst 1, 1) := by decide +kernel
theorem dX0_isThing_22 : decode cX0_isThing 22 = .ok (.goto 4, 3) := by decide +kernel
theorem dX0_isThing_25 : decode cX0_isThing 25 = .ok (.iconst 0, 1) := by decide +kernel
theorem dX0_isThing_26 : decode cX0_isThing 26 = .ok (.ireturn, 1) := by decide +kernel
set_option maxRecDepth 20000 in
theorem ggX0_areThings_X0_isThing : GoodIn wsX0_areThings wsX0_isThing := goodIn_r _ [5, 6, 7, 8, 4, 9, 10, 11, 12, 13, 14, 15, 16, 17, 18, 19, 20, 21] (by decide +kernel) (by decide +kernel)
set_option maxRecDepth 20000 in
theorem gX0_areThings_X0_isThing : GoodIn wsX0_areThings (wsV RX0 64 RX0 yX0_isThing wsX0_isThing) := goodIn_app (goodIn_of _ (by decide +kernel)) ggX0_areThings_X0_isThing
theorem dX0_areThings_0 : decode cX0_areThings 0 = .ok (.aload_n 0, 1) := by decide +kernel
theorem dX0_areThings_1 : decode cX0_areThings 1 = .ok (.iload_n 1, 1) := by decide +kernel
theorem dX0_areThings_2 : decode cX0_areThings 2 = .ok (.invokevirtual 64, 3) := by decide +kernel
theorem dX0_areThings_5 : decode cX0_areThings 5 = .ok (.ifCond .eq 28, 3) := by decide +kernel
theorem dX0_areThings_8 : decode cX0_areThings 8 = .ok (.aload_n 0, 1) := by decide +kernel
theorem dX0_areThings_9 : decode cX0_areThings 9 = .ok (.iload_n 2, 1) := by decide +kernel
theorem dX0_areThings_10 : decode cX0_areThings 10 = .ok (.invokevirtual 64, 3) := by decide +kernel
theorem dX0_areThings_13 : decode cX0_areThings 13 = .ok (.ifCond .eq 20, 3) := by decide +kernel
theorem dX0_areThings_16 : decode cX0_areThings 16 = .ok (.iload_n 3, 1) := by decide +kernel
theorem dX0_areThings_17 : decode cX0_areThings 17 = .ok (.iconst (-1), 1) := by decide +kernel
theorem dX0_areThings_18 : decode cX0_areThings 18 = .ok (.if_icmp .eq 11, 3) := by decide +kernel
theorem dX0_areThings_21 : decode cX0_areThings 21 = .ok (.aload_n 0, 1) := by decide +kernel
theorem dX0_areThings_22 : decode cX0_areThings 22 = .ok (.iload_n 3, 1) := by decide +kernel
theorem dX0_areThings_23 : decode cX0_areThings 23 = .ok (.invokevirtual 64, 3) := by decide +kernel
theorem dX0_areThings_26 : decode cX0_areThings 26 = .ok (.ifCond .eq 7, 3) := by decide +kernel
theorem dX0_areThings_29 : decode cX0_areThings 29 = .ok (.iconst 1, 1) := by decide +kernel
theorem dX0_areThings_30 : decode cX0_areThings 30 = .ok (.goto 4, 3) := by decide +kernel
theorem dX0_areThings_33 : decode cX0_areThings 33 = .ok (.iconst 0, 1) := by decide +kernel
theorem dX0_areThings_34 : decode cX0_areThings 34 = .ok (.ireturn, 1) := by decide +kernel
set_option maxRecDepth 20000 in
theorem ggX0_isOfKind_X0_isThing : GoodIn wsX0_isOfKind wsX0_isThing := goodIn_r _ [6, 7, 8, 9, 5, 10, 11, 12, 13, 14, 15, 16, 17, 18, 19, 20, 21, 22] (by decide +kernel) (by decide +kernel)
set_option maxRecDepth 20000 in
theorem gX0_isOfKind_X0_isThing : GoodIn wsX0_isOfKind (wsV RX0 64 RX0 yX0_isThing wsX0_isThing) := goodIn_app (goodIn_of _ (by decide +kernel)) ggX0_isOfKind_X0_isThing
theorem dX0_isOfKind_0 : decode cX0_isOfKind 0 = .ok (.aload_n 0, 1) := by decide +kernel
theorem dX0_isOfKind_1 : decode cX0_isOfKind 1 = .ok (.iload_n 1, 1) := by decide +kernel
theorem dX0_isOfKind_2 : decode cX0_isOfKind 2 = .ok (.invokevirtual 64, 3) := by decide +kernel
theorem dX0_isOfKind_5 : decode cX0_isOfKind 5 = .ok (.ifCond .eq 17, 3) := by decide +kernel
theorem dX0_isOfKind_8 : decode cX0_isOfKind 8 = .ok (.aload_n 0, 1) := by decide +kernel
theorem dX0_isOfKind_9 : decode cX0_isOfKind 9 = .ok (.getfield 9, 3) := by decide +kernel
theorem dX0_isOfKind_12 : decode cX0_isOfKind 12 = .ok (.iload_n 1, 1) := by decide +kernel
theorem dX0_isOfKind_13 : decode cX0_isOfKind 13 = .ok (.iaload, 1) := by decide +kernel
theorem dX0_isOfKind_14 : decode cX0_isOfKind 14 = .ok (.iload_n 2, 1) := by decide +kernel
theorem dX0_isOfKind_15 : decode cX0_isOfKind 15 = .ok (.if_icmp .ne 7, 3) := by decide +kernel
theorem dX0_isOfKind_18 : decode cX0_isOfKind 18 = .ok (.iconst 1, 1) := by decide +kernel
theorem dX0_isOfKind_19 : decode cX0_isOfKind 19 = .ok (.goto 4, 3) := by decide +kernel
theorem dX0_isOfKind_22 : decode cX0_isOfKind 22 = .ok (.iconst 0, 1) := by decide +kernel
theorem dX0_isOfKind_23 : decode cX0_isOfKind 23 = .ok (.ireturn, 1) := by decide +kernel
set_option maxRecDepth 20000 in
theorem ggX0_areOfTheirKinds_X0_isOfKind : GoodIn wsX0_areOfTheirKinds wsX0_isOfKind := goodIn_r _ [5, 6, 7, 8, 9, 4, 10, 11, 12, 13, 14, 15, 16, 17, 18, 19, 20, 21, 22, 23, 24, 25, 26] (by decide +kernel) (by decide +kernel)
set_option maxRecDepth 20000 in
theorem gX0_areOfTheirKinds_X0_isOfKind : GoodIn wsX0_areOfTheirKinds (wsV RX0 191 RX0 yX0_isOfKind wsX0_isOfKind) := goodIn_app (goodIn_of _ (by decide +kernel)) ggX0_areOfTheirKinds_X0_isOfKind
theorem dX0_areOfTheirKinds_0 : decode cX0_areOfTheirKinds 0 = .ok (.aload_n 0, 1) := by decide +kernel
theorem dX0_areOfTheirKinds_1 : decode cX0_areOfTheirKinds 1 = .ok (.iload_n 1, 1) := by decide +kernel
theorem dX0_areOfTheirKinds_2 : decode cX0_areOfTheirKinds 2 = .ok (.iconst 0, 1) := by decide +kernel
theorem dX0_areOfTheirKinds_3 : decode cX0_areOfTheirKinds 3 = .ok (.invokevirtual 191, 3) := by decide +kernel
theorem dX0_areOfTheirKinds_6 : decode cX0_areOfTheirKinds 6 = .ok (.ifCond .eq 30, 3) := by decide +kernel
theorem dX0_areOfTheirKinds_9 : decode cX0_areOfTheirKinds 9 = .ok (.aload_n 0, 1) := by decide +kernel
theorem dX0_areOfTheirKinds_10 : decode cX0_areOfTheirKinds 10 = .ok (.iload_n 2, 1) := by decide +kernel
theorem dX0_areOfTheirKinds_11 : decode cX0_areOfTheirKinds 11 = .ok (.iconst 1, 1) := by decide +kernel
theorem dX0_areOfTheirKinds_12 : decode cX0_areOfTheirKinds 12 = .ok (.invokevirtual 191, 3) := by decide +kernel
theorem dX0_areOfTheirKinds_15 : decode cX0_areOfTheirKinds 15 = .ok (.ifCond .eq 21, 3) := by decide +kernel
theorem dX0_areOfTheirKinds_18 : decode cX0_areOfTheirKinds 18 = .ok (.iload_n 3, 1) := by decide +kernel
theorem dX0_areOfTheirKinds_19 : decode cX0_areOfTheirKinds 19 = .ok (.iconst (-1), 1) := by decide +kernel
theorem dX0_areOfTheirKinds_20 : decode cX0_areOfTheirKinds 20 = .ok (.if_icmp .eq 12, 3) := by decide +kernel
theorem dX0_areOfTheirKinds_23 : decode cX0_areOfTheirKinds 23 = .ok (.aload_n 0, 1) := by decide +kernel
theorem dX0_areOfTheirKinds_24 : decode cX0_areOfTheirKinds 24 = .ok (.iload_n 3, 1) := by decide +kernel
theorem dX0_areOfTheirKinds_25 : decode cX0_areOfTheirKinds 25 = .ok (.iconst 2, 1) := by decide +kernel
theorem dX0_areOfTheirKinds_26 : decode cX0_areOfTheirKinds 26 = .ok (.invokevirtual 191, 3) := by decide +kernel
theorem dX0_areOfTheirKinds_29 : decode cX0_areOfTheirKinds 29 = .ok (.ifCond .eq 7, 3) := by decide +kernel
theorem dX0_areOfTheirKinds_32 : decode cX0_areOfTheirKinds 32 = .ok (.iconst 1, 1) := by decide +kernel
theorem dX0_areOfTheirKinds_33 : decode cX0_areOfTheirKinds 33 = .ok (.goto 4, 3) := by decide +kernel
theorem dX0_areOfTheirKinds_36 : decode cX0_areOfTheirKinds 36 = .ok (.iconst 0, 1) := by decide +kernel
theorem dX0_areOfTheirKinds_37 : decode cX0_areOfTheirKinds 37 = .ok (.ireturn, 1) := by decide +kernel
set_option maxRecDepth 20000 in
theorem ggX0_wearsLeftOf_X0_isThing : GoodIn wsX0_wearsLeftOf wsX0_isThing := goodIn_r _ [6, 7, 8, 9, 5, 10, 11, 12, 13, 14, 15, 16, 17, 18, 19, 20, 21, 22] (by decide +kernel) (by decide +kernel)
set_option maxRecDepth 20000 in
theorem gX0_wearsLeftOf_X0_isThing : GoodIn wsX0_wearsLeftOf (wsV RX0 64 RX0 yX0_isThing wsX0_isThing) := goodIn_app (goodIn_of _ (by decide +kernel)) ggX0_wearsLeftOf_X0_isThing
theorem dX0_wearsLeftOf_0 : decode cX0_wearsLeftOf 0 = .ok (.aload_n 0, 1) := by decide +kernel
theorem dX0_wearsLeftOf_1 : decode cX0_wearsLeftOf 1 = .ok (.iload_n 1, 1) := by decide +kernel
theorem dX0_wearsLeftOf_2 : decode cX0_wearsLeftOf 2 = .ok (.invokevirtual 64, 3) := by decide +kernel
theorem dX0_wearsLeftOf_5 : decode cX0_wearsLeftOf 5 = .ok (.ifCond .eq 12, 3) := by decide +kernel
theorem dX0_wearsLeftOf_8 : decode cX0_wearsLeftOf 8 = .ok (.aload_n 0, 1) := by decide +kernel
theorem dX0_wearsLeftOf_9 : decode cX0_wearsLeftOf 9 = .ok (.getfield 25, 3) := by decide +kernel
theorem dX0_wearsLeftOf_12 : decode cX0_wearsLeftOf 12 = .ok (.iload_n 1, 1) := by decide +kernel
theorem dX0_wearsLeftOf_13 : decode cX0_wearsLeftOf 13 = .ok (.iaload, 1) := by decide +kernel
theorem dX0_wearsLeftOf_14 : decode cX0_wearsLeftOf 14 = .ok (.goto 4, 3) := by decide +kernel
theorem dX0_wearsLeftOf_17 : decode cX0_wearsLeftOf 17 = .ok (.iconst 0, 1) := by decide +kernel
theorem dX0_wearsLeftOf_18 : decode cX0_wearsLeftOf 18 = .ok (.ireturn, 1) := by decide +kernel
set_option maxRecDepth 20000 in
theorem ggX0_warmthOf_X0_isThing : GoodIn wsX0_warmthOf wsX0_isThing := goodIn_r _ [6, 7, 8, 9, 5, 10, 11, 12, 13, 14, 15, 16, 17, 18, 19, 20, 21, 22] (by decide +kernel) (by decide +kernel)
set_option maxRecDepth 20000 in
theorem gX0_warmthOf_X0_isThing : GoodIn wsX0_warmthOf (wsV RX0 64 RX0 yX0_isThing wsX0_isThing) := goodIn_app (goodIn_of _ (by decide +kernel)) ggX0_warmthOf_X0_isThing
theorem dX0_warmthOf_0 : decode cX0_warmthOf 0 = .ok (.aload_n 0, 1) := by decide +kernel
theorem dX0_warmthOf_1 : decode cX0_warmthOf 1 = .ok (.iload_n 1, 1) := by decide +kernel
theorem dX0_warmthOf_2 : decode cX0_warmthOf 2 = .ok (.invokevirtual 64, 3) := by decide +kernel
theorem dX0_warmthOf_5 : decode cX0_warmthOf 5 = .ok (.ifCond .eq 12, 3) := by decide +kernel
theorem dX0_warmthOf_8 : decode cX0_warmthOf 8 = .ok (.aload_n 0, 1) := by decide +kernel
theorem dX0_warmthOf_9 : decode cX0_warmthOf 9 = .ok (.getfield 16, 3) := by decide +kernel
theorem dX0_warmthOf_12 : decode cX0_warmthOf 12 = .ok (.iload_n 1, 1) := by decide +kernel
theorem dX0_warmthOf_13 : decode cX0_warmthOf 13 = .ok (.iaload, 1) := by decide +kernel
theorem dX0_warmthOf_14 : decode cX0_warmthOf 14 = .ok (.goto 4, 3) := by decide +kernel
theorem dX0_warmthOf_17 : decode cX0_warmthOf 17 = .ok (.iconst 0, 1) := by decide +kernel
theorem dX0_warmthOf_18 : decode cX0_warmthOf 18 = .ok (.ireturn, 1) := by decide +kernel
set_option maxRecDepth 20000 in
theorem ggX0_isCleanOfKind_X0_isOfKind : GoodIn wsX0_isCleanOfKind wsX0_isOfKind := goodIn_r _ [6, 7, 8, 9, 10, 5, 11, 12, 13, 14, 15, 16, 17, 18, 19, 20, 21, 22, 23, 24, 25, 26, 27] (by decide +kernel) (by decide +kernel)
set_option maxRecDepth 20000 in
theorem gX0_isCleanOfKind_X0_isOfKind : GoodIn wsX0_isCleanOfKind (wsV RX0 191 RX0 yX0_isOfKind wsX0_isOfKind) := goodIn_app (goodIn_of _ (by decide +kernel)) ggX0_isCleanOfKind_X0_isOfKind
theorem dX0_isCleanOfKind_0 : decode cX0_isCleanOfKind 0 = .ok (.aload_n 0, 1) := by decide +kernel
theorem dX0_isCleanOfKind_1 : decode cX0_isCleanOfKind 1 = .ok (.iload_n 1, 1) := by decide +kernel
theorem dX0_isCleanOfKind_2 : decode cX0_isCleanOfKind 2 = .ok (.iload_n 2, 1) := by decide +kernel
theorem dX0_isCleanOfKind_3 : decode cX0_isCleanOfKind 3 = .ok (.invokevirtual 191, 3) := by decide +kernel
theorem dX0_isCleanOfKind_6 : decode cX0_isCleanOfKind 6 = .ok (.ifCond .eq 16, 3) := by decide +kernel
theorem dX0_isCleanOfKind_9 : decode cX0_isCleanOfKind 9 = .ok (.aload_n 0, 1) := by decide +kernel
theorem dX0_isCleanOfKind_10 : decode cX0_isCleanOfKind 10 = .ok (.getfield 25, 3) := by decide +kernel
theorem dX0_isCleanOfKind_13 : decode cX0_isCleanOfKind 13 = .ok (.iload_n 1, 1) := by decide +kernel
theorem dX0_isCleanOfKind_14 : decode cX0_isCleanOfKind 14 = .ok (.iaload, 1) := by decide +kernel
theorem dX0_isCleanOfKind_15 : decode cX0_isCleanOfKind 15 = .ok (.ifCond .le 7, 3) := by decide +kernel
theorem dX0_isCleanOfKind_18 : decode cX0_isCleanOfKind 18 = .ok (.iconst 1, 1) := by decide +kernel
theorem dX0_isCleanOfKind_19 : decode cX0_isCleanOfKind 19 = .ok (.goto 4, 3) := by decide +kernel
theorem dX0_isCleanOfKind_22 : decode cX0_isCleanOfKind 22 = .ok (.iconst 0, 1) := by decide +kernel
theorem dX0_isCleanOfKind_23 : decode cX0_isCleanOfKind 23 = .ok (.ireturn, 1) := by decide +kernel
set_option maxRecDepth 20000 in
theorem ggX0_wearOnce_X0_wearsLeftOf : GoodIn wsX0_wearOnce wsX0_wearsLeftOf := goodIn_r _ [6, 1, 7, 8, 9, 5, 10, 11, 12, 13, 14, 15, 16, 17, 18, 19, 20, 21, 22, 23, 24, 25, 26] (by decide +kernel) (by decide +kernel)
set_option maxRecDepth 20000 in
theorem gX0_wearOnce_X0_wearsLeftOf : GoodIn wsX0_wearOnce (wsV RX0 150 RX0 yX0_wearsLeftOf wsX0_wearsLeftOf) := goodIn_app (goodIn_of _ (by decide +kernel)) ggX0_wearOnce_X0_wearsLeftOf
theorem dX0_wearOnce_0 : decode cX0_wearOnce 0 = .ok (.aload_n 0, 1) := by decide +kernel
theorem dX0_wearOnce_1 : decode cX0_wearOnce 1 = .ok (.iload_n 1, 1) := by decide +kernel
theorem dX0_wearOnce_2 : decode cX0_wearOnce 2 = .ok (.invokevirtual 150, 3) := by decide +kernel
theorem dX0_wearOnce_5 : decode cX0_wearOnce 5 = .ok (.ifCond .le 13, 3) := by decide +kernel
theorem dX0_wearOnce_8 : decode cX0_wearOnce 8 = .ok (.aload_n 0, 1) := by decide +kernel
theorem dX0_wearOnce_9 : decode cX0_wearOnce 9 = .ok (.getfield 25, 3) := by decide +kernel
theorem dX0_wearOnce_12 : decode cX0_wearOnce 12 = .ok (.iload_n 1, 1) := by decide +kernel
theorem dX0_wearOnce_13 : decode cX0_wearOnce 13 = .ok (.dup2, 1) := by decide +kernel
theorem dX0_wearOnce_14 : decode cX0_wearOnce 14 = .ok (.iaload, 1) := by decide +kernel
theorem dX0_wearOnce_15 : decode cX0_wearOnce 15 = .ok (.iconst 1, 1) := by decide +kernel
theorem dX0_wearOnce_16 : decode cX0_wearOnce 16 = .ok (.isub, 1) := by decide +kernel
theorem dX0_wearOnce_17 : decode cX0_wearOnce 17 = .ok (.iastore, 1) := by decide +kernel
theorem dX0_wearOnce_18 : decode cX0_wearOnce 18 = .ok (.return_, 1) := by decide +kernel
set_option maxRecDepth 20000 in
theorem ggX0_makeClean_X0_isThing : GoodIn wsX0_makeClean wsX0_isThing := goodIn_r _ [7, 8, 9, 10, 6, 11, 12, 13, 14, 15, 16, 17, 18, 19, 20, 21, 22, 23] (by decide +kernel) (by decide +kernel)
set_option maxRecDepth 20000 in
theorem gX0_makeClean_X0_isThing : GoodIn wsX0_makeClean (wsV RX0 64 RX0 yX0_isThing wsX0_isThing) := goodIn_app (goodIn_of _ (by decide +kernel)) ggX0_makeClean_X0_isThing
theorem dX0_makeClean_0 : decode cX0_makeClean 0 = .ok (.aload_n 0, 1) := by decide +kernel
theorem dX0_makeClean_1 : decode cX0_makeClean 1 = .ok (.iload_n 1, 1) := by decide +kernel
theorem dX0_makeClean_2 : decode cX0_makeClean 2 = .ok (.invokevirtual 64, 3) := by decide +kernel
theorem dX0_makeClean_5 : decode cX0_makeClean 5 = .ok (.ifCond .eq 15, 3) := by decide +kernel
theorem dX0_makeClean_8 : decode cX0_makeClean 8 = .ok (.aload_n 0, 1) := by decide +kernel
theorem dX0_makeClean_9 : decode cX0_makeClean 9 = .ok (.getfield 25, 3) := by decide +kernel
theorem dX0_makeClean_12 : decode cX0_makeClean 12 = .ok (.iload_n 1, 1) := by decide +kernel
theorem dX0_makeClean_13 : decode cX0_makeClean 13 = .ok (.aload_n 0, 1) := by decide +kernel
theorem dX0_makeClean_14 : decode cX0_makeClean 14 = .ok (.getfield 19, 3) := by decide +kernel
theorem dX0_makeClean_17 : decode cX0_makeClean 17 = .ok (.iload_n 1, 1) := by decide +kernel
theorem dX0_makeClean_18 : decode cX0_makeClean 18 = .ok (.iaload, 1) := by decide +kernel
theorem dX0_makeClean_19 : decode cX0_makeClean 19 = .ok (.iastore, 1) := by decide +kernel
theorem dX0_makeClean_20 : decode cX0_makeClean 20 = .ok (.return_, 1) := by decide +kernel
theorem dX0_clashBit_0 : decode cX0_clashBit 0 = .ok (.lconst 1, 1) := by decide +kernel
theorem dX0_clashBit_1 : decode cX0_clashBit 1 = .ok (.bipush 8, 2) := by decide +kernel
theorem dX0_clashBit_3 : decode cX0_clashBit 3 = .ok (.iload_n 0, 1) := by decide +kernel
theorem dX0_clashBit_4 : decode cX0_clashBit 4 = .ok (.imul, 1) := by decide +kernel
theorem dX0_clashBit_5 : decode cX0_clashBit 5 = .ok (.iload_n 1, 1) := by decide +kernel
theorem dX0_clashBit_6 : decode cX0_clashBit 6 = .ok (.iadd, 1) := by decide +kernel
theorem dX0_clashBit_7 : decode cX0_clashBit 7 = .ok (.lshl, 1) := by decide +kernel
theorem dX0_clashBit_8 : decode cX0_clashBit 8 = .ok (.lreturn, 1) := by decide +kernel
set_option maxRecDepth 20000 in
theorem ggX0_coloursClash_X0_clashBit : GoodIn wsX0_coloursClash wsX0_clashBit := goodIn_r _ [5] (by decide +kernel) (by decide +kernel)
set_option maxRecDepth 20000 in
theorem gX0_coloursClash_X0_clashBit : GoodIn wsX0_coloursClash (va_wsS RX0 84 yX0_clashBit wsX0_clashBit) := goodIn_app (goodIn_of _ (by decide +kernel)) ggX0_coloursClash_X0_clashBit
theorem dX0_coloursClash_0 : decode cX0_coloursClash 0 = .ok (.aload_n 0, 1) := by decide +kernel
theorem dX0_coloursClash_1 : decode cX0_coloursClash 1 = .ok (.getfield 88, 3) := by decide +kernel
theorem dX0_coloursClash_4 : decode cX0_coloursClash 4 = .ok (.iload_n 1, 1) := by decide +kernel
theorem dX0_coloursClash_5 : decode cX0_coloursClash 5 = .ok (.iload_n 2, 1) := by decide +kernel
theorem dX0_coloursClash_6 : decode cX0_coloursClash 6 = .ok (.invokestatic 84, 3) := by decide +kernel
theorem dX0_coloursClash_9 : decode cX0_coloursClash 9 = .ok (.land, 1) := by decide +kernel
theorem dX0_coloursClash_10 : decode cX0_coloursClash 10 = .ok (.lconst 0, 1) := by decide +kernel
theorem dX0_coloursClash_11 : decode cX0_coloursClash 11 = .ok (.lcmp, 1) := by decide +kernel
theorem dX0_coloursClash_12 : decode cX0_coloursClash 12 = .ok (.ifCond .eq 7, 3) := by decide +kernel
theorem dX0_coloursClash_15 : decode cX0_coloursClash 15 = .ok (.iconst 1, 1) := by decide +kernel
theorem dX0_coloursClash_16 : decode cX0_coloursClash 16 = .ok (.goto 4, 3) := by decide +kernel
theorem dX0_coloursClash_19 : decode cX0_coloursClash 19 = .ok (.iconst 0, 1) := by decide +kernel
theorem dX0_coloursClash_20 : decode cX0_coloursClash 20 = .ok (.ireturn, 1) := by decide +kernel
set_option maxRecDepth 20000 in
theorem ggX0_doClash_X0_isThing : GoodIn wsX0_doClash wsX0_isThing := goodIn_r _ [6, 7, 8, 9, 5, 10, 19, 20, 21, 22, 23, 24, 25, 26, 27, 28, 29, 30] (by decide +kernel) (by decide +kernel)
set_option maxRecDepth 20000 in
theorem gX0_doClash_X0_isThing : GoodIn wsX0_doClash (wsV RX0 64 RX0 yX0_isThing wsX0_isThing) := goodIn_app (goodIn_of _ (by decide +kernel)) ggX0_doClash_X0_isThing
set_option maxRecDepth 20000 in
theorem ggX0_doClash_X0_coloursClash : GoodIn wsX0_doClash wsX0_coloursClash := goodIn_r _ [14, 15, 16, 17, 5, 18, 19, 20, 21, 22, 23, 24, 25, 26, 27, 28, 29, 30] (by decide +kernel) (by decide +kernel)
set_option maxRecDepth 20000 in
theorem gX0_doClash_X0_coloursClash : GoodIn wsX0_doClash (wsV RX0 80 RX0 yX0_coloursClash wsX0_coloursClash) := goodIn_app (goodIn_of _ (by decide +kernel)) ggX0_doClash_X0_coloursClash
theorem dX0_doClash_0 : decode cX0_doClash 0 = .ok (.aload_n 0, 1) := by decide +kernel
theorem dX0_doClash_1 : decode cX0_doClash 1 = .ok (.iload_n 1, 1) := by decide +kernel
theorem dX0_doClash_2 : decode cX0_doClash 2 = .ok (.invokevirtual 64, 3) := by decide +kernel
theorem dX0_doClash_5 : decode cX0_doClash 5 = .ok (.ifCond .eq 34, 3) := by decide +kernel
theorem dX0_doClash_8 : decode cX0_doClash 8 = .ok (.aload_n 0, 1) := by decide +kernel
theorem dX0_doClash_9 : decode cX0_doClash 9 = .ok (.iload_n 2, 1) := by decide +kernel
theorem dX0_doClash_10 : decode cX0_doClash 10 = .ok (.invokevirtual 64, 3) := by decide +kernel
theorem dX0_doClash_13 : decode cX0_doClash 13 = .ok (.ifCond .eq 26, 3) := by decide +kernel
theorem dX0_doClash_16 : decode cX0_doClash 16 = .ok (.aload_n 0, 1) := by decide +kernel
theorem dX0_doClash_17 : decode cX0_doClash 17 = .ok (.aload_n 0, 1) := by decide +kernel
theorem dX0_doClash_18 : decode cX0_doClash 18 = .ok (.getfield 13, 3) := by decide +kernel
theorem dX0_doClash_21 : decode cX0_doClash 21 = .ok (.iload_n 1, 1) := by decide +kernel
theorem dX0_doClash_22 : decode cX0_doClash 22 = .ok (.iaload, 1) := by decide +kernel
theorem dX0_doClash_23 : decode cX0_doClash 23 = .ok (.aload_n 0, 1) := by decide +kernel
theorem dX0_doClash_24 : decode cX0_doClash 24 = .ok (.getfield 13, 3) := by decide +kernel
theorem dX0_doClash_27 : decode cX0_doClash 27 = .ok (.iload_n 2, 1) := by decide +kernel
theorem dX0_doClash_28 : decode cX0_doClash 28 = .ok (.iaload, 1) := by decide +kernel
theorem dX0_doClash_29 : decode cX0_doClash 29 = .ok (.invokevirtual 80, 3) := by decide +kernel
theorem dX0_doClash_32 : decode cX0_doClash 32 = .ok (.ifCond .eq 7, 3) := by decide +kernel
theorem dX0_doClash_35 : decode cX0_doClash 35 = .ok (.iconst 1, 1) := by decide +kernel
theorem dX0_doClash_36 : decode cX0_doClash 36 = .ok (.goto 4, 3) := by decide +kernel
theorem dX0_doClash_39 : decode cX0_doClash 39 = .ok (.iconst 0, 1) := by decide +kernel
theorem dX0_doClash_40 : decode cX0_doClash 40 = .ok (.ireturn, 1) := by decide +kernel
set_option maxRecDepth 20000 in
theorem ggX0_canBeWorn_X0_isCleanOfKind : GoodIn wsX0_canBeWorn wsX0_isCleanOfKind := goodIn_r _ [5, 6, 7, 8, 9, 4, 10, 11, 12, 13, 14, 15, 16, 17, 18, 19, 37, 38, 39, 40, 41, 42, 43, 44, 45, 46, 47, 48] (by decide +kernel) (by decide +kernel)
set_option maxRecDepth 20000 in
theorem gX0_canBeWorn_X0_isCleanOfKind : GoodIn wsX0_canBeWorn (wsV RX0 194 RX0 yX0_isCleanOfKind wsX0_isCleanOfKind) := goodIn_app (goodIn_of _ (by decide +kernel)) ggX0_canBeWorn_X0_isCleanOfKind
set_option maxRecDepth 20000 in
theorem ggX0_canBeWorn_X0_doClash : GoodIn wsX0_canBeWorn wsX0_doClash := goodIn_r _ [23, 24, 12, 13, 14, 4, 15, 16, 17, 18, 19, 25, 26, 27, 28, 29, 30, 31, 32, 37, 38, 39, 40, 41, 42, 43, 44, 45, 46, 47, 48] (by decide +kernel) (by decide +kernel)
set_option maxRecDepth 20000 in
theorem gX0_canBeWorn_X0_doClash : GoodIn wsX0_canBeWorn (wsV RX0 197 RX0 yX0_doClash wsX0_doClash) := goodIn_app (goodIn_of _ (by decide +kernel)) ggX0_canBeWorn_X0_doClash
set_option maxRecDepth 20000 in
theorem ggX0_canBeWorn_X0_fitsOver : GoodIn wsX0_canBeWorn wsX0_fitsOver := goodIn_r _ [36, 1, 2, 3, 4, 5, 6, 7, 8, 9, 10, 11, 12, 13, 14, 15, 16, 17, 18, 19, 20, 21, 22, 23, 24, 25, 26, 27, 28, 29, 30, 31, 32, 37, 38, 39, 40, 41, 42, 43, 44, 45, 46, 47, 48] (by decide +kernel) (by decide +kernel)
set_option maxRecDepth 20000 in
theorem gX0_canBeWorn_X0_fitsOver : GoodIn wsX0_canBeWorn (wsV RX0 200 RX0 yX0_fitsOver wsX0_fitsOver) := goodIn_app (goodIn_of _ (by decide +kernel)) ggX0_canBeWorn_X0_fitsOver
theorem dX0_canBeWorn_0 : decode cX0_canBeWorn 0 = .ok (.aload_n 0, 1) := by decide +kernel
theorem dX0_canBeWorn_1 : decode cX0_canBeWorn 1 = .ok (.iload_n 1, 1) := by decide +kernel
theorem dX0_canBeWorn_2 : decode cX0_canBeWorn 2 = .ok (.iconst 0, 1) := by decide +kernel
theorem dX0_canBeWorn_3 : decode cX0_canBeWorn 3 = .ok (.invokevirtual 194, 3) := by decide +kernel
theorem dX0_canBeWorn_6 : decode cX0_canBeWorn 6 = .ok (.ifCond .eq 40, 3) := by decide +kernel
theorem dX0_canBeWorn_9 : decode cX0_canBeWorn 9 = .ok (.aload_n 0, 1) := by decide +kernel
theorem dX0_canBeWorn_10 : decode cX0_canBeWorn 10 = .ok (.iload_n 2, 1) := by decide +kernel
theorem dX0_canBeWorn_11 : decode cX0_canBeWorn 11 = .ok (.iconst 1, 1) := by decide +kernel
theorem dX0_canBeWorn_12 : decode cX0_canBeWorn 12 = .ok (.invokevirtual 194, 3) := by decide +kernel
theorem dX0_canBeWorn_15 : decode cX0_canBeWorn 15 = .ok (.ifCond .eq 31, 3) := by decide +kernel
theorem dX0_canBeWorn_18 : decode cX0_canBeWorn 18 = .ok (.aload_n 0, 1) := by decide +kernel
theorem dX0_canBeWorn_19 : decode cX0_canBeWorn 19 = .ok (.iload_n 1, 1) := by decide +kernel
theorem dX0_canBeWorn_20 : decode cX0_canBeWorn 20 = .ok (.iload_n 2, 1) := by decide +kernel
theorem dX0_canBeWorn_21 : decode cX0_canBeWorn 21 = .ok (.invokevirtual 197, 3) := by decide +kernel
theorem dX0_canBeWorn_24 : decode cX0_canBeWorn 24 = .ok (.ifCond .ne 22, 3) := by decide +kernel
theorem dX0_canBeWorn_27 : decode cX0_canBeWorn 27 = .ok (.iload_n 3, 1) := by decide +kernel
theorem dX0_canBeWorn_28 : decode cX0_canBeWorn 28 = .ok (.iconst (-1), 1) := by decide +kernel
theorem dX0_canBeWorn_29 : decode cX0_canBeWorn 29 = .ok (.if_icmp .eq 13, 3) := by decide +kernel
theorem dX0_canBeWorn_32 : decode cX0_canBeWorn 32 = .ok (.aload_n 0, 1) := by decide +kernel
theorem dX0_canBeWorn_33 : decode cX0_canBeWorn 33 = .ok (.iload_n 3, 1) := by decide +kernel
theorem dX0_canBeWorn_34 : decode cX0_canBeWorn 34 = .ok (.iload_n 1, 1) := by decide +kernel
theorem dX0_canBeWorn_35 : decode cX0_canBeWorn 35 = .ok (.iload_n 2, 1) := by decide +kernel
theorem dX0_canBeWorn_36 : decode cX0_canBeWorn 36 = .ok (.invokevirtual 200, 3) := by decide +kernel
theorem dX0_canBeWorn_39 : decode cX0_canBeWorn 39 = .ok (.ifCond .eq 7, 3) := by decide +kernel
theorem dX0_canBeWorn_42 : decode cX0_canBeWorn 42 = .ok (.iconst 1, 1) := by decide +kernel
theorem dX0_canBeWorn_43 : decode cX0_canBeWorn 43 = .ok (.goto 4, 3) := by decide +kernel
theorem dX0_canBeWorn_46 : decode cX0_canBeWorn 46 = .ok (.iconst 0, 1) := by decide +kernel
theorem dX0_canBeWorn_47 : decode cX0_canBeWorn 47 = .ok (.ireturn, 1) := by decide +kernel
set_option maxRecDepth 20000 in
theorem ggX0_fitsOver_X0_isCleanOfKind : GoodIn wsX0_fitsOver wsX0_isCleanOfKind := goodIn_r _ [5, 6, 7, 8, 9, 4, 10, 11, 12, 13, 14, 15, 16, 17, 18, 19, 33, 34, 35, 36, 37, 38, 39, 40, 41, 42, 43, 44] (by decide +kernel) (by decide +kernel)
set_option maxRecDepth 20000 in
theorem gX0_fitsOver_X0_isCleanOfKind : GoodIn wsX0_fitsOver (wsV RX0 194 RX0 yX0_isCleanOfKind wsX0_isCleanOfKind) := goodIn_app (goodIn_of _ (by decide +kernel)) ggX0_fitsOver_X0_isCleanOfKind
set_option maxRecDepth 20000 in
theorem ggX0_fitsOver_X0_doClash : GoodIn wsX0_fitsOver wsX0_doClash := goodIn_r _ [23, 24, 12, 13, 14, 4, 15, 16, 17, 18, 19, 25, 26, 27, 28, 29, 30, 31, 32, 33, 34, 35, 36, 37, 38, 39, 40, 41, 42, 43, 44] (by decide +kernel) (by decide +kernel)
set_option maxRecDepth 20000 in
theorem gX0_fitsOver_X0_doClash : GoodIn wsX0_fitsOver (wsV RX0 197 RX0 yX0_doClash wsX0_doClash) := goodIn_app (goodIn_of _ (by decide +kernel)) ggX0_fitsOver_X0_doClash
theorem dX0_fitsOver_0 : decode cX0_fitsOver 0 = .ok (.aload_n 0, 1) := by decide +kernel
theorem dX0_fitsOver_1 : decode cX0_fitsOver 1 = .ok (.iload_n 1, 1) := by decide +kernel
theorem dX0_fitsOver_2 : decode cX0_fitsOver 2 = .ok (.iconst 2, 1) := by decide +kernel
theorem dX0_fitsOver_3 : decode cX0_fitsOver 3 = .ok (.invokevirtual 194, 3) := by decide +kernel
theorem dX0_fitsOver_6 : decode cX0_fitsOver 6 = .ok (.ifCond .eq 25, 3) := by decide +kernel
theorem dX0_fitsOver_9 : decode cX0_fitsOver 9 = .ok (.aload_n 0, 1) := by decide +kernel
theorem dX0_fitsOver_10 : decode cX0_fitsOver 10 = .ok (.iload_n 1, 1) := by decide +kernel
theorem dX0_fitsOver_11 : decode cX0_fitsOver 11 = .ok (.iload_n 2, 1) := by decide +kernel
theorem dX0_fitsOver_12 : decode cX0_fitsOver 12 = .ok (.invokevirtual 197, 3) := by decide +kernel
theorem dX0_fitsOver_15 : decode cX0_fitsOver 15 = .ok (.ifCond .ne 16, 3) := by decide +kernel
theorem dX0_fitsOver_18 : decode cX0_fitsOver 18 = .ok (.aload_n 0, 1) := by decide +kernel
theorem dX0_fitsOver_19 : decode cX0_fitsOver 19 = .ok (.iload_n 1, 1) := by decide +kernel
theorem dX0_fitsOver_20 : decode cX0_fitsOver 20 = .ok (.iload_n 3, 1) := by decide +kernel
theorem dX0_fitsOver_21 : decode cX0_fitsOver 21 = .ok (.invokevirtual 197, 3) := by decide +kernel
theorem dX0_fitsOver_24 : decode cX0_fitsOver 24 = .ok (.ifCond .ne 7, 3) := by decide +kernel
theorem dX0_fitsOver_27 : decode cX0_fitsOver 27 = .ok (.iconst 1, 1) := by decide +kernel
theorem dX0_fitsOver_28 : decode cX0_fitsOver 28 = .ok (.goto 4, 3) := by decide +kernel
theorem dX0_fitsOver_31 : decode cX0_fitsOver 31 = .ok (.iconst 0, 1) := by decide +kernel
theorem dX0_fitsOver_32 : decode cX0_fitsOver 32 = .ok (.ireturn, 1) := by decide +kernel
set_option maxRecDepth 20000 in
theorem ggX0_outfitWarmth_X0_warmthOf : GoodIn wsX0_outfitWarmth wsX0_warmthOf := goodIn_r _ [5, 6, 7, 8, 9, 4, 10, 11, 12, 13, 14, 15, 16, 17, 18, 19, 20, 21, 22, 23, 24, 25, 26] (by decide +kernel) (by decide +kernel)
set_option maxRecDepth 20000 in
theorem gX0_outfitWarmth_X0_warmthOf : GoodIn wsX0_outfitWarmth (wsV RX0 203 RX0 yX0_warmthOf wsX0_warmthOf) := goodIn_app (goodIn_of _ (by decide +kernel)) ggX0_outfitWarmth_X0_warmthOf
theorem dX0_outfitWarmth_0 : decode cX0_outfitWarmth 0 = .ok (.aload_n 0, 1) := by decide +kernel
theorem dX0_outfitWarmth_1 : decode cX0_outfitWarmth 1 = .ok (.iload_n 1, 1) := by decide +kernel
theorem dX0_outfitWarmth_2 : decode cX0_outfitWarmth 2 = .ok (.invokevirtual 203, 3) := by decide +kernel
theorem dX0_outfitWarmth_5 : decode cX0_outfitWarmth 5 = .ok (.aload_n 0, 1) := by decide +kernel
theorem dX0_outfitWarmth_6 : decode cX0_outfitWarmth 6 = .ok (.iload_n 2, 1) := by decide +kernel
theorem dX0_outfitWarmth_7 : decode cX0_outfitWarmth 7 = .ok (.invokevirtual 203, 3) := by decide +kernel
theorem dX0_outfitWarmth_10 : decode cX0_outfitWarmth 10 = .ok (.iadd, 1) := by decide +kernel
theorem dX0_outfitWarmth_11 : decode cX0_outfitWarmth 11 = .ok (.aload_n 0, 1) := by decide +kernel
theorem dX0_outfitWarmth_12 : decode cX0_outfitWarmth 12 = .ok (.iload_n 3, 1) := by decide +kernel
theorem dX0_outfitWarmth_13 : decode cX0_outfitWarmth 13 = .ok (.invokevirtual 203, 3) := by decide +kernel
theorem dX0_outfitWarmth_16 : decode cX0_outfitWarmth 16 = .ok (.iadd, 1) := by decide +kernel
theorem dX0_outfitWarmth_17 : decode cX0_outfitWarmth 17 = .ok (.ireturn, 1) := by decide +kernel
set_option maxRecDepth 20000 in
theorem ggX0_isWarmOutfit_X0_outfitWarmth : GoodIn wsX0_isWarmOutfit wsX0_outfitWarmth := goodIn_r _ [5, 6, 7, 8, 4, 9, 10, 11, 12, 13, 14, 15, 16, 17, 18, 50, 51, 52, 53, 54, 55, 56, 57, 58, 59, 60, 61] (by decide +kernel) (by decide +kernel)
set_option maxRecDepth 20000 in
theorem gX0_isWarmOutfit_X0_outfitWarmth : GoodIn wsX0_isWarmOutfit (wsV RX0 123 RX0 yX0_outfitWarmth wsX0_outfitWarmth) := goodIn_app (goodIn_of _ (by decide +kernel)) ggX0_isWarmOutfit_X0_outfitWarmth
set_option maxRecDepth 20000 in
theorem ggX0_isWarmOutfit_X0_canBeWorn : GoodIn wsX0_isWarmOutfit wsX0_canBeWorn := goodIn_r _ [22, 23, 24, 25, 4, 26, 27, 28, 29, 30, 31, 32, 11, 12, 13, 14, 15, 16, 17, 18, 33, 34, 35, 36, 37, 38, 39, 40, 41, 42, 43, 44, 45, 46, 47, 48, 49, 50, 51, 52, 53, 54, 55, 56, 57, 58, 59, 60, 61] (by decide +kernel) (by decide +kernel)
set_option maxRecDepth 20000 in
theorem gX0_isWarmOutfit_X0_canBeWorn : GoodIn wsX0_isWarmOutfit (wsV RX0 102 RX0 yX0_canBeWorn wsX0_canBeWorn) := goodIn_app (goodIn_of _ (by decide +kernel)) ggX0_isWarmOutfit_X0_canBeWorn
theorem dX0_isWarmOutfit_0 : decode cX0_isWarmOutfit 0 = .ok (.aload_n 0, 1) := by decide +kernel
theorem dX0_isWarmOutfit_1 : decode cX0_isWarmOutfit 1 = .ok (.iload_n 1, 1) := by decide +kernel
theorem dX0_isWarmOutfit_2 : decode cX0_isWarmOutfit 2 = .ok (.iload_n 2, 1) := by decide +kernel
theorem dX0_isWarmOutfit_3 : decode cX0_isWarmOutfit 3 = .ok (.iload_n 3, 1) := by decide +kernel
theorem dX0_isWarmOutfit_4 : decode cX0_isWarmOutfit 4 = .ok (.invokevirtual 123, 3) := by decide +kernel
theorem dX0_isWarmOutfit_7 : decode cX0_isWarmOutfit 7 = .ok (.iload 4, 2) := by decide +kernel
theorem dX0_isWarmOutfit_9 : decode cX0_isWarmOutfit 9 = .ok (.if_icmp .lt 17, 3) := by decide +kernel
theorem dX0_isWarmOutfit_12 : decode cX0_isWarmOutfit 12 = .ok (.aload_n 0, 1) := by decide +kernel
theorem dX0_isWarmOutfit_13 : decode cX0_isWarmOutfit 13 = .ok (.iload_n 1, 1) := by decide +kernel
theorem dX0_isWarmOutfit_14 : decode cX0_isWarmOutfit 14 = .ok (.iload_n 2, 1) := by decide +kernel
theorem dX0_isWarmOutfit_15 : decode cX0_isWarmOutfit 15 = .ok (.iload_n 3, 1) := by decide +kernel
theorem dX0_isWarmOutfit_16 : decode cX0_isWarmOutfit 16 = .ok (.invokevirtual 102, 3) := by decide +kernel
theorem dX0_isWarmOutfit_19 : decode cX0_isWarmOutfit 19 = .ok (.ifCond .eq 7, 3) := by decide +kernel
theorem dX0_isWarmOutfit_22 : decode cX0_isWarmOutfit 22 = .ok (.iconst 1, 1) := by decide +kernel
theorem dX0_isWarmOutfit_23 : decode cX0_isWarmOutfit 23 = .ok (.goto 4, 3) := by decide +kernel
theorem dX0_isWarmOutfit_26 : decode cX0_isWarmOutfit 26 = .ok (.iconst 0, 1) := by decide +kernel
theorem dX0_isWarmOutfit_27 : decode cX0_isWarmOutfit 27 = .ok (.ireturn, 1) := by decide +kernel
set_option maxRecDepth 20000 in
theorem ggX0_countOutfitsOf_X0_canBeWorn : GoodIn wsX0_countOutfitsOf wsX0_canBeWorn := goodIn_r _ [6, 7, 8, 9, 5, 10, 11, 12, 13, 14, 15, 16, 17, 18, 19, 20, 21, 22, 23, 24, 25, 26, 27, 28, 29, 30, 31, 32, 33, 34, 35, 36, 37, 38, 39, 40, 41, 55, 56, 57, 58, 59, 60, 61, 62, 63, 64, 65, 66] (by decide +kernel) (by decide +kernel)
set_option maxRecDepth 20000 in
theorem gX0_countOutfitsOf_X0_canBeWorn : GoodIn wsX0_countOutfitsOf (wsV RX0 102 RX0 yX0_canBeWorn wsX0_canBeWorn) := goodIn_app (goodIn_of _ (by decide +kernel)) ggX0_countOutfitsOf_X0_canBeWorn
set_option maxRecDepth 20000 in
theorem ggX0_countOutfitsOf_X0_isWarmOutfit : GoodIn wsX0_countOutfitsOf wsX0_isWarmOutfit := goodIn_r _ [45, 46, 47, 48, 5, 49, 50, 51, 52, 53, 54, 17, 18, 19, 20, 21, 22, 23, 24, 2, 3, 4, 6, 7, 8, 9, 10, 11, 12, 13, 14, 15, 16, 25, 26, 27, 28, 29, 30, 31, 32, 33, 34, 35, 36, 37, 38, 39, 40, 41, 55, 56, 57, 58, 59, 60, 61, 62, 63, 64, 65, 66] (by decide +kernel) (by decide +kernel)
set_option maxRecDepth 20000 in
theorem gX0_countOutfitsOf_X0_isWarmOutfit : GoodIn wsX0_countOutfitsOf (wsV RX0 135 RX0 yX0_isWarmOutfit wsX0_isWarmOutfit) := goodIn_app (goodIn_of _ (by decide +kernel)) ggX0_countOutfitsOf_X0_isWarmOutfit
theorem dX0_countOutfitsOf_0 : decode cX0_countOutfitsOf 0 = .ok (.aload_n 0, 1) := by decide +kernel
theorem dX0_countOutfitsOf_1 : decode cX0_countOutfitsOf 1 = .ok (.iload_n 1, 1) := by decide +kernel
theorem dX0_countOutfitsOf_2 : decode cX0_countOutfitsOf 2 = .ok (.iload_n 2, 1) := by decide +kernel
theorem dX0_countOutfitsOf_3 : decode cX0_countOutfitsOf 3 = .ok (.iconst (-1), 1) := by decide +kernel
theorem dX0_countOutfitsOf_4 : decode cX0_countOutfitsOf 4 = .ok (.invokevirtual 102, 3) := by decide +kernel
theorem dX0_countOutfitsOf_7 : decode cX0_countOutfitsOf 7 = .ok (.ifCond .ne 5, 3) := by decide +kernel
theorem dX0_countOutfitsOf_10 : decode cX0_countOutfitsOf 10 = .ok (.iconst 0, 1) := by decide +kernel
theorem dX0_countOutfitsOf_11 : decode cX0_countOutfitsOf 11 = .ok (.ireturn, 1) := by decide +kernel
theorem dX0_countOutfitsOf_12 : decode cX0_countOutfitsOf 12 = .ok (.iconst 0, 1) := by decide +kernel
theorem dX0_countOutfitsOf_13 : decode cX0_countOutfitsOf 13 = .ok (.istore 4, 2) := by decide +kernel
theorem dX0_countOutfitsOf_15 : decode cX0_countOutfitsOf 15 = .ok (.iconst (-1), 1) := by decide +kernel
theorem dX0_countOutfitsOf_16 : decode cX0_countOutfitsOf 16 = .ok (.istore 5, 2) := by decide +kernel
theorem dX0_countOutfitsOf_18 : decode cX0_countOutfitsOf 18 = .ok (.iload 5, 2) := by decide +kernel
theorem dX0_countOutfitsOf_20 : decode cX0_countOutfitsOf 20 = .ok (.aload_n 0, 1) := by decide +kernel
theorem dX0_countOutfitsOf_21 : decode cX0_countOutfitsOf 21 = .ok (.getfield 52, 3) := by decide +kernel
theorem dX0_countOutfitsOf_24 : decode cX0_countOutfitsOf 24 = .ok (.if_icmp .ge 24, 3) := by decide +kernel
theorem dX0_countOutfitsOf_27 : decode cX0_countOutfitsOf 27 = .ok (.aload_n 0, 1) := by decide +kernel
theorem dX0_countOutfitsOf_28 : decode cX0_countOutfitsOf 28 = .ok (.iload_n 1, 1) := by decide +kernel
theorem dX0_countOutfitsOf_29 : decode cX0_countOutfitsOf 29 = .ok (.iload_n 2, 1) := by decide +kernel
theorem dX0_countOutfitsOf_30 : decode cX0_countOutfitsOf 30 = .ok (.iload 5, 2) := by decide +kernel
theorem dX0_countOutfitsOf_32 : decode cX0_countOutfitsOf 32 = .ok (.iload_n 3, 1) := by decide +kernel
theorem dX0_countOutfitsOf_33 : decode cX0_countOutfitsOf 33 = .ok (.invokevirtual 135, 3) := by decide +kernel
theorem dX0_countOutfitsOf_36 : decode cX0_countOutfitsOf 36 = .ok (.ifCond .eq 6, 3) := by decide +kernel
theorem dX0_countOutfitsOf_39 : decode cX0_countOutfitsOf 39 = .ok (.iinc 4 1, 3) := by decide +kernel
theorem dX0_countOutfitsOf_42 : decode cX0_countOutfitsOf 42 = .ok (.iinc 5 1, 3) := by decide +kernel
theorem dX0_countOutfitsOf_45 : decode cX0_countOutfitsOf 45 = .ok (.goto (-27), 3) := by decide +kernel
theorem dX0_countOutfitsOf_48 : decode cX0_countOutfitsOf 48 = .ok (.iload 4, 2) := by decide +kernel
theorem dX0_countOutfitsOf_50 : decode cX0_countOutfitsOf 50 = .ok (.ireturn, 1) := by decide +kernel
set_option maxRecDepth 20000 in
theorem ggX0_countBottomsFor_X0_isCleanOfKind : GoodIn wsX0_countBottomsFor wsX0_isCleanOfKind := goodIn_r _ [7, 8, 9, 10, 11, 6, 12, 13, 14, 15, 16, 17, 18, 19, 20, 21, 30, 31, 32, 33, 34, 35, 36, 37, 38, 39, 40, 41] (by decide +kernel) (by decide +kernel)
set_option maxRecDepth 20000 in
theorem gX0_countBottomsFor_X0_isCleanOfKind : GoodIn wsX0_countBottomsFor (wsV RX0 194 RX0 yX0_isCleanOfKind wsX0_isCleanOfKind) := goodIn_app (goodIn_of _ (by decide +kernel)) ggX0_countBottomsFor_X0_isCleanOfKind
set_option maxRecDepth 20000 in
theorem ggX0_countBottomsFor_X0_coloursClash : GoodIn wsX0_countBottomsFor wsX0_coloursClash := goodIn_r _ [25, 26, 27, 28, 6, 29, 30, 31, 32, 33, 34, 35, 36, 37, 38, 39, 40, 41] (by decide +kernel) (by decide +kernel)
set_option maxRecDepth 20000 in
theorem gX0_countBottomsFor_X0_coloursClash : GoodIn wsX0_countBottomsFor (wsV RX0 80 RX0 yX0_coloursClash wsX0_coloursClash) := goodIn_app (goodIn_of _ (by decide +kernel)) ggX0_countBottomsFor_X0_coloursClash
theorem dX0_countBottomsFor_0 : decode cX0_countBottomsFor 0 = .ok (.iconst 0, 1) := by decide +kernel
theorem dX0_countBottomsFor_1 : decode cX0_countBottomsFor 1 = .ok (.istore_n 2, 1) := by decide +kernel
theorem dX0_countBottomsFor_2 : decode cX0_countBottomsFor 2 = .ok (.iconst 0, 1) := by decide +kernel
theorem dX0_countBottomsFor_3 : decode cX0_countBottomsFor 3 = .ok (.istore_n 3, 1) := by decide +kernel
theorem dX0_countBottomsFor_4 : decode cX0_countBottomsFor 4 = .ok (.iload_n 3, 1) := by decide +kernel
theorem dX0_countBottomsFor_5 : decode cX0_countBottomsFor 5 = .ok (.aload_n 0, 1) := by decide +kernel
theorem dX0_countBottomsFor_6 : decode cX0_countBottomsFor 6 = .ok (.getfield 52, 3) := by decide +kernel
theorem dX0_countBottomsFor_9 : decode cX0_countBottomsFor 9 = .ok (.if_icmp .ge 35, 3) := by decide +kernel
theorem dX0_countBottomsFor_12 : decode cX0_countBottomsFor 12 = .ok (.aload_n 0, 1) := by decide +kernel
theorem dX0_countBottomsFor_13 : decode cX0_countBottomsFor 13 = .ok (.iload_n 3, 1) := by decide +kernel
theorem dX0_countBottomsFor_14 : decode cX0_countBottomsFor 14 = .ok (.iconst 1, 1) := by decide +kernel
theorem dX0_countBottomsFor_15 : decode cX0_countBottomsFor 15 = .ok (.invokevirtual 194, 3) := by decide +kernel
theorem dX0_countBottomsFor_18 : decode cX0_countBottomsFor 18 = .ok (.ifCond .eq 20, 3) := by decide +kernel
theorem dX0_countBottomsFor_21 : decode cX0_countBottomsFor 21 = .ok (.aload_n 0, 1) := by decide +kernel
theorem dX0_countBottomsFor_22 : decode cX0_countBottomsFor 22 = .ok (.iload_n 1, 1) := by decide +kernel
theorem dX0_countBottomsFor_23 : decode cX0_countBottomsFor 23 = .ok (.aload_n 0, 1) := by decide +kernel
theorem dX0_countBottomsFor_24 : decode cX0_countBottomsFor 24 = .ok (.getfield 13, 3) := by decide +kernel
theorem dX0_countBottomsFor_27 : decode cX0_countBottomsFor 27 = .ok (.iload_n 3, 1) := by decide +kernel
theorem dX0_countBottomsFor_28 : decode cX0_countBottomsFor 28 = .ok (.iaload, 1) := by decide +kernel
theorem dX0_countBottomsFor_29 : decode cX0_countBottomsFor 29 = .ok (.invokevirtual 80, 3) := by decide +kernel
theorem dX0_countBottomsFor_32 : decode cX0_countBottomsFor 32 = .ok (.ifCond .ne 6, 3) := by decide +kernel
theorem dX0_countBottomsFor_35 : decode cX0_countBottomsFor 35 = .ok (.iinc 2 1, 3) := by decide +kernel
theorem dX0_countBottomsFor_38 : decode cX0_countBottomsFor 38 = .ok (.iinc 3 1, 3) := by decide +kernel
theorem dX0_countBottomsFor_41 : decode cX0_countBottomsFor 41 = .ok (.goto (-37), 3) := by decide +kernel
theorem dX0_countBottomsFor_44 : decode cX0_countBottomsFor 44 = .ok (.iload_n 2, 1) := by decide +kernel
theorem dX0_countBottomsFor_45 : decode cX0_countBottomsFor 45 = .ok (.ireturn, 1) := by decide +kernel
theorem dX0_firstSeat_0 : decode cX0_firstSeat 0 = .ok (.iload_n 0, 1) := by decide +kernel
theorem dX0_firstSeat_1 : decode cX0_firstSeat 1 = .ok (.bipush 12, 2) := by decide +kernel
theorem dX0_firstSeat_3 : decode cX0_firstSeat 3 = .ok (.imul, 1) := by decide +kernel
theorem dX0_firstSeat_4 : decode cX0_firstSeat 4 = .ok (.iload_n 1, 1) := by decide +kernel
theorem dX0_firstSeat_5 : decode cX0_firstSeat 5 = .ok (.iadd, 1) := by decide +kernel
theorem dX0_firstSeat_6 : decode cX0_firstSeat 6 = .ok (.bipush 8, 2) := by decide +kernel
theorem dX0_firstSeat_8 : decode cX0_firstSeat 8 = .ok (.imul, 1) := by decide +kernel
theorem dX0_firstSeat_9 : decode cX0_firstSeat 9 = .ok (.ireturn, 1) := by decide +kernel
set_option maxRecDepth 20000 in
theorem ggX0_wasSeenLately_X0_isThing : GoodIn wsX0_wasSeenLately wsX0_isThing := goodIn_r _ [7, 8, 9, 10, 6, 11, 15, 16, 17, 18, 19, 20, 21, 22, 23, 24, 25, 26] (by decide +kernel) (by decide +kernel)
set_option maxRecDepth 20000 in
theorem gX0_wasSeenLately_X0_isThing : GoodIn wsX0_wasSeenLately (wsV RX0 64 RX0 yX0_isThing wsX0_isThing) := goodIn_app (goodIn_of _ (by decide +kernel)) ggX0_wasSeenLately_X0_isThing
set_option maxRecDepth 20000 in
theorem ggX0_wasSeenLately_X0_firstSeat : GoodIn wsX0_wasSeenLately wsX0_firstSeat := goodIn_r _ [14] (by decide +kernel) (by decide +kernel)
set_option maxRecDepth 20000 in
theorem gX0_wasSeenLately_X0_firstSeat : GoodIn wsX0_wasSeenLately (va_wsS RX0 206 yX0_firstSeat wsX0_firstSeat) := goodIn_app (goodIn_of _ (by decide +kernel)) ggX0_wasSeenLately_X0_firstSeat
theorem dX0_wasSeenLately_0 : decode cX0_wasSeenLately 0 = .ok (.aload_n 0, 1) := by decide +kernel
theorem dX0_wasSeenLately_1 : decode cX0_wasSeenLately 1 = .ok (.iload_n 1, 1) := by decide +kernel
theorem dX0_wasSeenLately_2 : decode cX0_wasSeenLately 2 = .ok (.invokevirtual 64, 3) := by decide +kernel
theorem dX0_wasSeenLately_5 : decode cX0_wasSeenLately 5 = .ok (.ifCond .eq 11, 3) := by decide +kernel
theorem dX0_wasSeenLately_8 : decode cX0_wasSeenLately 8 = .ok (.aload_n 0, 1) := by decide +kernel
theorem dX0_wasSeenLately_9 : decode cX0_wasSeenLately 9 = .ok (.iload_n 2, 1) := by decide +kernel
theorem dX0_wasSeenLately_10 : decode cX0_wasSeenLately 10 = .ok (.invokevirtual 64, 3) := by decide +kernel
theorem dX0_wasSeenLately_13 : decode cX0_wasSeenLately 13 = .ok (.ifCond .ne 5, 3) := by decide +kernel
theorem dX0_wasSeenLately_16 : decode cX0_wasSeenLately 16 = .ok (.iconst 0, 1) := by decide +kernel
theorem dX0_wasSeenLately_17 : decode cX0_wasSeenLately 17 = .ok (.ireturn, 1) := by decide +kernel
theorem dX0_wasSeenLately_18 : decode cX0_wasSeenLately 18 = .ok (.iload_n 1, 1) := by decide +kernel
theorem dX0_wasSeenLately_19 : decode cX0_wasSeenLately 19 = .ok (.iload_n 2, 1) := by decide +kernel
theorem dX0_wasSeenLately_20 : decode cX0_wasSeenLately 20 = .ok (.invokestatic 206, 3) := by decide +kernel
theorem dX0_wasSeenLately_23 : decode cX0_wasSeenLately 23 = .ok (.istore 4, 2) := by decide +kernel
theorem dX0_wasSeenLately_25 : decode cX0_wasSeenLately 25 = .ok (.iconst 0, 1) := by decide +kernel
theorem dX0_wasSeenLately_26 : decode cX0_wasSeenLately 26 = .ok (.istore 5, 2) := by decide +kernel
theorem dX0_wasSeenLately_28 : decode cX0_wasSeenLately 28 = .ok (.iload 5, 2) := by decide +kernel
theorem dX0_wasSeenLately_30 : decode cX0_wasSeenLately 30 = .ok (.bipush 8, 2) := by decide +kernel
theorem dX0_wasSeenLately_32 : decode cX0_wasSeenLately 32 = .ok (.if_icmp .ge 37, 3) := by decide +kernel
theorem dX0_wasSeenLately_35 : decode cX0_wasSeenLately 35 = .ok (.iload_n 3, 1) := by decide +kernel
theorem dX0_wasSeenLately_36 : decode cX0_wasSeenLately 36 = .ok (.iload 5, 2) := by decide +kernel
theorem dX0_wasSeenLately_38 : decode cX0_wasSeenLately 38 = .ok (.ishr, 1) := by decide +kernel
theorem dX0_wasSeenLately_39 : decode cX0_wasSeenLately 39 = .ok (.iconst 1, 1) := by decide +kernel
theorem dX0_wasSeenLately_40 : decode cX0_wasSeenLately 40 = .ok (.iand, 1) := by decide +kernel
theorem dX0_wasSeenLately_41 : decode cX0_wasSeenLately 41 = .ok (.ifCond .eq 22, 3) := by decide +kernel
theorem dX0_wasSeenLately_44 : decode cX0_wasSeenLately 44 = .ok (.aload_n 0, 1) := by decide +kernel
theorem dX0_wasSeenLately_45 : decode cX0_wasSeenLately 45 = .ok (.getfield 162, 3) := by decide +kernel
theorem dX0_wasSeenLately_48 : decode cX0_wasSeenLately 48 = .ok (.aload_n 0, 1) := by decide +kernel
theorem dX0_wasSeenLately_49 : decode cX0_wasSeenLately 49 = .ok (.getfield 28, 3) := by decide +kernel
theorem dX0_wasSeenLately_52 : decode cX0_wasSeenLately 52 = .ok (.iload 4, 2) := by decide +kernel
theorem dX0_wasSeenLately_54 : decode cX0_wasSeenLately 54 = .ok (.iload 5, 2) := by decide +kernel
theorem dX0_wasSeenLately_56 : decode cX0_wasSeenLately 56 = .ok (.iadd, 1) := by decide +kernel
theorem dX0_wasSeenLately_57 : decode cX0_wasSeenLately 57 = .ok (.iaload, 1) := by decide +kernel
theorem dX0_wasSeenLately_58 : decode cX0_wasSeenLately 58 = .ok (.if_icmp .ge 5, 3) := by decide +kernel
theorem dX0_wasSeenLately_61 : decode cX0_wasSeenLately 61 = .ok (.iconst 1, 1) := by decide +kernel
theorem dX0_wasSeenLately_62 : decode cX0_wasSeenLately 62 = .ok (.ireturn, 1) := by decide +kernel
theorem dX0_wasSeenLately_63 : decode cX0_wasSeenLately 63 = .ok (.iinc 5 1, 3) := by decide +kernel
theorem dX0_wasSeenLately_66 : decode cX0_wasSeenLately 66 = .ok (.goto (-38), 3) := by decide +kernel
theorem dX0_wasSeenLately_69 : decode cX0_wasSeenLately 69 = .ok (.iconst 0, 1) := by decide +kernel
theorem dX0_wasSeenLately_70 : decode cX0_wasSeenLately 70 = .ok (.ireturn, 1) := by decide +kernel
set_option maxRecDepth 20000 in
theorem ggX0_showTo_X0_isThing : GoodIn wsX0_showTo wsX0_isThing := goodIn_r _ [7, 8, 9, 10, 6, 11, 15, 16, 17, 18, 19, 20, 21, 22, 23, 24, 25, 26] (by decide +kernel) (by decide +kernel)
set_option maxRecDepth 20000 in
theorem gX0_showTo_X0_isThing : GoodIn wsX0_showTo (wsV RX0 64 RX0 yX0_isThing wsX0_isThing) := goodIn_app (goodIn_of _ (by decide +kernel)) ggX0_showTo_X0_isThing
set_option maxRecDepth 20000 in
theorem ggX0_showTo_X0_firstSeat : GoodIn wsX0_showTo wsX0_firstSeat := goodIn_r _ [14] (by decide +kernel) (by decide +kernel)
set_option maxRecDepth 20000 in
theorem gX0_showTo_X0_firstSeat : GoodIn wsX0_showTo (va_wsS RX0 206 yX0_firstSeat wsX0_firstSeat) := goodIn_app (goodIn_of _ (by decide +kernel)) ggX0_showTo_X0_firstSeat
theorem dX0_showTo_0 : decode cX0_showTo 0 = .ok (.aload_n 0, 1) := by decide +kernel
theorem dX0_showTo_1 : decode cX0_showTo 1 = .ok (.iload_n 1, 1) := by decide +kernel
theorem dX0_showTo_2 : decode cX0_showTo 2 = .ok (.invokevirtual 64, 3) := by decide +kernel
theorem dX0_showTo_5 : decode cX0_showTo 5 = .ok (.ifCond .eq 11, 3) := by decide +kernel
theorem dX0_showTo_8 : decode cX0_showTo 8 = .ok (.aload_n 0, 1) := by decide +kernel
theorem dX0_showTo_9 : decode cX0_showTo 9 = .ok (.iload_n 2, 1) := by decide +kernel
theorem dX0_showTo_10 : decode cX0_showTo 10 = .ok (.invokevirtual 64, 3) := by decide +kernel
theorem dX0_showTo_13 : decode cX0_showTo 13 = .ok (.ifCond .ne 4, 3) := by decide +kernel
theorem dX0_showTo_16 : decode cX0_showTo 16 = .ok (.return_, 1) := by decide +kernel
theorem dX0_showTo_17 : decode cX0_showTo 17 = .ok (.iload_n 1, 1) := by decide +kernel
theorem dX0_showTo_18 : decode cX0_showTo 18 = .ok (.iload_n 2, 1) := by decide +kernel
theorem dX0_showTo_19 : decode cX0_showTo 19 = .ok (.invokestatic 206, 3) := by decide +kernel
theorem dX0_showTo_22 : decode cX0_showTo 22 = .ok (.istore 4, 2) := by decide +kernel
theorem dX0_showTo_24 : decode cX0_showTo 24 = .ok (.iconst 0, 1) := by decide +kernel
theorem dX0_showTo_25 : decode cX0_showTo 25 = .ok (.istore 5, 2) := by decide +kernel
theorem dX0_showTo_27 : decode cX0_showTo 27 = .ok (.iload 5, 2) := by decide +kernel
theorem dX0_showTo_29 : decode cX0_showTo 29 = .ok (.bipush 8, 2) := by decide +kernel
theorem dX0_showTo_31 : decode cX0_showTo 31 = .ok (.if_icmp .ge 35, 3) := by decide +kernel
theorem dX0_showTo_34 : decode cX0_showTo 34 = .ok (.iload_n 3, 1) := by decide +kernel
theorem dX0_showTo_35 : decode cX0_showTo 35 = .ok (.iload 5, 2) := by decide +kernel
theorem dX0_showTo_37 : decode cX0_showTo 37 = .ok (.ishr, 1) := by decide +kernel
theorem dX0_showTo_38 : decode cX0_showTo 38 = .ok (.iconst 1, 1) := by decide +kernel
theorem dX0_showTo_39 : decode cX0_showTo 39 = .ok (.iand, 1) := by decide +kernel
theorem dX0_showTo_40 : decode cX0_showTo 40 = .ok (.ifCond .eq 20, 3) := by decide +kernel
theorem dX0_showTo_43 : decode cX0_showTo 43 = .ok (.aload_n 0, 1) := by decide +kernel
theorem dX0_showTo_44 : decode cX0_showTo 44 = .ok (.getfield 28, 3) := by decide +kernel
theorem dX0_showTo_47 : decode cX0_showTo 47 = .ok (.iload 4, 2) := by decide +kernel
theorem dX0_showTo_49 : decode cX0_showTo 49 = .ok (.iload 5, 2) := by decide +kernel
theorem dX0_showTo_51 : decode cX0_showTo 51 = .ok (.iadd, 1) := by decide +kernel
theorem dX0_showTo_52 : decode cX0_showTo 52 = .ok (.aload_n 0, 1) := by decide +kernel
theorem dX0_showTo_53 : decode cX0_showTo 53 = .ok (.getfield 162, 3) := by decide +kernel
theorem dX0_showTo_56 : decode cX0_showTo 56 = .ok (.bipush 7, 2) := by decide +kernel
theorem dX0_showTo_58 : decode cX0_showTo 58 = .ok (.iadd, 1) := by decide +kernel
theorem dX0_showTo_59 : decode cX0_showTo 59 = .ok (.iastore, 1) := by decide +kernel
theorem dX0_showTo_60 : decode cX0_showTo 60 = .ok (.iinc 5 1, 3) := by decide +kernel
theorem dX0_showTo_63 : decode cX0_showTo 63 = .ok (.goto (-36), 3) := by decide +kernel
theorem dX0_showTo_66 : decode cX0_showTo 66 = .ok (.return_, 1) := by decide +kernel
set_option maxRecDepth 20000 in
theorem ggX0_isWashedWith_X0_isThing : GoodIn wsX0_isWashedWith wsX0_isThing := goodIn_r _ [7, 8, 9, 10, 6, 11, 12, 13, 14, 15, 16, 17, 18, 19, 20, 21, 22, 23] (by decide +kernel) (by decide +kernel)
set_option maxRecDepth 20000 in
theorem gX0_isWashedWith_X0_isThing : GoodIn wsX0_isWashedWith (wsV RX0 64 RX0 yX0_isThing wsX0_isThing) := goodIn_app (goodIn_of _ (by decide +kernel)) ggX0_isWashedWith_X0_isThing
theorem dX0_isWashedWith_0 : decode cX0_isWashedWith 0 = .ok (.aload_n 0, 1) := by decide +kernel
theorem dX0_isWashedWith_1 : decode cX0_isWashedWith 1 = .ok (.iload_n 1, 1) := by decide +kernel
theorem dX0_isWashedWith_2 : decode cX0_isWashedWith 2 = .ok (.invokevirtual 64, 3) := by decide +kernel
theorem dX0_isWashedWith_5 : decode cX0_isWashedWith 5 = .ok (.ifCond .eq 36, 3) := by decide +kernel
theorem dX0_isWashedWith_8 : decode cX0_isWashedWith 8 = .ok (.aload_n 0, 1) := by decide +kernel
theorem dX0_isWashedWith_9 : decode cX0_isWashedWith 9 = .ok (.getfield 22, 3) := by decide +kernel
theorem dX0_isWashedWith_12 : decode cX0_isWashedWith 12 = .ok (.iload_n 1, 1) := by decide +kernel
theorem dX0_isWashedWith_13 : decode cX0_isWashedWith 13 = .ok (.iaload, 1) := by decide +kernel
theorem dX0_isWashedWith_14 : decode cX0_isWashedWith 14 = .ok (.iload_n 2, 1) := by decide +kernel
theorem dX0_isWashedWith_15 : decode cX0_isWashedWith 15 = .ok (.if_icmp .ne 26, 3) := by decide +kernel
theorem dX0_isWashedWith_18 : decode cX0_isWashedWith 18 = .ok (.aload_n 0, 1) := by decide +kernel
theorem dX0_isWashedWith_19 : decode cX0_isWashedWith 19 = .ok (.getfield 13, 3) := by decide +kernel
theorem dX0_isWashedWith_22 : decode cX0_isWashedWith 22 = .ok (.iload_n 1, 1) := by decide +kernel
theorem dX0_isWashedWith_23 : decode cX0_isWashedWith 23 = .ok (.iaload, 1) := by decide +kernel
theorem dX0_isWashedWith_24 : decode cX0_isWashedWith 24 = .ok (.iconst 4, 1) := by decide +kernel
theorem dX0_isWashedWith_25 : decode cX0_isWashedWith 25 = .ok (.if_icmp .lt 7, 3) := by decide +kernel
theorem dX0_isWashedWith_28 : decode cX0_isWashedWith 28 = .ok (.iconst 1, 1) := by decide +kernel
theorem dX0_isWashedWith_29 : decode cX0_isWashedWith 29 = .ok (.goto 4, 3) := by decide +kernel
theorem dX0_isWashedWith_32 : decode cX0_isWashedWith 32 = .ok (.iconst 0, 1) := by decide +kernel
theorem dX0_isWashedWith_33 : decode cX0_isWashedWith 33 = .ok (.iload_n 3, 1) := by decide +kernel
theorem dX0_isWashedWith_34 : decode cX0_isWashedWith 34 = .ok (.if_icmp .ne 7, 3) := by decide +kernel
theorem dX0_isWashedWith_37 : decode cX0_isWashedWith 37 = .ok (.iconst 1, 1) := by decide +kernel
theorem dX0_isWashedWith_38 : decode cX0_isWashedWith 38 = .ok (.goto 4, 3) := by decide +kernel
theorem dX0_isWashedWith_41 : decode cX0_isWashedWith 41 = .ok (.iconst 0, 1) := by decide +kernel
theorem dX0_isWashedWith_42 : decode cX0_isWashedWith 42 = .ok (.ireturn, 1) := by decide +kernel
set_option maxRecDepth 20000 in
theorem ggX0_nextToWash_X0_isWashedWith : GoodIn wsX0_nextToWash wsX0_isWashedWith := goodIn_r _ [8, 9, 10, 11, 12, 13, 7, 14, 15, 16, 17, 18, 23, 24, 25, 26, 27, 28, 29, 30, 31, 32, 33, 34] (by decide +kernel) (by decide +kernel)
set_option maxRecDepth 20000 in
theorem gX0_nextToWash_X0_isWashedWith : GoodIn wsX0_nextToWash (wsV RX0 146 RX0 yX0_isWashedWith wsX0_isWashedWith) := goodIn_app (goodIn_of _ (by decide +kernel)) ggX0_nextToWash_X0_isWashedWith
set_option maxRecDepth 20000 in
theorem ggX0_nextToWash_X0_wearsLeftOf : GoodIn wsX0_nextToWash wsX0_wearsLeftOf := goodIn_r _ [22, 2, 11, 12, 13, 7, 14, 15, 16, 17, 18, 23, 24, 25, 26, 27, 28, 29, 30, 31, 32, 33, 34] (by decide +kernel) (by decide +kernel)
set_option maxRecDepth 20000 in
theorem gX0_nextToWash_X0_wearsLeftOf : GoodIn wsX0_nextToWash (wsV RX0 150 RX0 yX0_wearsLeftOf wsX0_wearsLeftOf) := goodIn_app (goodIn_of _ (by decide +kernel)) ggX0_nextToWash_X0_wearsLeftOf
theorem dX0_nextToWash_0 : decode cX0_nextToWash 0 = .ok (.iconst (-1), 1) := by decide +kernel
theorem dX0_nextToWash_1 : decode cX0_nextToWash 1 = .ok (.istore_n 3, 1) := by decide +kernel
theorem dX0_nextToWash_2 : decode cX0_nextToWash 2 = .ok (.iconst 0, 1) := by decide +kernel
theorem dX0_nextToWash_3 : decode cX0_nextToWash 3 = .ok (.istore 4, 2) := by decide +kernel
theorem dX0_nextToWash_5 : decode cX0_nextToWash 5 = .ok (.iload 4, 2) := by decide +kernel
theorem dX0_nextToWash_7 : decode cX0_nextToWash 7 = .ok (.aload_n 0, 1) := by decide +kernel
theorem dX0_nextToWash_8 : decode cX0_nextToWash 8 = .ok (.getfield 52, 3) := by decide +kernel
theorem dX0_nextToWash_11 : decode cX0_nextToWash 11 = .ok (.if_icmp .ge 60, 3) := by decide +kernel
theorem dX0_nextToWash_14 : decode cX0_nextToWash 14 = .ok (.aload_n 0, 1) := by decide +kernel
theorem dX0_nextToWash_15 : decode cX0_nextToWash 15 = .ok (.iload 4, 2) := by decide +kernel
theorem dX0_nextToWash_17 : decode cX0_nextToWash 17 = .ok (.iload_n 1, 1) := by decide +kernel
theorem dX0_nextToWash_18 : decode cX0_nextToWash 18 = .ok (.iload_n 2, 1) := by decide +kernel
theorem dX0_nextToWash_19 : decode cX0_nextToWash 19 = .ok (.invokevirtual 146, 3) := by decide +kernel
theorem dX0_nextToWash_22 : decode cX0_nextToWash 22 = .ok (.ifCond .eq 43, 3) := by decide +kernel
theorem dX0_nextToWash_25 : decode cX0_nextToWash 25 = .ok (.aload_n 0, 1) := by decide +kernel
theorem dX0_nextToWash_26 : decode cX0_nextToWash 26 = .ok (.getfield 25, 3) := by decide +kernel
theorem dX0_nextToWash_29 : decode cX0_nextToWash 29 = .ok (.iload 4, 2) := by decide +kernel
theorem dX0_nextToWash_31 : decode cX0_nextToWash 31 = .ok (.iaload, 1) := by decide +kernel
theorem dX0_nextToWash_32 : decode cX0_nextToWash 32 = .ok (.aload_n 0, 1) := by decide +kernel
theorem dX0_nextToWash_33 : decode cX0_nextToWash 33 = .ok (.getfield 19, 3) := by decide +kernel
theorem dX0_nextToWash_36 : decode cX0_nextToWash 36 = .ok (.iload 4, 2) := by decide +kernel
theorem dX0_nextToWash_38 : decode cX0_nextToWash 38 = .ok (.iaload, 1) := by decide +kernel
theorem dX0_nextToWash_39 : decode cX0_nextToWash 39 = .ok (.if_icmp .ge 26, 3) := by decide +kernel
theorem dX0_nextToWash_42 : decode cX0_nextToWash 42 = .ok (.iload_n 3, 1) := by decide +kernel
theorem dX0_nextToWash_43 : decode cX0_nextToWash 43 = .ok (.iconst (-1), 1) := by decide +kernel
theorem dX0_nextToWash_44 : decode cX0_nextToWash 44 = .ok (.if_icmp .eq 18, 3) := by decide +kernel
theorem dX0_nextToWash_47 : decode cX0_nextToWash 47 = .ok (.aload_n 0, 1) := by decide +kernel
theorem dX0_nextToWash_48 : decode cX0_nextToWash 48 = .ok (.getfield 25, 3) := by decide +kernel
theorem dX0_nextToWash_51 : decode cX0_nextToWash 51 = .ok (.iload 4, 2) := by decide +kernel
theorem dX0_nextToWash_53 : decode cX0_nextToWash 53 = .ok (.iaload, 1) := by decide +kernel
theorem dX0_nextToWash_54 : decode cX0_nextToWash 54 = .ok (.aload_n 0, 1) := by decide +kernel
theorem dX0_nextToWash_55 : decode cX0_nextToWash 55 = .ok (.iload_n 3, 1) := by decide +kernel
theorem dX0_nextToWash_56 : decode cX0_nextToWash 56 = .ok (.invokevirtual 150, 3) := by decide +kernel
theorem dX0_nextToWash_59 : decode cX0_nextToWash 59 = .ok (.if_icmp .ge 6, 3) := by decide +kernel
theorem dX0_nextToWash_62 : decode cX0_nextToWash 62 = .ok (.iload 4, 2) := by decide +kernel
theorem dX0_nextToWash_64 : decode cX0_nextToWash 64 = .ok (.istore_n 3, 1) := by decide +kernel
theorem dX0_nextToWash_65 : decode cX0_nextToWash 65 = .ok (.iinc 4 1, 3) := by decide +kernel
theorem dX0_nextToWash_68 : decode cX0_nextToWash 68 = .ok (.goto (-63), 3) := by decide +kernel
theorem dX0_nextToWash_71 : decode cX0_nextToWash 71 = .ok (.iload_n 3, 1) := by decide +kernel
theorem dX0_nextToWash_72 : decode cX0_nextToWash 72 = .ok (.ireturn, 1) := by decide +kernel
set_option maxRecDepth 20000 in
theorem ggX0_thingsOfKind_X0_isOfKind : GoodIn wsX0_thingsOfKind wsX0_isOfKind := goodIn_r _ [6, 7, 8, 9, 10, 5, 11, 12, 13, 14, 15, 16, 17, 18, 19, 20, 21, 22, 23, 24, 25, 26, 27] (by decide +kernel) (by decide +kernel)
set_option maxRecDepth 20000 in
theorem gX0_thingsOfKind_X0_isOfKind : GoodIn wsX0_thingsOfKind (wsV RX0 191 RX0 yX0_isOfKind wsX0_isOfKind) := goodIn_app (goodIn_of _ (by decide +kernel)) ggX0_thingsOfKind_X0_isOfKind
theorem dX0_thingsOfKind_0 : decode cX0_thingsOfKind 0 = .ok (.iconst 0, 1) := by decide +kernel
theorem dX0_thingsOfKind_1 : decode cX0_thingsOfKind 1 = .ok (.istore_n 2, 1) := by decide +kernel
theorem dX0_thingsOfKind_2 : decode cX0_thingsOfKind 2 = .ok (.iconst 0, 1) := by decide +kernel
theorem dX0_thingsOfKind_3 : decode cX0_thingsOfKind 3 = .ok (.istore_n 3, 1) := by decide +kernel
theorem dX0_thingsOfKind_4 : decode cX0_thingsOfKind 4 = .ok (.iload_n 3, 1) := by decide +kernel
theorem dX0_thingsOfKind_5 : decode cX0_thingsOfKind 5 = .ok (.aload_n 0, 1) := by decide +kernel
theorem dX0_thingsOfKind_6 : decode cX0_thingsOfKind 6 = .ok (.getfield 52, 3) := by decide +kernel
theorem dX0_thingsOfKind_9 : decode cX0_thingsOfKind 9 = .ok (.if_icmp .ge 24, 3) := by decide +kernel
theorem dX0_thingsOfKind_12 : decode cX0_thingsOfKind 12 = .ok (.aload_n 0, 1) := by decide +kernel
theorem dX0_thingsOfKind_13 : decode cX0_thingsOfKind 13 = .ok (.iload_n 3, 1) := by decide +kernel
theorem dX0_thingsOfKind_14 : decode cX0_thingsOfKind 14 = .ok (.iload_n 1, 1) := by decide +kernel
theorem dX0_thingsOfKind_15 : decode cX0_thingsOfKind 15 = .ok (.invokevirtual 191, 3) := by decide +kernel
theorem dX0_thingsOfKind_18 : decode cX0_thingsOfKind 18 = .ok (.ifCond .eq 9, 3) := by decide +kernel
theorem dX0_thingsOfKind_21 : decode cX0_thingsOfKind 21 = .ok (.iload_n 2, 1) := by decide +kernel
theorem dX0_thingsOfKind_22 : decode cX0_thingsOfKind 22 = .ok (.iconst 1, 1) := by decide +kernel
theorem dX0_thingsOfKind_23 : decode cX0_thingsOfKind 23 = .ok (.iload_n 3, 1) := by decide +kernel
theorem dX0_thingsOfKind_24 : decode cX0_thingsOfKind 24 = .ok (.ishl, 1) := by decide +kernel
theorem dX0_thingsOfKind_25 : decode cX0_thingsOfKind 25 = .ok (.ior, 1) := by decide +kernel
theorem dX0_thingsOfKind_26 : decode cX0_thingsOfKind 26 = .ok (.istore_n 2, 1) := by decide +kernel
theorem dX0_thingsOfKind_27 : decode cX0_thingsOfKind 27 = .ok (.iinc 3 1, 3) := by decide +kernel
theorem dX0_thingsOfKind_30 : decode cX0_thingsOfKind 30 = .ok (.goto (-26), 3) := by decide +kernel
theorem dX0_thingsOfKind_33 : decode cX0_thingsOfKind 33 = .ok (.iload_n 2, 1) := by decide +kernel
theorem dX0_thingsOfKind_34 : decode cX0_thingsOfKind 34 = .ok (.ireturn, 1) := by decide +kernel
set_option maxRecDepth 20000 in
theorem ggX0_findPartners_X0_arePartners : GoodIn wsX0_findPartners wsX0_arePartners := goodIn_r _ [7, 8, 9, 10, 6, 11, 12, 13, 14, 15, 16, 17, 18, 19, 20, 21, 22, 23, 24, 25, 26, 27, 28, 29, 30, 31, 32, 33, 34, 35, 36, 37, 38, 39, 40, 41, 42, 43, 44, 45, 46, 47, 48, 49, 50, 51, 52, 53, 54, 55, 56, 57, 58] (by decide +kernel) (by decide +kernel)
set_option maxRecDepth 20000 in
theorem gX0_findPartners_X0_arePartners : GoodIn wsX0_findPartners (wsV RX0 209 RX0 yX0_arePartners wsX0_arePartners) := goodIn_app (goodIn_of _ (by decide +kernel)) ggX0_findPartners_X0_arePartners
theorem dX0_findPartners_0 : decode cX0_findPartners 0 = .ok (.iconst 0, 1) := by decide +kernel
theorem dX0_findPartners_1 : decode cX0_findPartners 1 = .ok (.istore_n 2, 1) := by decide +kernel
theorem dX0_findPartners_2 : decode cX0_findPartners 2 = .ok (.iload_n 2, 1) := by decide +kernel
theorem dX0_findPartners_3 : decode cX0_findPartners 3 = .ok (.bipush 12, 2) := by decide +kernel
theorem dX0_findPartners_5 : decode cX0_findPartners 5 = .ok (.if_icmp .ge 16, 3) := by decide +kernel
theorem dX0_findPartners_8 : decode cX0_findPartners 8 = .ok (.aload_n 0, 1) := by decide +kernel
theorem dX0_findPartners_9 : decode cX0_findPartners 9 = .ok (.getfield 31, 3) := by decide +kernel
theorem dX0_findPartners_12 : decode cX0_findPartners 12 = .ok (.iload_n 2, 1) := by decide +kernel
theorem dX0_findPartners_13 : decode cX0_findPartners 13 = .ok (.iconst 0, 1) := by decide +kernel
theorem dX0_findPartners_14 : decode cX0_findPartners 14 = .ok (.iastore, 1) := by decide +kernel
theorem dX0_findPartners_15 : decode cX0_findPartners 15 = .ok (.iinc 2 1, 3) := by decide +kernel
theorem dX0_findPartners_18 : decode cX0_findPartners 18 = .ok (.goto (-16), 3) := by decide +kernel
theorem dX0_findPartners_21 : decode cX0_findPartners 21 = .ok (.iconst 0, 1) := by decide +kernel
theorem dX0_findPartners_22 : decode cX0_findPartners 22 = .ok (.istore_n 2, 1) := by decide +kernel
theorem dX0_findPartners_23 : decode cX0_findPartners 23 = .ok (.iload_n 2, 1) := by decide +kernel
theorem dX0_findPartners_24 : decode cX0_findPartners 24 = .ok (.aload_n 0, 1) := by decide +kernel
theorem dX0_findPartners_25 : decode cX0_findPartners 25 = .ok (.getfield 52, 3) := by decide +kernel
theorem dX0_findPartners_28 : decode cX0_findPartners 28 = .ok (.if_icmp .ge 59, 3) := by decide +kernel
theorem dX0_findPartners_31 : decode cX0_findPartners 31 = .ok (.iconst 0, 1) := by decide +kernel
theorem dX0_findPartners_32 : decode cX0_findPartners 32 = .ok (.istore_n 3, 1) := by decide +kernel
theorem dX0_findPartners_33 : decode cX0_findPartners 33 = .ok (.iload_n 3, 1) := by decide +kernel
theorem dX0_findPartners_34 : decode cX0_findPartners 34 = .ok (.aload_n 0, 1) := by decide +kernel
theorem dX0_findPartners_35 : decode cX0_findPartners 35 = .ok (.getfield 52, 3) := by decide +kernel
theorem dX0_findPartners_38 : decode cX0_findPartners 38 = .ok (.if_icmp .ge 43, 3) := by decide +kernel
theorem dX0_findPartners_41 : decode cX0_findPartners 41 = .ok (.aload_n 0, 1) := by decide +kernel
theorem dX0_findPartners_42 : decode cX0_findPartners 42 = .ok (.iload_n 2, 1) := by decide +kernel
theorem dX0_findPartners_43 : decode cX0_findPartners 43 = .ok (.iload_n 3, 1) := by decide +kernel
theorem dX0_findPartners_44 : decode cX0_findPartners 44 = .ok (.iload_n 1, 1) := by decide +kernel
theorem dX0_findPartners_45 : decode cX0_findPartners 45 = .ok (.invokevirtual 209, 3) := by decide +kernel
theorem dX0_findPartners_48 : decode cX0_findPartners 48 = .ok (.ifCond .eq 27, 3) := by decide +kernel
theorem dX0_findPartners_51 : decode cX0_findPartners 51 = .ok (.aload_n 0, 1) := by decide +kernel
theorem dX0_findPartners_52 : decode cX0_findPartners 52 = .ok (.getfield 31, 3) := by decide +kernel
theorem dX0_findPartners_55 : decode cX0_findPartners 55 = .ok (.iload_n 2, 1) := by decide +kernel
theorem dX0_findPartners_56 : decode cX0_findPartners 56 = .ok (.dup2, 1) := by decide +kernel
theorem dX0_findPartners_57 : decode cX0_findPartners 57 = .ok (.iaload, 1) := by decide +kernel
theorem dX0_findPartners_58 : decode cX0_findPartners 58 = .ok (.iconst 1, 1) := by decide +kernel
theorem dX0_findPartners_59 : decode cX0_findPartners 59 = .ok (.iload_n 3, 1) := by decide +kernel
theorem dX0_findPartners_60 : decode cX0_findPartners 60 = .ok (.ishl, 1) := by decide +kernel
theorem dX0_findPartners_61 : decode cX0_findPartners 61 = .ok (.ior, 1) := by decide +kernel
theorem dX0_findPartners_62 : decode cX0_findPartners 62 = .ok (.iastore, 1) := by decide +kernel
theorem dX0_findPartners_63 : decode cX0_findPartners 63 = .ok (.aload_n 0, 1) := by decide +kernel
theorem dX0_findPartners_64 : decode cX0_findPartners 64 = .ok (.getfield 31, 3) := by decide +kernel
theorem dX0_findPartners_67 : decode cX0_findPartners 67 = .ok (.iload_n 3, 1) := by decide +kernel
theorem dX0_findPartners_68 : decode cX0_findPartners 68 = .ok (.dup2, 1) := by decide +kernel
theorem dX0_findPartners_69 : decode cX0_findPartners 69 = .ok (.iaload, 1) := by decide +kernel
theorem dX0_findPartners_70 : decode cX0_findPartners 70 = .ok (.iconst 1, 1) := by decide +kernel
theorem dX0_findPartners_71 : decode cX0_findPartners 71 = .ok (.iload_n 2, 1) := by decide +kernel
theorem dX0_findPartners_72 : decode cX0_findPartners 72 = .ok (.ishl, 1) := by decide +kernel
theorem dX0_findPartners_73 : decode cX0_findPartners 73 = .ok (.ior, 1) := by decide +kernel
theorem dX0_findPartners_74 : decode cX0_findPartners 74 = .ok (.iastore, 1) := by decide +kernel
theorem dX0_findPartners_75 : decode cX0_findPartners 75 = .ok (.iinc 3 1, 3) := by decide +kernel
theorem dX0_findPartners_78 : decode cX0_findPartners 78 = .ok (.goto (-45), 3) := by decide +kernel
theorem dX0_findPartners_81 : decode cX0_findPartners 81 = .ok (.iinc 2 1, 3) := by decide +kernel
theorem dX0_findPartners_84 : decode cX0_findPartners 84 = .ok (.goto (-61), 3) := by decide +kernel
theorem dX0_findPartners_87 : decode cX0_findPartners 87 = .ok (.return_, 1) := by decide +kernel
set_option maxRecDepth 20000 in
theorem ggX0_arePartners_X0_areOfTheirKinds : GoodIn wsX0_arePartners wsX0_areOfTheirKinds := goodIn_r _ [5, 6, 7, 8, 4, 9, 10, 11, 12, 13, 14, 15, 16, 17, 18, 41, 42, 43, 44, 45, 46, 47, 48, 49, 50, 51, 52] (by decide +kernel) (by decide +kernel)
set_option maxRecDepth 20000 in
theorem gX0_arePartners_X0_areOfTheirKinds : GoodIn wsX0_arePartners (wsV RX0 97 RX0 yX0_areOfTheirKinds wsX0_areOfTheirKinds) := goodIn_app (goodIn_of _ (by decide +kernel)) ggX0_arePartners_X0_areOfTheirKinds
set_option maxRecDepth 20000 in
theorem ggX0_arePartners_X0_doClash : GoodIn wsX0_arePartners wsX0_doClash := goodIn_r _ [22, 23, 11, 12, 13, 4, 14, 15, 16, 17, 18, 24, 25, 26, 27, 28, 29, 30, 31, 41, 42, 43, 44, 45, 46, 47, 48, 49, 50, 51, 52] (by decide +kernel) (by decide +kernel)
set_option maxRecDepth 20000 in
theorem gX0_arePartners_X0_doClash : GoodIn wsX0_arePartners (wsV RX0 197 RX0 yX0_doClash wsX0_doClash) := goodIn_app (goodIn_of _ (by decide +kernel)) ggX0_arePartners_X0_doClash
set_option maxRecDepth 20000 in
theorem ggX0_arePartners_X0_outfitWarmth : GoodIn wsX0_arePartners wsX0_outfitWarmth := goodIn_r _ [35, 36, 37, 38, 4, 39, 40, 11, 12, 13, 14, 15, 16, 17, 18, 41, 42, 43, 44, 45, 46, 47, 48, 49, 50, 51, 52] (by decide +kernel) (by decide +kernel)
set_option maxRecDepth 20000 in
theorem gX0_arePartners_X0_outfitWarmth : GoodIn wsX0_arePartners (wsV RX0 123 RX0 yX0_outfitWarmth wsX0_outfitWarmth) := goodIn_app (goodIn_of _ (by decide +kernel)) ggX0_arePartners_X0_outfitWarmth
theorem dX0_arePartners_0 : decode cX0_arePartners 0 = .ok (.aload_n 0, 1) := by decide +kernel
theorem dX0_arePartners_1 : decode cX0_arePartners 1 = .ok (.iload_n 1, 1) := by decide +kernel
theorem dX0_arePartners_2 : decode cX0_arePartners 2 = .ok (.iload_n 2, 1) := by decide +kernel
theorem dX0_arePartners_3 : decode cX0_arePartners 3 = .ok (.iconst (-1), 1) := by decide +kernel
theorem dX0_arePartners_4 : decode cX0_arePartners 4 = .ok (.invokevirtual 97, 3) := by decide +kernel
theorem dX0_arePartners_7 : decode cX0_arePartners 7 = .ok (.ifCond .eq 27, 3) := by decide +kernel
theorem dX0_arePartners_10 : decode cX0_arePartners 10 = .ok (.aload_n 0, 1) := by decide +kernel
theorem dX0_arePartners_11 : decode cX0_arePartners 11 = .ok (.iload_n 1, 1) := by decide +kernel
theorem dX0_arePartners_12 : decode cX0_arePartners 12 = .ok (.iload_n 2, 1) := by decide +kernel
theorem dX0_arePartners_13 : decode cX0_arePartners 13 = .ok (.invokevirtual 197, 3) := by decide +kernel
theorem dX0_arePartners_16 : decode cX0_arePartners 16 = .ok (.ifCond .ne 18, 3) := by decide +kernel
theorem dX0_arePartners_19 : decode cX0_arePartners 19 = .ok (.aload_n 0, 1) := by decide +kernel
theorem dX0_arePartners_20 : decode cX0_arePartners 20 = .ok (.iload_n 1, 1) := by decide +kernel
theorem dX0_arePartners_21 : decode cX0_arePartners 21 = .ok (.iload_n 2, 1) := by decide +kernel
theorem dX0_arePartners_22 : decode cX0_arePartners 22 = .ok (.iconst (-1), 1) := by decide +kernel
theorem dX0_arePartners_23 : decode cX0_arePartners 23 = .ok (.invokevirtual 123, 3) := by decide +kernel
theorem dX0_arePartners_26 : decode cX0_arePartners 26 = .ok (.iload_n 3, 1) := by decide +kernel
theorem dX0_arePartners_27 : decode cX0_arePartners 27 = .ok (.if_icmp .lt 7, 3) := by decide +kernel
theorem dX0_arePartners_30 : decode cX0_arePartners 30 = .ok (.iconst 1, 1) := by decide +kernel
theorem dX0_arePartners_31 : decode cX0_arePartners 31 = .ok (.goto 4, 3) := by decide +kernel
theorem dX0_arePartners_34 : decode cX0_arePartners 34 = .ok (.iconst 0, 1) := by decide +kernel
theorem dX0_arePartners_35 : decode cX0_arePartners 35 = .ok (.ireturn, 1) := by decide +kernel
set_option maxRecDepth 20000 in
theorem ggX0_usefulThings_X0_wearsLeftOf : GoodIn wsX0_usefulThings wsX0_wearsLeftOf := goodIn_r _ [7, 8, 9, 10, 11, 6, 12, 13, 14, 15, 16, 17, 18, 19, 20, 21, 22, 23, 24, 25, 26, 27, 28] (by decide +kernel) (by decide +kernel)
set_option maxRecDepth 20000 in
theorem gX0_usefulThings_X0_wearsLeftOf : GoodIn wsX0_usefulThings (wsV RX0 150 RX0 yX0_wearsLeftOf wsX0_wearsLeftOf) := goodIn_app (goodIn_of _ (by decide +kernel)) ggX0_usefulThings_X0_wearsLeftOf
theorem dX0_usefulThings_0 : decode cX0_usefulThings 0 = .ok (.iconst 0, 1) := by decide +kernel
theorem dX0_usefulThings_1 : decode cX0_usefulThings 1 = .ok (.istore_n 1, 1) := by decide +kernel
theorem dX0_usefulThings_2 : decode cX0_usefulThings 2 = .ok (.iconst 0, 1) := by decide +kernel
theorem dX0_usefulThings_3 : decode cX0_usefulThings 3 = .ok (.istore_n 2, 1) := by decide +kernel
theorem dX0_usefulThings_4 : decode cX0_usefulThings 4 = .ok (.iload_n 2, 1) := by decide +kernel
theorem dX0_usefulThings_5 : decode cX0_usefulThings 5 = .ok (.aload_n 0, 1) := by decide +kernel
theorem dX0_usefulThings_6 : decode cX0_usefulThings 6 = .ok (.getfield 52, 3) := by decide +kernel
theorem dX0_usefulThings_9 : decode cX0_usefulThings 9 = .ok (.if_icmp .ge 32, 3) := by decide +kernel
theorem dX0_usefulThings_12 : decode cX0_usefulThings 12 = .ok (.aload_n 0, 1) := by decide +kernel
theorem dX0_usefulThings_13 : decode cX0_usefulThings 13 = .ok (.iload_n 2, 1) := by decide +kernel
theorem dX0_usefulThings_14 : decode cX0_usefulThings 14 = .ok (.invokevirtual 150, 3) := by decide +kernel
theorem dX0_usefulThings_17 : decode cX0_usefulThings 17 = .ok (.ifCond .le 18, 3) := by decide +kernel
theorem dX0_usefulThings_20 : decode cX0_usefulThings 20 = .ok (.aload_n 0, 1) := by decide +kernel
theorem dX0_usefulThings_21 : decode cX0_usefulThings 21 = .ok (.getfield 31, 3) := by decide +kernel
theorem dX0_usefulThings_24 : decode cX0_usefulThings 24 = .ok (.iload_n 2, 1) := by decide +kernel
theorem dX0_usefulThings_25 : decode cX0_usefulThings 25 = .ok (.iaload, 1) := by decide +kernel
theorem dX0_usefulThings_26 : decode cX0_usefulThings 26 = .ok (.ifCond .eq 9, 3) := by decide +kernel
theorem dX0_usefulThings_29 : decode cX0_usefulThings 29 = .ok (.iload_n 1, 1) := by decide +kernel
theorem dX0_usefulThings_30 : decode cX0_usefulThings 30 = .ok (.iconst 1, 1) := by decide +kernel
theorem dX0_usefulThings_31 : decode cX0_usefulThings 31 = .ok (.iload_n 2, 1) := by decide +kernel
theorem dX0_usefulThings_32 : decode cX0_usefulThings 32 = .ok (.ishl, 1) := by decide +kernel
theorem dX0_usefulThings_33 : decode cX0_usefulThings 33 = .ok (.ior, 1) := by decide +kernel
theorem dX0_usefulThings_34 : decode cX0_usefulThings 34 = .ok (.istore_n 1, 1) := by decide +kernel
theorem dX0_usefulThings_35 : decode cX0_usefulThings 35 = .ok (.iinc 2 1, 3) := by decide +kernel
theorem dX0_usefulThings_38 : decode cX0_usefulThings 38 = .ok (.goto (-34), 3) := by decide +kernel
theorem dX0_usefulThings_41 : decode cX0_usefulThings 41 = .ok (.iload_n 1, 1) := by decide +kernel
theorem dX0_usefulThings_42 : decode cX0_usefulThings 42 = .ok (.ireturn, 1) := by decide +kernel
theorem dX0_partnersOf_0 : decode cX0_partnersOf 0 = .ok (.iconst 0, 1) := by decide +kernel
theorem dX0_partnersOf_1 : decode cX0_partnersOf 1 = .ok (.istore_n 2, 1) := by decide +kernel
theorem dX0_partnersOf_2 : decode cX0_partnersOf 2 = .ok (.iconst 0, 1) := by decide +kernel
theorem dX0_partnersOf_3 : decode cX0_partnersOf 3 = .ok (.istore_n 3, 1) := by decide +kernel
theorem dX0_partnersOf_4 : decode cX0_partnersOf 4 = .ok (.iload_n 3, 1) := by decide +kernel
theorem dX0_partnersOf_5 : decode cX0_partnersOf 5 = .ok (.bipush 12, 2) := by decide +kernel
theorem dX0_partnersOf_7 : decode cX0_partnersOf 7 = .ok (.if_icmp .ge 26, 3) := by decide +kernel
theorem dX0_partnersOf_10 : decode cX0_partnersOf 10 = .ok (.iload_n 1, 1) := by decide +kernel
theorem dX0_partnersOf_11 : decode cX0_partnersOf 11 = .ok (.iload_n 3, 1) := by decide +kernel
theorem dX0_partnersOf_12 : decode cX0_partnersOf 12 = .ok (.ishr, 1) := by decide +kernel
theorem dX0_partnersOf_13 : decode cX0_partnersOf 13 = .ok (.iconst 1, 1) := by decide +kernel
theorem dX0_partnersOf_14 : decode cX0_partnersOf 14 = .ok (.iand, 1) := by decide +kernel
theorem dX0_partnersOf_15 : decode cX0_partnersOf 15 = .ok (.ifCond .eq 12, 3) := by decide +kernel
theorem dX0_partnersOf_18 : decode cX0_partnersOf 18 = .ok (.iload_n 2, 1) := by decide +kernel
theorem dX0_partnersOf_19 : decode cX0_partnersOf 19 = .ok (.aload_n 0, 1) := by decide +kernel
theorem dX0_partnersOf_20 : decode cX0_partnersOf 20 = .ok (.getfield 31, 3) := by decide +kernel
theorem dX0_partnersOf_23 : decode cX0_partnersOf 23 = .ok (.iload_n 3, 1) := by decide +kernel
theorem dX0_partnersOf_24 : decode cX0_partnersOf 24 = .ok (.iaload, 1) := by decide +kernel
theorem dX0_partnersOf_25 : decode cX0_partnersOf 25 = .ok (.ior, 1) := by decide +kernel
theorem dX0_partnersOf_26 : decode cX0_partnersOf 26 = .ok (.istore_n 2, 1) := by decide +kernel
theorem dX0_partnersOf_27 : decode cX0_partnersOf 27 = .ok (.iinc 3 1, 3) := by decide +kernel
theorem dX0_partnersOf_30 : decode cX0_partnersOf 30 = .ok (.goto (-26), 3) := by decide +kernel
theorem dX0_partnersOf_33 : decode cX0_partnersOf 33 = .ok (.iload_n 2, 1) := by decide +kernel
theorem dX0_partnersOf_34 : decode cX0_partnersOf 34 = .ok (.ireturn, 1) := by decide +kernel
theorem dX0_wearsLeftIn_0 : decode cX0_wearsLeftIn 0 = .ok (.iconst 0, 1) := by decide +kernel
theorem dX0_wearsLeftIn_1 : decode cX0_wearsLeftIn 1 = .ok (.istore_n 2, 1) := by decide +kernel
theorem dX0_wearsLeftIn_2 : decode cX0_wearsLeftIn 2 = .ok (.iconst 0, 1) := by decide +kernel
theorem dX0_wearsLeftIn_3 : decode cX0_wearsLeftIn 3 = .ok (.istore_n 3, 1) := by decide +kernel
theorem dX0_wearsLeftIn_4 : decode cX0_wearsLeftIn 4 = .ok (.iload_n 3, 1) := by decide +kernel
theorem dX0_wearsLeftIn_5 : decode cX0_wearsLeftIn 5 = .ok (.bipush 12, 2) := by decide +kernel
theorem dX0_wearsLeftIn_7 : decode cX0_wearsLeftIn 7 = .ok (.if_icmp .ge 26, 3) := by decide +kernel
theorem dX0_wearsLeftIn_10 : decode cX0_wearsLeftIn 10 = .ok (.iload_n 1, 1) := by decide +kernel
theorem dX0_wearsLeftIn_11 : decode cX0_wearsLeftIn 11 = .ok (.iload_n 3, 1) := by decide +kernel
theorem dX0_wearsLeftIn_12 : decode cX0_wearsLeftIn 12 = .ok (.ishr, 1) := by decide +kernel
theorem dX0_wearsLeftIn_13 : decode cX0_wearsLeftIn 13 = .ok (.iconst 1, 1) := by decide +kernel
theorem dX0_wearsLeftIn_14 : decode cX0_wearsLeftIn 14 = .ok (.iand, 1) := by decide +kernel
theorem dX0_wearsLeftIn_15 : decode cX0_wearsLeftIn 15 = .ok (.ifCond .eq 12, 3) := by decide +kernel
theorem dX0_wearsLeftIn_18 : decode cX0_wearsLeftIn 18 = .ok (.iload_n 2, 1) := by decide +kernel
theorem dX0_wearsLeftIn_19 : decode cX0_wearsLeftIn 19 = .ok (.aload_n 0, 1) := by decide +kernel
theorem dX0_wearsLeftIn_20 : decode cX0_wearsLeftIn 20 = .ok (.getfield 25, 3) := by decide +kernel
theorem dX0_wearsLeftIn_23 : decode cX0_wearsLeftIn 23 = .ok (.iload_n 3, 1) := by decide +kernel
theorem dX0_wearsLeftIn_24 : decode cX0_wearsLeftIn 24 = .ok (.iaload, 1) := by decide +kernel
theorem dX0_wearsLeftIn_25 : decode cX0_wearsLeftIn 25 = .ok (.iadd, 1) := by decide +kernel
theorem dX0_wearsLeftIn_26 : decode cX0_wearsLeftIn 26 = .ok (.istore_n 2, 1) := by decide +kernel
theorem dX0_wearsLeftIn_27 : decode cX0_wearsLeftIn 27 = .ok (.iinc 3 1, 3) := by decide +kernel
theorem dX0_wearsLeftIn_30 : decode cX0_wearsLeftIn 30 = .ok (.goto (-26), 3) := by decide +kernel
theorem dX0_wearsLeftIn_33 : decode cX0_wearsLeftIn 33 = .ok (.iload_n 2, 1) := by decide +kernel
theorem dX0_wearsLeftIn_34 : decode cX0_wearsLeftIn 34 = .ok (.ireturn, 1) := by decide +kernel
theorem dX0_nextPart_0 : decode cX0_nextPart 0 = .ok (.iload_n 0, 1) := by decide +kernel
theorem dX0_nextPart_1 : decode cX0_nextPart 1 = .ok (.iload_n 1, 1) := by decide +kernel
theorem dX0_nextPart_2 : decode cX0_nextPart 2 = .ok (.isub, 1) := by decide +kernel
theorem dX0_nextPart_3 : decode cX0_nextPart 3 = .ok (.iload_n 1, 1) := by decide +kernel
theorem dX0_nextPart_4 : decode cX0_nextPart 4 = .ok (.iand, 1) := by decide +kernel
theorem dX0_nextPart_5 : decode cX0_nextPart 5 = .ok (.ireturn, 1) := by decide +kernel
set_option maxRecDepth 20000 in
theorem ggX0_lasts_J6_bitCount_0f7a4 : GoodIn wsX0_lasts wsJ6_bitCount_0f7a4 := goodIn_r _ [4, 5, 6, 7] (by decide +kernel) (by decide +kernel)
set_option maxRecDepth 20000 in
theorem gX0_lasts_J6_bitCount_0f7a4 : GoodIn wsX0_lasts (va_wsS RX0 72 yJ6_bitCount_0f7a4 wsJ6_bitCount_0f7a4) := goodIn_app (goodIn_of _ (by decide +kernel)) ggX0_lasts_J6_bitCount_0f7a4
set_option maxRecDepth 20000 in
theorem ggX0_lasts_X0_wearsLeftIn : GoodIn wsX0_lasts wsX0_wearsLeftIn := goodIn_r _ [12, 13, 22, 23, 24, 25, 26, 27, 28, 29, 30, 31, 32, 33] (by decide +kernel) (by decide +kernel)
set_option maxRecDepth 20000 in
theorem gX0_lasts_X0_wearsLeftIn : GoodIn wsX0_lasts (wsV RX0 212 RX0 yX0_wearsLeftIn wsX0_wearsLeftIn) := goodIn_app (goodIn_of _ (by decide +kernel)) ggX0_lasts_X0_wearsLeftIn
set_option maxRecDepth 20000 in
theorem ggX0_lasts_X0_partnersOf : GoodIn wsX0_lasts wsX0_partnersOf := goodIn_r _ [17, 18, 22, 23, 24, 25, 26, 27, 28, 29, 30, 31, 32, 33] (by decide +kernel) (by decide +kernel)
set_option maxRecDepth 20000 in
theorem gX0_lasts_X0_partnersOf : GoodIn wsX0_lasts (wsV RX0 215 RX0 yX0_partnersOf wsX0_partnersOf) := goodIn_app (goodIn_of _ (by decide +kernel)) ggX0_lasts_X0_partnersOf
set_option maxRecDepth 20000 in
theorem ggX0_lasts_X0_nextPart : GoodIn wsX0_lasts wsX0_nextPart := goodIn_r _ [21] (by decide +kernel) (by decide +kernel)
set_option maxRecDepth 20000 in
theorem gX0_lasts_X0_nextPart : GoodIn wsX0_lasts (va_wsS RX0 187 yX0_nextPart wsX0_nextPart) := goodIn_app (goodIn_of _ (by decide +kernel)) ggX0_lasts_X0_nextPart
theorem dX0_lasts_0 : decode cX0_lasts 0 = .ok (.iload_n 1, 1) := by decide +kernel
theorem dX0_lasts_1 : decode cX0_lasts 1 = .ok (.invokestatic 72, 3) := by decide +kernel
theorem dX0_lasts_4 : decode cX0_lasts 4 = .ok (.iload_n 2, 1) := by decide +kernel
theorem dX0_lasts_5 : decode cX0_lasts 5 = .ok (.invokestatic 72, 3) := by decide +kernel
theorem dX0_lasts_8 : decode cX0_lasts 8 = .ok (.if_icmp .ge 7, 3) := by decide +kernel
theorem dX0_lasts_11 : decode cX0_lasts 11 = .ok (.iconst 1, 1) := by decide +kernel
theorem dX0_lasts_12 : decode cX0_lasts 12 = .ok (.goto 4, 3) := by decide +kernel
theorem dX0_lasts_15 : decode cX0_lasts 15 = .ok (.iconst 0, 1) := by decide +kernel
theorem dX0_lasts_16 : decode cX0_lasts 16 = .ok (.istore 4, 2) := by decide +kernel
theorem dX0_lasts_18 : decode cX0_lasts 18 = .ok (.iload 4, 2) := by decide +kernel
theorem dX0_lasts_20 : decode cX0_lasts 20 = .ok (.ifCond .eq 7, 3) := by decide +kernel
theorem dX0_lasts_23 : decode cX0_lasts 23 = .ok (.iload_n 1, 1) := by decide +kernel
theorem dX0_lasts_24 : decode cX0_lasts 24 = .ok (.goto 4, 3) := by decide +kernel
theorem dX0_lasts_27 : decode cX0_lasts 27 = .ok (.iload_n 2, 1) := by decide +kernel
theorem dX0_lasts_28 : decode cX0_lasts 28 = .ok (.istore 5, 2) := by decide +kernel
theorem dX0_lasts_30 : decode cX0_lasts 30 = .ok (.iload 4, 2) := by decide +kernel
theorem dX0_lasts_32 : decode cX0_lasts 32 = .ok (.ifCond .eq 7, 3) := by decide +kernel
theorem dX0_lasts_35 : decode cX0_lasts 35 = .ok (.iload_n 2, 1) := by decide +kernel
theorem dX0_lasts_36 : decode cX0_lasts 36 = .ok (.goto 4, 3) := by decide +kernel
theorem dX0_lasts_39 : decode cX0_lasts 39 = .ok (.iload_n 1, 1) := by decide +kernel
theorem dX0_lasts_40 : decode cX0_lasts 40 = .ok (.istore 6, 2) := by decide +kernel
theorem dX0_lasts_42 : decode cX0_lasts 42 = .ok (.iconst 0, 1) := by decide +kernel
theorem dX0_lasts_43 : decode cX0_lasts 43 = .ok (.istore 7, 2) := by decide +kernel
theorem dX0_lasts_45 : decode cX0_lasts 45 = .ok (.iconst 1, 1) := by decide +kernel
theorem dX0_lasts_46 : decode cX0_lasts 46 = .ok (.iload 5, 2) := by decide +kernel
theorem dX0_lasts_48 : decode cX0_lasts 48 = .ok (.invokestatic 72, 3) := by decide +kernel
theorem dX0_lasts_51 : decode cX0_lasts 51 = .ok (.ishl, 1) := by decide +kernel
theorem dX0_lasts_52 : decode cX0_lasts 52 = .ok (.istore 8, 2) := by decide +kernel
theorem dX0_lasts_54 : decode cX0_lasts 54 = .ok (.iload 8, 2) := by decide +kernel
theorem dX0_lasts_56 : decode cX0_lasts 56 = .ok (.ifCond .le 49, 3) := by decide +kernel
theorem dX0_lasts_59 : decode cX0_lasts 59 = .ok (.aload_n 0, 1) := by decide +kernel
theorem dX0_lasts_60 : decode cX0_lasts 60 = .ok (.iload 5, 2) := by decide +kernel
theorem dX0_lasts_62 : decode cX0_lasts 62 = .ok (.iload 7, 2) := by decide +kernel
theorem dX0_lasts_64 : decode cX0_lasts 64 = .ok (.iconst (-1), 1) := by decide +kernel
theorem dX0_lasts_65 : decode cX0_lasts 65 = .ok (.ixor, 1) := by decide +kernel
theorem dX0_lasts_66 : decode cX0_lasts 66 = .ok (.iand, 1) := by decide +kernel
theorem dX0_lasts_67 : decode cX0_lasts 67 = .ok (.invokevirtual 212, 3) := by decide +kernel
theorem dX0_lasts_70 : decode cX0_lasts 70 = .ok (.aload_n 0, 1) := by decide +kernel
theorem dX0_lasts_71 : decode cX0_lasts 71 = .ok (.iload 6, 2) := by decide +kernel
theorem dX0_lasts_73 : decode cX0_lasts 73 = .ok (.aload_n 0, 1) := by decide +kernel
theorem dX0_lasts_74 : decode cX0_lasts 74 = .ok (.iload 7, 2) := by decide +kernel
theorem dX0_lasts_76 : decode cX0_lasts 76 = .ok (.invokevirtual 215, 3) := by decide +kernel
theorem dX0_lasts_79 : decode cX0_lasts 79 = .ok (.iand, 1) := by decide +kernel
theorem dX0_lasts_80 : decode cX0_lasts 80 = .ok (.invokevirtual 212, 3) := by decide +kernel
theorem dX0_lasts_83 : decode cX0_lasts 83 = .ok (.iadd, 1) := by decide +kernel
theorem dX0_lasts_84 : decode cX0_lasts 84 = .ok (.iload_n 3, 1) := by decide +kernel
theorem dX0_lasts_85 : decode cX0_lasts 85 = .ok (.if_icmp .ge 5, 3) := by decide +kernel
theorem dX0_lasts_88 : decode cX0_lasts 88 = .ok (.iconst 0, 1) := by decide +kernel
theorem dX0_lasts_89 : decode cX0_lasts 89 = .ok (.ireturn, 1) := by decide +kernel
theorem dX0_lasts_90 : decode cX0_lasts 90 = .ok (.iload 7, 2) := by decide +kernel
theorem dX0_lasts_92 : decode cX0_lasts 92 = .ok (.iload 5, 2) := by decide +kernel
theorem dX0_lasts_94 : decode cX0_lasts 94 = .ok (.invokestatic 187, 3) := by decide +kernel
theorem dX0_lasts_97 : decode cX0_lasts 97 = .ok (.istore 7, 2) := by decide +kernel
theorem dX0_lasts_99 : decode cX0_lasts 99 = .ok (.iinc 8 (-1), 3) := by decide +kernel
theorem dX0_lasts_102 : decode cX0_lasts 102 = .ok (.goto (-48), 3) := by decide +kernel
theorem dX0_lasts_105 : decode cX0_lasts 105 = .ok (.iconst 1, 1) := by decide +kernel
theorem dX0_lasts_106 : decode cX0_lasts 106 = .ok (.ireturn, 1) := by decide +kernel
end
section
theorem dX1_init_0 : decode cX1_init 0 = .ok (.aload_n 0, 1) := by decide +kernel
theorem dX1_init_1 : decode cX1_init 1 = .ok (.invokespecial 1, 3) := by decide +kernel
theorem dX1_init_4 : decode cX1_init 4 = .ok (.aload_n 0, 1) := by decide +kernel
theorem dX1_init_5 : decode cX1_init 5 = .ok (.bipush 12, 2) := by decide +kernel
theorem dX1_init_7 : decode cX1_init 7 = .ok (.newarray .boolean, 2) := by decide +kernel
theorem dX1_init_9 : decode cX1_init 9 = .ok (.putfield 7, 3) := by decide +kernel
theorem dX1_init_12 : decode cX1_init 12 = .ok (.aload_n 0, 1) := by decide +kernel
theorem dX1_init_13 : decode cX1_init 13 = .ok (.bipush 12, 2) := by decide +kernel
theorem dX1_init_15 : decode cX1_init 15 = .ok (.newarray .int, 2) := by decide +kernel
theorem dX1_init_17 : decode cX1_init 17 = .ok (.putfield 13, 3) := by decide +kernel
theorem dX1_init_20 : decode cX1_init 20 = .ok (.aload_n 0, 1) := by decide +kernel
theorem dX1_init_21 : decode cX1_init 21 = .ok (.bipush 12, 2) := by decide +kernel
theorem dX1_init_23 : decode cX1_init 23 = .ok (.newarray .int, 2) := by decide +kernel
theorem dX1_init_25 : decode cX1_init 25 = .ok (.putfield 17, 3) := by decide +kernel
theorem dX1_init_28 : decode cX1_init 28 = .ok (.aload_n 0, 1) := by decide +kernel
theorem dX1_init_29 : decode cX1_init 29 = .ok (.bipush 12, 2) := by decide +kernel
theorem dX1_init_31 : decode cX1_init 31 = .ok (.newarray .int, 2) := by decide +kernel
theorem dX1_init_33 : decode cX1_init 33 = .ok (.putfield 20, 3) := by decide +kernel
theorem dX1_init_36 : decode cX1_init 36 = .ok (.aload_n 0, 1) := by decide +kernel
theorem dX1_init_37 : decode cX1_init 37 = .ok (.bipush 12, 2) := by decide +kernel
theorem dX1_init_39 : decode cX1_init 39 = .ok (.newarray .int, 2) := by decide +kernel
theorem dX1_init_41 : decode cX1_init 41 = .ok (.putfield 23, 3) := by decide +kernel
theorem dX1_init_44 : decode cX1_init 44 = .ok (.aload_n 0, 1) := by decide +kernel
theorem dX1_init_45 : decode cX1_init 45 = .ok (.bipush 12, 2) := by decide +kernel
theorem dX1_init_47 : decode cX1_init 47 = .ok (.newarray .int, 2) := by decide +kernel
theorem dX1_init_49 : decode cX1_init 49 = .ok (.putfield 26, 3) := by decide +kernel
theorem dX1_init_52 : decode cX1_init 52 = .ok (.aload_n 0, 1) := by decide +kernel
theorem dX1_init_53 : decode cX1_init 53 = .ok (.bipush 12, 2) := by decide +kernel
theorem dX1_init_55 : decode cX1_init 55 = .ok (.newarray .int, 2) := by decide +kernel
theorem dX1_init_57 : decode cX1_init 57 = .ok (.putfield 29, 3) := by decide +kernel
theorem dX1_init_60 : decode cX1_init 60 = .ok (.aload_n 0, 1) := by decide +kernel
theorem dX1_init_61 : decode cX1_init 61 = .ok (.bipush 64, 2) := by decide +kernel
theorem dX1_init_63 : decode cX1_init 63 = .ok (.newarray .boolean, 2) := by decide +kernel
theorem dX1_init_65 : decode cX1_init 65 = .ok (.putfield 32, 3) := by decide +kernel
theorem dX1_init_68 : decode cX1_init 68 = .ok (.aload_n 0, 1) := by decide +kernel
theorem dX1_init_69 : decode cX1_init 69 = .ok (.sipush 1152, 3) := by decide +kernel
theorem dX1_init_72 : decode cX1_init 72 = .ok (.newarray .int, 2) := by decide +kernel
theorem dX1_init_74 : decode cX1_init 74 = .ok (.putfield 35, 3) := by decide +kernel
theorem dX1_init_77 : decode cX1_init 77 = .ok (.aload_n 0, 1) := by decide +kernel
theorem dX1_init_78 : decode cX1_init 78 = .ok (.bipush 12, 2) := by decide +kernel
theorem dX1_init_80 : decode cX1_init 80 = .ok (.newarray .int, 2) := by decide +kernel
theorem dX1_init_82 : decode cX1_init 82 = .ok (.putfield 38, 3) := by decide +kernel
theorem dX1_init_85 : decode cX1_init 85 = .ok (.return_, 1) := by decide +kernel
theorem dX1_thrown_0 : decode cX1_thrown 0 = .ok (.aload_n 0, 1) := by decide +kernel
theorem dX1_thrown_1 : decode cX1_thrown 1 = .ok (.getfield 41, 3) := by decide +kernel
theorem dX1_thrown_4 : decode cX1_thrown 4 = .ok (.ireturn, 1) := by decide +kernel
theorem dX1_goes_0 : decode cX1_goes 0 = .ok (.aload_n 0, 1) := by decide +kernel
theorem dX1_goes_1 : decode cX1_goes 1 = .ok (.iload_n 1, 1) := by decide +kernel
theorem dX1_goes_2 : decode cX1_goes 2 = .ok (.putfield 41, 3) := by decide +kernel
theorem dX1_goes_5 : decode cX1_goes 5 = .ok (.iload_n 1, 1) := by decide +kernel
theorem dX1_goes_6 : decode cX1_goes 6 = .ok (.ifCond .ne 7, 3) := by decide +kernel
theorem dX1_goes_9 : decode cX1_goes 9 = .ok (.iconst 1, 1) := by decide +kernel
theorem dX1_goes_10 : decode cX1_goes 10 = .ok (.goto 4, 3) := by decide +kernel
theorem dX1_goes_13 : decode cX1_goes 13 = .ok (.iconst 0, 1) := by decide +kernel
theorem dX1_goes_14 : decode cX1_goes 14 = .ok (.ireturn, 1) := by decide +kernel
theorem dX1_isIn_0 : decode cX1_isIn 0 = .ok (.iload_n 0, 1) := by decide +kernel
theorem dX1_isIn_1 : decode cX1_isIn 1 = .ok (.iload_n 1, 1) := by decide +kernel
theorem dX1_isIn_2 : decode cX1_isIn 2 = .ok (.if_icmp .lt 12, 3) := by decide +kernel
theorem dX1_isIn_5 : decode cX1_isIn 5 = .ok (.iload_n 0, 1) := by decide +kernel
theorem dX1_isIn_6 : decode cX1_isIn 6 = .ok (.iload_n 2, 1) := by decide +kernel
theorem dX1_isIn_7 : decode cX1_isIn 7 = .ok (.if_icmp .gt 7, 3) := by decide +kernel
theorem dX1_isIn_10 : decode cX1_isIn 10 = .ok (.iconst 1, 1) := by decide +kernel
theorem dX1_isIn_11 : decode cX1_isIn 11 = .ok (.goto 4, 3) := by decide +kernel
theorem dX1_isIn_14 : decode cX1_isIn 14 = .ok (.iconst 0, 1) := by decide +kernel
theorem dX1_isIn_15 : decode cX1_isIn 15 = .ok (.ireturn, 1) := by decide +kernel
set_option maxRecDepth 20000 in
theorem ggX1_isThing_X1_isIn : GoodIn wsX1_isThing wsX1_isIn := goodIn_r _ [6] (by decide +kernel) (by decide +kernel)
set_option maxRecDepth 20000 in
theorem gX1_isThing_X1_isIn : GoodIn wsX1_isThing (va_wsS RX1 48 yX1_isIn wsX1_isIn) := goodIn_app (goodIn_of _ (by decide +kernel)) ggX1_isThing_X1_isIn
theorem dX1_isThing_0 : decode cX1_isThing 0 = .ok (.iload_n 1, 1) := by decide +kernel
theorem dX1_isThing_1 : decode cX1_isThing 1 = .ok (.iconst 0, 1) := by decide +kernel
theorem dX1_isThing_2 : decode cX1_isThing 2 = .ok (.aload_n 0, 1) := by decide +kernel
theorem dX1_isThing_3 : decode cX1_isThing 3 = .ok (.getfield 45, 3) := by decide +kernel
theorem dX1_isThing_6 : decode cX1_isThing 6 = .ok (.iconst 1, 1) := by decide +kernel
theorem dX1_isThing_7 : decode cX1_isThing 7 = .ok (.isub, 1) := by decide +kernel
theorem dX1_isThing_8 : decode cX1_isThing 8 = .ok (.invokestatic 48, 3) := by decide +kernel
theorem dX1_isThing_11 : decode cX1_isThing 11 = .ok (.ifCond .eq 16, 3) := by decide +kernel
theorem dX1_isThing_14 : decode cX1_isThing 14 = .ok (.aload_n 0, 1) := by decide +kernel
theorem dX1_isThing_15 : decode cX1_isThing 15 = .ok (.getfield 7, 3) := by decide +kernel
theorem dX1_isThing_18 : decode cX1_isThing 18 = .ok (.iload_n 1, 1) := by decide +kernel
theorem dX1_isThing_19 : decode cX1_isThing 19 = .ok (.baload, 1) := by decide +kernel
theorem dX1_isThing_20 : decode cX1_isThing 20 = .ok (.ifCond .ne 7, 3) := by decide +kernel
theorem dX1_isThing_23 : decode cX1_isThing 23 = .ok (.iconst 1, 1) := by decide +kernel
theorem dX1_isThing_24 : decode cX1_isThing 24 = .ok (.goto 4, 3) := by decide +kernel
theorem dX1_isThing_27 : decode cX1_isThing 27 = .ok (.iconst 0, 1) := by decide +kernel
theorem dX1_isThing_28 : decode cX1_isThing 28 = .ok (.ireturn, 1) := by decide +kernel
set_option maxRecDepth 20000 in
theorem ggX1_isColour_X1_isIn : GoodIn wsX1_isColour wsX1_isIn := goodIn_r _ [4] (by decide +kernel) (by decide +kernel)
set_option maxRecDepth 20000 in
theorem gX1_isColour_X1_isIn : GoodIn wsX1_isColour (va_wsS RX1 48 yX1_isIn wsX1_isIn) := goodIn_app (goodIn_of _ (by decide +kernel)) ggX1_isColour_X1_isIn
theorem dX1_isColour_0 : decode cX1_isColour 0 = .ok (.iload_n 0, 1) := by decide +kernel
theorem dX1_isColour_1 : decode cX1_isColour 1 = .ok (.iconst 0, 1) := by decide +kernel
theorem dX1_isColour_2 : decode cX1_isColour 2 = .ok (.bipush 7, 2) := by decide +kernel
theorem dX1_isColour_4 : decode cX1_isColour 4 = .ok (.invokestatic 48, 3) := by decide +kernel
theorem dX1_isColour_7 : decode cX1_isColour 7 = .ok (.ireturn, 1) := by decide +kernel
set_option maxRecDepth 20000 in
theorem ggX1_arePeople_X1_isIn : GoodIn wsX1_arePeople wsX1_isIn := goodIn_r _ [4] (by decide +kernel) (by decide +kernel)
set_option maxRecDepth 20000 in
theorem gX1_arePeople_X1_isIn : GoodIn wsX1_arePeople (va_wsS RX1 48 yX1_isIn wsX1_isIn) := goodIn_app (goodIn_of _ (by decide +kernel)) ggX1_arePeople_X1_isIn
theorem dX1_arePeople_0 : decode cX1_arePeople 0 = .ok (.iload_n 0, 1) := by decide +kernel
theorem dX1_arePeople_1 : decode cX1_arePeople 1 = .ok (.iconst 0, 1) := by decide +kernel
theorem dX1_arePeople_2 : decode cX1_arePeople 2 = .ok (.sipush 255, 3) := by decide +kernel
theorem dX1_arePeople_5 : decode cX1_arePeople 5 = .ok (.invokestatic 48, 3) := by decide +kernel
theorem dX1_arePeople_8 : decode cX1_arePeople 8 = .ok (.ireturn, 1) := by decide +kernel
set_option maxRecDepth 20000 in
theorem ggX1_isCare_X1_isIn : GoodIn wsX1_isCare wsX1_isIn := goodIn_r _ [4] (by decide +kernel) (by decide +kernel)
set_option maxRecDepth 20000 in
theorem gX1_isCare_X1_isIn : GoodIn wsX1_isCare (va_wsS RX1 48 yX1_isIn wsX1_isIn) := goodIn_app (goodIn_of _ (by decide +kernel)) ggX1_isCare_X1_isIn
theorem dX1_isCare_0 : decode cX1_isCare 0 = .ok (.iload_n 0, 1) := by decide +kernel
theorem dX1_isCare_1 : decode cX1_isCare 1 = .ok (.iconst 0, 1) := by decide +kernel
theorem dX1_isCare_2 : decode cX1_isCare 2 = .ok (.iconst 2, 1) := by decide +kernel
theorem dX1_isCare_3 : decode cX1_isCare 3 = .ok (.invokestatic 48, 3) := by decide +kernel
theorem dX1_isCare_6 : decode cX1_isCare 6 = .ok (.ireturn, 1) := by decide +kernel
set_option maxRecDepth 20000 in
theorem ggX1_add_X1_isIn : GoodIn wsX1_add wsX1_isIn := goodIn_r _ [11] (by decide +kernel) (by decide +kernel)
set_option maxRecDepth 20000 in
theorem gX1_add_X1_isIn : GoodIn wsX1_add (va_wsS RX1 48 yX1_isIn wsX1_isIn) := goodIn_app (goodIn_of _ (by decide +kernel)) ggX1_add_X1_isIn
set_option maxRecDepth 20000 in
theorem ggX1_add_X1_isColour : GoodIn wsX1_add wsX1_isColour := goodIn_r _ [14, 8, 9, 10, 11] (by decide +kernel) (by decide +kernel)
set_option maxRecDepth 20000 in
theorem gX1_add_X1_isColour : GoodIn wsX1_add (va_wsS RX1 52 yX1_isColour wsX1_isColour) := goodIn_app (goodIn_of _ (by decide +kernel)) ggX1_add_X1_isColour
set_option maxRecDepth 20000 in
theorem ggX1_add_X1_isCare : GoodIn wsX1_add wsX1_isCare := goodIn_r _ [17, 8, 9, 10, 11] (by decide +kernel) (by decide +kernel)
set_option maxRecDepth 20000 in
theorem gX1_add_X1_isCare : GoodIn wsX1_add (va_wsS RX1 56 yX1_isCare wsX1_isCare) := goodIn_app (goodIn_of _ (by decide +kernel)) ggX1_add_X1_isCare
set_option maxRecDepth 20000 in
theorem ggX1_add_X1_goes : GoodIn wsX1_add wsX1_goes := goodIn_r _ [21, 22, 23, 24, 25, 26, 27, 28, 29, 30, 31, 32, 33, 34, 35] (by decide +kernel) (by decide +kernel)
set_option maxRecDepth 20000 in
theorem gX1_add_X1_goes : GoodIn wsX1_add (wsV RX1 59 RX1 yX1_goes wsX1_goes) := goodIn_app (goodIn_of _ (by decide +kernel)) ggX1_add_X1_goes
theorem dX1_add_0 : decode cX1_add 0 = .ok (.iload_n 1, 1) := by decide +kernel
theorem dX1_add_1 : decode cX1_add 1 = .ok (.iconst 0, 1) := by decide +kernel
theorem dX1_add_2 : decode cX1_add 2 = .ok (.iconst 2, 1) := by decide +kernel
theorem dX1_add_3 : decode cX1_add 3 = .ok (.invokestatic 48, 3) := by decide +kernel
theorem dX1_add_6 : decode cX1_add 6 = .ok (.ifCond .eq 43, 3) := by decide +kernel
theorem dX1_add_9 : decode cX1_add 9 = .ok (.iload_n 2, 1) := by decide +kernel
theorem dX1_add_10 : decode cX1_add 10 = .ok (.invokestatic 52, 3) := by decide +kernel
theorem dX1_add_13 : decode cX1_add 13 = .ok (.ifCond .eq 36, 3) := by decide +kernel
theorem dX1_add_16 : decode cX1_add 16 = .ok (.iload_n 3, 1) := by decide +kernel
theorem dX1_add_17 : decode cX1_add 17 = .ok (.iconst 0, 1) := by decide +kernel
theorem dX1_add_18 : decode cX1_add 18 = .ok (.bipush 10, 2) := by decide +kernel
theorem dX1_add_20 : decode cX1_add 20 = .ok (.invokestatic 48, 3) := by decide +kernel
theorem dX1_add_23 : decode cX1_add 23 = .ok (.ifCond .eq 26, 3) := by decide +kernel
theorem dX1_add_26 : decode cX1_add 26 = .ok (.iload 4, 2) := by decide +kernel
theorem dX1_add_28 : decode cX1_add 28 = .ok (.iconst 1, 1) := by decide +kernel
theorem dX1_add_29 : decode cX1_add 29 = .ok (.bipush 9, 2) := by decide +kernel
theorem dX1_add_31 : decode cX1_add 31 = .ok (.invokestatic 48, 3) := by decide +kernel
theorem dX1_add_34 : decode cX1_add 34 = .ok (.ifCond .eq 15, 3) := by decide +kernel
theorem dX1_add_37 : decode cX1_add 37 = .ok (.iload 5, 2) := by decide +kernel
theorem dX1_add_39 : decode cX1_add 39 = .ok (.invokestatic 56, 3) := by decide +kernel
theorem dX1_add_42 : decode cX1_add 42 = .ok (.ifCond .eq 7, 3) := by decide +kernel
theorem dX1_add_45 : decode cX1_add 45 = .ok (.iconst 1, 1) := by decide +kernel
theorem dX1_add_46 : decode cX1_add 46 = .ok (.goto 4, 3) := by decide +kernel
theorem dX1_add_49 : decode cX1_add 49 = .ok (.iconst 0, 1) := by decide +kernel
theorem dX1_add_50 : decode cX1_add 50 = .ok (.istore 6, 2) := by decide +kernel
theorem dX1_add_52 : decode cX1_add 52 = .ok (.aload_n 0, 1) := by decide +kernel
theorem dX1_add_53 : decode cX1_add 53 = .ok (.iload 6, 2) := by decide +kernel
theorem dX1_add_55 : decode cX1_add 55 = .ok (.ifCond .ne 7, 3) := by decide +kernel
theorem dX1_add_58 : decode cX1_add 58 = .ok (.iconst 1, 1) := by decide +kernel
theorem dX1_add_59 : decode cX1_add 59 = .ok (.goto 17, 3) := by decide +kernel
theorem dX1_add_62 : decode cX1_add 62 = .ok (.aload_n 0, 1) := by decide +kernel
theorem dX1_add_63 : decode cX1_add 63 = .ok (.getfield 45, 3) := by decide +kernel
theorem dX1_add_66 : decode cX1_add 66 = .ok (.bipush 12, 2) := by decide +kernel
theorem dX1_add_68 : decode cX1_add 68 = .ok (.if_icmp .ne 7, 3) := by decide +kernel
theorem dX1_add_71 : decode cX1_add 71 = .ok (.iconst 2, 1) := by decide +kernel
theorem dX1_add_72 : decode cX1_add 72 = .ok (.goto 4, 3) := by decide +kernel
theorem dX1_add_75 : decode cX1_add 75 = .ok (.iconst 0, 1) := by decide +kernel
theorem dX1_add_76 : decode cX1_add 76 = .ok (.invokevirtual 59, 3) := by decide +kernel
theorem dX1_add_79 : decode cX1_add 79 = .ok (.ifCond .ne 5, 3) := by decide +kernel
theorem dX1_add_82 : decode cX1_add 82 = .ok (.iconst 0, 1) := by decide +kernel
theorem dX1_add_83 : decode cX1_add 83 = .ok (.ireturn, 1) := by decide +kernel
theorem dX1_add_84 : decode cX1_add 84 = .ok (.aload_n 0, 1) := by decide +kernel
theorem dX1_add_85 : decode cX1_add 85 = .ok (.getfield 13, 3) := by decide +kernel
theorem dX1_add_88 : decode cX1_add 88 = .ok (.aload_n 0, 1) := by decide +kernel
theorem dX1_add_89 : decode cX1_add 89 = .ok (.getfield 45, 3) := by decide +kernel
theorem dX1_add_92 : decode cX1_add 92 = .ok (.iload_n 1, 1) := by decide +kernel
theorem dX1_add_93 : decode cX1_add 93 = .ok (.iastore, 1) := by decide +kernel
theorem dX1_add_94 : decode cX1_add 94 = .ok (.aload_n 0, 1) := by decide +kernel
theorem dX1_add_95 : decode cX1_add 95 = .ok (.getfield 17, 3) := by decide +kernel
theorem dX1_add_98 : decode cX1_add 98 = .ok (.aload_n 0, 1) := by decide +kernel
theorem dX1_add_99 : decode cX1_add 99 = .ok (.getfield 45, 3) := by decide +kernel
theorem dX1_add_102 : decode cX1_add 102 = .ok (.iload_n 2, 1) := by decide +kernel
theorem dX1_add_103 : decode cX1_add 103 = .ok (.iastore, 1) := by decide +kernel
theorem dX1_add_104 : decode cX1_add 104 = .ok (.aload_n 0, 1) := by decide +kernel
theorem dX1_add_105 : decode cX1_add 105 = .ok (.getfield 20, 3) := by decide +kernel
theorem dX1_add_108 : decode cX1_add 108 = .ok (.aload_n 0, 1) := by decide +kernel
theorem dX1_add_109 : decode cX1_add 109 = .ok (.getfield 45, 3) := by decide +kernel
theorem dX1_add_112 : decode cX1_add 112 = .ok (.iload_n 3, 1) := by decide +kernel
theorem dX1_add_113 : decode cX1_add 113 = .ok (.iastore, 1) := by decide +kernel
theorem dX1_add_114 : decode cX1_add 114 = .ok (.aload_n 0, 1) := by decide +kernel
theorem dX1_add_115 : decode cX1_add 115 = .ok (.getfield 23, 3) := by decide +kernel
theorem dX1_add_118 : decode cX1_add 118 = .ok (.aload_n 0, 1) := by decide +kernel
theorem dX1_add_119 : decode cX1_add 119 = .ok (.getfield 45, 3) := by decide +kernel
theorem dX1_add_122 : decode cX1_add 122 = .ok (.iload 4, 2) := by decide +kernel
theorem dX1_add_124 : decode cX1_add 124 = .ok (.iastore, 1) := by decide +kernel
theorem dX1_add_125 : decode cX1_add 125 = .ok (.aload_n 0, 1) := by decide +kernel
theorem dX1_add_126 : decode cX1_add 126 = .ok (.getfield 26, 3) := by decide +kernel
theorem dX1_add_129 : decode cX1_add 129 = .ok (.aload_n 0, 1) := by decide +kernel
theorem dX1_add_130 : decode cX1_add 130 = .ok (.getfield 45, 3) := by decide +kernel
theorem dX1_add_133 : decode cX1_add 133 = .ok (.iload 5, 2) := by decide +kernel
theorem dX1_add_135 : decode cX1_add 135 = .ok (.iastore, 1) := by decide +kernel
theorem dX1_add_136 : decode cX1_add 136 = .ok (.aload_n 0, 1) := by decide +kernel
theorem dX1_add_137 : decode cX1_add 137 = .ok (.getfield 29, 3) := by decide +kernel
theorem dX1_add_140 : decode cX1_add 140 = .ok (.aload_n 0, 1) := by decide +kernel
theorem dX1_add_141 : decode cX1_add 141 = .ok (.getfield 45, 3) := by decide +kernel
theorem dX1_add_144 : decode cX1_add 144 = .ok (.iload 4, 2) := by decide +kernel
theorem dX1_add_146 : decode cX1_add 146 = .ok (.iastore, 1) := by decide +kernel
theorem dX1_add_147 : decode cX1_add 147 = .ok (.aload_n 0, 1) := by decide +kernel
theorem dX1_add_148 : decode cX1_add 148 = .ok (.dup, 1) := by decide +kernel
theorem dX1_add_149 : decode cX1_add 149 = .ok (.getfield 45, 3) := by decide +kernel
theorem dX1_add_152 : decode cX1_add 152 = .ok (.iconst 1, 1) := by decide +kernel
theorem dX1_add_153 : decode cX1_add 153 = .ok (.iadd, 1) := by decide +kernel
theorem dX1_add_154 : decode cX1_add 154 = .ok (.putfield 45, 3) := by decide +kernel
theorem dX1_add_157 : decode cX1_add 157 = .ok (.aload_n 0, 1) := by decide +kernel
theorem dX1_add_158 : decode cX1_add 158 = .ok (.getfield 45, 3) := by decide +kernel
theorem dX1_add_161 : decode cX1_add 161 = .ok (.iconst 1, 1) := by decide +kernel
theorem dX1_add_162 : decode cX1_add 162 = .ok (.isub, 1) := by decide +kernel
theorem dX1_add_163 : decode cX1_add 163 = .ok (.ireturn, 1) := by decide +kernel
theorem dX1_here_0 : decode cX1_here 0 = .ok (.iconst 0, 1) := by decide +kernel
theorem dX1_here_1 : decode cX1_here 1 = .ok (.istore_n 1, 1) := by decide +kernel
theorem dX1_here_2 : decode cX1_here 2 = .ok (.iconst 0, 1) := by decide +kernel
theorem dX1_here_3 : decode cX1_here 3 = .ok (.istore_n 2, 1) := by decide +kernel
theorem dX1_here_4 : decode cX1_here 4 = .ok (.iload_n 2, 1) := by decide +kernel
theorem dX1_here_5 : decode cX1_here 5 = .ok (.aload_n 0, 1) := by decide +kernel
theorem dX1_here_6 : decode cX1_here 6 = .ok (.getfield 45, 3) := by decide +kernel
theorem dX1_here_9 : decode cX1_here 9 = .ok (.if_icmp .ge 26, 3) := by decide +kernel
theorem dX1_here_12 : decode cX1_here 12 = .ok (.iload_n 1, 1) := by decide +kernel
theorem dX1_here_13 : decode cX1_here 13 = .ok (.aload_n 0, 1) := by decide +kernel
theorem dX1_here_14 : decode cX1_here 14 = .ok (.getfield 7, 3) := by decide +kernel
theorem dX1_here_17 : decode cX1_here 17 = .ok (.iload_n 2, 1) := by decide +kernel
theorem dX1_here_18 : decode cX1_here 18 = .ok (.baload, 1) := by decide +kernel
theorem dX1_here_19 : decode cX1_here 19 = .ok (.ifCond .eq 7, 3) := by decide +kernel
theorem dX1_here_22 : decode cX1_here 22 = .ok (.iconst 0, 1) := by decide +kernel
theorem dX1_here_23 : decode cX1_here 23 = .ok (.goto 4, 3) := by decide +kernel
theorem dX1_here_26 : decode cX1_here 26 = .ok (.iconst 1, 1) := by decide +kernel
theorem dX1_here_27 : decode cX1_here 27 = .ok (.iadd, 1) := by decide +kernel
theorem dX1_here_28 : decode cX1_here 28 = .ok (.istore_n 1, 1) := by decide +kernel
theorem dX1_here_29 : decode cX1_here 29 = .ok (.iinc 2 1, 3) := by decide +kernel
theorem dX1_here_32 : decode cX1_here 32 = .ok (.goto (-28), 3) := by decide +kernel
theorem dX1_here_35 : decode cX1_here 35 = .ok (.iload_n 1, 1) := by decide +kernel
theorem dX1_here_36 : decode cX1_here 36 = .ok (.ireturn, 1) := by decide +kernel
set_option maxRecDepth 20000 in
theorem ggX1_giveAway_X1_isThing : GoodIn wsX1_giveAway wsX1_isThing := goodIn_r _ [6, 7, 1, 8, 9, 5, 10, 20, 21, 22, 23, 24, 25, 26, 27, 28, 29, 30, 31, 32] (by decide +kernel) (by decide +kernel)
set_option maxRecDepth 20000 in
theorem gX1_giveAway_X1_isThing : GoodIn wsX1_giveAway (wsV RX1 62 RX1 yX1_isThing wsX1_isThing) := goodIn_app (goodIn_of _ (by decide +kernel)) ggX1_giveAway_X1_isThing
set_option maxRecDepth 20000 in
theorem ggX1_giveAway_X1_goes : GoodIn wsX1_giveAway wsX1_goes := goodIn_r _ [14, 15, 20, 21, 22, 23, 24, 25, 26, 27, 28, 29, 30, 31, 32] (by decide +kernel) (by decide +kernel)
set_option maxRecDepth 20000 in
theorem gX1_giveAway_X1_goes : GoodIn wsX1_giveAway (wsV RX1 59 RX1 yX1_goes wsX1_goes) := goodIn_app (goodIn_of _ (by decide +kernel)) ggX1_giveAway_X1_goes
set_option maxRecDepth 20000 in
theorem ggX1_giveAway_X1_here : GoodIn wsX1_giveAway wsX1_here := goodIn_r _ [19, 7, 1, 20, 21, 22, 23, 24, 25, 26, 27, 28, 29, 30, 31, 32] (by decide +kernel) (by decide +kernel)
set_option maxRecDepth 20000 in
theorem gX1_giveAway_X1_here : GoodIn wsX1_giveAway (wsV RX1 65 RX1 yX1_here wsX1_here) := goodIn_app (goodIn_of _ (by decide +kernel)) ggX1_giveAway_X1_here
theorem dX1_giveAway_0 : decode cX1_giveAway 0 = .ok (.aload_n 0, 1) := by decide +kernel
theorem dX1_giveAway_1 : decode cX1_giveAway 1 = .ok (.aload_n 0, 1) := by decide +kernel
theorem dX1_giveAway_2 : decode cX1_giveAway 2 = .ok (.iload_n 1, 1) := by decide +kernel
theorem dX1_giveAway_3 : decode cX1_giveAway 3 = .ok (.invokevirtual 62, 3) := by decide +kernel
theorem dX1_giveAway_6 : decode cX1_giveAway 6 = .ok (.ifCond .eq 7, 3) := by decide +kernel
theorem dX1_giveAway_9 : decode cX1_giveAway 9 = .ok (.iconst 0, 1) := by decide +kernel
theorem dX1_giveAway_10 : decode cX1_giveAway 10 = .ok (.goto 4, 3) := by decide +kernel
theorem dX1_giveAway_13 : decode cX1_giveAway 13 = .ok (.iconst 1, 1) := by decide +kernel
theorem dX1_giveAway_14 : decode cX1_giveAway 14 = .ok (.invokevirtual 59, 3) := by decide +kernel
theorem dX1_giveAway_17 : decode cX1_giveAway 17 = .ok (.ifCond .ne 5, 3) := by decide +kernel
theorem dX1_giveAway_20 : decode cX1_giveAway 20 = .ok (.iconst 0, 1) := by decide +kernel
theorem dX1_giveAway_21 : decode cX1_giveAway 21 = .ok (.ireturn, 1) := by decide +kernel
theorem dX1_giveAway_22 : decode cX1_giveAway 22 = .ok (.aload_n 0, 1) := by decide +kernel
theorem dX1_giveAway_23 : decode cX1_giveAway 23 = .ok (.getfield 7, 3) := by decide +kernel
theorem dX1_giveAway_26 : decode cX1_giveAway 26 = .ok (.iload_n 1, 1) := by decide +kernel
theorem dX1_giveAway_27 : decode cX1_giveAway 27 = .ok (.iconst 1, 1) := by decide +kernel
theorem dX1_giveAway_28 : decode cX1_giveAway 28 = .ok (.bastore, 1) := by decide +kernel
theorem dX1_giveAway_29 : decode cX1_giveAway 29 = .ok (.aload_n 0, 1) := by decide +kernel
theorem dX1_giveAway_30 : decode cX1_giveAway 30 = .ok (.invokevirtual 65, 3) := by decide +kernel
theorem dX1_giveAway_33 : decode cX1_giveAway 33 = .ok (.ireturn, 1) := by decide +kernel
set_option maxRecDepth 20000 in
theorem ggX1_setClash_X1_isColour : GoodIn wsX1_setClash wsX1_isColour := goodIn_r _ [5, 6, 7, 4, 8] (by decide +kernel) (by decide +kernel)
set_option maxRecDepth 20000 in
theorem gX1_setClash_X1_isColour : GoodIn wsX1_setClash (va_wsS RX1 52 yX1_isColour wsX1_isColour) := goodIn_app (goodIn_of _ (by decide +kernel)) ggX1_setClash_X1_isColour
set_option maxRecDepth 20000 in
theorem ggX1_setClash_X1_goes : GoodIn wsX1_setClash wsX1_goes := goodIn_r _ [12, 13, 14, 15, 16, 17, 18, 19, 20, 21, 22, 23, 24, 25, 26] (by decide +kernel) (by decide +kernel)
set_option maxRecDepth 20000 in
theorem gX1_setClash_X1_goes : GoodIn wsX1_setClash (wsV RX1 59 RX1 yX1_goes wsX1_goes) := goodIn_app (goodIn_of _ (by decide +kernel)) ggX1_setClash_X1_goes
theorem dX1_setClash_0 : decode cX1_setClash 0 = .ok (.aload_n 0, 1) := by decide +kernel
theorem dX1_setClash_1 : decode cX1_setClash 1 = .ok (.iload_n 1, 1) := by decide +kernel
theorem dX1_setClash_2 : decode cX1_setClash 2 = .ok (.invokestatic 52, 3) := by decide +kernel
theorem dX1_setClash_5 : decode cX1_setClash 5 = .ok (.ifCond .eq 14, 3) := by decide +kernel
theorem dX1_setClash_8 : decode cX1_setClash 8 = .ok (.iload_n 2, 1) := by decide +kernel
theorem dX1_setClash_9 : decode cX1_setClash 9 = .ok (.invokestatic 52, 3) := by decide +kernel
theorem dX1_setClash_12 : decode cX1_setClash 12 = .ok (.ifCond .eq 7, 3) := by decide +kernel
theorem dX1_setClash_15 : decode cX1_setClash 15 = .ok (.iconst 0, 1) := by decide +kernel
theorem dX1_setClash_16 : decode cX1_setClash 16 = .ok (.goto 4, 3) := by decide +kernel
theorem dX1_setClash_19 : decode cX1_setClash 19 = .ok (.iconst 1, 1) := by decide +kernel
theorem dX1_setClash_20 : decode cX1_setClash 20 = .ok (.invokevirtual 59, 3) := by decide +kernel
theorem dX1_setClash_23 : decode cX1_setClash 23 = .ok (.ifCond .ne 5, 3) := by decide +kernel
theorem dX1_setClash_26 : decode cX1_setClash 26 = .ok (.iconst 0, 1) := by decide +kernel
theorem dX1_setClash_27 : decode cX1_setClash 27 = .ok (.ireturn, 1) := by decide +kernel
theorem dX1_setClash_28 : decode cX1_setClash 28 = .ok (.aload_n 0, 1) := by decide +kernel
theorem dX1_setClash_29 : decode cX1_setClash 29 = .ok (.getfield 32, 3) := by decide +kernel
theorem dX1_setClash_32 : decode cX1_setClash 32 = .ok (.bipush 8, 2) := by decide +kernel
theorem dX1_setClash_34 : decode cX1_setClash 34 = .ok (.iload_n 1, 1) := by decide +kernel
theorem dX1_setClash_35 : decode cX1_setClash 35 = .ok (.imul, 1) := by decide +kernel
theorem dX1_setClash_36 : decode cX1_setClash 36 = .ok (.iload_n 2, 1) := by decide +kernel
theorem dX1_setClash_37 : decode cX1_setClash 37 = .ok (.iadd, 1) := by decide +kernel
theorem dX1_setClash_38 : decode cX1_setClash 38 = .ok (.baload, 1) := by decide +kernel
theorem dX1_setClash_39 : decode cX1_setClash 39 = .ok (.istore 4, 2) := by decide +kernel
theorem dX1_setClash_41 : decode cX1_setClash 41 = .ok (.aload_n 0, 1) := by decide +kernel
theorem dX1_setClash_42 : decode cX1_setClash 42 = .ok (.getfield 32, 3) := by decide +kernel
theorem dX1_setClash_45 : decode cX1_setClash 45 = .ok (.bipush 8, 2) := by decide +kernel
theorem dX1_setClash_47 : decode cX1_setClash 47 = .ok (.iload_n 1, 1) := by decide +kernel
theorem dX1_setClash_48 : decode cX1_setClash 48 = .ok (.imul, 1) := by decide +kernel
theorem dX1_setClash_49 : decode cX1_setClash 49 = .ok (.iload_n 2, 1) := by decide +kernel
theorem dX1_setClash_50 : decode cX1_setClash 50 = .ok (.iadd, 1) := by decide +kernel
theorem dX1_setClash_51 : decode cX1_setClash 51 = .ok (.iload_n 3, 1) := by decide +kernel
theorem dX1_setClash_52 : decode cX1_setClash 52 = .ok (.bastore, 1) := by decide +kernel
theorem dX1_setClash_53 : decode cX1_setClash 53 = .ok (.aload_n 0, 1) := by decide +kernel
theorem dX1_setClash_54 : decode cX1_setClash 54 = .ok (.getfield 32, 3) := by decide +kernel
theorem dX1_setClash_57 : decode cX1_setClash 57 = .ok (.bipush 8, 2) := by decide +kernel
theorem dX1_setClash_59 : decode cX1_setClash 59 = .ok (.iload_n 2, 1) := by decide +kernel
theorem dX1_setClash_60 : decode cX1_setClash 60 = .ok (.imul, 1) := by decide +kernel
theorem dX1_setClash_61 : decode cX1_setClash 61 = .ok (.iload_n 1, 1) := by decide +kernel
theorem dX1_setClash_62 : decode cX1_setClash 62 = .ok (.iadd, 1) := by decide +kernel
theorem dX1_setClash_63 : decode cX1_setClash 63 = .ok (.iload_n 3, 1) := by decide +kernel
theorem dX1_setClash_64 : decode cX1_setClash 64 = .ok (.bastore, 1) := by decide +kernel
theorem dX1_setClash_65 : decode cX1_setClash 65 = .ok (.iload 4, 2) := by decide +kernel
theorem dX1_setClash_67 : decode cX1_setClash 67 = .ok (.ireturn, 1) := by decide +kernel
set_option maxRecDepth 20000 in
theorem ggX1_things_X1_here : GoodIn wsX1_things wsX1_here := goodIn_r _ [6, 7, 8, 9, 10, 11, 12, 13, 14, 15, 16, 17, 18, 19, 20, 21] (by decide +kernel) (by decide +kernel)
set_option maxRecDepth 20000 in
theorem gX1_things_X1_here : GoodIn wsX1_things (wsV RX1 65 RX1 yX1_here wsX1_here) := goodIn_app (goodIn_of _ (by decide +kernel)) ggX1_things_X1_here
theorem dX1_things_0 : decode cX1_things 0 = .ok (.aload_n 0, 1) := by decide +kernel
theorem dX1_things_1 : decode cX1_things 1 = .ok (.iconst 0, 1) := by decide +kernel
theorem dX1_things_2 : decode cX1_things 2 = .ok (.putfield 41, 3) := by decide +kernel
theorem dX1_things_5 : decode cX1_things 5 = .ok (.aload_n 0, 1) := by decide +kernel
theorem dX1_things_6 : decode cX1_things 6 = .ok (.invokevirtual 65, 3) := by decide +kernel
theorem dX1_things_9 : decode cX1_things 9 = .ok (.ireturn, 1) := by decide +kernel
set_option maxRecDepth 20000 in
theorem ggX1_left_X1_isThing : GoodIn wsX1_left wsX1_isThing := goodIn_r _ [6, 7, 8, 9, 10, 5, 11, 17, 18, 19, 20, 21, 22, 23, 24, 25, 26, 27, 28, 29] (by decide +kernel) (by decide +kernel)
set_option maxRecDepth 20000 in
theorem gX1_left_X1_isThing : GoodIn wsX1_left (wsV RX1 62 RX1 yX1_isThing wsX1_isThing) := goodIn_app (goodIn_of _ (by decide +kernel)) ggX1_left_X1_isThing
set_option maxRecDepth 20000 in
theorem ggX1_left_X1_goes : GoodIn wsX1_left wsX1_goes := goodIn_r _ [15, 16, 17, 18, 19, 20, 21, 22, 23, 24, 25, 26, 27, 28, 29] (by decide +kernel) (by decide +kernel)
set_option maxRecDepth 20000 in
theorem gX1_left_X1_goes : GoodIn wsX1_left (wsV RX1 59 RX1 yX1_goes wsX1_goes) := goodIn_app (goodIn_of _ (by decide +kernel)) ggX1_left_X1_goes
theorem dX1_left_0 : decode cX1_left 0 = .ok (.aload_n 0, 1) := by decide +kernel
theorem dX1_left_1 : decode cX1_left 1 = .ok (.aload_n 0, 1) := by decide +kernel
theorem dX1_left_2 : decode cX1_left 2 = .ok (.iload_n 1, 1) := by decide +kernel
theorem dX1_left_3 : decode cX1_left 3 = .ok (.invokevirtual 62, 3) := by decide +kernel
theorem dX1_left_6 : decode cX1_left 6 = .ok (.ifCond .eq 7, 3) := by decide +kernel
theorem dX1_left_9 : decode cX1_left 9 = .ok (.iconst 0, 1) := by decide +kernel
theorem dX1_left_10 : decode cX1_left 10 = .ok (.goto 4, 3) := by decide +kernel
theorem dX1_left_13 : decode cX1_left 13 = .ok (.iconst 1, 1) := by decide +kernel
theorem dX1_left_14 : decode cX1_left 14 = .ok (.invokevirtual 59, 3) := by decide +kernel
theorem dX1_left_17 : decode cX1_left 17 = .ok (.ifCond .eq 12, 3) := by decide +kernel
theorem dX1_left_20 : decode cX1_left 20 = .ok (.aload_n 0, 1) := by decide +kernel
theorem dX1_left_21 : decode cX1_left 21 = .ok (.getfield 29, 3) := by decide +kernel
theorem dX1_left_24 : decode cX1_left 24 = .ok (.iload_n 1, 1) := by decide +kernel
theorem dX1_left_25 : decode cX1_left 25 = .ok (.iaload, 1) := by decide +kernel
theorem dX1_left_26 : decode cX1_left 26 = .ok (.goto 4, 3) := by decide +kernel
theorem dX1_left_29 : decode cX1_left 29 = .ok (.iconst 0, 1) := by decide +kernel
theorem dX1_left_30 : decode cX1_left 30 = .ok (.ireturn, 1) := by decide +kernel
theorem dX1_doClash_0 : decode cX1_doClash 0 = .ok (.aload_n 0, 1) := by decide +kernel
theorem dX1_doClash_1 : decode cX1_doClash 1 = .ok (.getfield 32, 3) := by decide +kernel
theorem dX1_doClash_4 : decode cX1_doClash 4 = .ok (.bipush 8, 2) := by decide +kernel
theorem dX1_doClash_6 : decode cX1_doClash 6 = .ok (.aload_n 0, 1) := by decide +kernel
theorem dX1_doClash_7 : decode cX1_doClash 7 = .ok (.getfield 17, 3) := by decide +kernel
theorem dX1_doClash_10 : decode cX1_doClash 10 = .ok (.iload_n 1, 1) := by decide +kernel
theorem dX1_doClash_11 : decode cX1_doClash 11 = .ok (.iaload, 1) := by decide +kernel
theorem dX1_doClash_12 : decode cX1_doClash 12 = .ok (.imul, 1) := by decide +kernel
theorem dX1_doClash_13 : decode cX1_doClash 13 = .ok (.aload_n 0, 1) := by decide +kernel
theorem dX1_doClash_14 : decode cX1_doClash 14 = .ok (.getfield 17, 3) := by decide +kernel
theorem dX1_doClash_17 : decode cX1_doClash 17 = .ok (.iload_n 2, 1) := by decide +kernel
theorem dX1_doClash_18 : decode cX1_doClash 18 = .ok (.iaload, 1) := by decide +kernel
theorem dX1_doClash_19 : decode cX1_doClash 19 = .ok (.iadd, 1) := by decide +kernel
theorem dX1_doClash_20 : decode cX1_doClash 20 = .ok (.baload, 1) := by decide +kernel
theorem dX1_doClash_21 : decode cX1_doClash 21 = .ok (.ireturn, 1) := by decide +kernel
set_option maxRecDepth 20000 in
theorem ggX1_wrong_X1_isThing : GoodIn wsX1_wrong wsX1_isThing := goodIn_r _ [6, 7, 8, 9, 10, 5, 11, 12, 13, 14, 15, 16, 17, 18, 19, 20, 21, 22, 23, 24] (by decide +kernel) (by decide +kernel)
set_option maxRecDepth 20000 in
theorem gX1_wrong_X1_isThing : GoodIn wsX1_wrong (wsV RX1 62 RX1 yX1_isThing wsX1_isThing) := goodIn_app (goodIn_of _ (by decide +kernel)) ggX1_wrong_X1_isThing
theorem dX1_wrong_0 : decode cX1_wrong 0 = .ok (.aload_n 0, 1) := by decide +kernel
theorem dX1_wrong_1 : decode cX1_wrong 1 = .ok (.iload_n 1, 1) := by decide +kernel
theorem dX1_wrong_2 : decode cX1_wrong 2 = .ok (.invokevirtual 62, 3) := by decide +kernel
theorem dX1_wrong_5 : decode cX1_wrong 5 = .ok (.ifCond .eq 28, 3) := by decide +kernel
theorem dX1_wrong_8 : decode cX1_wrong 8 = .ok (.aload_n 0, 1) := by decide +kernel
theorem dX1_wrong_9 : decode cX1_wrong 9 = .ok (.iload_n 2, 1) := by decide +kernel
theorem dX1_wrong_10 : decode cX1_wrong 10 = .ok (.invokevirtual 62, 3) := by decide +kernel
theorem dX1_wrong_13 : decode cX1_wrong 13 = .ok (.ifCond .eq 20, 3) := by decide +kernel
theorem dX1_wrong_16 : decode cX1_wrong 16 = .ok (.iload_n 3, 1) := by decide +kernel
theorem dX1_wrong_17 : decode cX1_wrong 17 = .ok (.iconst (-1), 1) := by decide +kernel
theorem dX1_wrong_18 : decode cX1_wrong 18 = .ok (.if_icmp .eq 11, 3) := by decide +kernel
theorem dX1_wrong_21 : decode cX1_wrong 21 = .ok (.aload_n 0, 1) := by decide +kernel
theorem dX1_wrong_22 : decode cX1_wrong 22 = .ok (.iload_n 3, 1) := by decide +kernel
theorem dX1_wrong_23 : decode cX1_wrong 23 = .ok (.invokevirtual 62, 3) := by decide +kernel
theorem dX1_wrong_26 : decode cX1_wrong 26 = .ok (.ifCond .eq 7, 3) := by decide +kernel
theorem dX1_wrong_29 : decode cX1_wrong 29 = .ok (.iconst 1, 1) := by decide +kernel
theorem dX1_wrong_30 : decode cX1_wrong 30 = .ok (.goto 4, 3) := by decide +kernel
theorem dX1_wrong_33 : decode cX1_wrong 33 = .ok (.iconst 0, 1) := by decide +kernel
theorem dX1_wrong_34 : decode cX1_wrong 34 = .ok (.istore 4, 2) := by decide +kernel
theorem dX1_wrong_36 : decode cX1_wrong 36 = .ok (.iload 4, 2) := by decide +kernel
theorem dX1_wrong_38 : decode cX1_wrong 38 = .ok (.ifCond .ne 7, 3) := by decide +kernel
theorem dX1_wrong_41 : decode cX1_wrong 41 = .ok (.iconst 1, 1) := by decide +kernel
theorem dX1_wrong_42 : decode cX1_wrong 42 = .ok (.goto 42, 3) := by decide +kernel
theorem dX1_wrong_45 : decode cX1_wrong 45 = .ok (.aload_n 0, 1) := by decide +kernel
theorem dX1_wrong_46 : decode cX1_wrong 46 = .ok (.getfield 13, 3) := by decide +kernel
theorem dX1_wrong_49 : decode cX1_wrong 49 = .ok (.iload_n 1, 1) := by decide +kernel
theorem dX1_wrong_50 : decode cX1_wrong 50 = .ok (.iaload, 1) := by decide +kernel
theorem dX1_wrong_51 : decode cX1_wrong 51 = .ok (.ifCond .ne 28, 3) := by decide +kernel
theorem dX1_wrong_54 : decode cX1_wrong 54 = .ok (.aload_n 0, 1) := by decide +kernel
theorem dX1_wrong_55 : decode cX1_wrong 55 = .ok (.getfield 13, 3) := by decide +kernel
theorem dX1_wrong_58 : decode cX1_wrong 58 = .ok (.iload_n 2, 1) := by decide +kernel
theorem dX1_wrong_59 : decode cX1_wrong 59 = .ok (.iaload, 1) := by decide +kernel
theorem dX1_wrong_60 : decode cX1_wrong 60 = .ok (.iconst 1, 1) := by decide +kernel
theorem dX1_wrong_61 : decode cX1_wrong 61 = .ok (.if_icmp .ne 18, 3) := by decide +kernel
theorem dX1_wrong_64 : decode cX1_wrong 64 = .ok (.iload_n 3, 1) := by decide +kernel
theorem dX1_wrong_65 : decode cX1_wrong 65 = .ok (.iconst (-1), 1) := by decide +kernel
theorem dX1_wrong_66 : decode cX1_wrong 66 = .ok (.if_icmp .eq 17, 3) := by decide +kernel
theorem dX1_wrong_69 : decode cX1_wrong 69 = .ok (.aload_n 0, 1) := by decide +kernel
theorem dX1_wrong_70 : decode cX1_wrong 70 = .ok (.getfield 13, 3) := by decide +kernel
theorem dX1_wrong_73 : decode cX1_wrong 73 = .ok (.iload_n 3, 1) := by decide +kernel
theorem dX1_wrong_74 : decode cX1_wrong 74 = .ok (.iaload, 1) := by decide +kernel
theorem dX1_wrong_75 : decode cX1_wrong 75 = .ok (.iconst 2, 1) := by decide +kernel
theorem dX1_wrong_76 : decode cX1_wrong 76 = .ok (.if_icmp .eq 7, 3) := by decide +kernel
theorem dX1_wrong_79 : decode cX1_wrong 79 = .ok (.iconst 2, 1) := by decide +kernel
theorem dX1_wrong_80 : decode cX1_wrong 80 = .ok (.goto 4, 3) := by decide +kernel
theorem dX1_wrong_83 : decode cX1_wrong 83 = .ok (.iconst 0, 1) := by decide +kernel
theorem dX1_wrong_84 : decode cX1_wrong 84 = .ok (.ireturn, 1) := by decide +kernel
set_option maxRecDepth 20000 in
theorem ggX1_fits_X1_doClash : GoodIn wsX1_fits wsX1_doClash := goodIn_r _ [6, 7, 8, 9, 10, 11, 12, 13, 14, 15, 16, 17, 18, 19, 20, 21] (by decide +kernel) (by decide +kernel)
set_option maxRecDepth 20000 in
theorem gX1_fits_X1_doClash : GoodIn wsX1_fits (wsV RX1 69 RX1 yX1_doClash wsX1_doClash) := goodIn_app (goodIn_of _ (by decide +kernel)) ggX1_fits_X1_doClash
theorem dX1_fits_0 : decode cX1_fits 0 = .ok (.aload_n 0, 1) := by decide +kernel
theorem dX1_fits_1 : decode cX1_fits 1 = .ok (.getfield 29, 3) := by decide +kernel
theorem dX1_fits_4 : decode cX1_fits 4 = .ok (.iload_n 1, 1) := by decide +kernel
theorem dX1_fits_5 : decode cX1_fits 5 = .ok (.iaload, 1) := by decide +kernel
theorem dX1_fits_6 : decode cX1_fits 6 = .ok (.ifCond .le 25, 3) := by decide +kernel
theorem dX1_fits_9 : decode cX1_fits 9 = .ok (.aload_n 0, 1) := by decide +kernel
theorem dX1_fits_10 : decode cX1_fits 10 = .ok (.getfield 29, 3) := by decide +kernel
theorem dX1_fits_13 : decode cX1_fits 13 = .ok (.iload_n 2, 1) := by decide +kernel
theorem dX1_fits_14 : decode cX1_fits 14 = .ok (.iaload, 1) := by decide +kernel
theorem dX1_fits_15 : decode cX1_fits 15 = .ok (.ifCond .le 16, 3) := by decide +kernel
theorem dX1_fits_18 : decode cX1_fits 18 = .ok (.aload_n 0, 1) := by decide +kernel
theorem dX1_fits_19 : decode cX1_fits 19 = .ok (.iload_n 1, 1) := by decide +kernel
theorem dX1_fits_20 : decode cX1_fits 20 = .ok (.iload_n 2, 1) := by decide +kernel
theorem dX1_fits_21 : decode cX1_fits 21 = .ok (.invokevirtual 69, 3) := by decide +kernel
theorem dX1_fits_24 : decode cX1_fits 24 = .ok (.ifCond .ne 7, 3) := by decide +kernel
theorem dX1_fits_27 : decode cX1_fits 27 = .ok (.iconst 1, 1) := by decide +kernel
theorem dX1_fits_28 : decode cX1_fits 28 = .ok (.goto 4, 3) := by decide +kernel
theorem dX1_fits_31 : decode cX1_fits 31 = .ok (.iconst 0, 1) := by decide +kernel
theorem dX1_fits_32 : decode cX1_fits 32 = .ok (.istore 4, 2) := by decide +kernel
theorem dX1_fits_34 : decode cX1_fits 34 = .ok (.iload 4, 2) := by decide +kernel
theorem dX1_fits_36 : decode cX1_fits 36 = .ok (.ifCond .eq 39, 3) := by decide +kernel
theorem dX1_fits_39 : decode cX1_fits 39 = .ok (.iload_n 3, 1) := by decide +kernel
theorem dX1_fits_40 : decode cX1_fits 40 = .ok (.iconst (-1), 1) := by decide +kernel
theorem dX1_fits_41 : decode cX1_fits 41 = .ok (.if_icmp .eq 30, 3) := by decide +kernel
theorem dX1_fits_44 : decode cX1_fits 44 = .ok (.aload_n 0, 1) := by decide +kernel
theorem dX1_fits_45 : decode cX1_fits 45 = .ok (.getfield 29, 3) := by decide +kernel
theorem dX1_fits_48 : decode cX1_fits 48 = .ok (.iload_n 3, 1) := by decide +kernel
theorem dX1_fits_49 : decode cX1_fits 49 = .ok (.iaload, 1) := by decide +kernel
theorem dX1_fits_50 : decode cX1_fits 50 = .ok (.ifCond .le 25, 3) := by decide +kernel
theorem dX1_fits_53 : decode cX1_fits 53 = .ok (.aload_n 0, 1) := by decide +kernel
theorem dX1_fits_54 : decode cX1_fits 54 = .ok (.iload_n 1, 1) := by decide +kernel
theorem dX1_fits_55 : decode cX1_fits 55 = .ok (.iload_n 3, 1) := by decide +kernel
theorem dX1_fits_56 : decode cX1_fits 56 = .ok (.invokevirtual 69, 3) := by decide +kernel
theorem dX1_fits_59 : decode cX1_fits 59 = .ok (.ifCond .ne 16, 3) := by decide +kernel
theorem dX1_fits_62 : decode cX1_fits 62 = .ok (.aload_n 0, 1) := by decide +kernel
theorem dX1_fits_63 : decode cX1_fits 63 = .ok (.iload_n 2, 1) := by decide +kernel
theorem dX1_fits_64 : decode cX1_fits 64 = .ok (.iload_n 3, 1) := by decide +kernel
theorem dX1_fits_65 : decode cX1_fits 65 = .ok (.invokevirtual 69, 3) := by decide +kernel
theorem dX1_fits_68 : decode cX1_fits 68 = .ok (.ifCond .ne 7, 3) := by decide +kernel
theorem dX1_fits_71 : decode cX1_fits 71 = .ok (.iconst 1, 1) := by decide +kernel
theorem dX1_fits_72 : decode cX1_fits 72 = .ok (.goto 4, 3) := by decide +kernel
theorem dX1_fits_75 : decode cX1_fits 75 = .ok (.iconst 0, 1) := by decide +kernel
theorem dX1_fits_76 : decode cX1_fits 76 = .ok (.ireturn, 1) := by decide +kernel
theorem dX1_warmthOf_0 : decode cX1_warmthOf 0 = .ok (.aload_n 0, 1) := by decide +kernel
theorem dX1_warmthOf_1 : decode cX1_warmthOf 1 = .ok (.getfield 20, 3) := by decide +kernel
theorem dX1_warmthOf_4 : decode cX1_warmthOf 4 = .ok (.iload_n 1, 1) := by decide +kernel
theorem dX1_warmthOf_5 : decode cX1_warmthOf 5 = .ok (.iaload, 1) := by decide +kernel
theorem dX1_warmthOf_6 : decode cX1_warmthOf 6 = .ok (.aload_n 0, 1) := by decide +kernel
theorem dX1_warmthOf_7 : decode cX1_warmthOf 7 = .ok (.getfield 20, 3) := by decide +kernel
theorem dX1_warmthOf_10 : decode cX1_warmthOf 10 = .ok (.iload_n 2, 1) := by decide +kernel
theorem dX1_warmthOf_11 : decode cX1_warmthOf 11 = .ok (.iaload, 1) := by decide +kernel
theorem dX1_warmthOf_12 : decode cX1_warmthOf 12 = .ok (.iadd, 1) := by decide +kernel
theorem dX1_warmthOf_13 : decode cX1_warmthOf 13 = .ok (.iload_n 3, 1) := by decide +kernel
theorem dX1_warmthOf_14 : decode cX1_warmthOf 14 = .ok (.iconst (-1), 1) := by decide +kernel
theorem dX1_warmthOf_15 : decode cX1_warmthOf 15 = .ok (.if_icmp .ne 7, 3) := by decide +kernel
theorem dX1_warmthOf_18 : decode cX1_warmthOf 18 = .ok (.iconst 0, 1) := by decide +kernel
theorem dX1_warmthOf_19 : decode cX1_warmthOf 19 = .ok (.goto 9, 3) := by decide +kernel
theorem dX1_warmthOf_22 : decode cX1_warmthOf 22 = .ok (.aload_n 0, 1) := by decide +kernel
theorem dX1_warmthOf_23 : decode cX1_warmthOf 23 = .ok (.getfield 20, 3) := by decide +kernel
theorem dX1_warmthOf_26 : decode cX1_warmthOf 26 = .ok (.iload_n 3, 1) := by decide +kernel
theorem dX1_warmthOf_27 : decode cX1_warmthOf 27 = .ok (.iaload, 1) := by decide +kernel
theorem dX1_warmthOf_28 : decode cX1_warmthOf 28 = .ok (.iadd, 1) := by decide +kernel
theorem dX1_warmthOf_29 : decode cX1_warmthOf 29 = .ok (.ireturn, 1) := by decide +kernel
theorem dX1_isSoon_0 : decode cX1_isSoon 0 = .ok (.iconst 0, 1) := by decide +kernel
theorem dX1_isSoon_1 : decode cX1_isSoon 1 = .ok (.istore 4, 2) := by decide +kernel
theorem dX1_isSoon_3 : decode cX1_isSoon 3 = .ok (.iconst 0, 1) := by decide +kernel
theorem dX1_isSoon_4 : decode cX1_isSoon 4 = .ok (.istore 5, 2) := by decide +kernel
theorem dX1_isSoon_6 : decode cX1_isSoon 6 = .ok (.iload 5, 2) := by decide +kernel
theorem dX1_isSoon_8 : decode cX1_isSoon 8 = .ok (.bipush 8, 2) := by decide +kernel
theorem dX1_isSoon_10 : decode cX1_isSoon 10 = .ok (.if_icmp .ge 69, 3) := by decide +kernel
theorem dX1_isSoon_13 : decode cX1_isSoon 13 = .ok (.aload_n 0, 1) := by decide +kernel
theorem dX1_isSoon_14 : decode cX1_isSoon 14 = .ok (.getfield 35, 3) := by decide +kernel
theorem dX1_isSoon_17 : decode cX1_isSoon 17 = .ok (.bipush 8, 2) := by decide +kernel
theorem dX1_isSoon_19 : decode cX1_isSoon 19 = .ok (.bipush 12, 2) := by decide +kernel
theorem dX1_isSoon_21 : decode cX1_isSoon 21 = .ok (.iload_n 1, 1) := by decide +kernel
theorem dX1_isSoon_22 : decode cX1_isSoon 22 = .ok (.imul, 1) := by decide +kernel
theorem dX1_isSoon_23 : decode cX1_isSoon 23 = .ok (.iload_n 2, 1) := by decide +kernel
theorem dX1_isSoon_24 : decode cX1_isSoon 24 = .ok (.iadd, 1) := by decide +kernel
theorem dX1_isSoon_25 : decode cX1_isSoon 25 = .ok (.imul, 1) := by decide +kernel
theorem dX1_isSoon_26 : decode cX1_isSoon 26 = .ok (.iload 5, 2) := by decide +kernel
theorem dX1_isSoon_28 : decode cX1_isSoon 28 = .ok (.iadd, 1) := by decide +kernel
theorem dX1_isSoon_29 : decode cX1_isSoon 29 = .ok (.iaload, 1) := by decide +kernel
theorem dX1_isSoon_30 : decode cX1_isSoon 30 = .ok (.istore 6, 2) := by decide +kernel
theorem dX1_isSoon_32 : decode cX1_isSoon 32 = .ok (.iload 4, 2) := by decide +kernel
theorem dX1_isSoon_34 : decode cX1_isSoon 34 = .ok (.ifCond .ne 32, 3) := by decide +kernel
theorem dX1_isSoon_37 : decode cX1_isSoon 37 = .ok (.iload_n 3, 1) := by decide +kernel
theorem dX1_isSoon_38 : decode cX1_isSoon 38 = .ok (.iload 5, 2) := by decide +kernel
theorem dX1_isSoon_40 : decode cX1_isSoon 40 = .ok (.ishr, 1) := by decide +kernel
theorem dX1_isSoon_41 : decode cX1_isSoon 41 = .ok (.iconst 1, 1) := by decide +kernel
theorem dX1_isSoon_42 : decode cX1_isSoon 42 = .ok (.iand, 1) := by decide +kernel
theorem dX1_isSoon_43 : decode cX1_isSoon 43 = .ok (.iconst 1, 1) := by decide +kernel
theorem dX1_isSoon_44 : decode cX1_isSoon 44 = .ok (.if_icmp .ne 26, 3) := by decide +kernel
theorem dX1_isSoon_47 : decode cX1_isSoon 47 = .ok (.iload 6, 2) := by decide +kernel
theorem dX1_isSoon_49 : decode cX1_isSoon 49 = .ok (.ifCond .le 21, 3) := by decide +kernel
theorem dX1_isSoon_52 : decode cX1_isSoon 52 = .ok (.aload_n 0, 1) := by decide +kernel
theorem dX1_isSoon_53 : decode cX1_isSoon 53 = .ok (.getfield 73, 3) := by decide +kernel
theorem dX1_isSoon_56 : decode cX1_isSoon 56 = .ok (.iload 6, 2) := by decide +kernel
theorem dX1_isSoon_58 : decode cX1_isSoon 58 = .ok (.iconst 1, 1) := by decide +kernel
theorem dX1_isSoon_59 : decode cX1_isSoon 59 = .ok (.isub, 1) := by decide +kernel
theorem dX1_isSoon_60 : decode cX1_isSoon 60 = .ok (.isub, 1) := by decide +kernel
theorem dX1_isSoon_61 : decode cX1_isSoon 61 = .ok (.bipush 7, 2) := by decide +kernel
theorem dX1_isSoon_63 : decode cX1_isSoon 63 = .ok (.if_icmp .ge 7, 3) := by decide +kernel
theorem dX1_isSoon_66 : decode cX1_isSoon 66 = .ok (.iconst 1, 1) := by decide +kernel
theorem dX1_isSoon_67 : decode cX1_isSoon 67 = .ok (.goto 4, 3) := by decide +kernel
theorem dX1_isSoon_70 : decode cX1_isSoon 70 = .ok (.iconst 0, 1) := by decide +kernel
theorem dX1_isSoon_71 : decode cX1_isSoon 71 = .ok (.istore 4, 2) := by decide +kernel
theorem dX1_isSoon_73 : decode cX1_isSoon 73 = .ok (.iinc 5 1, 3) := by decide +kernel
theorem dX1_isSoon_76 : decode cX1_isSoon 76 = .ok (.goto (-70), 3) := by decide +kernel
theorem dX1_isSoon_79 : decode cX1_isSoon 79 = .ok (.iload 4, 2) := by decide +kernel
theorem dX1_isSoon_81 : decode cX1_isSoon 81 = .ok (.ireturn, 1) := by decide +kernel
set_option maxRecDepth 20000 in
theorem ggX1_isPossible_X1_wrong : GoodIn wsX1_isPossible wsX1_wrong := goodIn_r _ [5, 6, 7, 8, 9, 4, 10, 11, 12, 13, 14, 15, 32, 33, 34, 35, 36, 37, 38, 39, 40, 41, 42, 43, 44] (by decide +kernel) (by decide +kernel)
set_option maxRecDepth 20000 in
theorem gX1_isPossible_X1_wrong : GoodIn wsX1_isPossible (wsV RX1 76 RX1 yX1_wrong wsX1_wrong) := goodIn_app (goodIn_of _ (by decide +kernel)) ggX1_isPossible_X1_wrong
set_option maxRecDepth 20000 in
theorem ggX1_isPossible_X1_goes : GoodIn wsX1_isPossible wsX1_goes := goodIn_r _ [19, 20, 32, 33, 34, 35, 36, 37, 38, 39, 40, 41, 42, 43, 44] (by decide +kernel) (by decide +kernel)
set_option maxRecDepth 20000 in
theorem gX1_isPossible_X1_goes : GoodIn wsX1_isPossible (wsV RX1 59 RX1 yX1_goes wsX1_goes) := goodIn_app (goodIn_of _ (by decide +kernel)) ggX1_isPossible_X1_goes
set_option maxRecDepth 20000 in
theorem ggX1_isPossible_X1_fits : GoodIn wsX1_isPossible wsX1_fits := goodIn_r _ [24, 25, 26, 27, 28, 4, 29, 30, 31, 32, 33, 34, 35, 36, 37, 38, 39, 40, 41, 42, 43, 44] (by decide +kernel) (by decide +kernel)
set_option maxRecDepth 20000 in
theorem gX1_isPossible_X1_fits : GoodIn wsX1_isPossible (wsV RX1 80 RX1 yX1_fits wsX1_fits) := goodIn_app (goodIn_of _ (by decide +kernel)) ggX1_isPossible_X1_fits
theorem dX1_isPossible_0 : decode cX1_isPossible 0 = .ok (.aload_n 0, 1) := by decide +kernel
theorem dX1_isPossible_1 : decode cX1_isPossible 1 = .ok (.aload_n 0, 1) := by decide +kernel
theorem dX1_isPossible_2 : decode cX1_isPossible 2 = .ok (.iload_n 1, 1) := by decide +kernel
theorem dX1_isPossible_3 : decode cX1_isPossible 3 = .ok (.iload_n 2, 1) := by decide +kernel
theorem dX1_isPossible_4 : decode cX1_isPossible 4 = .ok (.iload_n 3, 1) := by decide +kernel
theorem dX1_isPossible_5 : decode cX1_isPossible 5 = .ok (.invokevirtual 76, 3) := by decide +kernel
theorem dX1_isPossible_8 : decode cX1_isPossible 8 = .ok (.invokevirtual 59, 3) := by decide +kernel
theorem dX1_isPossible_11 : decode cX1_isPossible 11 = .ok (.ifCond .eq 17, 3) := by decide +kernel
theorem dX1_isPossible_14 : decode cX1_isPossible 14 = .ok (.aload_n 0, 1) := by decide +kernel
theorem dX1_isPossible_15 : decode cX1_isPossible 15 = .ok (.iload_n 1, 1) := by decide +kernel
theorem dX1_isPossible_16 : decode cX1_isPossible 16 = .ok (.iload_n 2, 1) := by decide +kernel
theorem dX1_isPossible_17 : decode cX1_isPossible 17 = .ok (.iload_n 3, 1) := by decide +kernel
theorem dX1_isPossible_18 : decode cX1_isPossible 18 = .ok (.invokevirtual 80, 3) := by decide +kernel
theorem dX1_isPossible_21 : decode cX1_isPossible 21 = .ok (.ifCond .eq 7, 3) := by decide +kernel
theorem dX1_isPossible_24 : decode cX1_isPossible 24 = .ok (.iconst 1, 1) := by decide +kernel
theorem dX1_isPossible_25 : decode cX1_isPossible 25 = .ok (.goto 4, 3) := by decide +kernel
theorem dX1_isPossible_28 : decode cX1_isPossible 28 = .ok (.iconst 0, 1) := by decide +kernel
theorem dX1_isPossible_29 : decode cX1_isPossible 29 = .ok (.ireturn, 1) := by decide +kernel
set_option maxRecDepth 20000 in
theorem ggX1_isTooSoon_X1_wrong : GoodIn wsX1_isTooSoon wsX1_wrong := goodIn_r _ [5, 6, 7, 8, 9, 4, 10, 11, 12, 13, 14, 15, 30, 31, 32, 33, 34, 35, 36, 37, 38, 39, 40, 41, 42] (by decide +kernel) (by decide +kernel)
set_option maxRecDepth 20000 in
theorem gX1_isTooSoon_X1_wrong : GoodIn wsX1_isTooSoon (wsV RX1 76 RX1 yX1_wrong wsX1_wrong) := goodIn_app (goodIn_of _ (by decide +kernel)) ggX1_isTooSoon_X1_wrong
set_option maxRecDepth 20000 in
theorem ggX1_isTooSoon_X1_arePeople : GoodIn wsX1_isTooSoon wsX1_arePeople := goodIn_r _ [18, 13, 14, 4, 15] (by decide +kernel) (by decide +kernel)
set_option maxRecDepth 20000 in
theorem gX1_isTooSoon_X1_arePeople : GoodIn wsX1_isTooSoon (va_wsS RX1 83 yX1_arePeople wsX1_arePeople) := goodIn_app (goodIn_of _ (by decide +kernel)) ggX1_isTooSoon_X1_arePeople
set_option maxRecDepth 20000 in
theorem ggX1_isTooSoon_X1_goes : GoodIn wsX1_isTooSoon wsX1_goes := goodIn_r _ [22, 23, 30, 31, 32, 33, 34, 35, 36, 37, 38, 39, 40, 41, 42] (by decide +kernel) (by decide +kernel)
set_option maxRecDepth 20000 in
theorem gX1_isTooSoon_X1_goes : GoodIn wsX1_isTooSoon (wsV RX1 59 RX1 yX1_goes wsX1_goes) := goodIn_app (goodIn_of _ (by decide +kernel)) ggX1_isTooSoon_X1_goes
set_option maxRecDepth 20000 in
theorem ggX1_isTooSoon_X1_isSoon : GoodIn wsX1_isTooSoon wsX1_isSoon := goodIn_r _ [27, 28, 29, 30, 31, 32, 33, 34, 35, 36, 37, 38, 39, 40, 41, 42] (by decide +kernel) (by decide +kernel)
set_option maxRecDepth 20000 in
theorem gX1_isTooSoon_X1_isSoon : GoodIn wsX1_isTooSoon (wsV RX1 86 RX1 yX1_isSoon wsX1_isSoon) := goodIn_app (goodIn_of _ (by decide +kernel)) ggX1_isTooSoon_X1_isSoon
theorem dX1_isTooSoon_0 : decode cX1_isTooSoon 0 = .ok (.aload_n 0, 1) := by decide +kernel
theorem dX1_isTooSoon_1 : decode cX1_isTooSoon 1 = .ok (.iload_n 1, 1) := by decide +kernel
theorem dX1_isTooSoon_2 : decode cX1_isTooSoon 2 = .ok (.iload_n 2, 1) := by decide +kernel
theorem dX1_isTooSoon_3 : decode cX1_isTooSoon 3 = .ok (.iconst (-1), 1) := by decide +kernel
theorem dX1_isTooSoon_4 : decode cX1_isTooSoon 4 = .ok (.invokevirtual 76, 3) := by decide +kernel
theorem dX1_isTooSoon_7 : decode cX1_isTooSoon 7 = .ok (.istore 4, 2) := by decide +kernel
theorem dX1_isTooSoon_9 : decode cX1_isTooSoon 9 = .ok (.aload_n 0, 1) := by decide +kernel
theorem dX1_isTooSoon_10 : decode cX1_isTooSoon 10 = .ok (.iload 4, 2) := by decide +kernel
theorem dX1_isTooSoon_12 : decode cX1_isTooSoon 12 = .ok (.ifCond .eq 8, 3) := by decide +kernel
theorem dX1_isTooSoon_15 : decode cX1_isTooSoon 15 = .ok (.iload 4, 2) := by decide +kernel
theorem dX1_isTooSoon_17 : decode cX1_isTooSoon 17 = .ok (.goto 15, 3) := by decide +kernel
theorem dX1_isTooSoon_20 : decode cX1_isTooSoon 20 = .ok (.iload_n 3, 1) := by decide +kernel
theorem dX1_isTooSoon_21 : decode cX1_isTooSoon 21 = .ok (.invokestatic 83, 3) := by decide +kernel
theorem dX1_isTooSoon_24 : decode cX1_isTooSoon 24 = .ok (.ifCond .eq 7, 3) := by decide +kernel
theorem dX1_isTooSoon_27 : decode cX1_isTooSoon 27 = .ok (.iconst 0, 1) := by decide +kernel
theorem dX1_isTooSoon_28 : decode cX1_isTooSoon 28 = .ok (.goto 4, 3) := by decide +kernel
theorem dX1_isTooSoon_31 : decode cX1_isTooSoon 31 = .ok (.iconst 2, 1) := by decide +kernel
theorem dX1_isTooSoon_32 : decode cX1_isTooSoon 32 = .ok (.invokevirtual 59, 3) := by decide +kernel
theorem dX1_isTooSoon_35 : decode cX1_isTooSoon 35 = .ok (.ifCond .eq 17, 3) := by decide +kernel
theorem dX1_isTooSoon_38 : decode cX1_isTooSoon 38 = .ok (.aload_n 0, 1) := by decide +kernel
theorem dX1_isTooSoon_39 : decode cX1_isTooSoon 39 = .ok (.iload_n 1, 1) := by decide +kernel
theorem dX1_isTooSoon_40 : decode cX1_isTooSoon 40 = .ok (.iload_n 2, 1) := by decide +kernel
theorem dX1_isTooSoon_41 : decode cX1_isTooSoon 41 = .ok (.iload_n 3, 1) := by decide +kernel
theorem dX1_isTooSoon_42 : decode cX1_isTooSoon 42 = .ok (.invokevirtual 86, 3) := by decide +kernel
theorem dX1_isTooSoon_45 : decode cX1_isTooSoon 45 = .ok (.ifCond .eq 7, 3) := by decide +kernel
theorem dX1_isTooSoon_48 : decode cX1_isTooSoon 48 = .ok (.iconst 1, 1) := by decide +kernel
theorem dX1_isTooSoon_49 : decode cX1_isTooSoon 49 = .ok (.goto 4, 3) := by decide +kernel
theorem dX1_isTooSoon_52 : decode cX1_isTooSoon 52 = .ok (.iconst 0, 1) := by decide +kernel
theorem dX1_isTooSoon_53 : decode cX1_isTooSoon 53 = .ok (.ireturn, 1) := by decide +kernel
set_option maxRecDepth 20000 in
theorem ggX1_wear_X1_wrong : GoodIn wsX1_wear wsX1_wrong := goodIn_r _ [8, 9, 10, 11, 12, 7, 13, 14, 15, 16, 17, 18, 46, 47, 48, 49, 50, 51, 52, 53, 54, 55, 56, 57, 58] (by decide +kernel) (by decide +kernel)
set_option maxRecDepth 20000 in
theorem gX1_wear_X1_wrong : GoodIn wsX1_wear (wsV RX1 76 RX1 yX1_wrong wsX1_wrong) := goodIn_app (goodIn_of _ (by decide +kernel)) ggX1_wear_X1_wrong
set_option maxRecDepth 20000 in
theorem ggX1_wear_X1_arePeople : GoodIn wsX1_wear wsX1_arePeople := goodIn_r _ [21, 16, 17, 7, 18] (by decide +kernel) (by decide +kernel)
set_option maxRecDepth 20000 in
theorem gX1_wear_X1_arePeople : GoodIn wsX1_wear (va_wsS RX1 83 yX1_arePeople wsX1_arePeople) := goodIn_app (goodIn_of _ (by decide +kernel)) ggX1_wear_X1_arePeople
set_option maxRecDepth 20000 in
theorem ggX1_wear_X1_fits : GoodIn wsX1_wear wsX1_fits := goodIn_r _ [25, 1, 26, 27, 28, 7, 29, 30, 31, 46, 47, 48, 49, 50, 51, 52, 53, 54, 55, 56, 57, 58] (by decide +kernel) (by decide +kernel)
set_option maxRecDepth 20000 in
theorem gX1_wear_X1_fits : GoodIn wsX1_wear (wsV RX1 80 RX1 yX1_fits wsX1_fits) := goodIn_app (goodIn_of _ (by decide +kernel)) ggX1_wear_X1_fits
set_option maxRecDepth 20000 in
theorem ggX1_wear_X1_isSoon : GoodIn wsX1_wear wsX1_isSoon := goodIn_r _ [35, 2, 3, 46, 47, 48, 49, 50, 51, 52, 53, 54, 55, 56, 57, 58] (by decide +kernel) (by decide +kernel)
set_option maxRecDepth 20000 in
theorem gX1_wear_X1_isSoon : GoodIn wsX1_wear (wsV RX1 86 RX1 yX1_isSoon wsX1_isSoon) := goodIn_app (goodIn_of _ (by decide +kernel)) ggX1_wear_X1_isSoon
set_option maxRecDepth 20000 in
theorem ggX1_wear_X1_goes : GoodIn wsX1_wear wsX1_goes := goodIn_r _ [39, 40, 46, 47, 48, 49, 50, 51, 52, 53, 54, 55, 56, 57, 58] (by decide +kernel) (by decide +kernel)
set_option maxRecDepth 20000 in
theorem gX1_wear_X1_goes : GoodIn wsX1_wear (wsV RX1 59 RX1 yX1_goes wsX1_goes) := goodIn_app (goodIn_of _ (by decide +kernel)) ggX1_wear_X1_goes
set_option maxRecDepth 20000 in
theorem ggX1_wear_X1_warmthOf : GoodIn wsX1_wear wsX1_warmthOf := goodIn_r _ [44, 45, 46, 47, 48, 49, 50, 51, 52, 53, 54, 55, 56, 57, 58] (by decide +kernel) (by decide +kernel)
set_option maxRecDepth 20000 in
theorem gX1_wear_X1_warmthOf : GoodIn wsX1_wear (wsV RX1 89 RX1 yX1_warmthOf wsX1_warmthOf) := goodIn_app (goodIn_of _ (by decide +kernel)) ggX1_wear_X1_warmthOf
theorem dX1_wear_0 : decode cX1_wear 0 = .ok (.aload_n 0, 1) := by decide +kernel
theorem dX1_wear_1 : decode cX1_wear 1 = .ok (.iload_n 1, 1) := by decide +kernel
theorem dX1_wear_2 : decode cX1_wear 2 = .ok (.iload_n 2, 1) := by decide +kernel
theorem dX1_wear_3 : decode cX1_wear 3 = .ok (.iload_n 3, 1) := by decide +kernel
theorem dX1_wear_4 : decode cX1_wear 4 = .ok (.invokevirtual 76, 3) := by decide +kernel
theorem dX1_wear_7 : decode cX1_wear 7 = .ok (.istore 5, 2) := by decide +kernel
theorem dX1_wear_9 : decode cX1_wear 9 = .ok (.aload_n 0, 1) := by decide +kernel
theorem dX1_wear_10 : decode cX1_wear 10 = .ok (.iload 5, 2) := by decide +kernel
theorem dX1_wear_12 : decode cX1_wear 12 = .ok (.ifCond .eq 8, 3) := by decide +kernel
theorem dX1_wear_15 : decode cX1_wear 15 = .ok (.iload 5, 2) := by decide +kernel
theorem dX1_wear_17 : decode cX1_wear 17 = .ok (.goto 41, 3) := by decide +kernel
theorem dX1_wear_20 : decode cX1_wear 20 = .ok (.iload 4, 2) := by decide +kernel
theorem dX1_wear_22 : decode cX1_wear 22 = .ok (.invokestatic 83, 3) := by decide +kernel
theorem dX1_wear_25 : decode cX1_wear 25 = .ok (.ifCond .ne 7, 3) := by decide +kernel
theorem dX1_wear_28 : decode cX1_wear 28 = .ok (.iconst 2, 1) := by decide +kernel
theorem dX1_wear_29 : decode cX1_wear 29 = .ok (.goto 29, 3) := by decide +kernel
theorem dX1_wear_32 : decode cX1_wear 32 = .ok (.aload_n 0, 1) := by decide +kernel
theorem dX1_wear_33 : decode cX1_wear 33 = .ok (.iload_n 1, 1) := by decide +kernel
theorem dX1_wear_34 : decode cX1_wear 34 = .ok (.iload_n 2, 1) := by decide +kernel
theorem dX1_wear_35 : decode cX1_wear 35 = .ok (.iload_n 3, 1) := by decide +kernel
theorem dX1_wear_36 : decode cX1_wear 36 = .ok (.invokevirtual 80, 3) := by decide +kernel
theorem dX1_wear_39 : decode cX1_wear 39 = .ok (.ifCond .eq 14, 3) := by decide +kernel
theorem dX1_wear_42 : decode cX1_wear 42 = .ok (.aload_n 0, 1) := by decide +kernel
theorem dX1_wear_43 : decode cX1_wear 43 = .ok (.iload_n 1, 1) := by decide +kernel
theorem dX1_wear_44 : decode cX1_wear 44 = .ok (.iload_n 2, 1) := by decide +kernel
theorem dX1_wear_45 : decode cX1_wear 45 = .ok (.iload 4, 2) := by decide +kernel
theorem dX1_wear_47 : decode cX1_wear 47 = .ok (.invokevirtual 86, 3) := by decide +kernel
theorem dX1_wear_50 : decode cX1_wear 50 = .ok (.ifCond .eq 7, 3) := by decide +kernel
theorem dX1_wear_53 : decode cX1_wear 53 = .ok (.iconst 3, 1) := by decide +kernel
theorem dX1_wear_54 : decode cX1_wear 54 = .ok (.goto 4, 3) := by decide +kernel
theorem dX1_wear_57 : decode cX1_wear 57 = .ok (.iconst 0, 1) := by decide +kernel
theorem dX1_wear_58 : decode cX1_wear 58 = .ok (.invokevirtual 59, 3) := by decide +kernel
theorem dX1_wear_61 : decode cX1_wear 61 = .ok (.ifCond .ne 5, 3) := by decide +kernel
theorem dX1_wear_64 : decode cX1_wear 64 = .ok (.iconst 0, 1) := by decide +kernel
theorem dX1_wear_65 : decode cX1_wear 65 = .ok (.ireturn, 1) := by decide +kernel
theorem dX1_wear_66 : decode cX1_wear 66 = .ok (.aload_n 0, 1) := by decide +kernel
theorem dX1_wear_67 : decode cX1_wear 67 = .ok (.getfield 29, 3) := by decide +kernel
theorem dX1_wear_70 : decode cX1_wear 70 = .ok (.iload_n 1, 1) := by decide +kernel
theorem dX1_wear_71 : decode cX1_wear 71 = .ok (.dup2, 1) := by decide +kernel
theorem dX1_wear_72 : decode cX1_wear 72 = .ok (.iaload, 1) := by decide +kernel
theorem dX1_wear_73 : decode cX1_wear 73 = .ok (.iconst 1, 1) := by decide +kernel
theorem dX1_wear_74 : decode cX1_wear 74 = .ok (.isub, 1) := by decide +kernel
theorem dX1_wear_75 : decode cX1_wear 75 = .ok (.iastore, 1) := by decide +kernel
theorem dX1_wear_76 : decode cX1_wear 76 = .ok (.aload_n 0, 1) := by decide +kernel
theorem dX1_wear_77 : decode cX1_wear 77 = .ok (.getfield 29, 3) := by decide +kernel
theorem dX1_wear_80 : decode cX1_wear 80 = .ok (.iload_n 2, 1) := by decide +kernel
theorem dX1_wear_81 : decode cX1_wear 81 = .ok (.dup2, 1) := by decide +kernel
theorem dX1_wear_82 : decode cX1_wear 82 = .ok (.iaload, 1) := by decide +kernel
theorem dX1_wear_83 : decode cX1_wear 83 = .ok (.iconst 1, 1) := by decide +kernel
theorem dX1_wear_84 : decode cX1_wear 84 = .ok (.isub, 1) := by decide +kernel
theorem dX1_wear_85 : decode cX1_wear 85 = .ok (.iastore, 1) := by decide +kernel
theorem dX1_wear_86 : decode cX1_wear 86 = .ok (.iload_n 3, 1) := by decide +kernel
theorem dX1_wear_87 : decode cX1_wear 87 = .ok (.iconst (-1), 1) := by decide +kernel
theorem dX1_wear_88 : decode cX1_wear 88 = .ok (.if_icmp .eq 13, 3) := by decide +kernel
theorem dX1_wear_91 : decode cX1_wear 91 = .ok (.aload_n 0, 1) := by decide +kernel
theorem dX1_wear_92 : decode cX1_wear 92 = .ok (.getfield 29, 3) := by decide +kernel
theorem dX1_wear_95 : decode cX1_wear 95 = .ok (.iload_n 3, 1) := by decide +kernel
theorem dX1_wear_96 : decode cX1_wear 96 = .ok (.dup2, 1) := by decide +kernel
theorem dX1_wear_97 : decode cX1_wear 97 = .ok (.iaload, 1) := by decide +kernel
theorem dX1_wear_98 : decode cX1_wear 98 = .ok (.iconst 1, 1) := by decide +kernel
theorem dX1_wear_99 : decode cX1_wear 99 = .ok (.isub, 1) := by decide +kernel
theorem dX1_wear_100 : decode cX1_wear 100 = .ok (.iastore, 1) := by decide +kernel
theorem dX1_wear_101 : decode cX1_wear 101 = .ok (.iconst 0, 1) := by decide +kernel
theorem dX1_wear_102 : decode cX1_wear 102 = .ok (.istore 6, 2) := by decide +kernel
theorem dX1_wear_104 : decode cX1_wear 104 = .ok (.iload 6, 2) := by decide +kernel
theorem dX1_wear_106 : decode cX1_wear 106 = .ok (.bipush 8, 2) := by decide +kernel
theorem dX1_wear_108 : decode cX1_wear 108 = .ok (.if_icmp .ge 57, 3) := by decide +kernel
theorem dX1_wear_111 : decode cX1_wear 111 = .ok (.bipush 8, 2) := by decide +kernel
theorem dX1_wear_113 : decode cX1_wear 113 = .ok (.bipush 12, 2) := by decide +kernel
theorem dX1_wear_115 : decode cX1_wear 115 = .ok (.iload_n 1, 1) := by decide +kernel
theorem dX1_wear_116 : decode cX1_wear 116 = .ok (.imul, 1) := by decide +kernel
theorem dX1_wear_117 : decode cX1_wear 117 = .ok (.iload_n 2, 1) := by decide +kernel
theorem dX1_wear_118 : decode cX1_wear 118 = .ok (.iadd, 1) := by decide +kernel
theorem dX1_wear_119 : decode cX1_wear 119 = .ok (.imul, 1) := by decide +kernel
theorem dX1_wear_120 : decode cX1_wear 120 = .ok (.iload 6, 2) := by decide +kernel
theorem dX1_wear_122 : decode cX1_wear 122 = .ok (.iadd, 1) := by decide +kernel
theorem dX1_wear_123 : decode cX1_wear 123 = .ok (.istore 7, 2) := by decide +kernel
theorem dX1_wear_125 : decode cX1_wear 125 = .ok (.aload_n 0, 1) := by decide +kernel
theorem dX1_wear_126 : decode cX1_wear 126 = .ok (.getfield 35, 3) := by decide +kernel
theorem dX1_wear_129 : decode cX1_wear 129 = .ok (.iload 7, 2) := by decide +kernel
theorem dX1_wear_131 : decode cX1_wear 131 = .ok (.iload 4, 2) := by decide +kernel
theorem dX1_wear_133 : decode cX1_wear 133 = .ok (.iload 6, 2) := by decide +kernel
theorem dX1_wear_135 : decode cX1_wear 135 = .ok (.ishr, 1) := by decide +kernel
theorem dX1_wear_136 : decode cX1_wear 136 = .ok (.iconst 1, 1) := by decide +kernel
theorem dX1_wear_137 : decode cX1_wear 137 = .ok (.iand, 1) := by decide +kernel
theorem dX1_wear_138 : decode cX1_wear 138 = .ok (.iconst 1, 1) := by decide +kernel
theorem dX1_wear_139 : decode cX1_wear 139 = .ok (.if_icmp .ne 12, 3) := by decide +kernel
theorem dX1_wear_142 : decode cX1_wear 142 = .ok (.aload_n 0, 1) := by decide +kernel
theorem dX1_wear_143 : decode cX1_wear 143 = .ok (.getfield 73, 3) := by decide +kernel
theorem dX1_wear_146 : decode cX1_wear 146 = .ok (.iconst 1, 1) := by decide +kernel
theorem dX1_wear_147 : decode cX1_wear 147 = .ok (.iadd, 1) := by decide +kernel
theorem dX1_wear_148 : decode cX1_wear 148 = .ok (.goto 10, 3) := by decide +kernel
theorem dX1_wear_151 : decode cX1_wear 151 = .ok (.aload_n 0, 1) := by decide +kernel
theorem dX1_wear_152 : decode cX1_wear 152 = .ok (.getfield 35, 3) := by decide +kernel
theorem dX1_wear_155 : decode cX1_wear 155 = .ok (.iload 7, 2) := by decide +kernel
theorem dX1_wear_157 : decode cX1_wear 157 = .ok (.iaload, 1) := by decide +kernel
theorem dX1_wear_158 : decode cX1_wear 158 = .ok (.iastore, 1) := by decide +kernel
theorem dX1_wear_159 : decode cX1_wear 159 = .ok (.iinc 6 1, 3) := by decide +kernel
theorem dX1_wear_162 : decode cX1_wear 162 = .ok (.goto (-58), 3) := by decide +kernel
theorem dX1_wear_165 : decode cX1_wear 165 = .ok (.aload_n 0, 1) := by decide +kernel
theorem dX1_wear_166 : decode cX1_wear 166 = .ok (.iload_n 1, 1) := by decide +kernel
theorem dX1_wear_167 : decode cX1_wear 167 = .ok (.iload_n 2, 1) := by decide +kernel
theorem dX1_wear_168 : decode cX1_wear 168 = .ok (.iload_n 3, 1) := by decide +kernel
theorem dX1_wear_169 : decode cX1_wear 169 = .ok (.invokevirtual 89, 3) := by decide +kernel
theorem dX1_wear_172 : decode cX1_wear 172 = .ok (.ireturn, 1) := by decide +kernel
set_option maxRecDepth 20000 in
theorem ggX1_count_X1_wrong : GoodIn wsX1_count wsX1_wrong := goodIn_r _ [5, 6, 7, 8, 9, 4, 10, 11, 12, 13, 14, 15, 32, 33, 34, 35, 36, 37, 38, 39, 40, 41, 42, 43, 44] (by decide +kernel) (by decide +kernel)
set_option maxRecDepth 20000 in
theorem gX1_count_X1_wrong : GoodIn wsX1_count (wsV RX1 76 RX1 yX1_wrong wsX1_wrong) := goodIn_app (goodIn_of _ (by decide +kernel)) ggX1_count_X1_wrong
set_option maxRecDepth 20000 in
theorem ggX1_count_X1_fits : GoodIn wsX1_count wsX1_fits := goodIn_r _ [19, 20, 21, 22, 23, 4, 24, 25, 26, 32, 33, 34, 35, 36, 37, 38, 39, 40, 41, 42, 43, 44] (by decide +kernel) (by decide +kernel)
set_option maxRecDepth 20000 in
theorem gX1_count_X1_fits : GoodIn wsX1_count (wsV RX1 80 RX1 yX1_fits wsX1_fits) := goodIn_app (goodIn_of _ (by decide +kernel)) ggX1_count_X1_fits
set_option maxRecDepth 20000 in
theorem ggX1_count_X1_warmthOf : GoodIn wsX1_count wsX1_warmthOf := goodIn_r _ [30, 31, 32, 33, 34, 35, 36, 37, 38, 39, 40, 41, 42, 43, 44] (by decide +kernel) (by decide +kernel)
set_option maxRecDepth 20000 in
theorem gX1_count_X1_warmthOf : GoodIn wsX1_count (wsV RX1 89 RX1 yX1_warmthOf wsX1_warmthOf) := goodIn_app (goodIn_of _ (by decide +kernel)) ggX1_count_X1_warmthOf
theorem dX1_count_0 : decode cX1_count 0 = .ok (.iconst 0, 1) := by decide +kernel
theorem dX1_count_1 : decode cX1_count 1 = .ok (.istore_n 3, 1) := by decide +kernel
theorem dX1_count_2 : decode cX1_count 2 = .ok (.iconst 0, 1) := by decide +kernel
theorem dX1_count_3 : decode cX1_count 3 = .ok (.istore 4, 2) := by decide +kernel
theorem dX1_count_5 : decode cX1_count 5 = .ok (.iload 4, 2) := by decide +kernel
theorem dX1_count_7 : decode cX1_count 7 = .ok (.sipush 1872, 3) := by decide +kernel
theorem dX1_count_10 : decode cX1_count 10 = .ok (.if_icmp .ge 119, 3) := by decide +kernel
theorem dX1_count_13 : decode cX1_count 13 = .ok (.iload 4, 2) := by decide +kernel
theorem dX1_count_15 : decode cX1_count 15 = .ok (.bipush 12, 2) := by decide +kernel
theorem dX1_count_17 : decode cX1_count 17 = .ok (.idiv, 1) := by decide +kernel
theorem dX1_count_18 : decode cX1_count 18 = .ok (.bipush 12, 2) := by decide +kernel
theorem dX1_count_20 : decode cX1_count 20 = .ok (.irem, 1) := by decide +kernel
theorem dX1_count_21 : decode cX1_count 21 = .ok (.istore 5, 2) := by decide +kernel
theorem dX1_count_23 : decode cX1_count 23 = .ok (.iload 4, 2) := by decide +kernel
theorem dX1_count_25 : decode cX1_count 25 = .ok (.bipush 12, 2) := by decide +kernel
theorem dX1_count_27 : decode cX1_count 27 = .ok (.irem, 1) := by decide +kernel
theorem dX1_count_28 : decode cX1_count 28 = .ok (.istore 6, 2) := by decide +kernel
theorem dX1_count_30 : decode cX1_count 30 = .ok (.iload 4, 2) := by decide +kernel
theorem dX1_count_32 : decode cX1_count 32 = .ok (.sipush 144, 3) := by decide +kernel
theorem dX1_count_35 : decode cX1_count 35 = .ok (.idiv, 1) := by decide +kernel
theorem dX1_count_36 : decode cX1_count 36 = .ok (.iconst 1, 1) := by decide +kernel
theorem dX1_count_37 : decode cX1_count 37 = .ok (.isub, 1) := by decide +kernel
theorem dX1_count_38 : decode cX1_count 38 = .ok (.istore 7, 2) := by decide +kernel
theorem dX1_count_40 : decode cX1_count 40 = .ok (.aload_n 0, 1) := by decide +kernel
theorem dX1_count_41 : decode cX1_count 41 = .ok (.iload 5, 2) := by decide +kernel
theorem dX1_count_43 : decode cX1_count 43 = .ok (.iload 6, 2) := by decide +kernel
theorem dX1_count_45 : decode cX1_count 45 = .ok (.iload 7, 2) := by decide +kernel
theorem dX1_count_47 : decode cX1_count 47 = .ok (.invokevirtual 76, 3) := by decide +kernel
theorem dX1_count_50 : decode cX1_count 50 = .ok (.ifCond .ne 34, 3) := by decide +kernel
theorem dX1_count_53 : decode cX1_count 53 = .ok (.aload_n 0, 1) := by decide +kernel
theorem dX1_count_54 : decode cX1_count 54 = .ok (.iload 5, 2) := by decide +kernel
theorem dX1_count_56 : decode cX1_count 56 = .ok (.iload 6, 2) := by decide +kernel
theorem dX1_count_58 : decode cX1_count 58 = .ok (.iload 7, 2) := by decide +kernel
theorem dX1_count_60 : decode cX1_count 60 = .ok (.invokevirtual 80, 3) := by decide +kernel
theorem dX1_count_63 : decode cX1_count 63 = .ok (.ifCond .eq 21, 3) := by decide +kernel
theorem dX1_count_66 : decode cX1_count 66 = .ok (.aload_n 0, 1) := by decide +kernel
theorem dX1_count_67 : decode cX1_count 67 = .ok (.iload 5, 2) := by decide +kernel
theorem dX1_count_69 : decode cX1_count 69 = .ok (.iload 6, 2) := by decide +kernel
theorem dX1_count_71 : decode cX1_count 71 = .ok (.iload 7, 2) := by decide +kernel
theorem dX1_count_73 : decode cX1_count 73 = .ok (.invokevirtual 89, 3) := by decide +kernel
theorem dX1_count_76 : decode cX1_count 76 = .ok (.iload_n 1, 1) := by decide +kernel
theorem dX1_count_77 : decode cX1_count 77 = .ok (.if_icmp .lt 7, 3) := by decide +kernel
theorem dX1_count_80 : decode cX1_count 80 = .ok (.iconst 1, 1) := by decide +kernel
theorem dX1_count_81 : decode cX1_count 81 = .ok (.goto 4, 3) := by decide +kernel
theorem dX1_count_84 : decode cX1_count 84 = .ok (.iconst 0, 1) := by decide +kernel
theorem dX1_count_85 : decode cX1_count 85 = .ok (.istore 8, 2) := by decide +kernel
theorem dX1_count_87 : decode cX1_count 87 = .ok (.iload_n 3, 1) := by decide +kernel
theorem dX1_count_88 : decode cX1_count 88 = .ok (.iload 8, 2) := by decide +kernel
theorem dX1_count_90 : decode cX1_count 90 = .ok (.ifCond .eq 30, 3) := by decide +kernel
theorem dX1_count_93 : decode cX1_count 93 = .ok (.iload_n 2, 1) := by decide +kernel
theorem dX1_count_94 : decode cX1_count 94 = .ok (.iconst (-1), 1) := by decide +kernel
theorem dX1_count_95 : decode cX1_count 95 = .ok (.if_icmp .eq 21, 3) := by decide +kernel
theorem dX1_count_98 : decode cX1_count 98 = .ok (.iload 5, 2) := by decide +kernel
theorem dX1_count_100 : decode cX1_count 100 = .ok (.iload_n 2, 1) := by decide +kernel
theorem dX1_count_101 : decode cX1_count 101 = .ok (.if_icmp .eq 15, 3) := by decide +kernel
theorem dX1_count_104 : decode cX1_count 104 = .ok (.iload 6, 2) := by decide +kernel
theorem dX1_count_106 : decode cX1_count 106 = .ok (.iload_n 2, 1) := by decide +kernel
theorem dX1_count_107 : decode cX1_count 107 = .ok (.if_icmp .eq 9, 3) := by decide +kernel
theorem dX1_count_110 : decode cX1_count 110 = .ok (.iload 7, 2) := by decide +kernel
theorem dX1_count_112 : decode cX1_count 112 = .ok (.iload_n 2, 1) := by decide +kernel
theorem dX1_count_113 : decode cX1_count 113 = .ok (.if_icmp .ne 7, 3) := by decide +kernel
theorem dX1_count_116 : decode cX1_count 116 = .ok (.iconst 1, 1) := by decide +kernel
theorem dX1_count_117 : decode cX1_count 117 = .ok (.goto 4, 3) := by decide +kernel
theorem dX1_count_120 : decode cX1_count 120 = .ok (.iconst 0, 1) := by decide +kernel
theorem dX1_count_121 : decode cX1_count 121 = .ok (.iadd, 1) := by decide +kernel
theorem dX1_count_122 : decode cX1_count 122 = .ok (.istore_n 3, 1) := by decide +kernel
theorem dX1_count_123 : decode cX1_count 123 = .ok (.iinc 4 1, 3) := by decide +kernel
theorem dX1_count_126 : decode cX1_count 126 = .ok (.goto (-121), 3) := by decide +kernel
theorem dX1_count_129 : decode cX1_count 129 = .ok (.iload_n 3, 1) := by decide +kernel
theorem dX1_count_130 : decode cX1_count 130 = .ok (.ireturn, 1) := by decide +kernel
set_option maxRecDepth 20000 in
theorem ggX1_outfits_X1_isIn : GoodIn wsX1_outfits wsX1_isIn := goodIn_r _ [4] (by decide +kernel) (by decide +kernel)
set_option maxRecDepth 20000 in
theorem gX1_outfits_X1_isIn : GoodIn wsX1_outfits (va_wsS RX1 48 yX1_isIn wsX1_isIn) := goodIn_app (goodIn_of _ (by decide +kernel)) ggX1_outfits_X1_isIn
set_option maxRecDepth 20000 in
theorem ggX1_outfits_X1_goes : GoodIn wsX1_outfits wsX1_goes := goodIn_r _ [8, 9, 41, 42, 43, 44, 45, 46, 47, 48, 49, 50, 51, 52, 53] (by decide +kernel) (by decide +kernel)
set_option maxRecDepth 20000 in
theorem gX1_outfits_X1_goes : GoodIn wsX1_outfits (wsV RX1 59 RX1 yX1_goes wsX1_goes) := goodIn_app (goodIn_of _ (by decide +kernel)) ggX1_outfits_X1_goes
set_option maxRecDepth 20000 in
theorem ggX1_outfits_X1_count : GoodIn wsX1_outfits wsX1_count := goodIn_r _ [13, 14, 15, 16, 3, 17, 18, 19, 20, 21, 22, 23, 24, 1, 2, 4, 25, 26, 27, 28, 29, 30, 31, 32, 33, 34, 35, 36, 37, 38, 39, 40, 41, 42, 43, 44, 45, 46, 47, 48, 49, 50, 51, 52, 53] (by decide +kernel) (by decide +kernel)
set_option maxRecDepth 20000 in
theorem gX1_outfits_X1_count : GoodIn wsX1_outfits (wsV RX1 92 RX1 yX1_count wsX1_count) := goodIn_app (goodIn_of _ (by decide +kernel)) ggX1_outfits_X1_count
theorem dX1_outfits_0 : decode cX1_outfits 0 = .ok (.aload_n 0, 1) := by decide +kernel
theorem dX1_outfits_1 : decode cX1_outfits 1 = .ok (.iload_n 1, 1) := by decide +kernel
theorem dX1_outfits_2 : decode cX1_outfits 2 = .ok (.iconst 0, 1) := by decide +kernel
theorem dX1_outfits_3 : decode cX1_outfits 3 = .ok (.bipush 30, 2) := by decide +kernel
theorem dX1_outfits_5 : decode cX1_outfits 5 = .ok (.invokestatic 48, 3) := by decide +kernel
theorem dX1_outfits_8 : decode cX1_outfits 8 = .ok (.ifCond .eq 7, 3) := by decide +kernel
theorem dX1_outfits_11 : decode cX1_outfits 11 = .ok (.iconst 0, 1) := by decide +kernel
theorem dX1_outfits_12 : decode cX1_outfits 12 = .ok (.goto 4, 3) := by decide +kernel
theorem dX1_outfits_15 : decode cX1_outfits 15 = .ok (.iconst 1, 1) := by decide +kernel
theorem dX1_outfits_16 : decode cX1_outfits 16 = .ok (.invokevirtual 59, 3) := by decide +kernel
theorem dX1_outfits_19 : decode cX1_outfits 19 = .ok (.ifCond .eq 12, 3) := by decide +kernel
theorem dX1_outfits_22 : decode cX1_outfits 22 = .ok (.aload_n 0, 1) := by decide +kernel
theorem dX1_outfits_23 : decode cX1_outfits 23 = .ok (.iload_n 1, 1) := by decide +kernel
theorem dX1_outfits_24 : decode cX1_outfits 24 = .ok (.iconst (-1), 1) := by decide +kernel
theorem dX1_outfits_25 : decode cX1_outfits 25 = .ok (.invokevirtual 92, 3) := by decide +kernel
theorem dX1_outfits_28 : decode cX1_outfits 28 = .ok (.goto 4, 3) := by decide +kernel
theorem dX1_outfits_31 : decode cX1_outfits 31 = .ok (.iconst 0, 1) := by decide +kernel
theorem dX1_outfits_32 : decode cX1_outfits 32 = .ok (.ireturn, 1) := by decide +kernel
set_option maxRecDepth 20000 in
theorem ggX1_adds_X1_isThing : GoodIn wsX1_adds wsX1_isThing := goodIn_r _ [5, 6, 7, 8, 9, 4, 10, 41, 42, 43, 44, 45, 46, 47, 48, 49, 50, 51, 52, 53] (by decide +kernel) (by decide +kernel)
set_option maxRecDepth 20000 in
theorem gX1_adds_X1_isThing : GoodIn wsX1_adds (wsV RX1 62 RX1 yX1_isThing wsX1_isThing) := goodIn_app (goodIn_of _ (by decide +kernel)) ggX1_adds_X1_isThing
set_option maxRecDepth 20000 in
theorem ggX1_adds_X1_isIn : GoodIn wsX1_adds wsX1_isIn := goodIn_r _ [10] (by decide +kernel) (by decide +kernel)
set_option maxRecDepth 20000 in
theorem gX1_adds_X1_isIn : GoodIn wsX1_adds (va_wsS RX1 48 yX1_isIn wsX1_isIn) := goodIn_app (goodIn_of _ (by decide +kernel)) ggX1_adds_X1_isIn
set_option maxRecDepth 20000 in
theorem ggX1_adds_X1_goes : GoodIn wsX1_adds wsX1_goes := goodIn_r _ [14, 15, 41, 42, 43, 44, 45, 46, 47, 48, 49, 50, 51, 52, 53] (by decide +kernel) (by decide +kernel)
set_option maxRecDepth 20000 in
theorem gX1_adds_X1_goes : GoodIn wsX1_adds (wsV RX1 59 RX1 yX1_goes wsX1_goes) := goodIn_app (goodIn_of _ (by decide +kernel)) ggX1_adds_X1_goes
set_option maxRecDepth 20000 in
theorem ggX1_adds_X1_count : GoodIn wsX1_adds wsX1_count := goodIn_r _ [19, 20, 21, 22, 4, 23, 24, 1, 2, 3, 5, 6, 7, 8, 9, 10, 25, 26, 27, 28, 29, 30, 31, 32, 33, 34, 35, 36, 37, 38, 39, 40, 41, 42, 43, 44, 45, 46, 47, 48, 49, 50, 51, 52, 53] (by decide +kernel) (by decide +kernel)
set_option maxRecDepth 20000 in
theorem gX1_adds_X1_count : GoodIn wsX1_adds (wsV RX1 92 RX1 yX1_count wsX1_count) := goodIn_app (goodIn_of _ (by decide +kernel)) ggX1_adds_X1_count
theorem dX1_adds_0 : decode cX1_adds 0 = .ok (.aload_n 0, 1) := by decide +kernel
theorem dX1_adds_1 : decode cX1_adds 1 = .ok (.aload_n 0, 1) := by decide +kernel
theorem dX1_adds_2 : decode cX1_adds 2 = .ok (.iload_n 1, 1) := by decide +kernel
theorem dX1_adds_3 : decode cX1_adds 3 = .ok (.invokevirtual 62, 3) := by decide +kernel
theorem dX1_adds_6 : decode cX1_adds 6 = .ok (.ifCond .ne 7, 3) := by decide +kernel
theorem dX1_adds_9 : decode cX1_adds 9 = .ok (.iconst 1, 1) := by decide +kernel
theorem dX1_adds_10 : decode cX1_adds 10 = .ok (.goto 18, 3) := by decide +kernel
theorem dX1_adds_13 : decode cX1_adds 13 = .ok (.iload_n 2, 1) := by decide +kernel
theorem dX1_adds_14 : decode cX1_adds 14 = .ok (.iconst 0, 1) := by decide +kernel
theorem dX1_adds_15 : decode cX1_adds 15 = .ok (.bipush 30, 2) := by decide +kernel
theorem dX1_adds_17 : decode cX1_adds 17 = .ok (.invokestatic 48, 3) := by decide +kernel
theorem dX1_adds_20 : decode cX1_adds 20 = .ok (.ifCond .eq 7, 3) := by decide +kernel
theorem dX1_adds_23 : decode cX1_adds 23 = .ok (.iconst 0, 1) := by decide +kernel
theorem dX1_adds_24 : decode cX1_adds 24 = .ok (.goto 4, 3) := by decide +kernel
theorem dX1_adds_27 : decode cX1_adds 27 = .ok (.iconst 2, 1) := by decide +kernel
theorem dX1_adds_28 : decode cX1_adds 28 = .ok (.invokevirtual 59, 3) := by decide +kernel
theorem dX1_adds_31 : decode cX1_adds 31 = .ok (.ifCond .eq 12, 3) := by decide +kernel
theorem dX1_adds_34 : decode cX1_adds 34 = .ok (.aload_n 0, 1) := by decide +kernel
theorem dX1_adds_35 : decode cX1_adds 35 = .ok (.iload_n 2, 1) := by decide +kernel
theorem dX1_adds_36 : decode cX1_adds 36 = .ok (.iload_n 1, 1) := by decide +kernel
theorem dX1_adds_37 : decode cX1_adds 37 = .ok (.invokevirtual 92, 3) := by decide +kernel
theorem dX1_adds_40 : decode cX1_adds 40 = .ok (.goto 4, 3) := by decide +kernel
theorem dX1_adds_43 : decode cX1_adds 43 = .ok (.iconst 0, 1) := by decide +kernel
theorem dX1_adds_44 : decode cX1_adds 44 = .ok (.ireturn, 1) := by decide +kernel
theorem dX1_missingTop_0 : decode cX1_missingTop 0 = .ok (.aload_n 0, 1) := by decide +kernel
theorem dX1_missingTop_1 : decode cX1_missingTop 1 = .ok (.iconst 0, 1) := by decide +kernel
theorem dX1_missingTop_2 : decode cX1_missingTop 2 = .ok (.putfield 41, 3) := by decide +kernel
theorem dX1_missingTop_5 : decode cX1_missingTop 5 = .ok (.iconst 0, 1) := by decide +kernel
theorem dX1_missingTop_6 : decode cX1_missingTop 6 = .ok (.istore_n 1, 1) := by decide +kernel
theorem dX1_missingTop_7 : decode cX1_missingTop 7 = .ok (.iconst 0, 1) := by decide +kernel
theorem dX1_missingTop_8 : decode cX1_missingTop 8 = .ok (.istore_n 2, 1) := by decide +kernel
theorem dX1_missingTop_9 : decode cX1_missingTop 9 = .ok (.iconst 0, 1) := by decide +kernel
theorem dX1_missingTop_10 : decode cX1_missingTop 10 = .ok (.istore_n 3, 1) := by decide +kernel
theorem dX1_missingTop_11 : decode cX1_missingTop 11 = .ok (.iload_n 3, 1) := by decide +kernel
theorem dX1_missingTop_12 : decode cX1_missingTop 12 = .ok (.bipush 8, 2) := by decide +kernel
theorem dX1_missingTop_14 : decode cX1_missingTop 14 = .ok (.if_icmp .ge 128, 3) := by decide +kernel
theorem dX1_missingTop_17 : decode cX1_missingTop 17 = .ok (.iconst 0, 1) := by decide +kernel
theorem dX1_missingTop_18 : decode cX1_missingTop 18 = .ok (.istore 4, 2) := by decide +kernel
theorem dX1_missingTop_20 : decode cX1_missingTop 20 = .ok (.iconst 0, 1) := by decide +kernel
theorem dX1_missingTop_21 : decode cX1_missingTop 21 = .ok (.istore 5, 2) := by decide +kernel
theorem dX1_missingTop_23 : decode cX1_missingTop 23 = .ok (.iload 5, 2) := by decide +kernel
theorem dX1_missingTop_25 : decode cX1_missingTop 25 = .ok (.aload_n 0, 1) := by decide +kernel
theorem dX1_missingTop_26 : decode cX1_missingTop 26 = .ok (.getfield 45, 3) := by decide +kernel
theorem dX1_missingTop_29 : decode cX1_missingTop 29 = .ok (.if_icmp .ge 82, 3) := by decide +kernel
theorem dX1_missingTop_32 : decode cX1_missingTop 32 = .ok (.aload_n 0, 1) := by decide +kernel
theorem dX1_missingTop_33 : decode cX1_missingTop 33 = .ok (.getfield 7, 3) := by decide +kernel
theorem dX1_missingTop_36 : decode cX1_missingTop 36 = .ok (.iload 5, 2) := by decide +kernel
theorem dX1_missingTop_38 : decode cX1_missingTop 38 = .ok (.baload, 1) := by decide +kernel
theorem dX1_missingTop_39 : decode cX1_missingTop 39 = .ok (.ifCond .ne 28, 3) := by decide +kernel
theorem dX1_missingTop_42 : decode cX1_missingTop 42 = .ok (.aload_n 0, 1) := by decide +kernel
theorem dX1_missingTop_43 : decode cX1_missingTop 43 = .ok (.getfield 13, 3) := by decide +kernel
theorem dX1_missingTop_46 : decode cX1_missingTop 46 = .ok (.iload 5, 2) := by decide +kernel
theorem dX1_missingTop_48 : decode cX1_missingTop 48 = .ok (.iaload, 1) := by decide +kernel
theorem dX1_missingTop_49 : decode cX1_missingTop 49 = .ok (.iconst 1, 1) := by decide +kernel
theorem dX1_missingTop_50 : decode cX1_missingTop 50 = .ok (.if_icmp .ne 17, 3) := by decide +kernel
theorem dX1_missingTop_53 : decode cX1_missingTop 53 = .ok (.aload_n 0, 1) := by decide +kernel
theorem dX1_missingTop_54 : decode cX1_missingTop 54 = .ok (.getfield 29, 3) := by decide +kernel
theorem dX1_missingTop_57 : decode cX1_missingTop 57 = .ok (.iload 5, 2) := by decide +kernel
theorem dX1_missingTop_59 : decode cX1_missingTop 59 = .ok (.iaload, 1) := by decide +kernel
theorem dX1_missingTop_60 : decode cX1_missingTop 60 = .ok (.ifCond .le 7, 3) := by decide +kernel
theorem dX1_missingTop_63 : decode cX1_missingTop 63 = .ok (.iconst 1, 1) := by decide +kernel
theorem dX1_missingTop_64 : decode cX1_missingTop 64 = .ok (.goto 4, 3) := by decide +kernel
theorem dX1_missingTop_67 : decode cX1_missingTop 67 = .ok (.iconst 0, 1) := by decide +kernel
theorem dX1_missingTop_68 : decode cX1_missingTop 68 = .ok (.istore 6, 2) := by decide +kernel
theorem dX1_missingTop_70 : decode cX1_missingTop 70 = .ok (.iload 4, 2) := by decide +kernel
theorem dX1_missingTop_72 : decode cX1_missingTop 72 = .ok (.iload 6, 2) := by decide +kernel
theorem dX1_missingTop_74 : decode cX1_missingTop 74 = .ok (.ifCond .eq 27, 3) := by decide +kernel
theorem dX1_missingTop_77 : decode cX1_missingTop 77 = .ok (.aload_n 0, 1) := by decide +kernel
theorem dX1_missingTop_78 : decode cX1_missingTop 78 = .ok (.getfield 32, 3) := by decide +kernel
theorem dX1_missingTop_81 : decode cX1_missingTop 81 = .ok (.bipush 8, 2) := by decide +kernel
theorem dX1_missingTop_83 : decode cX1_missingTop 83 = .ok (.iload_n 3, 1) := by decide +kernel
theorem dX1_missingTop_84 : decode cX1_missingTop 84 = .ok (.imul, 1) := by decide +kernel
theorem dX1_missingTop_85 : decode cX1_missingTop 85 = .ok (.aload_n 0, 1) := by decide +kernel
theorem dX1_missingTop_86 : decode cX1_missingTop 86 = .ok (.getfield 17, 3) := by decide +kernel
theorem dX1_missingTop_89 : decode cX1_missingTop 89 = .ok (.iload 5, 2) := by decide +kernel
theorem dX1_missingTop_91 : decode cX1_missingTop 91 = .ok (.iaload, 1) := by decide +kernel
theorem dX1_missingTop_92 : decode cX1_missingTop 92 = .ok (.iadd, 1) := by decide +kernel
theorem dX1_missingTop_93 : decode cX1_missingTop 93 = .ok (.baload, 1) := by decide +kernel
theorem dX1_missingTop_94 : decode cX1_missingTop 94 = .ok (.ifCond .ne 7, 3) := by decide +kernel
theorem dX1_missingTop_97 : decode cX1_missingTop 97 = .ok (.iconst 1, 1) := by decide +kernel
theorem dX1_missingTop_98 : decode cX1_missingTop 98 = .ok (.goto 4, 3) := by decide +kernel
theorem dX1_missingTop_101 : decode cX1_missingTop 101 = .ok (.iconst 0, 1) := by decide +kernel
theorem dX1_missingTop_102 : decode cX1_missingTop 102 = .ok (.iadd, 1) := by decide +kernel
theorem dX1_missingTop_103 : decode cX1_missingTop 103 = .ok (.istore 4, 2) := by decide +kernel
theorem dX1_missingTop_105 : decode cX1_missingTop 105 = .ok (.iinc 5 1, 3) := by decide +kernel
theorem dX1_missingTop_108 : decode cX1_missingTop 108 = .ok (.goto (-85), 3) := by decide +kernel
theorem dX1_missingTop_111 : decode cX1_missingTop 111 = .ok (.iload 4, 2) := by decide +kernel
theorem dX1_missingTop_113 : decode cX1_missingTop 113 = .ok (.iload_n 2, 1) := by decide +kernel
theorem dX1_missingTop_114 : decode cX1_missingTop 114 = .ok (.if_icmp .le 7, 3) := by decide +kernel
theorem dX1_missingTop_117 : decode cX1_missingTop 117 = .ok (.iload_n 3, 1) := by decide +kernel
theorem dX1_missingTop_118 : decode cX1_missingTop 118 = .ok (.goto 4, 3) := by decide +kernel
theorem dX1_missingTop_121 : decode cX1_missingTop 121 = .ok (.iload_n 1, 1) := by decide +kernel
theorem dX1_missingTop_122 : decode cX1_missingTop 122 = .ok (.istore_n 1, 1) := by decide +kernel
theorem dX1_missingTop_123 : decode cX1_missingTop 123 = .ok (.iload 4, 2) := by decide +kernel
theorem dX1_missingTop_125 : decode cX1_missingTop 125 = .ok (.iload_n 2, 1) := by decide +kernel
theorem dX1_missingTop_126 : decode cX1_missingTop 126 = .ok (.if_icmp .le 8, 3) := by decide +kernel
theorem dX1_missingTop_129 : decode cX1_missingTop 129 = .ok (.iload 4, 2) := by decide +kernel
theorem dX1_missingTop_131 : decode cX1_missingTop 131 = .ok (.goto 4, 3) := by decide +kernel
theorem dX1_missingTop_134 : decode cX1_missingTop 134 = .ok (.iload_n 2, 1) := by decide +kernel
theorem dX1_missingTop_135 : decode cX1_missingTop 135 = .ok (.istore_n 2, 1) := by decide +kernel
theorem dX1_missingTop_136 : decode cX1_missingTop 136 = .ok (.iinc 3 1, 3) := by decide +kernel
theorem dX1_missingTop_139 : decode cX1_missingTop 139 = .ok (.goto (-128), 3) := by decide +kernel
theorem dX1_missingTop_142 : decode cX1_missingTop 142 = .ok (.iload_n 1, 1) := by decide +kernel
theorem dX1_missingTop_143 : decode cX1_missingTop 143 = .ok (.ireturn, 1) := by decide +kernel
set_option maxRecDepth 20000 in
theorem ggX1_outfitFor_X1_isIn : GoodIn wsX1_outfitFor wsX1_isIn := goodIn_r _ [4] (by decide +kernel) (by decide +kernel)
set_option maxRecDepth 20000 in
theorem gX1_outfitFor_X1_isIn : GoodIn wsX1_outfitFor (va_wsS RX1 48 yX1_isIn wsX1_isIn) := goodIn_app (goodIn_of _ (by decide +kernel)) ggX1_outfitFor_X1_isIn
set_option maxRecDepth 20000 in
theorem ggX1_outfitFor_X1_arePeople : GoodIn wsX1_outfitFor wsX1_arePeople := goodIn_r _ [7, 1, 2, 3, 4] (by decide +kernel) (by decide +kernel)
set_option maxRecDepth 20000 in
theorem gX1_outfitFor_X1_arePeople : GoodIn wsX1_outfitFor (va_wsS RX1 83 yX1_arePeople wsX1_arePeople) := goodIn_app (goodIn_of _ (by decide +kernel)) ggX1_outfitFor_X1_arePeople
set_option maxRecDepth 20000 in
theorem ggX1_outfitFor_X1_goes : GoodIn wsX1_outfitFor wsX1_goes := goodIn_r _ [11, 12, 46, 47, 48, 49, 50, 51, 52, 53, 54, 55, 56, 57, 58] (by decide +kernel) (by decide +kernel)
set_option maxRecDepth 20000 in
theorem gX1_outfitFor_X1_goes : GoodIn wsX1_outfitFor (wsV RX1 59 RX1 yX1_goes wsX1_goes) := goodIn_app (goodIn_of _ (by decide +kernel)) ggX1_outfitFor_X1_goes
set_option maxRecDepth 20000 in
theorem ggX1_outfitFor_X1_wrong : GoodIn wsX1_outfitFor wsX1_wrong := goodIn_r _ [16, 17, 18, 19, 20, 3, 21, 22, 23, 1, 2, 4, 46, 47, 48, 49, 50, 51, 52, 53, 54, 55, 56, 57, 58] (by decide +kernel) (by decide +kernel)
set_option maxRecDepth 20000 in
theorem gX1_outfitFor_X1_wrong : GoodIn wsX1_outfitFor (wsV RX1 76 RX1 yX1_wrong wsX1_wrong) := goodIn_app (goodIn_of _ (by decide +kernel)) ggX1_outfitFor_X1_wrong
set_option maxRecDepth 20000 in
theorem ggX1_outfitFor_X1_fits : GoodIn wsX1_outfitFor wsX1_fits := goodIn_r _ [27, 28, 29, 30, 31, 3, 32, 33, 34, 46, 47, 48, 49, 50, 51, 52, 53, 54, 55, 56, 57, 58] (by decide +kernel) (by decide +kernel)
set_option maxRecDepth 20000 in
theorem gX1_outfitFor_X1_fits : GoodIn wsX1_outfitFor (wsV RX1 80 RX1 yX1_fits wsX1_fits) := goodIn_app (goodIn_of _ (by decide +kernel)) ggX1_outfitFor_X1_fits
set_option maxRecDepth 20000 in
theorem ggX1_outfitFor_X1_isSoon : GoodIn wsX1_outfitFor wsX1_isSoon := goodIn_r _ [38, 39, 40, 46, 47, 48, 49, 50, 51, 52, 53, 54, 55, 56, 57, 58] (by decide +kernel) (by decide +kernel)
set_option maxRecDepth 20000 in
theorem gX1_outfitFor_X1_isSoon : GoodIn wsX1_outfitFor (wsV RX1 86 RX1 yX1_isSoon wsX1_isSoon) := goodIn_app (goodIn_of _ (by decide +kernel)) ggX1_outfitFor_X1_isSoon
set_option maxRecDepth 20000 in
theorem ggX1_outfitFor_X1_warmthOf : GoodIn wsX1_outfitFor wsX1_warmthOf := goodIn_r _ [44, 45, 46, 47, 48, 49, 50, 51, 52, 53, 54, 55, 56, 57, 58] (by decide +kernel) (by decide +kernel)
set_option maxRecDepth 20000 in
theorem gX1_outfitFor_X1_warmthOf : GoodIn wsX1_outfitFor (wsV RX1 89 RX1 yX1_warmthOf wsX1_warmthOf) := goodIn_app (goodIn_of _ (by decide +kernel)) ggX1_outfitFor_X1_warmthOf
theorem dX1_outfitFor_0 : decode cX1_outfitFor 0 = .ok (.aload_n 0, 1) := by decide +kernel
theorem dX1_outfitFor_1 : decode cX1_outfitFor 1 = .ok (.iload_n 1, 1) := by decide +kernel
theorem dX1_outfitFor_2 : decode cX1_outfitFor 2 = .ok (.iconst 0, 1) := by decide +kernel
theorem dX1_outfitFor_3 : decode cX1_outfitFor 3 = .ok (.bipush 30, 2) := by decide +kernel
theorem dX1_outfitFor_5 : decode cX1_outfitFor 5 = .ok (.invokestatic 48, 3) := by decide +kernel
theorem dX1_outfitFor_8 : decode cX1_outfitFor 8 = .ok (.ifCond .eq 14, 3) := by decide +kernel
theorem dX1_outfitFor_11 : decode cX1_outfitFor 11 = .ok (.iload_n 2, 1) := by decide +kernel
theorem dX1_outfitFor_12 : decode cX1_outfitFor 12 = .ok (.invokestatic 83, 3) := by decide +kernel
theorem dX1_outfitFor_15 : decode cX1_outfitFor 15 = .ok (.ifCond .eq 7, 3) := by decide +kernel
theorem dX1_outfitFor_18 : decode cX1_outfitFor 18 = .ok (.iconst 0, 1) := by decide +kernel
theorem dX1_outfitFor_19 : decode cX1_outfitFor 19 = .ok (.goto 4, 3) := by decide +kernel
theorem dX1_outfitFor_22 : decode cX1_outfitFor 22 = .ok (.iconst 1, 1) := by decide +kernel
theorem dX1_outfitFor_23 : decode cX1_outfitFor 23 = .ok (.invokevirtual 59, 3) := by decide +kernel
theorem dX1_outfitFor_26 : decode cX1_outfitFor 26 = .ok (.ifCond .ne 5, 3) := by decide +kernel
theorem dX1_outfitFor_29 : decode cX1_outfitFor 29 = .ok (.iconst 0, 1) := by decide +kernel
theorem dX1_outfitFor_30 : decode cX1_outfitFor 30 = .ok (.ireturn, 1) := by decide +kernel
theorem dX1_outfitFor_31 : decode cX1_outfitFor 31 = .ok (.iconst (-1), 1) := by decide +kernel
theorem dX1_outfitFor_32 : decode cX1_outfitFor 32 = .ok (.istore_n 3, 1) := by decide +kernel
theorem dX1_outfitFor_33 : decode cX1_outfitFor 33 = .ok (.bipush 100, 2) := by decide +kernel
theorem dX1_outfitFor_35 : decode cX1_outfitFor 35 = .ok (.istore 4, 2) := by decide +kernel
theorem dX1_outfitFor_37 : decode cX1_outfitFor 37 = .ok (.iconst 0, 1) := by decide +kernel
theorem dX1_outfitFor_38 : decode cX1_outfitFor 38 = .ok (.istore 5, 2) := by decide +kernel
theorem dX1_outfitFor_40 : decode cX1_outfitFor 40 = .ok (.iload 5, 2) := by decide +kernel
theorem dX1_outfitFor_42 : decode cX1_outfitFor 42 = .ok (.sipush 1872, 3) := by decide +kernel
theorem dX1_outfitFor_45 : decode cX1_outfitFor 45 = .ok (.if_icmp .ge 168, 3) := by decide +kernel
theorem dX1_outfitFor_48 : decode cX1_outfitFor 48 = .ok (.iload 5, 2) := by decide +kernel
theorem dX1_outfitFor_50 : decode cX1_outfitFor 50 = .ok (.sipush 156, 3) := by decide +kernel
theorem dX1_outfitFor_53 : decode cX1_outfitFor 53 = .ok (.idiv, 1) := by decide +kernel
theorem dX1_outfitFor_54 : decode cX1_outfitFor 54 = .ok (.istore 6, 2) := by decide +kernel
theorem dX1_outfitFor_56 : decode cX1_outfitFor 56 = .ok (.iload 5, 2) := by decide +kernel
theorem dX1_outfitFor_58 : decode cX1_outfitFor 58 = .ok (.bipush 13, 2) := by decide +kernel
theorem dX1_outfitFor_60 : decode cX1_outfitFor 60 = .ok (.idiv, 1) := by decide +kernel
theorem dX1_outfitFor_61 : decode cX1_outfitFor 61 = .ok (.bipush 12, 2) := by decide +kernel
theorem dX1_outfitFor_63 : decode cX1_outfitFor 63 = .ok (.irem, 1) := by decide +kernel
theorem dX1_outfitFor_64 : decode cX1_outfitFor 64 = .ok (.istore 7, 2) := by decide +kernel
theorem dX1_outfitFor_66 : decode cX1_outfitFor 66 = .ok (.iload 5, 2) := by decide +kernel
theorem dX1_outfitFor_68 : decode cX1_outfitFor 68 = .ok (.bipush 13, 2) := by decide +kernel
theorem dX1_outfitFor_70 : decode cX1_outfitFor 70 = .ok (.irem, 1) := by decide +kernel
theorem dX1_outfitFor_71 : decode cX1_outfitFor 71 = .ok (.iconst 1, 1) := by decide +kernel
theorem dX1_outfitFor_72 : decode cX1_outfitFor 72 = .ok (.isub, 1) := by decide +kernel
theorem dX1_outfitFor_73 : decode cX1_outfitFor 73 = .ok (.istore 8, 2) := by decide +kernel
theorem dX1_outfitFor_75 : decode cX1_outfitFor 75 = .ok (.aload_n 0, 1) := by decide +kernel
theorem dX1_outfitFor_76 : decode cX1_outfitFor 76 = .ok (.iload 6, 2) := by decide +kernel
theorem dX1_outfitFor_78 : decode cX1_outfitFor 78 = .ok (.iload 7, 2) := by decide +kernel
theorem dX1_outfitFor_80 : decode cX1_outfitFor 80 = .ok (.iload 8, 2) := by decide +kernel
theorem dX1_outfitFor_82 : decode cX1_outfitFor 82 = .ok (.invokevirtual 76, 3) := by decide +kernel
theorem dX1_outfitFor_85 : decode cX1_outfitFor 85 = .ok (.ifCond .ne 32, 3) := by decide +kernel
theorem dX1_outfitFor_88 : decode cX1_outfitFor 88 = .ok (.aload_n 0, 1) := by decide +kernel
theorem dX1_outfitFor_89 : decode cX1_outfitFor 89 = .ok (.iload 6, 2) := by decide +kernel
theorem dX1_outfitFor_91 : decode cX1_outfitFor 91 = .ok (.iload 7, 2) := by decide +kernel
theorem dX1_outfitFor_93 : decode cX1_outfitFor 93 = .ok (.iload 8, 2) := by decide +kernel
theorem dX1_outfitFor_95 : decode cX1_outfitFor 95 = .ok (.invokevirtual 80, 3) := by decide +kernel
theorem dX1_outfitFor_98 : decode cX1_outfitFor 98 = .ok (.ifCond .eq 19, 3) := by decide +kernel
theorem dX1_outfitFor_101 : decode cX1_outfitFor 101 = .ok (.aload_n 0, 1) := by decide +kernel
theorem dX1_outfitFor_102 : decode cX1_outfitFor 102 = .ok (.iload 6, 2) := by decide +kernel
theorem dX1_outfitFor_104 : decode cX1_outfitFor 104 = .ok (.iload 7, 2) := by decide +kernel
theorem dX1_outfitFor_106 : decode cX1_outfitFor 106 = .ok (.iload_n 2, 1) := by decide +kernel
theorem dX1_outfitFor_107 : decode cX1_outfitFor 107 = .ok (.invokevirtual 86, 3) := by decide +kernel
theorem dX1_outfitFor_110 : decode cX1_outfitFor 110 = .ok (.ifCond .ne 7, 3) := by decide +kernel
theorem dX1_outfitFor_113 : decode cX1_outfitFor 113 = .ok (.iconst 1, 1) := by decide +kernel
theorem dX1_outfitFor_114 : decode cX1_outfitFor 114 = .ok (.goto 4, 3) := by decide +kernel
theorem dX1_outfitFor_117 : decode cX1_outfitFor 117 = .ok (.iconst 0, 1) := by decide +kernel
theorem dX1_outfitFor_118 : decode cX1_outfitFor 118 = .ok (.istore 9, 2) := by decide +kernel
theorem dX1_outfitFor_120 : decode cX1_outfitFor 120 = .ok (.iload 9, 2) := by decide +kernel
theorem dX1_outfitFor_122 : decode cX1_outfitFor 122 = .ok (.ifCond .eq 16, 3) := by decide +kernel
theorem dX1_outfitFor_125 : decode cX1_outfitFor 125 = .ok (.aload_n 0, 1) := by decide +kernel
theorem dX1_outfitFor_126 : decode cX1_outfitFor 126 = .ok (.iload 6, 2) := by decide +kernel
theorem dX1_outfitFor_128 : decode cX1_outfitFor 128 = .ok (.iload 7, 2) := by decide +kernel
theorem dX1_outfitFor_130 : decode cX1_outfitFor 130 = .ok (.iload 8, 2) := by decide +kernel
theorem dX1_outfitFor_132 : decode cX1_outfitFor 132 = .ok (.invokevirtual 89, 3) := by decide +kernel
theorem dX1_outfitFor_135 : decode cX1_outfitFor 135 = .ok (.goto 4, 3) := by decide +kernel
theorem dX1_outfitFor_138 : decode cX1_outfitFor 138 = .ok (.iconst 0, 1) := by decide +kernel
theorem dX1_outfitFor_139 : decode cX1_outfitFor 139 = .ok (.istore 10, 2) := by decide +kernel
theorem dX1_outfitFor_141 : decode cX1_outfitFor 141 = .ok (.iload 9, 2) := by decide +kernel
theorem dX1_outfitFor_143 : decode cX1_outfitFor 143 = .ok (.ifCond .eq 20, 3) := by decide +kernel
theorem dX1_outfitFor_146 : decode cX1_outfitFor 146 = .ok (.iload 10, 2) := by decide +kernel
theorem dX1_outfitFor_148 : decode cX1_outfitFor 148 = .ok (.iload_n 1, 1) := by decide +kernel
theorem dX1_outfitFor_149 : decode cX1_outfitFor 149 = .ok (.if_icmp .lt 14, 3) := by decide +kernel
theorem dX1_outfitFor_152 : decode cX1_outfitFor 152 = .ok (.iload 10, 2) := by decide +kernel
theorem dX1_outfitFor_154 : decode cX1_outfitFor 154 = .ok (.iload 4, 2) := by decide +kernel
theorem dX1_outfitFor_156 : decode cX1_outfitFor 156 = .ok (.if_icmp .ge 7, 3) := by decide +kernel
theorem dX1_outfitFor_159 : decode cX1_outfitFor 159 = .ok (.iconst 1, 1) := by decide +kernel
theorem dX1_outfitFor_160 : decode cX1_outfitFor 160 = .ok (.goto 4, 3) := by decide +kernel
theorem dX1_outfitFor_163 : decode cX1_outfitFor 163 = .ok (.iconst 0, 1) := by decide +kernel
theorem dX1_outfitFor_164 : decode cX1_outfitFor 164 = .ok (.istore 9, 2) := by decide +kernel
theorem dX1_outfitFor_166 : decode cX1_outfitFor 166 = .ok (.iload 9, 2) := by decide +kernel
theorem dX1_outfitFor_168 : decode cX1_outfitFor 168 = .ok (.ifCond .eq 23, 3) := by decide +kernel
theorem dX1_outfitFor_171 : decode cX1_outfitFor 171 = .ok (.sipush 10000, 3) := by decide +kernel
theorem dX1_outfitFor_174 : decode cX1_outfitFor 174 = .ok (.iload 6, 2) := by decide +kernel
theorem dX1_outfitFor_176 : decode cX1_outfitFor 176 = .ok (.imul, 1) := by decide +kernel
theorem dX1_outfitFor_177 : decode cX1_outfitFor 177 = .ok (.bipush 100, 2) := by decide +kernel
theorem dX1_outfitFor_179 : decode cX1_outfitFor 179 = .ok (.iload 7, 2) := by decide +kernel
theorem dX1_outfitFor_181 : decode cX1_outfitFor 181 = .ok (.imul, 1) := by decide +kernel
theorem dX1_outfitFor_182 : decode cX1_outfitFor 182 = .ok (.iadd, 1) := by decide +kernel
theorem dX1_outfitFor_183 : decode cX1_outfitFor 183 = .ok (.iload 8, 2) := by decide +kernel
theorem dX1_outfitFor_185 : decode cX1_outfitFor 185 = .ok (.iadd, 1) := by decide +kernel
theorem dX1_outfitFor_186 : decode cX1_outfitFor 186 = .ok (.iconst 1, 1) := by decide +kernel
theorem dX1_outfitFor_187 : decode cX1_outfitFor 187 = .ok (.iadd, 1) := by decide +kernel
theorem dX1_outfitFor_188 : decode cX1_outfitFor 188 = .ok (.goto 4, 3) := by decide +kernel
theorem dX1_outfitFor_191 : decode cX1_outfitFor 191 = .ok (.iload_n 3, 1) := by decide +kernel
theorem dX1_outfitFor_192 : decode cX1_outfitFor 192 = .ok (.istore_n 3, 1) := by decide +kernel
theorem dX1_outfitFor_193 : decode cX1_outfitFor 193 = .ok (.iload 9, 2) := by decide +kernel
theorem dX1_outfitFor_195 : decode cX1_outfitFor 195 = .ok (.ifCond .eq 8, 3) := by decide +kernel
theorem dX1_outfitFor_198 : decode cX1_outfitFor 198 = .ok (.iload 10, 2) := by decide +kernel
theorem dX1_outfitFor_200 : decode cX1_outfitFor 200 = .ok (.goto 5, 3) := by decide +kernel
theorem dX1_outfitFor_203 : decode cX1_outfitFor 203 = .ok (.iload 4, 2) := by decide +kernel
theorem dX1_outfitFor_205 : decode cX1_outfitFor 205 = .ok (.istore 4, 2) := by decide +kernel
theorem dX1_outfitFor_207 : decode cX1_outfitFor 207 = .ok (.iinc 5 1, 3) := by decide +kernel
theorem dX1_outfitFor_210 : decode cX1_outfitFor 210 = .ok (.goto (-170), 3) := by decide +kernel
theorem dX1_outfitFor_213 : decode cX1_outfitFor 213 = .ok (.iload_n 3, 1) := by decide +kernel
theorem dX1_outfitFor_214 : decode cX1_outfitFor 214 = .ok (.ireturn, 1) := by decide +kernel
theorem dX1_isOf_0 : decode cX1_isOf 0 = .ok (.aload_n 0, 1) := by decide +kernel
theorem dX1_isOf_1 : decode cX1_isOf 1 = .ok (.getfield 7, 3) := by decide +kernel
theorem dX1_isOf_4 : decode cX1_isOf 4 = .ok (.iload_n 1, 1) := by decide +kernel
theorem dX1_isOf_5 : decode cX1_isOf 5 = .ok (.baload, 1) := by decide +kernel
theorem dX1_isOf_6 : decode cX1_isOf 6 = .ok (.ifCond .ne 36, 3) := by decide +kernel
theorem dX1_isOf_9 : decode cX1_isOf 9 = .ok (.aload_n 0, 1) := by decide +kernel
theorem dX1_isOf_10 : decode cX1_isOf 10 = .ok (.getfield 26, 3) := by decide +kernel
theorem dX1_isOf_13 : decode cX1_isOf 13 = .ok (.iload_n 1, 1) := by decide +kernel
theorem dX1_isOf_14 : decode cX1_isOf 14 = .ok (.iaload, 1) := by decide +kernel
theorem dX1_isOf_15 : decode cX1_isOf 15 = .ok (.iload_n 2, 1) := by decide +kernel
theorem dX1_isOf_16 : decode cX1_isOf 16 = .ok (.if_icmp .ne 26, 3) := by decide +kernel
theorem dX1_isOf_19 : decode cX1_isOf 19 = .ok (.aload_n 0, 1) := by decide +kernel
theorem dX1_isOf_20 : decode cX1_isOf 20 = .ok (.getfield 17, 3) := by decide +kernel
theorem dX1_isOf_23 : decode cX1_isOf 23 = .ok (.iload_n 1, 1) := by decide +kernel
theorem dX1_isOf_24 : decode cX1_isOf 24 = .ok (.iaload, 1) := by decide +kernel
theorem dX1_isOf_25 : decode cX1_isOf 25 = .ok (.iconst 3, 1) := by decide +kernel
theorem dX1_isOf_26 : decode cX1_isOf 26 = .ok (.if_icmp .le 7, 3) := by decide +kernel
theorem dX1_isOf_29 : decode cX1_isOf 29 = .ok (.iconst 1, 1) := by decide +kernel
theorem dX1_isOf_30 : decode cX1_isOf 30 = .ok (.goto 4, 3) := by decide +kernel
theorem dX1_isOf_33 : decode cX1_isOf 33 = .ok (.iconst 0, 1) := by decide +kernel
theorem dX1_isOf_34 : decode cX1_isOf 34 = .ok (.iload_n 3, 1) := by decide +kernel
theorem dX1_isOf_35 : decode cX1_isOf 35 = .ok (.if_icmp .ne 7, 3) := by decide +kernel
theorem dX1_isOf_38 : decode cX1_isOf 38 = .ok (.iconst 1, 1) := by decide +kernel
theorem dX1_isOf_39 : decode cX1_isOf 39 = .ok (.goto 4, 3) := by decide +kernel
theorem dX1_isOf_42 : decode cX1_isOf 42 = .ok (.iconst 0, 1) := by decide +kernel
theorem dX1_isOf_43 : decode cX1_isOf 43 = .ok (.ireturn, 1) := by decide +kernel
set_option maxRecDepth 20000 in
theorem ggX1_load_X1_isCare : GoodIn wsX1_load wsX1_isCare := goodIn_r _ [6, 7, 8, 5, 9] (by decide +kernel) (by decide +kernel)
set_option maxRecDepth 20000 in
theorem gX1_load_X1_isCare : GoodIn wsX1_load (va_wsS RX1 56 yX1_isCare wsX1_isCare) := goodIn_app (goodIn_of _ (by decide +kernel)) ggX1_load_X1_isCare
set_option maxRecDepth 20000 in
theorem ggX1_load_X1_goes : GoodIn wsX1_load wsX1_goes := goodIn_r _ [13, 14, 22, 23, 24, 25, 26, 27, 28, 29, 30, 31, 32, 33, 34] (by decide +kernel) (by decide +kernel)
set_option maxRecDepth 20000 in
theorem gX1_load_X1_goes : GoodIn wsX1_load (wsV RX1 59 RX1 yX1_goes wsX1_goes) := goodIn_app (goodIn_of _ (by decide +kernel)) ggX1_load_X1_goes
set_option maxRecDepth 20000 in
theorem ggX1_load_X1_isOf : GoodIn wsX1_load wsX1_isOf := goodIn_r _ [18, 19, 20, 21, 22, 23, 24, 25, 26, 27, 28, 29, 30, 31, 32, 33, 34] (by decide +kernel) (by decide +kernel)
set_option maxRecDepth 20000 in
theorem gX1_load_X1_isOf : GoodIn wsX1_load (wsV RX1 96 RX1 yX1_isOf wsX1_isOf) := goodIn_app (goodIn_of _ (by decide +kernel)) ggX1_load_X1_isOf
theorem dX1_load_0 : decode cX1_load 0 = .ok (.aload_n 0, 1) := by decide +kernel
theorem dX1_load_1 : decode cX1_load 1 = .ok (.iload_n 1, 1) := by decide +kernel
theorem dX1_load_2 : decode cX1_load 2 = .ok (.invokestatic 56, 3) := by decide +kernel
theorem dX1_load_5 : decode cX1_load 5 = .ok (.ifCond .eq 7, 3) := by decide +kernel
theorem dX1_load_8 : decode cX1_load 8 = .ok (.iconst 0, 1) := by decide +kernel
theorem dX1_load_9 : decode cX1_load 9 = .ok (.goto 4, 3) := by decide +kernel
theorem dX1_load_12 : decode cX1_load 12 = .ok (.iconst 1, 1) := by decide +kernel
theorem dX1_load_13 : decode cX1_load 13 = .ok (.invokevirtual 59, 3) := by decide +kernel
theorem dX1_load_16 : decode cX1_load 16 = .ok (.ifCond .ne 5, 3) := by decide +kernel
theorem dX1_load_19 : decode cX1_load 19 = .ok (.iconst 0, 1) := by decide +kernel
theorem dX1_load_20 : decode cX1_load 20 = .ok (.ireturn, 1) := by decide +kernel
theorem dX1_load_21 : decode cX1_load 21 = .ok (.iconst 0, 1) := by decide +kernel
theorem dX1_load_22 : decode cX1_load 22 = .ok (.istore_n 3, 1) := by decide +kernel
theorem dX1_load_23 : decode cX1_load 23 = .ok (.iconst 0, 1) := by decide +kernel
theorem dX1_load_24 : decode cX1_load 24 = .ok (.istore 4, 2) := by decide +kernel
theorem dX1_load_26 : decode cX1_load 26 = .ok (.iload 4, 2) := by decide +kernel
theorem dX1_load_28 : decode cX1_load 28 = .ok (.aload_n 0, 1) := by decide +kernel
theorem dX1_load_29 : decode cX1_load 29 = .ok (.getfield 45, 3) := by decide +kernel
theorem dX1_load_32 : decode cX1_load 32 = .ok (.if_icmp .ge 38, 3) := by decide +kernel
theorem dX1_load_35 : decode cX1_load 35 = .ok (.iload_n 3, 1) := by decide +kernel
theorem dX1_load_36 : decode cX1_load 36 = .ok (.aload_n 0, 1) := by decide +kernel
theorem dX1_load_37 : decode cX1_load 37 = .ok (.iload 4, 2) := by decide +kernel
theorem dX1_load_39 : decode cX1_load 39 = .ok (.iload_n 1, 1) := by decide +kernel
theorem dX1_load_40 : decode cX1_load 40 = .ok (.iload_n 2, 1) := by decide +kernel
theorem dX1_load_41 : decode cX1_load 41 = .ok (.invokevirtual 96, 3) := by decide +kernel
theorem dX1_load_44 : decode cX1_load 44 = .ok (.ifCond .eq 17, 3) := by decide +kernel
theorem dX1_load_47 : decode cX1_load 47 = .ok (.aload_n 0, 1) := by decide +kernel
theorem dX1_load_48 : decode cX1_load 48 = .ok (.getfield 29, 3) := by decide +kernel
theorem dX1_load_51 : decode cX1_load 51 = .ok (.iload 4, 2) := by decide +kernel
theorem dX1_load_53 : decode cX1_load 53 = .ok (.iaload, 1) := by decide +kernel
theorem dX1_load_54 : decode cX1_load 54 = .ok (.ifCond .ne 7, 3) := by decide +kernel
theorem dX1_load_57 : decode cX1_load 57 = .ok (.iconst 1, 1) := by decide +kernel
theorem dX1_load_58 : decode cX1_load 58 = .ok (.goto 4, 3) := by decide +kernel
theorem dX1_load_61 : decode cX1_load 61 = .ok (.iconst 0, 1) := by decide +kernel
theorem dX1_load_62 : decode cX1_load 62 = .ok (.iadd, 1) := by decide +kernel
theorem dX1_load_63 : decode cX1_load 63 = .ok (.istore_n 3, 1) := by decide +kernel
theorem dX1_load_64 : decode cX1_load 64 = .ok (.iinc 4 1, 3) := by decide +kernel
theorem dX1_load_67 : decode cX1_load 67 = .ok (.goto (-41), 3) := by decide +kernel
theorem dX1_load_70 : decode cX1_load 70 = .ok (.iload_n 3, 1) := by decide +kernel
theorem dX1_load_71 : decode cX1_load 71 = .ok (.ireturn, 1) := by decide +kernel
set_option maxRecDepth 20000 in
theorem ggX1_wash_X1_isCare : GoodIn wsX1_wash wsX1_isCare := goodIn_r _ [7, 8, 9, 6, 10] (by decide +kernel) (by decide +kernel)
set_option maxRecDepth 20000 in
theorem gX1_wash_X1_isCare : GoodIn wsX1_wash (va_wsS RX1 56 yX1_isCare wsX1_isCare) := goodIn_app (goodIn_of _ (by decide +kernel)) ggX1_wash_X1_isCare
set_option maxRecDepth 20000 in
theorem ggX1_wash_X1_goes : GoodIn wsX1_wash wsX1_goes := goodIn_r _ [14, 15, 23, 24, 25, 26, 27, 28, 29, 30, 31, 32, 33, 34, 35] (by decide +kernel) (by decide +kernel)
set_option maxRecDepth 20000 in
theorem gX1_wash_X1_goes : GoodIn wsX1_wash (wsV RX1 59 RX1 yX1_goes wsX1_goes) := goodIn_app (goodIn_of _ (by decide +kernel)) ggX1_wash_X1_goes
set_option maxRecDepth 20000 in
theorem ggX1_wash_X1_isOf : GoodIn wsX1_wash wsX1_isOf := goodIn_r _ [19, 20, 21, 22, 23, 24, 25, 26, 27, 28, 29, 30, 31, 32, 33, 34, 35] (by decide +kernel) (by decide +kernel)
set_option maxRecDepth 20000 in
theorem gX1_wash_X1_isOf : GoodIn wsX1_wash (wsV RX1 96 RX1 yX1_isOf wsX1_isOf) := goodIn_app (goodIn_of _ (by decide +kernel)) ggX1_wash_X1_isOf
theorem dX1_wash_0 : decode cX1_wash 0 = .ok (.aload_n 0, 1) := by decide +kernel
theorem dX1_wash_1 : decode cX1_wash 1 = .ok (.iload_n 1, 1) := by decide +kernel
theorem dX1_wash_2 : decode cX1_wash 2 = .ok (.invokestatic 56, 3) := by decide +kernel
theorem dX1_wash_5 : decode cX1_wash 5 = .ok (.ifCond .eq 7, 3) := by decide +kernel
theorem dX1_wash_8 : decode cX1_wash 8 = .ok (.iconst 0, 1) := by decide +kernel
theorem dX1_wash_9 : decode cX1_wash 9 = .ok (.goto 4, 3) := by decide +kernel
theorem dX1_wash_12 : decode cX1_wash 12 = .ok (.iconst 1, 1) := by decide +kernel
theorem dX1_wash_13 : decode cX1_wash 13 = .ok (.invokevirtual 59, 3) := by decide +kernel
theorem dX1_wash_16 : decode cX1_wash 16 = .ok (.ifCond .ne 5, 3) := by decide +kernel
theorem dX1_wash_19 : decode cX1_wash 19 = .ok (.iconst 0, 1) := by decide +kernel
theorem dX1_wash_20 : decode cX1_wash 20 = .ok (.ireturn, 1) := by decide +kernel
theorem dX1_wash_21 : decode cX1_wash 21 = .ok (.iconst 0, 1) := by decide +kernel
theorem dX1_wash_22 : decode cX1_wash 22 = .ok (.istore_n 3, 1) := by decide +kernel
theorem dX1_wash_23 : decode cX1_wash 23 = .ok (.iconst 0, 1) := by decide +kernel
theorem dX1_wash_24 : decode cX1_wash 24 = .ok (.istore 4, 2) := by decide +kernel
theorem dX1_wash_26 : decode cX1_wash 26 = .ok (.iload 4, 2) := by decide +kernel
theorem dX1_wash_28 : decode cX1_wash 28 = .ok (.bipush 10, 2) := by decide +kernel
theorem dX1_wash_30 : decode cX1_wash 30 = .ok (.if_icmp .ge 116, 3) := by decide +kernel
theorem dX1_wash_33 : decode cX1_wash 33 = .ok (.iconst 0, 1) := by decide +kernel
theorem dX1_wash_34 : decode cX1_wash 34 = .ok (.istore 5, 2) := by decide +kernel
theorem dX1_wash_36 : decode cX1_wash 36 = .ok (.iload 5, 2) := by decide +kernel
theorem dX1_wash_38 : decode cX1_wash 38 = .ok (.aload_n 0, 1) := by decide +kernel
theorem dX1_wash_39 : decode cX1_wash 39 = .ok (.getfield 45, 3) := by decide +kernel
theorem dX1_wash_42 : decode cX1_wash 42 = .ok (.if_icmp .ge 98, 3) := by decide +kernel
theorem dX1_wash_45 : decode cX1_wash 45 = .ok (.aload_n 0, 1) := by decide +kernel
theorem dX1_wash_46 : decode cX1_wash 46 = .ok (.iload 5, 2) := by decide +kernel
theorem dX1_wash_48 : decode cX1_wash 48 = .ok (.iload_n 1, 1) := by decide +kernel
theorem dX1_wash_49 : decode cX1_wash 49 = .ok (.iload_n 2, 1) := by decide +kernel
theorem dX1_wash_50 : decode cX1_wash 50 = .ok (.invokevirtual 96, 3) := by decide +kernel
theorem dX1_wash_53 : decode cX1_wash 53 = .ok (.ifCond .eq 36, 3) := by decide +kernel
theorem dX1_wash_56 : decode cX1_wash 56 = .ok (.aload_n 0, 1) := by decide +kernel
theorem dX1_wash_57 : decode cX1_wash 57 = .ok (.getfield 29, 3) := by decide +kernel
theorem dX1_wash_60 : decode cX1_wash 60 = .ok (.iload 5, 2) := by decide +kernel
theorem dX1_wash_62 : decode cX1_wash 62 = .ok (.iaload, 1) := by decide +kernel
theorem dX1_wash_63 : decode cX1_wash 63 = .ok (.iload 4, 2) := by decide +kernel
theorem dX1_wash_65 : decode cX1_wash 65 = .ok (.if_icmp .ne 24, 3) := by decide +kernel
theorem dX1_wash_68 : decode cX1_wash 68 = .ok (.iload 4, 2) := by decide +kernel
theorem dX1_wash_70 : decode cX1_wash 70 = .ok (.aload_n 0, 1) := by decide +kernel
theorem dX1_wash_71 : decode cX1_wash 71 = .ok (.getfield 23, 3) := by decide +kernel
theorem dX1_wash_74 : decode cX1_wash 74 = .ok (.iload 5, 2) := by decide +kernel
theorem dX1_wash_76 : decode cX1_wash 76 = .ok (.iaload, 1) := by decide +kernel
theorem dX1_wash_77 : decode cX1_wash 77 = .ok (.if_icmp .ge 12, 3) := by decide +kernel
theorem dX1_wash_80 : decode cX1_wash 80 = .ok (.iload_n 3, 1) := by decide +kernel
theorem dX1_wash_81 : decode cX1_wash 81 = .ok (.iconst 5, 1) := by decide +kernel
theorem dX1_wash_82 : decode cX1_wash 82 = .ok (.if_icmp .ge 7, 3) := by decide +kernel
theorem dX1_wash_85 : decode cX1_wash 85 = .ok (.iconst 1, 1) := by decide +kernel
theorem dX1_wash_86 : decode cX1_wash 86 = .ok (.goto 4, 3) := by decide +kernel
theorem dX1_wash_89 : decode cX1_wash 89 = .ok (.iconst 0, 1) := by decide +kernel
theorem dX1_wash_90 : decode cX1_wash 90 = .ok (.istore 6, 2) := by decide +kernel
theorem dX1_wash_92 : decode cX1_wash 92 = .ok (.aload_n 0, 1) := by decide +kernel
theorem dX1_wash_93 : decode cX1_wash 93 = .ok (.getfield 29, 3) := by decide +kernel
theorem dX1_wash_96 : decode cX1_wash 96 = .ok (.iload 5, 2) := by decide +kernel
theorem dX1_wash_98 : decode cX1_wash 98 = .ok (.iload 6, 2) := by decide +kernel
theorem dX1_wash_100 : decode cX1_wash 100 = .ok (.ifCond .eq 13, 3) := by decide +kernel
theorem dX1_wash_103 : decode cX1_wash 103 = .ok (.aload_n 0, 1) := by decide +kernel
theorem dX1_wash_104 : decode cX1_wash 104 = .ok (.getfield 23, 3) := by decide +kernel
theorem dX1_wash_107 : decode cX1_wash 107 = .ok (.iload 5, 2) := by decide +kernel
theorem dX1_wash_109 : decode cX1_wash 109 = .ok (.iaload, 1) := by decide +kernel
theorem dX1_wash_110 : decode cX1_wash 110 = .ok (.goto 10, 3) := by decide +kernel
theorem dX1_wash_113 : decode cX1_wash 113 = .ok (.aload_n 0, 1) := by decide +kernel
theorem dX1_wash_114 : decode cX1_wash 114 = .ok (.getfield 29, 3) := by decide +kernel
theorem dX1_wash_117 : decode cX1_wash 117 = .ok (.iload 5, 2) := by decide +kernel
theorem dX1_wash_119 : decode cX1_wash 119 = .ok (.iaload, 1) := by decide +kernel
theorem dX1_wash_120 : decode cX1_wash 120 = .ok (.iastore, 1) := by decide +kernel
theorem dX1_wash_121 : decode cX1_wash 121 = .ok (.iload_n 3, 1) := by decide +kernel
theorem dX1_wash_122 : decode cX1_wash 122 = .ok (.iload 6, 2) := by decide +kernel
theorem dX1_wash_124 : decode cX1_wash 124 = .ok (.ifCond .eq 7, 3) := by decide +kernel
theorem dX1_wash_127 : decode cX1_wash 127 = .ok (.iconst 1, 1) := by decide +kernel
theorem dX1_wash_128 : decode cX1_wash 128 = .ok (.goto 4, 3) := by decide +kernel
theorem dX1_wash_131 : decode cX1_wash 131 = .ok (.iconst 0, 1) := by decide +kernel
theorem dX1_wash_132 : decode cX1_wash 132 = .ok (.iadd, 1) := by decide +kernel
theorem dX1_wash_133 : decode cX1_wash 133 = .ok (.istore_n 3, 1) := by decide +kernel
theorem dX1_wash_134 : decode cX1_wash 134 = .ok (.iinc 5 1, 3) := by decide +kernel
theorem dX1_wash_137 : decode cX1_wash 137 = .ok (.goto (-101), 3) := by decide +kernel
theorem dX1_wash_140 : decode cX1_wash 140 = .ok (.iinc 4 1, 3) := by decide +kernel
theorem dX1_wash_143 : decode cX1_wash 143 = .ok (.goto (-117), 3) := by decide +kernel
theorem dX1_wash_146 : decode cX1_wash 146 = .ok (.iload_n 3, 1) := by decide +kernel
theorem dX1_wash_147 : decode cX1_wash 147 = .ok (.ireturn, 1) := by decide +kernel
set_option maxRecDepth 20000 in
theorem ggX1_pass_X1_isIn : GoodIn wsX1_pass wsX1_isIn := goodIn_r _ [5] (by decide +kernel) (by decide +kernel)
set_option maxRecDepth 20000 in
theorem gX1_pass_X1_isIn : GoodIn wsX1_pass (va_wsS RX1 48 yX1_isIn wsX1_isIn) := goodIn_app (goodIn_of _ (by decide +kernel)) ggX1_pass_X1_isIn
set_option maxRecDepth 20000 in
theorem ggX1_pass_X1_goes : GoodIn wsX1_pass wsX1_goes := goodIn_r _ [9, 10, 11, 12, 13, 14, 15, 16, 17, 18, 19, 20, 21, 22, 23] (by decide +kernel) (by decide +kernel)
set_option maxRecDepth 20000 in
theorem gX1_pass_X1_goes : GoodIn wsX1_pass (wsV RX1 59 RX1 yX1_goes wsX1_goes) := goodIn_app (goodIn_of _ (by decide +kernel)) ggX1_pass_X1_goes
theorem dX1_pass_0 : decode cX1_pass 0 = .ok (.aload_n 0, 1) := by decide +kernel
theorem dX1_pass_1 : decode cX1_pass 1 = .ok (.iload_n 1, 1) := by decide +kernel
theorem dX1_pass_2 : decode cX1_pass 2 = .ok (.iconst 1, 1) := by decide +kernel
theorem dX1_pass_3 : decode cX1_pass 3 = .ok (.sipush 365, 3) := by decide +kernel
theorem dX1_pass_6 : decode cX1_pass 6 = .ok (.invokestatic 48, 3) := by decide +kernel
theorem dX1_pass_9 : decode cX1_pass 9 = .ok (.ifCond .ne 7, 3) := by decide +kernel
theorem dX1_pass_12 : decode cX1_pass 12 = .ok (.iconst 1, 1) := by decide +kernel
theorem dX1_pass_13 : decode cX1_pass 13 = .ok (.goto 20, 3) := by decide +kernel
theorem dX1_pass_16 : decode cX1_pass 16 = .ok (.aload_n 0, 1) := by decide +kernel
theorem dX1_pass_17 : decode cX1_pass 17 = .ok (.getfield 73, 3) := by decide +kernel
theorem dX1_pass_20 : decode cX1_pass 20 = .ok (.iload_n 1, 1) := by decide +kernel
theorem dX1_pass_21 : decode cX1_pass 21 = .ok (.iadd, 1) := by decide +kernel
theorem dX1_pass_22 : decode cX1_pass 22 = .ok (.sipush 10000, 3) := by decide +kernel
theorem dX1_pass_25 : decode cX1_pass 25 = .ok (.if_icmp .le 7, 3) := by decide +kernel
theorem dX1_pass_28 : decode cX1_pass 28 = .ok (.iconst 2, 1) := by decide +kernel
theorem dX1_pass_29 : decode cX1_pass 29 = .ok (.goto 4, 3) := by decide +kernel
theorem dX1_pass_32 : decode cX1_pass 32 = .ok (.iconst 0, 1) := by decide +kernel
theorem dX1_pass_33 : decode cX1_pass 33 = .ok (.invokevirtual 59, 3) := by decide +kernel
theorem dX1_pass_36 : decode cX1_pass 36 = .ok (.ifCond .ne 5, 3) := by decide +kernel
theorem dX1_pass_39 : decode cX1_pass 39 = .ok (.iconst 0, 1) := by decide +kernel
theorem dX1_pass_40 : decode cX1_pass 40 = .ok (.ireturn, 1) := by decide +kernel
theorem dX1_pass_41 : decode cX1_pass 41 = .ok (.aload_n 0, 1) := by decide +kernel
theorem dX1_pass_42 : decode cX1_pass 42 = .ok (.dup, 1) := by decide +kernel
theorem dX1_pass_43 : decode cX1_pass 43 = .ok (.getfield 73, 3) := by decide +kernel
theorem dX1_pass_46 : decode cX1_pass 46 = .ok (.iload_n 1, 1) := by decide +kernel
theorem dX1_pass_47 : decode cX1_pass 47 = .ok (.iadd, 1) := by decide +kernel
theorem dX1_pass_48 : decode cX1_pass 48 = .ok (.putfield 73, 3) := by decide +kernel
theorem dX1_pass_51 : decode cX1_pass 51 = .ok (.aload_n 0, 1) := by decide +kernel
theorem dX1_pass_52 : decode cX1_pass 52 = .ok (.getfield 73, 3) := by decide +kernel
theorem dX1_pass_55 : decode cX1_pass 55 = .ok (.ireturn, 1) := by decide +kernel
set_option maxRecDepth 20000 in
theorem ggX1_laysPairs_X1_wrong : GoodIn wsX1_laysPairs wsX1_wrong := goodIn_r _ [7, 8, 9, 10, 11, 6, 12, 13, 14, 15, 16, 17, 24, 25, 26, 27, 28, 29, 30, 31, 32, 33, 34, 35, 36] (by decide +kernel) (by decide +kernel)
set_option maxRecDepth 20000 in
theorem gX1_laysPairs_X1_wrong : GoodIn wsX1_laysPairs (wsV RX1 76 RX1 yX1_wrong wsX1_wrong) := goodIn_app (goodIn_of _ (by decide +kernel)) ggX1_laysPairs_X1_wrong
set_option maxRecDepth 20000 in
theorem ggX1_laysPairs_X1_doClash : GoodIn wsX1_laysPairs wsX1_doClash := goodIn_r _ [21, 22, 23, 24, 25, 26, 27, 28, 29, 30, 31, 32, 33, 34, 35, 36] (by decide +kernel) (by decide +kernel)
set_option maxRecDepth 20000 in
theorem gX1_laysPairs_X1_doClash : GoodIn wsX1_laysPairs (wsV RX1 69 RX1 yX1_doClash wsX1_doClash) := goodIn_app (goodIn_of _ (by decide +kernel)) ggX1_laysPairs_X1_doClash
theorem dX1_laysPairs_0 : decode cX1_laysPairs 0 = .ok (.iconst 0, 1) := by decide +kernel
theorem dX1_laysPairs_1 : decode cX1_laysPairs 1 = .ok (.istore_n 2, 1) := by decide +kernel
theorem dX1_laysPairs_2 : decode cX1_laysPairs 2 = .ok (.iload_n 2, 1) := by decide +kernel
theorem dX1_laysPairs_3 : decode cX1_laysPairs 3 = .ok (.bipush 12, 2) := by decide +kernel
theorem dX1_laysPairs_5 : decode cX1_laysPairs 5 = .ok (.if_icmp .ge 94, 3) := by decide +kernel
theorem dX1_laysPairs_8 : decode cX1_laysPairs 8 = .ok (.aload_n 0, 1) := by decide +kernel
theorem dX1_laysPairs_9 : decode cX1_laysPairs 9 = .ok (.getfield 38, 3) := by decide +kernel
theorem dX1_laysPairs_12 : decode cX1_laysPairs 12 = .ok (.iload_n 2, 1) := by decide +kernel
theorem dX1_laysPairs_13 : decode cX1_laysPairs 13 = .ok (.iconst 0, 1) := by decide +kernel
theorem dX1_laysPairs_14 : decode cX1_laysPairs 14 = .ok (.iastore, 1) := by decide +kernel
theorem dX1_laysPairs_15 : decode cX1_laysPairs 15 = .ok (.iconst 0, 1) := by decide +kernel
theorem dX1_laysPairs_16 : decode cX1_laysPairs 16 = .ok (.istore_n 3, 1) := by decide +kernel
theorem dX1_laysPairs_17 : decode cX1_laysPairs 17 = .ok (.iload_n 3, 1) := by decide +kernel
theorem dX1_laysPairs_18 : decode cX1_laysPairs 18 = .ok (.bipush 12, 2) := by decide +kernel
theorem dX1_laysPairs_20 : decode cX1_laysPairs 20 = .ok (.if_icmp .ge 73, 3) := by decide +kernel
theorem dX1_laysPairs_23 : decode cX1_laysPairs 23 = .ok (.aload_n 0, 1) := by decide +kernel
theorem dX1_laysPairs_24 : decode cX1_laysPairs 24 = .ok (.iload_n 2, 1) := by decide +kernel
theorem dX1_laysPairs_25 : decode cX1_laysPairs 25 = .ok (.iload_n 3, 1) := by decide +kernel
theorem dX1_laysPairs_26 : decode cX1_laysPairs 26 = .ok (.iconst (-1), 1) := by decide +kernel
theorem dX1_laysPairs_27 : decode cX1_laysPairs 27 = .ok (.invokevirtual 76, 3) := by decide +kernel
theorem dX1_laysPairs_30 : decode cX1_laysPairs 30 = .ok (.ifCond .ne 33, 3) := by decide +kernel
theorem dX1_laysPairs_33 : decode cX1_laysPairs 33 = .ok (.aload_n 0, 1) := by decide +kernel
theorem dX1_laysPairs_34 : decode cX1_laysPairs 34 = .ok (.iload_n 2, 1) := by decide +kernel
theorem dX1_laysPairs_35 : decode cX1_laysPairs 35 = .ok (.iload_n 3, 1) := by decide +kernel
theorem dX1_laysPairs_36 : decode cX1_laysPairs 36 = .ok (.invokevirtual 69, 3) := by decide +kernel
theorem dX1_laysPairs_39 : decode cX1_laysPairs 39 = .ok (.ifCond .ne 24, 3) := by decide +kernel
theorem dX1_laysPairs_42 : decode cX1_laysPairs 42 = .ok (.aload_n 0, 1) := by decide +kernel
theorem dX1_laysPairs_43 : decode cX1_laysPairs 43 = .ok (.getfield 20, 3) := by decide +kernel
theorem dX1_laysPairs_46 : decode cX1_laysPairs 46 = .ok (.iload_n 2, 1) := by decide +kernel
theorem dX1_laysPairs_47 : decode cX1_laysPairs 47 = .ok (.iaload, 1) := by decide +kernel
theorem dX1_laysPairs_48 : decode cX1_laysPairs 48 = .ok (.aload_n 0, 1) := by decide +kernel
theorem dX1_laysPairs_49 : decode cX1_laysPairs 49 = .ok (.getfield 20, 3) := by decide +kernel
theorem dX1_laysPairs_52 : decode cX1_laysPairs 52 = .ok (.iload_n 3, 1) := by decide +kernel
theorem dX1_laysPairs_53 : decode cX1_laysPairs 53 = .ok (.iaload, 1) := by decide +kernel
theorem dX1_laysPairs_54 : decode cX1_laysPairs 54 = .ok (.iadd, 1) := by decide +kernel
theorem dX1_laysPairs_55 : decode cX1_laysPairs 55 = .ok (.iload_n 1, 1) := by decide +kernel
theorem dX1_laysPairs_56 : decode cX1_laysPairs 56 = .ok (.if_icmp .lt 7, 3) := by decide +kernel
theorem dX1_laysPairs_59 : decode cX1_laysPairs 59 = .ok (.iconst 1, 1) := by decide +kernel
theorem dX1_laysPairs_60 : decode cX1_laysPairs 60 = .ok (.goto 4, 3) := by decide +kernel
theorem dX1_laysPairs_63 : decode cX1_laysPairs 63 = .ok (.iconst 0, 1) := by decide +kernel
theorem dX1_laysPairs_64 : decode cX1_laysPairs 64 = .ok (.istore 4, 2) := by decide +kernel
theorem dX1_laysPairs_66 : decode cX1_laysPairs 66 = .ok (.aload_n 0, 1) := by decide +kernel
theorem dX1_laysPairs_67 : decode cX1_laysPairs 67 = .ok (.getfield 38, 3) := by decide +kernel
theorem dX1_laysPairs_70 : decode cX1_laysPairs 70 = .ok (.iload_n 2, 1) := by decide +kernel
theorem dX1_laysPairs_71 : decode cX1_laysPairs 71 = .ok (.dup2, 1) := by decide +kernel
theorem dX1_laysPairs_72 : decode cX1_laysPairs 72 = .ok (.iaload, 1) := by decide +kernel
theorem dX1_laysPairs_73 : decode cX1_laysPairs 73 = .ok (.iload 4, 2) := by decide +kernel
theorem dX1_laysPairs_75 : decode cX1_laysPairs 75 = .ok (.ifCond .eq 9, 3) := by decide +kernel
theorem dX1_laysPairs_78 : decode cX1_laysPairs 78 = .ok (.iconst 1, 1) := by decide +kernel
theorem dX1_laysPairs_79 : decode cX1_laysPairs 79 = .ok (.iload_n 3, 1) := by decide +kernel
theorem dX1_laysPairs_80 : decode cX1_laysPairs 80 = .ok (.ishl, 1) := by decide +kernel
theorem dX1_laysPairs_81 : decode cX1_laysPairs 81 = .ok (.goto 4, 3) := by decide +kernel
theorem dX1_laysPairs_84 : decode cX1_laysPairs 84 = .ok (.iconst 0, 1) := by decide +kernel
theorem dX1_laysPairs_85 : decode cX1_laysPairs 85 = .ok (.ior, 1) := by decide +kernel
theorem dX1_laysPairs_86 : decode cX1_laysPairs 86 = .ok (.iastore, 1) := by decide +kernel
theorem dX1_laysPairs_87 : decode cX1_laysPairs 87 = .ok (.iinc 3 1, 3) := by decide +kernel
theorem dX1_laysPairs_90 : decode cX1_laysPairs 90 = .ok (.goto (-73), 3) := by decide +kernel
theorem dX1_laysPairs_93 : decode cX1_laysPairs 93 = .ok (.iinc 2 1, 3) := by decide +kernel
theorem dX1_laysPairs_96 : decode cX1_laysPairs 96 = .ok (.goto (-94), 3) := by decide +kernel
theorem dX1_laysPairs_99 : decode cX1_laysPairs 99 = .ok (.return_, 1) := by decide +kernel
theorem dX1_setOf_0 : decode cX1_setOf 0 = .ok (.iconst 0, 1) := by decide +kernel
theorem dX1_setOf_1 : decode cX1_setOf 1 = .ok (.istore_n 2, 1) := by decide +kernel
theorem dX1_setOf_2 : decode cX1_setOf 2 = .ok (.iconst 0, 1) := by decide +kernel
theorem dX1_setOf_3 : decode cX1_setOf 3 = .ok (.istore_n 3, 1) := by decide +kernel
theorem dX1_setOf_4 : decode cX1_setOf 4 = .ok (.iload_n 3, 1) := by decide +kernel
theorem dX1_setOf_5 : decode cX1_setOf 5 = .ok (.aload_n 0, 1) := by decide +kernel
theorem dX1_setOf_6 : decode cX1_setOf 6 = .ok (.getfield 45, 3) := by decide +kernel
theorem dX1_setOf_9 : decode cX1_setOf 9 = .ok (.if_icmp .ge 38, 3) := by decide +kernel
theorem dX1_setOf_12 : decode cX1_setOf 12 = .ok (.iload_n 2, 1) := by decide +kernel
theorem dX1_setOf_13 : decode cX1_setOf 13 = .ok (.aload_n 0, 1) := by decide +kernel
theorem dX1_setOf_14 : decode cX1_setOf 14 = .ok (.getfield 7, 3) := by decide +kernel
theorem dX1_setOf_17 : decode cX1_setOf 17 = .ok (.iload_n 3, 1) := by decide +kernel
theorem dX1_setOf_18 : decode cX1_setOf 18 = .ok (.baload, 1) := by decide +kernel
theorem dX1_setOf_19 : decode cX1_setOf 19 = .ok (.ifCond .ne 19, 3) := by decide +kernel
theorem dX1_setOf_22 : decode cX1_setOf 22 = .ok (.aload_n 0, 1) := by decide +kernel
theorem dX1_setOf_23 : decode cX1_setOf 23 = .ok (.getfield 13, 3) := by decide +kernel
theorem dX1_setOf_26 : decode cX1_setOf 26 = .ok (.iload_n 3, 1) := by decide +kernel
theorem dX1_setOf_27 : decode cX1_setOf 27 = .ok (.iaload, 1) := by decide +kernel
theorem dX1_setOf_28 : decode cX1_setOf 28 = .ok (.iload_n 1, 1) := by decide +kernel
theorem dX1_setOf_29 : decode cX1_setOf 29 = .ok (.if_icmp .ne 9, 3) := by decide +kernel
theorem dX1_setOf_32 : decode cX1_setOf 32 = .ok (.iconst 1, 1) := by decide +kernel
theorem dX1_setOf_33 : decode cX1_setOf 33 = .ok (.iload_n 3, 1) := by decide +kernel
theorem dX1_setOf_34 : decode cX1_setOf 34 = .ok (.ishl, 1) := by decide +kernel
theorem dX1_setOf_35 : decode cX1_setOf 35 = .ok (.goto 4, 3) := by decide +kernel
theorem dX1_setOf_38 : decode cX1_setOf 38 = .ok (.iconst 0, 1) := by decide +kernel
theorem dX1_setOf_39 : decode cX1_setOf 39 = .ok (.ior, 1) := by decide +kernel
theorem dX1_setOf_40 : decode cX1_setOf 40 = .ok (.istore_n 2, 1) := by decide +kernel
theorem dX1_setOf_41 : decode cX1_setOf 41 = .ok (.iinc 3 1, 3) := by decide +kernel
theorem dX1_setOf_44 : decode cX1_setOf 44 = .ok (.goto (-40), 3) := by decide +kernel
theorem dX1_setOf_47 : decode cX1_setOf 47 = .ok (.iload_n 2, 1) := by decide +kernel
theorem dX1_setOf_48 : decode cX1_setOf 48 = .ok (.ireturn, 1) := by decide +kernel
theorem dX1_worn_0 : decode cX1_worn 0 = .ok (.iconst 0, 1) := by decide +kernel
theorem dX1_worn_1 : decode cX1_worn 1 = .ok (.istore_n 2, 1) := by decide +kernel
theorem dX1_worn_2 : decode cX1_worn 2 = .ok (.iconst 0, 1) := by decide +kernel
theorem dX1_worn_3 : decode cX1_worn 3 = .ok (.istore_n 3, 1) := by decide +kernel
theorem dX1_worn_4 : decode cX1_worn 4 = .ok (.iload_n 3, 1) := by decide +kernel
theorem dX1_worn_5 : decode cX1_worn 5 = .ok (.aload_n 0, 1) := by decide +kernel
theorem dX1_worn_6 : decode cX1_worn 6 = .ok (.getfield 45, 3) := by decide +kernel
theorem dX1_worn_9 : decode cX1_worn 9 = .ok (.if_icmp .ge 31, 3) := by decide +kernel
theorem dX1_worn_12 : decode cX1_worn 12 = .ok (.iload_n 2, 1) := by decide +kernel
theorem dX1_worn_13 : decode cX1_worn 13 = .ok (.iload_n 1, 1) := by decide +kernel
theorem dX1_worn_14 : decode cX1_worn 14 = .ok (.iload_n 3, 1) := by decide +kernel
theorem dX1_worn_15 : decode cX1_worn 15 = .ok (.ishr, 1) := by decide +kernel
theorem dX1_worn_16 : decode cX1_worn 16 = .ok (.iconst 1, 1) := by decide +kernel
theorem dX1_worn_17 : decode cX1_worn 17 = .ok (.iand, 1) := by decide +kernel
theorem dX1_worn_18 : decode cX1_worn 18 = .ok (.iconst 1, 1) := by decide +kernel
theorem dX1_worn_19 : decode cX1_worn 19 = .ok (.if_icmp .ne 12, 3) := by decide +kernel
theorem dX1_worn_22 : decode cX1_worn 22 = .ok (.aload_n 0, 1) := by decide +kernel
theorem dX1_worn_23 : decode cX1_worn 23 = .ok (.getfield 29, 3) := by decide +kernel
theorem dX1_worn_26 : decode cX1_worn 26 = .ok (.iload_n 3, 1) := by decide +kernel
theorem dX1_worn_27 : decode cX1_worn 27 = .ok (.iaload, 1) := by decide +kernel
theorem dX1_worn_28 : decode cX1_worn 28 = .ok (.goto 4, 3) := by decide +kernel
theorem dX1_worn_31 : decode cX1_worn 31 = .ok (.iconst 0, 1) := by decide +kernel
theorem dX1_worn_32 : decode cX1_worn 32 = .ok (.iadd, 1) := by decide +kernel
theorem dX1_worn_33 : decode cX1_worn 33 = .ok (.istore_n 2, 1) := by decide +kernel
theorem dX1_worn_34 : decode cX1_worn 34 = .ok (.iinc 3 1, 3) := by decide +kernel
theorem dX1_worn_37 : decode cX1_worn 37 = .ok (.goto (-33), 3) := by decide +kernel
theorem dX1_worn_40 : decode cX1_worn 40 = .ok (.iload_n 2, 1) := by decide +kernel
theorem dX1_worn_41 : decode cX1_worn 41 = .ok (.ireturn, 1) := by decide +kernel
set_option maxRecDepth 20000 in
theorem ggX1_daysOf_X1_worn : GoodIn wsX1_daysOf wsX1_worn := goodIn_r _ [7, 1, 8, 9, 10, 11, 12, 13, 14, 15, 16, 17, 18, 19, 20, 21] (by decide +kernel) (by decide +kernel)
set_option maxRecDepth 20000 in
theorem gX1_daysOf_X1_worn : GoodIn wsX1_daysOf (wsV RX1 100 RX1 yX1_worn wsX1_worn) := goodIn_app (goodIn_of _ (by decide +kernel)) ggX1_daysOf_X1_worn
theorem dX1_daysOf_0 : decode cX1_daysOf 0 = .ok (.iload_n 1, 1) := by decide +kernel
theorem dX1_daysOf_1 : decode cX1_daysOf 1 = .ok (.iload_n 2, 1) := by decide +kernel
theorem dX1_daysOf_2 : decode cX1_daysOf 2 = .ok (.iand, 1) := by decide +kernel
theorem dX1_daysOf_3 : decode cX1_daysOf 3 = .ok (.istore 4, 2) := by decide +kernel
theorem dX1_daysOf_5 : decode cX1_daysOf 5 = .ok (.iload_n 1, 1) := by decide +kernel
theorem dX1_daysOf_6 : decode cX1_daysOf 6 = .ok (.iload_n 3, 1) := by decide +kernel
theorem dX1_daysOf_7 : decode cX1_daysOf 7 = .ok (.iand, 1) := by decide +kernel
theorem dX1_daysOf_8 : decode cX1_daysOf 8 = .ok (.istore 5, 2) := by decide +kernel
theorem dX1_daysOf_10 : decode cX1_daysOf 10 = .ok (.aload_n 0, 1) := by decide +kernel
theorem dX1_daysOf_11 : decode cX1_daysOf 11 = .ok (.iload 4, 2) := by decide +kernel
theorem dX1_daysOf_13 : decode cX1_daysOf 13 = .ok (.invokevirtual 100, 3) := by decide +kernel
theorem dX1_daysOf_16 : decode cX1_daysOf 16 = .ok (.istore 6, 2) := by decide +kernel
theorem dX1_daysOf_18 : decode cX1_daysOf 18 = .ok (.iload 4, 2) := by decide +kernel
theorem dX1_daysOf_20 : decode cX1_daysOf 20 = .ok (.istore 7, 2) := by decide +kernel
theorem dX1_daysOf_22 : decode cX1_daysOf 22 = .ok (.iload 7, 2) := by decide +kernel
theorem dX1_daysOf_24 : decode cX1_daysOf 24 = .ok (.ifCond .le 102, 3) := by decide +kernel
theorem dX1_daysOf_27 : decode cX1_daysOf 27 = .ok (.iconst 0, 1) := by decide +kernel
theorem dX1_daysOf_28 : decode cX1_daysOf 28 = .ok (.istore 8, 2) := by decide +kernel
theorem dX1_daysOf_30 : decode cX1_daysOf 30 = .ok (.iconst 0, 1) := by decide +kernel
theorem dX1_daysOf_31 : decode cX1_daysOf 31 = .ok (.istore 9, 2) := by decide +kernel
theorem dX1_daysOf_33 : decode cX1_daysOf 33 = .ok (.iload 9, 2) := by decide +kernel
theorem dX1_daysOf_35 : decode cX1_daysOf 35 = .ok (.aload_n 0, 1) := by decide +kernel
theorem dX1_daysOf_36 : decode cX1_daysOf 36 = .ok (.getfield 45, 3) := by decide +kernel
theorem dX1_daysOf_39 : decode cX1_daysOf 39 = .ok (.if_icmp .ge 36, 3) := by decide +kernel
theorem dX1_daysOf_42 : decode cX1_daysOf 42 = .ok (.iload 8, 2) := by decide +kernel
theorem dX1_daysOf_44 : decode cX1_daysOf 44 = .ok (.iload 7, 2) := by decide +kernel
theorem dX1_daysOf_46 : decode cX1_daysOf 46 = .ok (.iload 9, 2) := by decide +kernel
theorem dX1_daysOf_48 : decode cX1_daysOf 48 = .ok (.ishr, 1) := by decide +kernel
theorem dX1_daysOf_49 : decode cX1_daysOf 49 = .ok (.iconst 1, 1) := by decide +kernel
theorem dX1_daysOf_50 : decode cX1_daysOf 50 = .ok (.iand, 1) := by decide +kernel
theorem dX1_daysOf_51 : decode cX1_daysOf 51 = .ok (.iconst 1, 1) := by decide +kernel
theorem dX1_daysOf_52 : decode cX1_daysOf 52 = .ok (.if_icmp .ne 13, 3) := by decide +kernel
theorem dX1_daysOf_55 : decode cX1_daysOf 55 = .ok (.aload_n 0, 1) := by decide +kernel
theorem dX1_daysOf_56 : decode cX1_daysOf 56 = .ok (.getfield 38, 3) := by decide +kernel
theorem dX1_daysOf_59 : decode cX1_daysOf 59 = .ok (.iload 9, 2) := by decide +kernel
theorem dX1_daysOf_61 : decode cX1_daysOf 61 = .ok (.iaload, 1) := by decide +kernel
theorem dX1_daysOf_62 : decode cX1_daysOf 62 = .ok (.goto 4, 3) := by decide +kernel
theorem dX1_daysOf_65 : decode cX1_daysOf 65 = .ok (.iconst 0, 1) := by decide +kernel
theorem dX1_daysOf_66 : decode cX1_daysOf 66 = .ok (.ior, 1) := by decide +kernel
theorem dX1_daysOf_67 : decode cX1_daysOf 67 = .ok (.istore 8, 2) := by decide +kernel
theorem dX1_daysOf_69 : decode cX1_daysOf 69 = .ok (.iinc 9 1, 3) := by decide +kernel
theorem dX1_daysOf_72 : decode cX1_daysOf 72 = .ok (.goto (-39), 3) := by decide +kernel
theorem dX1_daysOf_75 : decode cX1_daysOf 75 = .ok (.aload_n 0, 1) := by decide +kernel
theorem dX1_daysOf_76 : decode cX1_daysOf 76 = .ok (.iload 4, 2) := by decide +kernel
theorem dX1_daysOf_78 : decode cX1_daysOf 78 = .ok (.iload 7, 2) := by decide +kernel
theorem dX1_daysOf_80 : decode cX1_daysOf 80 = .ok (.iconst (-1), 1) := by decide +kernel
theorem dX1_daysOf_81 : decode cX1_daysOf 81 = .ok (.ixor, 1) := by decide +kernel
theorem dX1_daysOf_82 : decode cX1_daysOf 82 = .ok (.iand, 1) := by decide +kernel
theorem dX1_daysOf_83 : decode cX1_daysOf 83 = .ok (.invokevirtual 100, 3) := by decide +kernel
theorem dX1_daysOf_86 : decode cX1_daysOf 86 = .ok (.aload_n 0, 1) := by decide +kernel
theorem dX1_daysOf_87 : decode cX1_daysOf 87 = .ok (.iload 8, 2) := by decide +kernel
theorem dX1_daysOf_89 : decode cX1_daysOf 89 = .ok (.iload 5, 2) := by decide +kernel
theorem dX1_daysOf_91 : decode cX1_daysOf 91 = .ok (.iand, 1) := by decide +kernel
theorem dX1_daysOf_92 : decode cX1_daysOf 92 = .ok (.invokevirtual 100, 3) := by decide +kernel
theorem dX1_daysOf_95 : decode cX1_daysOf 95 = .ok (.iadd, 1) := by decide +kernel
theorem dX1_daysOf_96 : decode cX1_daysOf 96 = .ok (.istore 9, 2) := by decide +kernel
theorem dX1_daysOf_98 : decode cX1_daysOf 98 = .ok (.iload 9, 2) := by decide +kernel
theorem dX1_daysOf_100 : decode cX1_daysOf 100 = .ok (.iload 6, 2) := by decide +kernel
theorem dX1_daysOf_102 : decode cX1_daysOf 102 = .ok (.if_icmp .ge 8, 3) := by decide +kernel
theorem dX1_daysOf_105 : decode cX1_daysOf 105 = .ok (.iload 9, 2) := by decide +kernel
theorem dX1_daysOf_107 : decode cX1_daysOf 107 = .ok (.goto 5, 3) := by decide +kernel
theorem dX1_daysOf_110 : decode cX1_daysOf 110 = .ok (.iload 6, 2) := by decide +kernel
theorem dX1_daysOf_112 : decode cX1_daysOf 112 = .ok (.istore 6, 2) := by decide +kernel
theorem dX1_daysOf_114 : decode cX1_daysOf 114 = .ok (.iload 7, 2) := by decide +kernel
theorem dX1_daysOf_116 : decode cX1_daysOf 116 = .ok (.iconst 1, 1) := by decide +kernel
theorem dX1_daysOf_117 : decode cX1_daysOf 117 = .ok (.isub, 1) := by decide +kernel
theorem dX1_daysOf_118 : decode cX1_daysOf 118 = .ok (.iload 4, 2) := by decide +kernel
theorem dX1_daysOf_120 : decode cX1_daysOf 120 = .ok (.iand, 1) := by decide +kernel
theorem dX1_daysOf_121 : decode cX1_daysOf 121 = .ok (.istore 7, 2) := by decide +kernel
theorem dX1_daysOf_123 : decode cX1_daysOf 123 = .ok (.goto (-101), 3) := by decide +kernel
theorem dX1_daysOf_126 : decode cX1_daysOf 126 = .ok (.iload 6, 2) := by decide +kernel
theorem dX1_daysOf_128 : decode cX1_daysOf 128 = .ok (.ireturn, 1) := by decide +kernel
set_option maxRecDepth 20000 in
theorem ggX1_isEnough_X1_setOf : GoodIn wsX1_isEnough wsX1_setOf := goodIn_r _ [5, 6, 7, 8, 46, 47, 48, 49, 50, 51, 52, 53, 54, 55, 56, 57, 58] (by decide +kernel) (by decide +kernel)
set_option maxRecDepth 20000 in
theorem gX1_isEnough_X1_setOf : GoodIn wsX1_isEnough (wsV RX1 104 RX1 yX1_setOf wsX1_setOf) := goodIn_app (goodIn_of _ (by decide +kernel)) ggX1_isEnough_X1_setOf
set_option maxRecDepth 20000 in
theorem ggX1_isEnough_X1_isIn : GoodIn wsX1_isEnough wsX1_isIn := goodIn_r _ [11] (by decide +kernel) (by decide +kernel)
set_option maxRecDepth 20000 in
theorem gX1_isEnough_X1_isIn : GoodIn wsX1_isEnough (va_wsS RX1 48 yX1_isIn wsX1_isIn) := goodIn_app (goodIn_of _ (by decide +kernel)) ggX1_isEnough_X1_isIn
set_option maxRecDepth 20000 in
theorem ggX1_isEnough_X1_goes : GoodIn wsX1_isEnough wsX1_goes := goodIn_r _ [15, 16, 46, 47, 48, 49, 50, 51, 52, 53, 54, 55, 56, 57, 58] (by decide +kernel) (by decide +kernel)
set_option maxRecDepth 20000 in
theorem gX1_isEnough_X1_goes : GoodIn wsX1_isEnough (wsV RX1 59 RX1 yX1_goes wsX1_goes) := goodIn_app (goodIn_of _ (by decide +kernel)) ggX1_isEnough_X1_goes
set_option maxRecDepth 20000 in
theorem ggX1_isEnough_X1_laysPairs : GoodIn wsX1_isEnough wsX1_laysPairs := goodIn_r _ [20, 21, 22, 23, 24, 25, 4, 26, 8, 27, 28, 29, 30, 6, 7, 9, 10, 11, 31, 32, 33, 34, 35, 36, 46, 47, 48, 49, 50, 51, 52, 53, 54, 55, 56, 57, 58] (by decide +kernel) (by decide +kernel)
set_option maxRecDepth 20000 in
theorem gX1_isEnough_X1_laysPairs : GoodIn wsX1_isEnough (wsV RX1 107 RX1 yX1_laysPairs wsX1_laysPairs) := goodIn_app (goodIn_of _ (by decide +kernel)) ggX1_isEnough_X1_laysPairs
set_option maxRecDepth 20000 in
theorem ggX1_isEnough_X1_daysOf : GoodIn wsX1_isEnough wsX1_daysOf := goodIn_r _ [40, 6, 21, 41, 42, 43, 4, 44, 45, 46, 47, 48, 49, 50, 51, 52, 53, 54, 55, 56, 57, 58] (by decide +kernel) (by decide +kernel)
set_option maxRecDepth 20000 in
theorem gX1_isEnough_X1_daysOf : GoodIn wsX1_isEnough (wsV RX1 111 RX1 yX1_daysOf wsX1_daysOf) := goodIn_app (goodIn_of _ (by decide +kernel)) ggX1_isEnough_X1_daysOf
theorem dX1_isEnough_0 : decode cX1_isEnough 0 = .ok (.aload_n 0, 1) := by decide +kernel
theorem dX1_isEnough_1 : decode cX1_isEnough 1 = .ok (.iconst 0, 1) := by decide +kernel
theorem dX1_isEnough_2 : decode cX1_isEnough 2 = .ok (.invokevirtual 104, 3) := by decide +kernel
theorem dX1_isEnough_5 : decode cX1_isEnough 5 = .ok (.aload_n 0, 1) := by decide +kernel
theorem dX1_isEnough_6 : decode cX1_isEnough 6 = .ok (.iconst 1, 1) := by decide +kernel
theorem dX1_isEnough_7 : decode cX1_isEnough 7 = .ok (.invokevirtual 104, 3) := by decide +kernel
theorem dX1_isEnough_10 : decode cX1_isEnough 10 = .ok (.ior, 1) := by decide +kernel
theorem dX1_isEnough_11 : decode cX1_isEnough 11 = .ok (.aload_n 0, 1) := by decide +kernel
theorem dX1_isEnough_12 : decode cX1_isEnough 12 = .ok (.iconst 2, 1) := by decide +kernel
theorem dX1_isEnough_13 : decode cX1_isEnough 13 = .ok (.invokevirtual 104, 3) := by decide +kernel
theorem dX1_isEnough_16 : decode cX1_isEnough 16 = .ok (.ior, 1) := by decide +kernel
theorem dX1_isEnough_17 : decode cX1_isEnough 17 = .ok (.istore 4, 2) := by decide +kernel
theorem dX1_isEnough_19 : decode cX1_isEnough 19 = .ok (.aload_n 0, 1) := by decide +kernel
theorem dX1_isEnough_20 : decode cX1_isEnough 20 = .ok (.iload_n 1, 1) := by decide +kernel
theorem dX1_isEnough_21 : decode cX1_isEnough 21 = .ok (.iload 4, 2) := by decide +kernel
theorem dX1_isEnough_23 : decode cX1_isEnough 23 = .ok (.iconst (-1), 1) := by decide +kernel
theorem dX1_isEnough_24 : decode cX1_isEnough 24 = .ok (.ixor, 1) := by decide +kernel
theorem dX1_isEnough_25 : decode cX1_isEnough 25 = .ok (.iand, 1) := by decide +kernel
theorem dX1_isEnough_26 : decode cX1_isEnough 26 = .ok (.ifCond .ne 27, 3) := by decide +kernel
theorem dX1_isEnough_29 : decode cX1_isEnough 29 = .ok (.iload_n 2, 1) := by decide +kernel
theorem dX1_isEnough_30 : decode cX1_isEnough 30 = .ok (.iconst 1, 1) := by decide +kernel
theorem dX1_isEnough_31 : decode cX1_isEnough 31 = .ok (.bipush 20, 2) := by decide +kernel
theorem dX1_isEnough_33 : decode cX1_isEnough 33 = .ok (.invokestatic 48, 3) := by decide +kernel
theorem dX1_isEnough_36 : decode cX1_isEnough 36 = .ok (.ifCond .eq 17, 3) := by decide +kernel
theorem dX1_isEnough_39 : decode cX1_isEnough 39 = .ok (.iload_n 3, 1) := by decide +kernel
theorem dX1_isEnough_40 : decode cX1_isEnough 40 = .ok (.iconst 0, 1) := by decide +kernel
theorem dX1_isEnough_41 : decode cX1_isEnough 41 = .ok (.bipush 20, 2) := by decide +kernel
theorem dX1_isEnough_43 : decode cX1_isEnough 43 = .ok (.invokestatic 48, 3) := by decide +kernel
theorem dX1_isEnough_46 : decode cX1_isEnough 46 = .ok (.ifCond .eq 7, 3) := by decide +kernel
theorem dX1_isEnough_49 : decode cX1_isEnough 49 = .ok (.iconst 0, 1) := by decide +kernel
theorem dX1_isEnough_50 : decode cX1_isEnough 50 = .ok (.goto 4, 3) := by decide +kernel
theorem dX1_isEnough_53 : decode cX1_isEnough 53 = .ok (.iconst 1, 1) := by decide +kernel
theorem dX1_isEnough_54 : decode cX1_isEnough 54 = .ok (.invokevirtual 59, 3) := by decide +kernel
theorem dX1_isEnough_57 : decode cX1_isEnough 57 = .ok (.ifCond .ne 5, 3) := by decide +kernel
theorem dX1_isEnough_60 : decode cX1_isEnough 60 = .ok (.iconst 0, 1) := by decide +kernel
theorem dX1_isEnough_61 : decode cX1_isEnough 61 = .ok (.ireturn, 1) := by decide +kernel
theorem dX1_isEnough_62 : decode cX1_isEnough 62 = .ok (.aload_n 0, 1) := by decide +kernel
theorem dX1_isEnough_63 : decode cX1_isEnough 63 = .ok (.iload_n 3, 1) := by decide +kernel
theorem dX1_isEnough_64 : decode cX1_isEnough 64 = .ok (.invokevirtual 107, 3) := by decide +kernel
theorem dX1_isEnough_67 : decode cX1_isEnough 67 = .ok (.aload_n 0, 1) := by decide +kernel
theorem dX1_isEnough_68 : decode cX1_isEnough 68 = .ok (.iload_n 1, 1) := by decide +kernel
theorem dX1_isEnough_69 : decode cX1_isEnough 69 = .ok (.aload_n 0, 1) := by decide +kernel
theorem dX1_isEnough_70 : decode cX1_isEnough 70 = .ok (.iconst 0, 1) := by decide +kernel
theorem dX1_isEnough_71 : decode cX1_isEnough 71 = .ok (.invokevirtual 104, 3) := by decide +kernel
theorem dX1_isEnough_74 : decode cX1_isEnough 74 = .ok (.aload_n 0, 1) := by decide +kernel
theorem dX1_isEnough_75 : decode cX1_isEnough 75 = .ok (.iconst 1, 1) := by decide +kernel
theorem dX1_isEnough_76 : decode cX1_isEnough 76 = .ok (.invokevirtual 104, 3) := by decide +kernel
theorem dX1_isEnough_79 : decode cX1_isEnough 79 = .ok (.invokevirtual 111, 3) := by decide +kernel
theorem dX1_isEnough_82 : decode cX1_isEnough 82 = .ok (.iload_n 2, 1) := by decide +kernel
theorem dX1_isEnough_83 : decode cX1_isEnough 83 = .ok (.if_icmp .lt 7, 3) := by decide +kernel
theorem dX1_isEnough_86 : decode cX1_isEnough 86 = .ok (.iconst 1, 1) := by decide +kernel
theorem dX1_isEnough_87 : decode cX1_isEnough 87 = .ok (.goto 4, 3) := by decide +kernel
theorem dX1_isEnough_90 : decode cX1_isEnough 90 = .ok (.iconst 0, 1) := by decide +kernel
theorem dX1_isEnough_91 : decode cX1_isEnough 91 = .ok (.ireturn, 1) := by decide +kernel
theorem dX1_size_0 : decode cX1_size 0 = .ok (.iconst 0, 1) := by decide +kernel
theorem dX1_size_1 : decode cX1_size 1 = .ok (.istore_n 1, 1) := by decide +kernel
theorem dX1_size_2 : decode cX1_size 2 = .ok (.iconst 0, 1) := by decide +kernel
theorem dX1_size_3 : decode cX1_size 3 = .ok (.istore_n 2, 1) := by decide +kernel
theorem dX1_size_4 : decode cX1_size 4 = .ok (.iload_n 2, 1) := by decide +kernel
theorem dX1_size_5 : decode cX1_size 5 = .ok (.bipush 12, 2) := by decide +kernel
theorem dX1_size_7 : decode cX1_size 7 = .ok (.if_icmp .ge 17, 3) := by decide +kernel
theorem dX1_size_10 : decode cX1_size 10 = .ok (.iload_n 1, 1) := by decide +kernel
theorem dX1_size_11 : decode cX1_size 11 = .ok (.iload_n 0, 1) := by decide +kernel
theorem dX1_size_12 : decode cX1_size 12 = .ok (.iload_n 2, 1) := by decide +kernel
theorem dX1_size_13 : decode cX1_size 13 = .ok (.ishr, 1) := by decide +kernel
theorem dX1_size_14 : decode cX1_size 14 = .ok (.iconst 1, 1) := by decide +kernel
theorem dX1_size_15 : decode cX1_size 15 = .ok (.iand, 1) := by decide +kernel
theorem dX1_size_16 : decode cX1_size 16 = .ok (.iadd, 1) := by decide +kernel
theorem dX1_size_17 : decode cX1_size 17 = .ok (.istore_n 1, 1) := by decide +kernel
theorem dX1_size_18 : decode cX1_size 18 = .ok (.iinc 2 1, 3) := by decide +kernel
theorem dX1_size_21 : decode cX1_size 21 = .ok (.goto (-17), 3) := by decide +kernel
theorem dX1_size_24 : decode cX1_size 24 = .ok (.iload_n 1, 1) := by decide +kernel
theorem dX1_size_25 : decode cX1_size 25 = .ok (.ireturn, 1) := by decide +kernel
set_option maxRecDepth 20000 in
theorem ggX1_bag_X1_isIn : GoodIn wsX1_bag wsX1_isIn := goodIn_r _ [4] (by decide +kernel) (by decide +kernel)
set_option maxRecDepth 20000 in
theorem gX1_bag_X1_isIn : GoodIn wsX1_bag (va_wsS RX1 48 yX1_isIn wsX1_isIn) := goodIn_app (goodIn_of _ (by decide +kernel)) ggX1_bag_X1_isIn
set_option maxRecDepth 20000 in
theorem ggX1_bag_X1_goes : GoodIn wsX1_bag wsX1_goes := goodIn_r _ [8, 9, 49, 50, 51, 52, 53, 54, 55, 56, 57, 58, 59, 60, 61] (by decide +kernel) (by decide +kernel)
set_option maxRecDepth 20000 in
theorem gX1_bag_X1_goes : GoodIn wsX1_bag (wsV RX1 59 RX1 yX1_goes wsX1_goes) := goodIn_app (goodIn_of _ (by decide +kernel)) ggX1_bag_X1_goes
set_option maxRecDepth 20000 in
theorem ggX1_bag_X1_laysPairs : GoodIn wsX1_bag wsX1_laysPairs := goodIn_r _ [13, 14, 15, 16, 17, 18, 3, 19, 20, 21, 22, 23, 24, 25, 26, 1, 2, 4, 27, 28, 29, 30, 31, 32, 49, 50, 51, 52, 53, 54, 55, 56, 57, 58, 59, 60, 61] (by decide +kernel) (by decide +kernel)
set_option maxRecDepth 20000 in
theorem gX1_bag_X1_laysPairs : GoodIn wsX1_bag (wsV RX1 107 RX1 yX1_laysPairs wsX1_laysPairs) := goodIn_app (goodIn_of _ (by decide +kernel)) ggX1_bag_X1_laysPairs
set_option maxRecDepth 20000 in
theorem ggX1_bag_X1_setOf : GoodIn wsX1_bag wsX1_setOf := goodIn_r _ [36, 25, 26, 20, 49, 50, 51, 52, 53, 54, 55, 56, 57, 58, 59, 60, 61] (by decide +kernel) (by decide +kernel)
set_option maxRecDepth 20000 in
theorem gX1_bag_X1_setOf : GoodIn wsX1_bag (wsV RX1 104 RX1 yX1_setOf wsX1_setOf) := goodIn_app (goodIn_of _ (by decide +kernel)) ggX1_bag_X1_setOf
set_option maxRecDepth 20000 in
theorem ggX1_bag_X1_size : GoodIn wsX1_bag wsX1_size := goodIn_r _ [39] (by decide +kernel) (by decide +kernel)
set_option maxRecDepth 20000 in
theorem gX1_bag_X1_size : GoodIn wsX1_bag (va_wsS RX1 114 yX1_size wsX1_size) := goodIn_app (goodIn_of _ (by decide +kernel)) ggX1_bag_X1_size
set_option maxRecDepth 20000 in
theorem ggX1_bag_X1_daysOf : GoodIn wsX1_bag wsX1_daysOf := goodIn_r _ [43, 25, 14, 44, 45, 46, 3, 47, 48, 49, 50, 51, 52, 53, 54, 55, 56, 57, 58, 59, 60, 61] (by decide +kernel) (by decide +kernel)
set_option maxRecDepth 20000 in
theorem gX1_bag_X1_daysOf : GoodIn wsX1_bag (wsV RX1 111 RX1 yX1_daysOf wsX1_daysOf) := goodIn_app (goodIn_of _ (by decide +kernel)) ggX1_bag_X1_daysOf
theorem dX1_bag_0 : decode cX1_bag 0 = .ok (.aload_n 0, 1) := by decide +kernel
theorem dX1_bag_1 : decode cX1_bag 1 = .ok (.iload_n 1, 1) := by decide +kernel
theorem dX1_bag_2 : decode cX1_bag 2 = .ok (.iconst 1, 1) := by decide +kernel
theorem dX1_bag_3 : decode cX1_bag 3 = .ok (.bipush 20, 2) := by decide +kernel
theorem dX1_bag_5 : decode cX1_bag 5 = .ok (.invokestatic 48, 3) := by decide +kernel
theorem dX1_bag_8 : decode cX1_bag 8 = .ok (.ifCond .eq 17, 3) := by decide +kernel
theorem dX1_bag_11 : decode cX1_bag 11 = .ok (.iload_n 2, 1) := by decide +kernel
theorem dX1_bag_12 : decode cX1_bag 12 = .ok (.iconst 0, 1) := by decide +kernel
theorem dX1_bag_13 : decode cX1_bag 13 = .ok (.bipush 20, 2) := by decide +kernel
theorem dX1_bag_15 : decode cX1_bag 15 = .ok (.invokestatic 48, 3) := by decide +kernel
theorem dX1_bag_18 : decode cX1_bag 18 = .ok (.ifCond .eq 7, 3) := by decide +kernel
theorem dX1_bag_21 : decode cX1_bag 21 = .ok (.iconst 0, 1) := by decide +kernel
theorem dX1_bag_22 : decode cX1_bag 22 = .ok (.goto 4, 3) := by decide +kernel
theorem dX1_bag_25 : decode cX1_bag 25 = .ok (.iconst 1, 1) := by decide +kernel
theorem dX1_bag_26 : decode cX1_bag 26 = .ok (.invokevirtual 59, 3) := by decide +kernel
theorem dX1_bag_29 : decode cX1_bag 29 = .ok (.ifCond .ne 5, 3) := by decide +kernel
theorem dX1_bag_32 : decode cX1_bag 32 = .ok (.iconst 0, 1) := by decide +kernel
theorem dX1_bag_33 : decode cX1_bag 33 = .ok (.ireturn, 1) := by decide +kernel
theorem dX1_bag_34 : decode cX1_bag 34 = .ok (.aload_n 0, 1) := by decide +kernel
theorem dX1_bag_35 : decode cX1_bag 35 = .ok (.iload_n 2, 1) := by decide +kernel
theorem dX1_bag_36 : decode cX1_bag 36 = .ok (.invokevirtual 107, 3) := by decide +kernel
theorem dX1_bag_39 : decode cX1_bag 39 = .ok (.aload_n 0, 1) := by decide +kernel
theorem dX1_bag_40 : decode cX1_bag 40 = .ok (.iconst 0, 1) := by decide +kernel
theorem dX1_bag_41 : decode cX1_bag 41 = .ok (.invokevirtual 104, 3) := by decide +kernel
theorem dX1_bag_44 : decode cX1_bag 44 = .ok (.istore_n 3, 1) := by decide +kernel
theorem dX1_bag_45 : decode cX1_bag 45 = .ok (.aload_n 0, 1) := by decide +kernel
theorem dX1_bag_46 : decode cX1_bag 46 = .ok (.iconst 1, 1) := by decide +kernel
theorem dX1_bag_47 : decode cX1_bag 47 = .ok (.invokevirtual 104, 3) := by decide +kernel
theorem dX1_bag_50 : decode cX1_bag 50 = .ok (.istore 4, 2) := by decide +kernel
theorem dX1_bag_52 : decode cX1_bag 52 = .ok (.iload_n 3, 1) := by decide +kernel
theorem dX1_bag_53 : decode cX1_bag 53 = .ok (.iload 4, 2) := by decide +kernel
theorem dX1_bag_55 : decode cX1_bag 55 = .ok (.ior, 1) := by decide +kernel
theorem dX1_bag_56 : decode cX1_bag 56 = .ok (.istore 5, 2) := by decide +kernel
theorem dX1_bag_58 : decode cX1_bag 58 = .ok (.iconst 0, 1) := by decide +kernel
theorem dX1_bag_59 : decode cX1_bag 59 = .ok (.istore 6, 2) := by decide +kernel
theorem dX1_bag_61 : decode cX1_bag 61 = .ok (.bipush 13, 2) := by decide +kernel
theorem dX1_bag_63 : decode cX1_bag 63 = .ok (.istore 7, 2) := by decide +kernel
theorem dX1_bag_65 : decode cX1_bag 65 = .ok (.iload 5, 2) := by decide +kernel
theorem dX1_bag_67 : decode cX1_bag 67 = .ok (.istore 8, 2) := by decide +kernel
theorem dX1_bag_69 : decode cX1_bag 69 = .ok (.iload 8, 2) := by decide +kernel
theorem dX1_bag_71 : decode cX1_bag 71 = .ok (.ifCond .le 77, 3) := by decide +kernel
theorem dX1_bag_74 : decode cX1_bag 74 = .ok (.iload 8, 2) := by decide +kernel
theorem dX1_bag_76 : decode cX1_bag 76 = .ok (.invokestatic 114, 3) := by decide +kernel
theorem dX1_bag_79 : decode cX1_bag 79 = .ok (.istore 9, 2) := by decide +kernel
theorem dX1_bag_81 : decode cX1_bag 81 = .ok (.iload 9, 2) := by decide +kernel
theorem dX1_bag_83 : decode cX1_bag 83 = .ok (.iload 7, 2) := by decide +kernel
theorem dX1_bag_85 : decode cX1_bag 85 = .ok (.if_icmp .gt 20, 3) := by decide +kernel
theorem dX1_bag_88 : decode cX1_bag 88 = .ok (.aload_n 0, 1) := by decide +kernel
theorem dX1_bag_89 : decode cX1_bag 89 = .ok (.iload 8, 2) := by decide +kernel
theorem dX1_bag_91 : decode cX1_bag 91 = .ok (.iload_n 3, 1) := by decide +kernel
theorem dX1_bag_92 : decode cX1_bag 92 = .ok (.iload 4, 2) := by decide +kernel
theorem dX1_bag_94 : decode cX1_bag 94 = .ok (.invokevirtual 111, 3) := by decide +kernel
theorem dX1_bag_97 : decode cX1_bag 97 = .ok (.iload_n 1, 1) := by decide +kernel
theorem dX1_bag_98 : decode cX1_bag 98 = .ok (.if_icmp .lt 7, 3) := by decide +kernel
theorem dX1_bag_101 : decode cX1_bag 101 = .ok (.iconst 1, 1) := by decide +kernel
theorem dX1_bag_102 : decode cX1_bag 102 = .ok (.goto 4, 3) := by decide +kernel
theorem dX1_bag_105 : decode cX1_bag 105 = .ok (.iconst 0, 1) := by decide +kernel
theorem dX1_bag_106 : decode cX1_bag 106 = .ok (.istore 10, 2) := by decide +kernel
theorem dX1_bag_108 : decode cX1_bag 108 = .ok (.iload 10, 2) := by decide +kernel
theorem dX1_bag_110 : decode cX1_bag 110 = .ok (.ifCond .eq 8, 3) := by decide +kernel
theorem dX1_bag_113 : decode cX1_bag 113 = .ok (.iload 8, 2) := by decide +kernel
theorem dX1_bag_115 : decode cX1_bag 115 = .ok (.goto 5, 3) := by decide +kernel
theorem dX1_bag_118 : decode cX1_bag 118 = .ok (.iload 6, 2) := by decide +kernel
theorem dX1_bag_120 : decode cX1_bag 120 = .ok (.istore 6, 2) := by decide +kernel
theorem dX1_bag_122 : decode cX1_bag 122 = .ok (.iload 10, 2) := by decide +kernel
theorem dX1_bag_124 : decode cX1_bag 124 = .ok (.ifCond .eq 8, 3) := by decide +kernel
theorem dX1_bag_127 : decode cX1_bag 127 = .ok (.iload 9, 2) := by decide +kernel
theorem dX1_bag_129 : decode cX1_bag 129 = .ok (.goto 5, 3) := by decide +kernel
theorem dX1_bag_132 : decode cX1_bag 132 = .ok (.iload 7, 2) := by decide +kernel
theorem dX1_bag_134 : decode cX1_bag 134 = .ok (.istore 7, 2) := by decide +kernel
theorem dX1_bag_136 : decode cX1_bag 136 = .ok (.iload 8, 2) := by decide +kernel
theorem dX1_bag_138 : decode cX1_bag 138 = .ok (.iconst 1, 1) := by decide +kernel
theorem dX1_bag_139 : decode cX1_bag 139 = .ok (.isub, 1) := by decide +kernel
theorem dX1_bag_140 : decode cX1_bag 140 = .ok (.iload 5, 2) := by decide +kernel
theorem dX1_bag_142 : decode cX1_bag 142 = .ok (.iand, 1) := by decide +kernel
theorem dX1_bag_143 : decode cX1_bag 143 = .ok (.istore 8, 2) := by decide +kernel
theorem dX1_bag_145 : decode cX1_bag 145 = .ok (.goto (-76), 3) := by decide +kernel
theorem dX1_bag_148 : decode cX1_bag 148 = .ok (.iload 6, 2) := by decide +kernel
theorem dX1_bag_150 : decode cX1_bag 150 = .ok (.ireturn, 1) := by decide +kernel
theorem dJ6_bitCount_0f7a4_0 : decode cJ6_bitCount_0f7a4 0 = .ok (.iload_n 0, 1) := by decide +kernel
theorem dJ6_bitCount_0f7a4_1 : decode cJ6_bitCount_0f7a4 1 = .ok (.iload_n 0, 1) := by decide +kernel
theorem dJ6_bitCount_0f7a4_2 : decode cJ6_bitCount_0f7a4 2 = .ok (.iconst 1, 1) := by decide +kernel
theorem dJ6_bitCount_0f7a4_3 : decode cJ6_bitCount_0f7a4 3 = .ok (.iushr, 1) := by decide +kernel
theorem dJ6_bitCount_0f7a4_4 : decode cJ6_bitCount_0f7a4 4 = .ok (.ldc_w 265, 3) := by decide +kernel
theorem dJ6_bitCount_0f7a4_7 : decode cJ6_bitCount_0f7a4 7 = .ok (.iand, 1) := by decide +kernel
theorem dJ6_bitCount_0f7a4_8 : decode cJ6_bitCount_0f7a4 8 = .ok (.isub, 1) := by decide +kernel
theorem dJ6_bitCount_0f7a4_9 : decode cJ6_bitCount_0f7a4 9 = .ok (.istore_n 0, 1) := by decide +kernel
theorem dJ6_bitCount_0f7a4_10 : decode cJ6_bitCount_0f7a4 10 = .ok (.iload_n 0, 1) := by decide +kernel
theorem dJ6_bitCount_0f7a4_11 : decode cJ6_bitCount_0f7a4 11 = .ok (.ldc_w 266, 3) := by decide +kernel
theorem dJ6_bitCount_0f7a4_14 : decode cJ6_bitCount_0f7a4 14 = .ok (.iand, 1) := by decide +kernel
theorem dJ6_bitCount_0f7a4_15 : decode cJ6_bitCount_0f7a4 15 = .ok (.iload_n 0, 1) := by decide +kernel
theorem dJ6_bitCount_0f7a4_16 : decode cJ6_bitCount_0f7a4 16 = .ok (.iconst 2, 1) := by decide +kernel
theorem dJ6_bitCount_0f7a4_17 : decode cJ6_bitCount_0f7a4 17 = .ok (.iushr, 1) := by decide +kernel
theorem dJ6_bitCount_0f7a4_18 : decode cJ6_bitCount_0f7a4 18 = .ok (.ldc_w 266, 3) := by decide +kernel
theorem dJ6_bitCount_0f7a4_21 : decode cJ6_bitCount_0f7a4 21 = .ok (.iand, 1) := by decide +kernel
theorem dJ6_bitCount_0f7a4_22 : decode cJ6_bitCount_0f7a4 22 = .ok (.iadd, 1) := by decide +kernel
theorem dJ6_bitCount_0f7a4_23 : decode cJ6_bitCount_0f7a4 23 = .ok (.istore_n 0, 1) := by decide +kernel
theorem dJ6_bitCount_0f7a4_24 : decode cJ6_bitCount_0f7a4 24 = .ok (.iload_n 0, 1) := by decide +kernel
theorem dJ6_bitCount_0f7a4_25 : decode cJ6_bitCount_0f7a4 25 = .ok (.iload_n 0, 1) := by decide +kernel
theorem dJ6_bitCount_0f7a4_26 : decode cJ6_bitCount_0f7a4 26 = .ok (.iconst 4, 1) := by decide +kernel
theorem dJ6_bitCount_0f7a4_27 : decode cJ6_bitCount_0f7a4 27 = .ok (.iushr, 1) := by decide +kernel
theorem dJ6_bitCount_0f7a4_28 : decode cJ6_bitCount_0f7a4 28 = .ok (.iadd, 1) := by decide +kernel
theorem dJ6_bitCount_0f7a4_29 : decode cJ6_bitCount_0f7a4 29 = .ok (.ldc_w 267, 3) := by decide +kernel
theorem dJ6_bitCount_0f7a4_32 : decode cJ6_bitCount_0f7a4 32 = .ok (.iand, 1) := by decide +kernel
theorem dJ6_bitCount_0f7a4_33 : decode cJ6_bitCount_0f7a4 33 = .ok (.istore_n 0, 1) := by decide +kernel
theorem dJ6_bitCount_0f7a4_34 : decode cJ6_bitCount_0f7a4 34 = .ok (.iload_n 0, 1) := by decide +kernel
theorem dJ6_bitCount_0f7a4_35 : decode cJ6_bitCount_0f7a4 35 = .ok (.iload_n 0, 1) := by decide +kernel
theorem dJ6_bitCount_0f7a4_36 : decode cJ6_bitCount_0f7a4 36 = .ok (.bipush 8, 2) := by decide +kernel
theorem dJ6_bitCount_0f7a4_38 : decode cJ6_bitCount_0f7a4 38 = .ok (.iushr, 1) := by decide +kernel
theorem dJ6_bitCount_0f7a4_39 : decode cJ6_bitCount_0f7a4 39 = .ok (.iadd, 1) := by decide +kernel
theorem dJ6_bitCount_0f7a4_40 : decode cJ6_bitCount_0f7a4 40 = .ok (.istore_n 0, 1) := by decide +kernel
theorem dJ6_bitCount_0f7a4_41 : decode cJ6_bitCount_0f7a4 41 = .ok (.iload_n 0, 1) := by decide +kernel
theorem dJ6_bitCount_0f7a4_42 : decode cJ6_bitCount_0f7a4 42 = .ok (.iload_n 0, 1) := by decide +kernel
theorem dJ6_bitCount_0f7a4_43 : decode cJ6_bitCount_0f7a4 43 = .ok (.bipush 16, 2) := by decide +kernel
theorem dJ6_bitCount_0f7a4_45 : decode cJ6_bitCount_0f7a4 45 = .ok (.iushr, 1) := by decide +kernel
theorem dJ6_bitCount_0f7a4_46 : decode cJ6_bitCount_0f7a4 46 = .ok (.iadd, 1) := by decide +kernel
theorem dJ6_bitCount_0f7a4_47 : decode cJ6_bitCount_0f7a4 47 = .ok (.istore_n 0, 1) := by decide +kernel
theorem dJ6_bitCount_0f7a4_48 : decode cJ6_bitCount_0f7a4 48 = .ok (.iload_n 0, 1) := by decide +kernel
theorem dJ6_bitCount_0f7a4_49 : decode cJ6_bitCount_0f7a4 49 = .ok (.bipush 63, 2) := by decide +kernel
theorem dJ6_bitCount_0f7a4_51 : decode cJ6_bitCount_0f7a4 51 = .ok (.iand, 1) := by decide +kernel
theorem dJ6_bitCount_0f7a4_52 : decode cJ6_bitCount_0f7a4 52 = .ok (.ireturn, 1) := by decide +kernel
end
section
/-! the closed judgement V: W for every machine that fits; rows over it -/
abbrev VQ : Type := va_G → (Nat → Prop) → Array Value → State → List Frame → State → Prop
abbrev VX : Type := Launch → Code → (Nat → Prop) → Array Value → State → Prop
def V (own : String) (cc : ByteArray) (nL : Nat) (ret : Option FieldType) (Ts : List Cond) (R : Room) (X : VX) (tys : List (ClassId × FieldType)) (Q : VQ) (k n : Nat) (ws : va_W) (pc : Nat) (lv : List (Nat × Value)) (st : List Value) : Prop :=
  ∀ (p : Program) (l : Launch) (e : Env) (s : State) (m : MethodId) (args : Array Value) (below : List Frame) (meth : Method) (c : Code) (D : va_G) (A : Nat → Prop) (H : Heap) (locs : List Loc) (ls : Array Slot),
    p.tables.exec = Jvm.exec → c.code = cc → meth.sig.returnType = ret → c.maxLocals = nL → s.vm.findClass own = some m.cls → (∀ w ∈ Ts, w.before args s = true) → meth.locks = false → X l c A args s → va_K D vwCl tys s → (∀ q, s.heap.size ≤ q → A q) →
    va_P D vwCl ws H → va_D A ws → va_S A s.heap H locs → lv_has ls nL lv → W p l e R s m args below meth c H locs k n (Q D A args s below) (F0 m pc ls st)
def vX0 : VX := fun _ _ _ _ _ => True
def iZ (z : Int) : Int32 := Int32.ofInt z
def bZ (b : Bool) : Int := match b with
  | true => 1
  | false => 0
def rmD (d : Nat) : Room := { frames := d, cells := 0, slots := 0, locals := 40 * d }
theorem iZ_toInt {z : Int} (h : -2147483648 ≤ z ∧ z < 2147483648) : (iZ z).toInt = z := Int32.toInt_ofInt_of_le (by omega) (by omega)
theorem iZ_add (a b : Int) : iZ a + iZ b = iZ (a + b) := by unfold iZ; rw [Int32.ofInt_add]
theorem iZ_sub (a b : Int) : iZ a - iZ b = iZ (a - b) := by unfold iZ; rw [Int32.ofInt_sub]
theorem iZ_mul (a b : Int) : iZ a * iZ b = iZ (a * b) := by unfold iZ; rw [Int32.ofInt_mul]
theorem iZ_nI (a : Nat) : iZ (a : Int) = nI a := Int32.ofInt_eq_ofNat
theorem iZ_self (x : Int32) : iZ x.toInt = x := Int32.ofInt_toInt x
theorem iZ_inj {a b : Int} (ha : -2147483648 ≤ a ∧ a < 2147483648) (hb : -2147483648 ≤ b ∧ b < 2147483648) : iZ a = iZ b ↔ a = b :=
  ⟨fun h => by have h2 := congrArg Int32.toInt h; rwa [iZ_toInt ha, iZ_toInt hb] at h2, fun h => by rw [h]⟩
theorem iZ_lt {a b : Int} (ha : -2147483648 ≤ a ∧ a < 2147483648) (hb : -2147483648 ≤ b ∧ b < 2147483648) : iZ a < iZ b ↔ a < b := by rw [Int32.lt_iff_toInt_lt, iZ_toInt ha, iZ_toInt hb]
theorem iZ_le {a b : Int} (ha : -2147483648 ≤ a ∧ a < 2147483648) (hb : -2147483648 ≤ b ∧ b < 2147483648) : iZ a ≤ iZ b ↔ a ≤ b := by rw [Int32.le_iff_toInt_le, iZ_toInt ha, iZ_toInt hb]
theorem iZ_0 : iZ 0 = 0 := rfl
theorem bZ_in (b : Bool) : -2147483648 ≤ bZ b ∧ bZ b < 2147483648 := by cases b <;> decide
theorem iZ_in {z : Int} {j N : Nat} (hz : z = (j : Int)) (hj : j < N) (hN : N < 2147483648) : vp_in (iZ z) N ∧ (iZ z).toNatClampNeg = j := by
  subst hz
  have h := iZ_toInt (z := (j : Int)) (by omega)
  refine ⟨vp_in_iff.mpr ⟨by rw [h]; omega, by rw [h]; omega⟩, ?_⟩
  show (iZ (j : Int)).toInt.toNat = j
  rw [h]; exact Int.toNat_natCast j
theorem x_toInt (x : Int32) : -2147483648 ≤ x.toInt ∧ x.toInt < 2147483648 := by
  have h1 := Int32.le_toInt x
  have h2 := Int32.toInt_lt x
  omega
def lins (x : Nat × Value) : List (Nat × Value) → List (Nat × Value)
  | [] => [x]
  | q :: t => if q.1 < x.1 then q :: lins x t else x :: q :: t
theorem lins_mem {x q : Nat × Value} : ∀ {l : List (Nat × Value)}, q ∈ lins x l → q ∈ x :: l
  | [], h => h
  | y :: t, h => by
    unfold lins at h
    split at h
    · rcases List.mem_cons.mp h with h | h
      · exact List.mem_cons_of_mem _ (h ▸ List.mem_cons_self)
      · rcases List.mem_cons.mp (lins_mem h) with h | h
        · exact h ▸ List.mem_cons_self
        · exact List.mem_cons_of_mem _ (List.mem_cons_of_mem _ h)
    · exact h
def lset (l : List (Nat × Value)) (i : Nat) (v : Value) : List (Nat × Value) := lins (i, v) (l.filter (fun q => !(q.1 == i) && !(q.1 + 1 == i && q.2.category == 2)))
theorem lset_has {ls : Array Slot} {nL : Nat} {l l' : List (Nat × Value)} {i : Nat} {v : Value} (h : lv_has ls nL ((i, v) :: l.filter (fun q => !(q.1 == i) && !(q.1 + 1 == i && q.2.category == 2)))) (hl : lset l i v = l') : lv_has ls nL l' := by
  subst hl
  exact ⟨h.1, h.2.1, fun q hq => h.2.2 q (lins_mem hq)⟩
def lsetL (l : List (Nat × Value)) (i : Nat) (v : Value) : List (Nat × Value) := lins (i, v) (l.filter (fun q => !(q.1 == i) && (!(q.1 == i + 1) && !(q.1 + 1 == i && q.2.category == 2))))
theorem lsetL_has {ls : Array Slot} {nL : Nat} {l l' : List (Nat × Value)} {i : Nat} {v : Value} (h : lv_has ls nL ((i, v) :: l.filter (fun q => !(q.1 == i) && (!(q.1 == i + 1) && !(q.1 + 1 == i && q.2.category == 2))))) (hl : lsetL l i v = l') : lv_has ls nL l' := by
  subst hl
  exact ⟨h.1, h.2.1, fun q hq => h.2.2 q (lins_mem hq)⟩
section VR
variable {own : String} {cc : ByteArray} {nL : Nat} {ret : Option FieldType} {Ts : List Cond} {R : Room} {X : VX} {tys : List (ClassId × FieldType)} {Q : VQ} {k n : Nat} {ws : va_W} {pc : Nat} {lv : List (Nat × Value)} {st : List Value}
theorem V_iload_n {q : Nat} {i : Fin 4} {x : Int32} (d : decode cc pc = .ok (.iload_n i, 1)) (j : Nat) (hj : lv[j]? = some ((i : Nat), .int x)) (hq : pc + 1 = q := by rfl) (h : V own cc nL ret Ts R X tys Q k n ws q lv (.int x :: st)) : V own cc nL ret Ts R X tys Q k n ws pc lv st := by
  subst hq
  intro p l e s m args below meth c D A H locs ls hx hb hr hm ho ht hk hX hK hA hP hD hS hl
  exact lv_iload_n hx hb d rfl (lv_at hl j hj) (h p l e s m args below meth c D A H locs ls hx hb hr hm ho ht hk hX hK hA hP hD hS hl)
theorem V_iload {q : Nat} {i : Nat} {x : Int32} (d : decode cc pc = .ok (.iload i, 2)) (j : Nat) (hj : lv[j]? = some (i, .int x)) (hq : pc + 2 = q := by rfl) (h : V own cc nL ret Ts R X tys Q k n ws q lv (.int x :: st)) : V own cc nL ret Ts R X tys Q k n ws pc lv st := by
  subst hq
  intro p l e s m args below meth c D A H locs ls hx hb hr hm ho ht hk hX hK hA hP hD hS hl
  exact lv_iload hx hb d (lv_at hl j hj) (h p l e s m args below meth c D A H locs ls hx hb hr hm ho ht hk hX hK hA hP hD hS hl)
theorem V_aload_n {q : Nat} {i : Fin 4} {x : Nat} (d : decode cc pc = .ok (.aload_n i, 1)) (j : Nat) (hj : lv[j]? = some ((i : Nat), .ref x)) (hq : pc + 1 = q := by rfl) (h : V own cc nL ret Ts R X tys Q k n ws q lv (.ref x :: st)) : V own cc nL ret Ts R X tys Q k n ws pc lv st := by
  subst hq
  intro p l e s m args below meth c D A H locs ls hx hb hr hm ho ht hk hX hK hA hP hD hS hl
  exact lv_aload_n hx hb d rfl (lv_at hl j hj) (h p l e s m args below meth c D A H locs ls hx hb hr hm ho ht hk hX hK hA hP hD hS hl)
theorem V_aload {q : Nat} {i : Nat} {x : Nat} (d : decode cc pc = .ok (.aload i, 2)) (j : Nat) (hj : lv[j]? = some (i, .ref x)) (hq : pc + 2 = q := by rfl) (h : V own cc nL ret Ts R X tys Q k n ws q lv (.ref x :: st)) : V own cc nL ret Ts R X tys Q k n ws pc lv st := by
  subst hq
  intro p l e s m args below meth c D A H locs ls hx hb hr hm ho ht hk hX hK hA hP hD hS hl
  exact lv_aload hx hb d (lv_at hl j hj) (h p l e s m args below meth c D A H locs ls hx hb hr hm ho ht hk hX hK hA hP hD hS hl)
theorem V_lload_n {q : Nat} {i : Fin 4} {x : Int64} (d : decode cc pc = .ok (.lload_n i, 1)) (j : Nat) (hj : lv[j]? = some ((i : Nat), .long x)) (hq : pc + 1 = q := by rfl) (h : V own cc nL ret Ts R X tys Q k n ws q lv (.long x :: st)) : V own cc nL ret Ts R X tys Q k n ws pc lv st := by
  subst hq
  intro p l e s m args below meth c D A H locs ls hx hb hr hm ho ht hk hX hK hA hP hD hS hl
  exact lv_lload_n hx hb d rfl (lv_at hl j hj) (h p l e s m args below meth c D A H locs ls hx hb hr hm ho ht hk hX hK hA hP hD hS hl)
theorem V_lload {q : Nat} {i : Nat} {x : Int64} (d : decode cc pc = .ok (.lload i, 2)) (j : Nat) (hj : lv[j]? = some (i, .long x)) (hq : pc + 2 = q := by rfl) (h : V own cc nL ret Ts R X tys Q k n ws q lv (.long x :: st)) : V own cc nL ret Ts R X tys Q k n ws pc lv st := by
  subst hq
  intro p l e s m args below meth c D A H locs ls hx hb hr hm ho ht hk hX hK hA hP hD hS hl
  exact lv_lload hx hb d (lv_at hl j hj) (h p l e s m args below meth c D A H locs ls hx hb hr hm ho ht hk hX hK hA hP hD hS hl)
theorem V_istore_n {q : Nat} {i : Fin 4} {x : Int32} {lv' : List (Nat × Value)} (d : decode cc pc = .ok (.istore_n i, 1)) (hi : (i : Nat) < nL) (hl' : lset lv (i : Nat) (.int x) = lv') (hq : pc + 1 = q := by rfl) (h : V own cc nL ret Ts R X tys Q k n ws q lv' st) : V own cc nL ret Ts R X tys Q k n ws pc lv (.int x :: st) := by
  subst hq
  intro p l e s m args below meth c D A H locs ls hx hb hr hm ho ht hk hX hK hA hP hD hS hl
  exact lv_istore_n hx hb d rfl hl hi rfl (fun ls2 hl2 => h p l e s m args below meth c D A H locs ls2 hx hb hr hm ho ht hk hX hK hA hP hD hS (lset_has hl2 hl'))
theorem V_istore {q : Nat} {i : Nat} {x : Int32} {lv' : List (Nat × Value)} (d : decode cc pc = .ok (.istore i, 2)) (hi : i < nL) (hl' : lset lv i (.int x) = lv') (hq : pc + 2 = q := by rfl) (h : V own cc nL ret Ts R X tys Q k n ws q lv' st) : V own cc nL ret Ts R X tys Q k n ws pc lv (.int x :: st) := by
  subst hq
  intro p l e s m args below meth c D A H locs ls hx hb hr hm ho ht hk hX hK hA hP hD hS hl
  exact lv_istore hx hb d hl hi rfl (fun ls2 hl2 => h p l e s m args below meth c D A H locs ls2 hx hb hr hm ho ht hk hX hK hA hP hD hS (lset_has hl2 hl'))
theorem V_astore_n {q : Nat} {i : Fin 4} {x : Nat} {lv' : List (Nat × Value)} (d : decode cc pc = .ok (.astore_n i, 1)) (hi : (i : Nat) < nL) (hl' : lset lv (i : Nat) (.ref x) = lv') (hq : pc + 1 = q := by rfl) (h : V own cc nL ret Ts R X tys Q k n ws q lv' st) : V own cc nL ret Ts R X tys Q k n ws pc lv (.ref x :: st) := by
  subst hq
  intro p l e s m args below meth c D A H locs ls hx hb hr hm ho ht hk hX hK hA hP hD hS hl
  exact lv_astore_n hx hb d rfl hl hi rfl (fun ls2 hl2 => h p l e s m args below meth c D A H locs ls2 hx hb hr hm ho ht hk hX hK hA hP hD hS (lset_has hl2 hl'))
theorem V_astore {q : Nat} {i : Nat} {x : Nat} {lv' : List (Nat × Value)} (d : decode cc pc = .ok (.astore i, 2)) (hi : i < nL) (hl' : lset lv i (.ref x) = lv') (hq : pc + 2 = q := by rfl) (h : V own cc nL ret Ts R X tys Q k n ws q lv' st) : V own cc nL ret Ts R X tys Q k n ws pc lv (.ref x :: st) := by
  subst hq
  intro p l e s m args below meth c D A H locs ls hx hb hr hm ho ht hk hX hK hA hP hD hS hl
  exact lv_astore hx hb d hl hi rfl (fun ls2 hl2 => h p l e s m args below meth c D A H locs ls2 hx hb hr hm ho ht hk hX hK hA hP hD hS (lset_has hl2 hl'))
theorem V_lstore {q : Nat} {i : Nat} {x : Int64} {lv' : List (Nat × Value)} (d : decode cc pc = .ok (.lstore i, 2)) (hi : i + 1 < nL) (hl' : lsetL lv i (.long x) = lv') (hq : pc + 2 = q := by rfl) (h : V own cc nL ret Ts R X tys Q k n ws q lv' st) : V own cc nL ret Ts R X tys Q k n ws pc lv (.long x :: st) := by
  subst hq
  intro p l e s m args below meth c D A H locs ls hx hb hr hm ho ht hk hX hK hA hP hD hS hl
  exact lv_lstore hx hb d hl hi rfl (fun ls2 hl2 => h p l e s m args below meth c D A H locs ls2 hx hb hr hm ho ht hk hX hK hA hP hD hS (lsetL_has hl2 hl'))
theorem V_iinc {q : Nat} {i : Nat} {z : Int} {x y : Int} {lv' : List (Nat × Value)} (d : decode cc pc = .ok (.iinc i z, 3)) (j : Nat) (hj : lv[j]? = some (i, .int (iZ x))) (hy : x + z = y) (hi : i < nL) (hl' : lset lv i (.int (iZ y)) = lv') (hq : pc + 3 = q := by rfl) (h : V own cc nL ret Ts R X tys Q k n ws q lv' st) : V own cc nL ret Ts R X tys Q k n ws pc lv st := by
  subst hq
  intro p l e s m args below meth c D A H locs ls hx hb hr hm ho ht hk hX hK hA hP hD hS hl
  subst hy
  exact lv_iinc hx hb d hl hj (iZ_add x z) hi rfl (fun ls2 hl2 => h p l e s m args below meth c D A H locs ls2 hx hb hr hm ho ht hk hX hK hA hP hD hS (lset_has hl2 hl'))
theorem V_iconst {q : Nat} {z : Int} (d : decode cc pc = .ok (.iconst z, 1)) (hq : pc + 1 = q := by rfl) (h : V own cc nL ret Ts R X tys Q k n ws q lv (.int (iZ z) :: st)) : V own cc nL ret Ts R X tys Q k n ws pc lv st := by
  subst hq
  intro p l e s m args below meth c D A H locs ls hx hb hr hm ho ht hk hX hK hA hP hD hS hl
  exact lv_iconst hx hb d rfl (h p l e s m args below meth c D A H locs ls hx hb hr hm ho ht hk hX hK hA hP hD hS hl)
theorem V_bipush {q : Nat} {z : Int} (d : decode cc pc = .ok (.bipush z, 2)) (hz : (Int8.ofInt z).toInt32 = iZ z) (hq : pc + 2 = q := by rfl) (h : V own cc nL ret Ts R X tys Q k n ws q lv (.int (iZ z) :: st)) : V own cc nL ret Ts R X tys Q k n ws pc lv st := by
  subst hq
  intro p l e s m args below meth c D A H locs ls hx hb hr hm ho ht hk hX hK hA hP hD hS hl
  exact lv_bipush hx hb d hz (h p l e s m args below meth c D A H locs ls hx hb hr hm ho ht hk hX hK hA hP hD hS hl)
theorem V_sipush {q : Nat} {z : Int} (d : decode cc pc = .ok (.sipush z, 3)) (hz : (Int16.ofInt z).toInt32 = iZ z) (hq : pc + 3 = q := by rfl) (h : V own cc nL ret Ts R X tys Q k n ws q lv (.int (iZ z) :: st)) : V own cc nL ret Ts R X tys Q k n ws pc lv st := by
  subst hq
  intro p l e s m args below meth c D A H locs ls hx hb hr hm ho ht hk hX hK hA hP hD hS hl
  exact lv_sipush hx hb d hz (h p l e s m args below meth c D A H locs ls hx hb hr hm ho ht hk hX hK hA hP hD hS hl)
theorem V_lconst {q : Nat} {z : Fin 2} {v : Int64} (d : decode cc pc = .ok (.lconst z, 1)) (hv : Int64.ofNat (z : Nat) = v) (hq : pc + 1 = q := by rfl) (h : V own cc nL ret Ts R X tys Q k n ws q lv (.long v :: st)) : V own cc nL ret Ts R X tys Q k n ws pc lv st := by
  subst hq
  intro p l e s m args below meth c D A H locs ls hx hb hr hm ho ht hk hX hK hA hP hD hS hl
  exact lv_lconst hx hb d hv (h p l e s m args below meth c D A H locs ls hx hb hr hm ho ht hk hX hK hA hP hD hS hl)
theorem V_ldc2 {q : Nat} {i : Nat} {v : Int64} (d : decode cc pc = .ok (.ldc2_w i, 3)) (hw : Cond.constantLong own i v ∈ Ts) (hq : pc + 3 = q := by rfl) (h : V own cc nL ret Ts R X tys Q k n ws q lv (.long v :: st)) : V own cc nL ret Ts R X tys Q k n ws pc lv st := by
  subst hq
  intro p l e s m args below meth c D A H locs ls hx hb hr hm ho ht hk hX hK hA hP hD hS hl
  exact lv_ldc2 hx hb ho (ht _ hw) d (h p l e s m args below meth c D A H locs ls hx hb hr hm ho ht hk hX hK hA hP hD hS hl)
theorem V_iadd {q : Nat} {a b : Int} (d : decode cc pc = .ok (.iadd, 1)) (hq : pc + 1 = q := by rfl) (h : V own cc nL ret Ts R X tys Q k n ws q lv (.int (iZ (a + b)) :: st)) : V own cc nL ret Ts R X tys Q k n ws pc lv (.int (iZ b) :: .int (iZ a) :: st) := by
  subst hq
  intro p l e s m args below meth c D A H locs ls hx hb hr hm ho ht hk hX hK hA hP hD hS hl
  have h2 := h p l e s m args below meth c D A H locs ls hx hb hr hm ho ht hk hX hK hA hP hD hS hl
  rw [← iZ_add] at h2
  exact lv_iadd hx hb d h2
theorem V_isub {q : Nat} {a b : Int} (d : decode cc pc = .ok (.isub, 1)) (hq : pc + 1 = q := by rfl) (h : V own cc nL ret Ts R X tys Q k n ws q lv (.int (iZ (a - b)) :: st)) : V own cc nL ret Ts R X tys Q k n ws pc lv (.int (iZ b) :: .int (iZ a) :: st) := by
  subst hq
  intro p l e s m args below meth c D A H locs ls hx hb hr hm ho ht hk hX hK hA hP hD hS hl
  have h2 := h p l e s m args below meth c D A H locs ls hx hb hr hm ho ht hk hX hK hA hP hD hS hl
  rw [← iZ_sub] at h2
  exact lv_isub hx hb d h2
theorem V_imul {q : Nat} {a b : Int} (d : decode cc pc = .ok (.imul, 1)) (hq : pc + 1 = q := by rfl) (h : V own cc nL ret Ts R X tys Q k n ws q lv (.int (iZ (a * b)) :: st)) : V own cc nL ret Ts R X tys Q k n ws pc lv (.int (iZ b) :: .int (iZ a) :: st) := by
  subst hq
  intro p l e s m args below meth c D A H locs ls hx hb hr hm ho ht hk hX hK hA hP hD hS hl
  have h2 := h p l e s m args below meth c D A H locs ls hx hb hr hm ho ht hk hX hK hA hP hD hS hl
  rw [← iZ_mul] at h2
  exact lv_imul hx hb d h2
theorem V_iand {q : Nat} {x y : Int32} (d : decode cc pc = .ok (.iand, 1)) (hq : pc + 1 = q := by rfl) (h : V own cc nL ret Ts R X tys Q k n ws q lv (.int (x &&& y) :: st)) : V own cc nL ret Ts R X tys Q k n ws pc lv (.int y :: .int x :: st) := by
  subst hq
  intro p l e s m args below meth c D A H locs ls hx hb hr hm ho ht hk hX hK hA hP hD hS hl
  exact lv_iand hx hb d (h p l e s m args below meth c D A H locs ls hx hb hr hm ho ht hk hX hK hA hP hD hS hl)
theorem V_ior {q : Nat} {x y : Int32} (d : decode cc pc = .ok (.ior, 1)) (hq : pc + 1 = q := by rfl) (h : V own cc nL ret Ts R X tys Q k n ws q lv (.int (x ||| y) :: st)) : V own cc nL ret Ts R X tys Q k n ws pc lv (.int y :: .int x :: st) := by
  subst hq
  intro p l e s m args below meth c D A H locs ls hx hb hr hm ho ht hk hX hK hA hP hD hS hl
  exact lv_ior hx hb d (h p l e s m args below meth c D A H locs ls hx hb hr hm ho ht hk hX hK hA hP hD hS hl)
theorem V_ixor {q : Nat} {x y : Int32} (d : decode cc pc = .ok (.ixor, 1)) (hq : pc + 1 = q := by rfl) (h : V own cc nL ret Ts R X tys Q k n ws q lv (.int (x ^^^ y) :: st)) : V own cc nL ret Ts R X tys Q k n ws pc lv (.int y :: .int x :: st) := by
  subst hq
  intro p l e s m args below meth c D A H locs ls hx hb hr hm ho ht hk hX hK hA hP hD hS hl
  exact lv_ixor hx hb d (h p l e s m args below meth c D A H locs ls hx hb hr hm ho ht hk hX hK hA hP hD hS hl)
theorem V_ishl {q : Nat} {x y : Int32} (d : decode cc pc = .ok (.ishl, 1)) (hq : pc + 1 = q := by rfl) (h : V own cc nL ret Ts R X tys Q k n ws q lv (.int (x <<< (y &&& 31)) :: st)) : V own cc nL ret Ts R X tys Q k n ws pc lv (.int y :: .int x :: st) := by
  subst hq
  intro p l e s m args below meth c D A H locs ls hx hb hr hm ho ht hk hX hK hA hP hD hS hl
  exact lv_ishl hx hb d (h p l e s m args below meth c D A H locs ls hx hb hr hm ho ht hk hX hK hA hP hD hS hl)
theorem V_ishr {q : Nat} {x y : Int32} (d : decode cc pc = .ok (.ishr, 1)) (hq : pc + 1 = q := by rfl) (h : V own cc nL ret Ts R X tys Q k n ws q lv (.int (x >>> (y &&& 31)) :: st)) : V own cc nL ret Ts R X tys Q k n ws pc lv (.int y :: .int x :: st) := by
  subst hq
  intro p l e s m args below meth c D A H locs ls hx hb hr hm ho ht hk hX hK hA hP hD hS hl
  exact lv_ishr hx hb d (h p l e s m args below meth c D A H locs ls hx hb hr hm ho ht hk hX hK hA hP hD hS hl)
theorem V_land {q : Nat} {x y : Int64} (d : decode cc pc = .ok (.land, 1)) (hq : pc + 1 = q := by rfl) (h : V own cc nL ret Ts R X tys Q k n ws q lv (.long (x &&& y) :: st)) : V own cc nL ret Ts R X tys Q k n ws pc lv (.long y :: .long x :: st) := by
  subst hq
  intro p l e s m args below meth c D A H locs ls hx hb hr hm ho ht hk hX hK hA hP hD hS hl
  exact lv_land hx hb d (h p l e s m args below meth c D A H locs ls hx hb hr hm ho ht hk hX hK hA hP hD hS hl)
theorem V_lor {q : Nat} {x y : Int64} (d : decode cc pc = .ok (.lor, 1)) (hq : pc + 1 = q := by rfl) (h : V own cc nL ret Ts R X tys Q k n ws q lv (.long (x ||| y) :: st)) : V own cc nL ret Ts R X tys Q k n ws pc lv (.long y :: .long x :: st) := by
  subst hq
  intro p l e s m args below meth c D A H locs ls hx hb hr hm ho ht hk hX hK hA hP hD hS hl
  exact lv_lor hx hb d (h p l e s m args below meth c D A H locs ls hx hb hr hm ho ht hk hX hK hA hP hD hS hl)
theorem V_lxor {q : Nat} {x y : Int64} (d : decode cc pc = .ok (.lxor, 1)) (hq : pc + 1 = q := by rfl) (h : V own cc nL ret Ts R X tys Q k n ws q lv (.long (x ^^^ y) :: st)) : V own cc nL ret Ts R X tys Q k n ws pc lv (.long y :: .long x :: st) := by
  subst hq
  intro p l e s m args below meth c D A H locs ls hx hb hr hm ho ht hk hX hK hA hP hD hS hl
  exact lv_lxor hx hb d (h p l e s m args below meth c D A H locs ls hx hb hr hm ho ht hk hX hK hA hP hD hS hl)
theorem V_lshl {q : Nat} {x : Int64} {y : Int32} (d : decode cc pc = .ok (.lshl, 1)) (hq : pc + 1 = q := by rfl) (h : V own cc nL ret Ts R X tys Q k n ws q lv (.long (x <<< (y.toInt64 &&& 63)) :: st)) : V own cc nL ret Ts R X tys Q k n ws pc lv (.int y :: .long x :: st) := by
  subst hq
  intro p l e s m args below meth c D A H locs ls hx hb hr hm ho ht hk hX hK hA hP hD hS hl
  exact lv_lshl hx hb d rfl (h p l e s m args below meth c D A H locs ls hx hb hr hm ho ht hk hX hK hA hP hD hS hl)
theorem V_lcmp {q : Nat} {x y : Int64} (d : decode cc pc = .ok (.lcmp, 1)) (hq : pc + 1 = q := by rfl) (h : V own cc nL ret Ts R X tys Q k n ws q lv (.int (lg_cmp x y) :: st)) : V own cc nL ret Ts R X tys Q k n ws pc lv (.long y :: .long x :: st) := by
  subst hq
  intro p l e s m args below meth c D A H locs ls hx hb hr hm ho ht hk hX hK hA hP hD hS hl
  exact W.lcmp hx hb d (h p l e s m args below meth c D A H locs ls hx hb hr hm ho ht hk hX hK hA hP hD hS hl)
theorem V_i2l {q : Nat} {x : Int32} (d : decode cc pc = .ok (.i2l, 1)) (hq : pc + 1 = q := by rfl) (h : V own cc nL ret Ts R X tys Q k n ws q lv (.long x.toInt64 :: st)) : V own cc nL ret Ts R X tys Q k n ws pc lv (.int x :: st) := by
  subst hq
  intro p l e s m args below meth c D A H locs ls hx hb hr hm ho ht hk hX hK hA hP hD hS hl
  exact lv_i2l hx hb d rfl (h p l e s m args below meth c D A H locs ls hx hb hr hm ho ht hk hX hK hA hP hD hS hl)
theorem V_iushr {q : Nat} {x y : Int32} (d : decode cc pc = .ok (.iushr, 1)) (hq : pc + 1 = q := by rfl) (h : V own cc nL ret Ts R X tys Q k n ws q lv (.int ((x.toUInt32 >>> (y.toUInt32 &&& Int32.toUInt32 31)).toInt32) :: st)) : V own cc nL ret Ts R X tys Q k n ws pc lv (.int y :: .int x :: st) := by
  subst hq
  intro p l e s m args below meth c D A H locs ls hx hb hr hm ho ht hk hX hK hA hP hD hS hl
  exact lv_iushr hx hb d rfl (h p l e s m args below meth c D A H locs ls hx hb hr hm ho ht hk hX hK hA hP hD hS hl)
theorem V_iaddR {q : Nat} {x y : Int32} (d : decode cc pc = .ok (.iadd, 1)) (hq : pc + 1 = q := by rfl) (h : V own cc nL ret Ts R X tys Q k n ws q lv (.int (x + y) :: st)) : V own cc nL ret Ts R X tys Q k n ws pc lv (.int y :: .int x :: st) := by
  subst hq
  intro p l e s m args below meth c D A H locs ls hx hb hr hm ho ht hk hX hK hA hP hD hS hl
  exact lv_iadd hx hb d (h p l e s m args below meth c D A H locs ls hx hb hr hm ho ht hk hX hK hA hP hD hS hl)
theorem V_isubR {q : Nat} {x y : Int32} (d : decode cc pc = .ok (.isub, 1)) (hq : pc + 1 = q := by rfl) (h : V own cc nL ret Ts R X tys Q k n ws q lv (.int (x - y) :: st)) : V own cc nL ret Ts R X tys Q k n ws pc lv (.int y :: .int x :: st) := by
  subst hq
  intro p l e s m args below meth c D A H locs ls hx hb hr hm ho ht hk hX hK hA hP hD hS hl
  exact lv_isub hx hb d (h p l e s m args below meth c D A H locs ls hx hb hr hm ho ht hk hX hK hA hP hD hS hl)
theorem V_ldcw {q : Nat} {i : Nat} {v : Int32} (d : decode cc pc = .ok (.ldc_w i, 3)) (hw : Cond.constant own i v ∈ Ts) (hq : pc + 3 = q := by rfl) (h : V own cc nL ret Ts R X tys Q k n ws q lv (.int v :: st)) : V own cc nL ret Ts R X tys Q k n ws pc lv st := by
  subst hq
  intro p l e s m args below meth c D A H locs ls hx hb hr hm ho ht hk hX hK hA hP hD hS hl
  exact lv_ldcw hx hb ho (ht _ hw) d (h p l e s m args below meth c D A H locs ls hx hb hr hm ho ht hk hX hK hA hP hD hS hl)
theorem V_idiv {q : Nat} {a b : Nat} (d : decode cc pc = .ok (.idiv, 1)) (ha : a < 2147483648) (h0 : 0 < b) (hb' : b < 2147483648) (hq : pc + 1 = q := by rfl) (h : V own cc nL ret Ts R X tys Q k n ws q lv (.int (iZ ((a / b : Nat) : Int)) :: st)) : V own cc nL ret Ts R X tys Q k n ws pc lv (.int (iZ (b : Int)) :: .int (iZ (a : Int)) :: st) := by
  subst hq
  intro p l e s m args below meth c D A H locs ls hx hb hr hm ho ht hk hX hK hA hP hD hS hl
  have h2 := h p l e s m args below meth c D A H locs ls hx hb hr hm ho ht hk hX hK hA hP hD hS hl
  rw [iZ_nI, ← pk_div ha h0 hb', ← iZ_nI, ← iZ_nI] at h2
  exact lv_idiv hx hb d (by rw [iZ_nI]; exact nI_ne0 h0 hb') h2
theorem V_irem {q : Nat} {a b : Nat} (d : decode cc pc = .ok (.irem, 1)) (ha : a < 2147483648) (h0 : 0 < b) (hb' : b < 2147483648) (hq : pc + 1 = q := by rfl) (h : V own cc nL ret Ts R X tys Q k n ws q lv (.int (iZ ((a % b : Nat) : Int)) :: st)) : V own cc nL ret Ts R X tys Q k n ws pc lv (.int (iZ (b : Int)) :: .int (iZ (a : Int)) :: st) := by
  subst hq
  intro p l e s m args below meth c D A H locs ls hx hb hr hm ho ht hk hX hK hA hP hD hS hl
  have h2 := h p l e s m args below meth c D A H locs ls hx hb hr hm ho ht hk hX hK hA hP hD hS hl
  rw [iZ_nI, ← pk_rem ha h0 hb', ← iZ_nI, ← iZ_nI] at h2
  exact lv_irem hx hb d (by rw [iZ_nI]; exact nI_ne0 h0 hb') h2
theorem V_dup {q : Nat} {v : Value} (d : decode cc pc = .ok (.dup, 1)) (hv : v.category = 1) (hq : pc + 1 = q := by rfl) (h : V own cc nL ret Ts R X tys Q k n ws q lv (v :: v :: st)) : V own cc nL ret Ts R X tys Q k n ws pc lv (v :: st) := by
  subst hq
  intro p l e s m args below meth c D A H locs ls hx hb hr hm ho ht hk hX hK hA hP hD hS hl
  exact lv_dup hx hb d hv (h p l e s m args below meth c D A H locs ls hx hb hr hm ho ht hk hX hK hA hP hD hS hl)
theorem V_dup2 {q : Nat} {u v : Value} (d : decode cc pc = .ok (.dup2, 1)) (hu : u.category = 1) (hv : v.category = 1) (hq : pc + 1 = q := by rfl) (h : V own cc nL ret Ts R X tys Q k n ws q lv (u :: v :: u :: v :: st)) : V own cc nL ret Ts R X tys Q k n ws pc lv (u :: v :: st) := by
  subst hq
  intro p l e s m args below meth c D A H locs ls hx hb hr hm ho ht hk hX hK hA hP hD hS hl
  exact lv_dup2_11 hx hb d hu hv (h p l e s m args below meth c D A H locs ls hx hb hr hm ho ht hk hX hK hA hP hD hS hl)
theorem V_icmp_eq {q tgt : Nat} {off : Int} {a b : Int} (d : decode cc pc = .ok (.if_icmp .eq off, 3)) (ha : -2147483648 ≤ a ∧ a < 2147483648) (hb' : -2147483648 ≤ b ∧ b < 2147483648) (ht' : (pc : Int) + off = (tgt : Int)) (kt : a = b → V own cc nL ret Ts R X tys Q k n ws tgt lv st) (kf : ¬ a = b → V own cc nL ret Ts R X tys Q k n ws q lv st) (hq : pc + 3 = q := by rfl) : V own cc nL ret Ts R X tys Q k n ws pc lv (.int (iZ b) :: .int (iZ a) :: st) := by
  subst hq
  intro p l e s m args below meth c D A H locs ls hx hb hr hm ho ht hk hX hK hA hP hD hS hl
  exact lv_icmp_eq hx hb d ht' (fun c0 => kt (by have e1 := iZ_inj ha hb'; have e2 := iZ_lt ha hb'; have e3 := iZ_le ha hb'; have e4 := iZ_lt hb' ha; have e5 := iZ_le hb' ha; first | exact e1.mp c0 | exact fun q0 => c0 (e1.mpr q0) | exact e2.mp c0 | exact e3.mp c0 | exact e4.mp c0 | exact e5.mp c0 | (rw [e2] at c0; omega) | (rw [e3] at c0; omega) | (rw [e4] at c0; omega) | (rw [e5] at c0; omega)) p l e s m args below meth c D A H locs ls hx hb hr hm ho ht hk hX hK hA hP hD hS hl) (fun c0 => kf (by have e1 := iZ_inj ha hb'; have e2 := iZ_lt ha hb'; have e3 := iZ_le ha hb'; have e4 := iZ_lt hb' ha; have e5 := iZ_le hb' ha; first | exact e1.mp c0 | exact fun q0 => c0 (e1.mpr q0) | exact e2.mp c0 | exact e3.mp c0 | exact e4.mp c0 | exact e5.mp c0 | (rw [e2] at c0; omega) | (rw [e3] at c0; omega) | (rw [e4] at c0; omega) | (rw [e5] at c0; omega)) p l e s m args below meth c D A H locs ls hx hb hr hm ho ht hk hX hK hA hP hD hS hl)
theorem V_if_eq {q tgt : Nat} {off : Int} {a : Int} (d : decode cc pc = .ok (.ifCond .eq off, 3)) (ha : -2147483648 ≤ a ∧ a < 2147483648) (ht' : (pc : Int) + off = (tgt : Int)) (kt : a = 0 → V own cc nL ret Ts R X tys Q k n ws tgt lv st) (kf : ¬ a = 0 → V own cc nL ret Ts R X tys Q k n ws q lv st) (hq : pc + 3 = q := by rfl) : V own cc nL ret Ts R X tys Q k n ws pc lv (.int (iZ a) :: st) := by
  subst hq
  intro p l e s m args below meth c D A H locs ls hx hb hr hm ho ht hk hX hK hA hP hD hS hl
  exact lv_if_eq hx hb d ht' (fun c0 => kt (by have e1 := iZ_inj ha (show -2147483648 ≤ (0 : Int) ∧ (0 : Int) < 2147483648 by decide); have e2 := iZ_lt ha (show -2147483648 ≤ (0 : Int) ∧ (0 : Int) < 2147483648 by decide); have e3 := iZ_le ha (show -2147483648 ≤ (0 : Int) ∧ (0 : Int) < 2147483648 by decide); have e4 := iZ_lt (show -2147483648 ≤ (0 : Int) ∧ (0 : Int) < 2147483648 by decide) ha; have e5 := iZ_le (show -2147483648 ≤ (0 : Int) ∧ (0 : Int) < 2147483648 by decide) ha; rw [iZ_0] at e1 e2 e3 e4 e5; first | exact e1.mp c0 | exact fun q0 => c0 (e1.mpr q0) | exact e2.mp c0 | exact e3.mp c0 | exact e4.mp c0 | exact e5.mp c0 | (rw [e2] at c0; omega) | (rw [e3] at c0; omega) | (rw [e4] at c0; omega) | (rw [e5] at c0; omega)) p l e s m args below meth c D A H locs ls hx hb hr hm ho ht hk hX hK hA hP hD hS hl) (fun c0 => kf (by have e1 := iZ_inj ha (show -2147483648 ≤ (0 : Int) ∧ (0 : Int) < 2147483648 by decide); have e2 := iZ_lt ha (show -2147483648 ≤ (0 : Int) ∧ (0 : Int) < 2147483648 by decide); have e3 := iZ_le ha (show -2147483648 ≤ (0 : Int) ∧ (0 : Int) < 2147483648 by decide); have e4 := iZ_lt (show -2147483648 ≤ (0 : Int) ∧ (0 : Int) < 2147483648 by decide) ha; have e5 := iZ_le (show -2147483648 ≤ (0 : Int) ∧ (0 : Int) < 2147483648 by decide) ha; rw [iZ_0] at e1 e2 e3 e4 e5; first | exact e1.mp c0 | exact fun q0 => c0 (e1.mpr q0) | exact e2.mp c0 | exact e3.mp c0 | exact e4.mp c0 | exact e5.mp c0 | (rw [e2] at c0; omega) | (rw [e3] at c0; omega) | (rw [e4] at c0; omega) | (rw [e5] at c0; omega)) p l e s m args below meth c D A H locs ls hx hb hr hm ho ht hk hX hK hA hP hD hS hl)
theorem V_if_eqR {q tgt : Nat} {off : Int} {x : Int32} (d : decode cc pc = .ok (.ifCond .eq off, 3)) (ht' : (pc : Int) + off = (tgt : Int)) (kt : x = 0 → V own cc nL ret Ts R X tys Q k n ws tgt lv st) (kf : ¬ x = 0 → V own cc nL ret Ts R X tys Q k n ws q lv st) (hq : pc + 3 = q := by rfl) : V own cc nL ret Ts R X tys Q k n ws pc lv (.int x :: st) := by
  subst hq
  intro p l e s m args below meth c D A H locs ls hx hb hr hm ho ht hk hX hK hA hP hD hS hl
  exact lv_if_eq hx hb d ht' (fun c0 => kt c0 p l e s m args below meth c D A H locs ls hx hb hr hm ho ht hk hX hK hA hP hD hS hl) (fun c0 => kf c0 p l e s m args below meth c D A H locs ls hx hb hr hm ho ht hk hX hK hA hP hD hS hl)
theorem V_if_eqB {q tgt : Nat} {off : Int} {b : Bool} (d : decode cc pc = .ok (.ifCond .eq off, 3)) (ht' : (pc : Int) + off = (tgt : Int)) (kt : b = false → V own cc nL ret Ts R X tys Q k n ws tgt lv st) (kf : b = true → V own cc nL ret Ts R X tys Q k n ws q lv st) (hq : pc + 3 = q := by rfl) : V own cc nL ret Ts R X tys Q k n ws pc lv (.int (iZ (bZ b)) :: st) := by
  subst hq
  intro p l e s m args below meth c D A H locs ls hx hb hr hm ho ht hk hX hK hA hP hD hS hl
  cases b
  · exact lv_if_eq hx hb d ht' (fun c0 => kt (by first | rfl | exact absurd c0 (by decide)) p l e s m args below meth c D A H locs ls hx hb hr hm ho ht hk hX hK hA hP hD hS hl) (fun c0 => kf (by first | rfl | exact absurd c0 (by decide)) p l e s m args below meth c D A H locs ls hx hb hr hm ho ht hk hX hK hA hP hD hS hl)
  · exact lv_if_eq hx hb d ht' (fun c0 => kt (by first | rfl | exact absurd c0 (by decide)) p l e s m args below meth c D A H locs ls hx hb hr hm ho ht hk hX hK hA hP hD hS hl) (fun c0 => kf (by first | rfl | exact absurd c0 (by decide)) p l e s m args below meth c D A H locs ls hx hb hr hm ho ht hk hX hK hA hP hD hS hl)
theorem V_icmp_ne {q tgt : Nat} {off : Int} {a b : Int} (d : decode cc pc = .ok (.if_icmp .ne off, 3)) (ha : -2147483648 ≤ a ∧ a < 2147483648) (hb' : -2147483648 ≤ b ∧ b < 2147483648) (ht' : (pc : Int) + off = (tgt : Int)) (kt : ¬ a = b → V own cc nL ret Ts R X tys Q k n ws tgt lv st) (kf : a = b → V own cc nL ret Ts R X tys Q k n ws q lv st) (hq : pc + 3 = q := by rfl) : V own cc nL ret Ts R X tys Q k n ws pc lv (.int (iZ b) :: .int (iZ a) :: st) := by
  subst hq
  intro p l e s m args below meth c D A H locs ls hx hb hr hm ho ht hk hX hK hA hP hD hS hl
  exact lv_icmp_ne hx hb d ht' (fun c0 => kt (by have e1 := iZ_inj ha hb'; have e2 := iZ_lt ha hb'; have e3 := iZ_le ha hb'; have e4 := iZ_lt hb' ha; have e5 := iZ_le hb' ha; first | exact e1.mp c0 | exact fun q0 => c0 (e1.mpr q0) | exact e2.mp c0 | exact e3.mp c0 | exact e4.mp c0 | exact e5.mp c0 | (rw [e2] at c0; omega) | (rw [e3] at c0; omega) | (rw [e4] at c0; omega) | (rw [e5] at c0; omega)) p l e s m args below meth c D A H locs ls hx hb hr hm ho ht hk hX hK hA hP hD hS hl) (fun c0 => kf (by have e1 := iZ_inj ha hb'; have e2 := iZ_lt ha hb'; have e3 := iZ_le ha hb'; have e4 := iZ_lt hb' ha; have e5 := iZ_le hb' ha; first | exact e1.mp c0 | exact fun q0 => c0 (e1.mpr q0) | exact e2.mp c0 | exact e3.mp c0 | exact e4.mp c0 | exact e5.mp c0 | (rw [e2] at c0; omega) | (rw [e3] at c0; omega) | (rw [e4] at c0; omega) | (rw [e5] at c0; omega)) p l e s m args below meth c D A H locs ls hx hb hr hm ho ht hk hX hK hA hP hD hS hl)
theorem V_if_ne {q tgt : Nat} {off : Int} {a : Int} (d : decode cc pc = .ok (.ifCond .ne off, 3)) (ha : -2147483648 ≤ a ∧ a < 2147483648) (ht' : (pc : Int) + off = (tgt : Int)) (kt : ¬ a = 0 → V own cc nL ret Ts R X tys Q k n ws tgt lv st) (kf : a = 0 → V own cc nL ret Ts R X tys Q k n ws q lv st) (hq : pc + 3 = q := by rfl) : V own cc nL ret Ts R X tys Q k n ws pc lv (.int (iZ a) :: st) := by
  subst hq
  intro p l e s m args below meth c D A H locs ls hx hb hr hm ho ht hk hX hK hA hP hD hS hl
  exact lv_if_ne hx hb d ht' (fun c0 => kt (by have e1 := iZ_inj ha (show -2147483648 ≤ (0 : Int) ∧ (0 : Int) < 2147483648 by decide); have e2 := iZ_lt ha (show -2147483648 ≤ (0 : Int) ∧ (0 : Int) < 2147483648 by decide); have e3 := iZ_le ha (show -2147483648 ≤ (0 : Int) ∧ (0 : Int) < 2147483648 by decide); have e4 := iZ_lt (show -2147483648 ≤ (0 : Int) ∧ (0 : Int) < 2147483648 by decide) ha; have e5 := iZ_le (show -2147483648 ≤ (0 : Int) ∧ (0 : Int) < 2147483648 by decide) ha; rw [iZ_0] at e1 e2 e3 e4 e5; first | exact e1.mp c0 | exact fun q0 => c0 (e1.mpr q0) | exact e2.mp c0 | exact e3.mp c0 | exact e4.mp c0 | exact e5.mp c0 | (rw [e2] at c0; omega) | (rw [e3] at c0; omega) | (rw [e4] at c0; omega) | (rw [e5] at c0; omega)) p l e s m args below meth c D A H locs ls hx hb hr hm ho ht hk hX hK hA hP hD hS hl) (fun c0 => kf (by have e1 := iZ_inj ha (show -2147483648 ≤ (0 : Int) ∧ (0 : Int) < 2147483648 by decide); have e2 := iZ_lt ha (show -2147483648 ≤ (0 : Int) ∧ (0 : Int) < 2147483648 by decide); have e3 := iZ_le ha (show -2147483648 ≤ (0 : Int) ∧ (0 : Int) < 2147483648 by decide); have e4 := iZ_lt (show -2147483648 ≤ (0 : Int) ∧ (0 : Int) < 2147483648 by decide) ha; have e5 := iZ_le (show -2147483648 ≤ (0 : Int) ∧ (0 : Int) < 2147483648 by decide) ha; rw [iZ_0] at e1 e2 e3 e4 e5; first | exact e1.mp c0 | exact fun q0 => c0 (e1.mpr q0) | exact e2.mp c0 | exact e3.mp c0 | exact e4.mp c0 | exact e5.mp c0 | (rw [e2] at c0; omega) | (rw [e3] at c0; omega) | (rw [e4] at c0; omega) | (rw [e5] at c0; omega)) p l e s m args below meth c D A H locs ls hx hb hr hm ho ht hk hX hK hA hP hD hS hl)
theorem V_if_neR {q tgt : Nat} {off : Int} {x : Int32} (d : decode cc pc = .ok (.ifCond .ne off, 3)) (ht' : (pc : Int) + off = (tgt : Int)) (kt : ¬ x = 0 → V own cc nL ret Ts R X tys Q k n ws tgt lv st) (kf : x = 0 → V own cc nL ret Ts R X tys Q k n ws q lv st) (hq : pc + 3 = q := by rfl) : V own cc nL ret Ts R X tys Q k n ws pc lv (.int x :: st) := by
  subst hq
  intro p l e s m args below meth c D A H locs ls hx hb hr hm ho ht hk hX hK hA hP hD hS hl
  exact lv_if_ne hx hb d ht' (fun c0 => kt c0 p l e s m args below meth c D A H locs ls hx hb hr hm ho ht hk hX hK hA hP hD hS hl) (fun c0 => kf c0 p l e s m args below meth c D A H locs ls hx hb hr hm ho ht hk hX hK hA hP hD hS hl)
theorem V_if_neB {q tgt : Nat} {off : Int} {b : Bool} (d : decode cc pc = .ok (.ifCond .ne off, 3)) (ht' : (pc : Int) + off = (tgt : Int)) (kt : b = true → V own cc nL ret Ts R X tys Q k n ws tgt lv st) (kf : b = false → V own cc nL ret Ts R X tys Q k n ws q lv st) (hq : pc + 3 = q := by rfl) : V own cc nL ret Ts R X tys Q k n ws pc lv (.int (iZ (bZ b)) :: st) := by
  subst hq
  intro p l e s m args below meth c D A H locs ls hx hb hr hm ho ht hk hX hK hA hP hD hS hl
  cases b
  · exact lv_if_ne hx hb d ht' (fun c0 => kt (by first | rfl | exact absurd c0 (by decide)) p l e s m args below meth c D A H locs ls hx hb hr hm ho ht hk hX hK hA hP hD hS hl) (fun c0 => kf (by first | rfl | exact absurd c0 (by decide)) p l e s m args below meth c D A H locs ls hx hb hr hm ho ht hk hX hK hA hP hD hS hl)
  · exact lv_if_ne hx hb d ht' (fun c0 => kt (by first | rfl | exact absurd c0 (by decide)) p l e s m args below meth c D A H locs ls hx hb hr hm ho ht hk hX hK hA hP hD hS hl) (fun c0 => kf (by first | rfl | exact absurd c0 (by decide)) p l e s m args below meth c D A H locs ls hx hb hr hm ho ht hk hX hK hA hP hD hS hl)
theorem V_icmp_lt {q tgt : Nat} {off : Int} {a b : Int} (d : decode cc pc = .ok (.if_icmp .lt off, 3)) (ha : -2147483648 ≤ a ∧ a < 2147483648) (hb' : -2147483648 ≤ b ∧ b < 2147483648) (ht' : (pc : Int) + off = (tgt : Int)) (kt : a < b → V own cc nL ret Ts R X tys Q k n ws tgt lv st) (kf : b ≤ a → V own cc nL ret Ts R X tys Q k n ws q lv st) (hq : pc + 3 = q := by rfl) : V own cc nL ret Ts R X tys Q k n ws pc lv (.int (iZ b) :: .int (iZ a) :: st) := by
  subst hq
  intro p l e s m args below meth c D A H locs ls hx hb hr hm ho ht hk hX hK hA hP hD hS hl
  exact lv_icmp_lt hx hb d ht' (fun c0 => kt (by have e1 := iZ_inj ha hb'; have e2 := iZ_lt ha hb'; have e3 := iZ_le ha hb'; have e4 := iZ_lt hb' ha; have e5 := iZ_le hb' ha; first | exact e1.mp c0 | exact fun q0 => c0 (e1.mpr q0) | exact e2.mp c0 | exact e3.mp c0 | exact e4.mp c0 | exact e5.mp c0 | (rw [e2] at c0; omega) | (rw [e3] at c0; omega) | (rw [e4] at c0; omega) | (rw [e5] at c0; omega)) p l e s m args below meth c D A H locs ls hx hb hr hm ho ht hk hX hK hA hP hD hS hl) (fun c0 => kf (by have e1 := iZ_inj ha hb'; have e2 := iZ_lt ha hb'; have e3 := iZ_le ha hb'; have e4 := iZ_lt hb' ha; have e5 := iZ_le hb' ha; first | exact e1.mp c0 | exact fun q0 => c0 (e1.mpr q0) | exact e2.mp c0 | exact e3.mp c0 | exact e4.mp c0 | exact e5.mp c0 | (rw [e2] at c0; omega) | (rw [e3] at c0; omega) | (rw [e4] at c0; omega) | (rw [e5] at c0; omega)) p l e s m args below meth c D A H locs ls hx hb hr hm ho ht hk hX hK hA hP hD hS hl)
theorem V_if_lt {q tgt : Nat} {off : Int} {a : Int} (d : decode cc pc = .ok (.ifCond .lt off, 3)) (ha : -2147483648 ≤ a ∧ a < 2147483648) (ht' : (pc : Int) + off = (tgt : Int)) (kt : a < 0 → V own cc nL ret Ts R X tys Q k n ws tgt lv st) (kf : 0 ≤ a → V own cc nL ret Ts R X tys Q k n ws q lv st) (hq : pc + 3 = q := by rfl) : V own cc nL ret Ts R X tys Q k n ws pc lv (.int (iZ a) :: st) := by
  subst hq
  intro p l e s m args below meth c D A H locs ls hx hb hr hm ho ht hk hX hK hA hP hD hS hl
  exact lv_if_lt hx hb d ht' (fun c0 => kt (by have e1 := iZ_inj ha (show -2147483648 ≤ (0 : Int) ∧ (0 : Int) < 2147483648 by decide); have e2 := iZ_lt ha (show -2147483648 ≤ (0 : Int) ∧ (0 : Int) < 2147483648 by decide); have e3 := iZ_le ha (show -2147483648 ≤ (0 : Int) ∧ (0 : Int) < 2147483648 by decide); have e4 := iZ_lt (show -2147483648 ≤ (0 : Int) ∧ (0 : Int) < 2147483648 by decide) ha; have e5 := iZ_le (show -2147483648 ≤ (0 : Int) ∧ (0 : Int) < 2147483648 by decide) ha; rw [iZ_0] at e1 e2 e3 e4 e5; first | exact e1.mp c0 | exact fun q0 => c0 (e1.mpr q0) | exact e2.mp c0 | exact e3.mp c0 | exact e4.mp c0 | exact e5.mp c0 | (rw [e2] at c0; omega) | (rw [e3] at c0; omega) | (rw [e4] at c0; omega) | (rw [e5] at c0; omega)) p l e s m args below meth c D A H locs ls hx hb hr hm ho ht hk hX hK hA hP hD hS hl) (fun c0 => kf (by have e1 := iZ_inj ha (show -2147483648 ≤ (0 : Int) ∧ (0 : Int) < 2147483648 by decide); have e2 := iZ_lt ha (show -2147483648 ≤ (0 : Int) ∧ (0 : Int) < 2147483648 by decide); have e3 := iZ_le ha (show -2147483648 ≤ (0 : Int) ∧ (0 : Int) < 2147483648 by decide); have e4 := iZ_lt (show -2147483648 ≤ (0 : Int) ∧ (0 : Int) < 2147483648 by decide) ha; have e5 := iZ_le (show -2147483648 ≤ (0 : Int) ∧ (0 : Int) < 2147483648 by decide) ha; rw [iZ_0] at e1 e2 e3 e4 e5; first | exact e1.mp c0 | exact fun q0 => c0 (e1.mpr q0) | exact e2.mp c0 | exact e3.mp c0 | exact e4.mp c0 | exact e5.mp c0 | (rw [e2] at c0; omega) | (rw [e3] at c0; omega) | (rw [e4] at c0; omega) | (rw [e5] at c0; omega)) p l e s m args below meth c D A H locs ls hx hb hr hm ho ht hk hX hK hA hP hD hS hl)
theorem V_icmp_ge {q tgt : Nat} {off : Int} {a b : Int} (d : decode cc pc = .ok (.if_icmp .ge off, 3)) (ha : -2147483648 ≤ a ∧ a < 2147483648) (hb' : -2147483648 ≤ b ∧ b < 2147483648) (ht' : (pc : Int) + off = (tgt : Int)) (kt : b ≤ a → V own cc nL ret Ts R X tys Q k n ws tgt lv st) (kf : a < b → V own cc nL ret Ts R X tys Q k n ws q lv st) (hq : pc + 3 = q := by rfl) : V own cc nL ret Ts R X tys Q k n ws pc lv (.int (iZ b) :: .int (iZ a) :: st) := by
  subst hq
  intro p l e s m args below meth c D A H locs ls hx hb hr hm ho ht hk hX hK hA hP hD hS hl
  exact lv_icmp_ge hx hb d ht' (fun c0 => kt (by have e1 := iZ_inj ha hb'; have e2 := iZ_lt ha hb'; have e3 := iZ_le ha hb'; have e4 := iZ_lt hb' ha; have e5 := iZ_le hb' ha; first | exact e1.mp c0 | exact fun q0 => c0 (e1.mpr q0) | exact e2.mp c0 | exact e3.mp c0 | exact e4.mp c0 | exact e5.mp c0 | (rw [e2] at c0; omega) | (rw [e3] at c0; omega) | (rw [e4] at c0; omega) | (rw [e5] at c0; omega)) p l e s m args below meth c D A H locs ls hx hb hr hm ho ht hk hX hK hA hP hD hS hl) (fun c0 => kf (by have e1 := iZ_inj ha hb'; have e2 := iZ_lt ha hb'; have e3 := iZ_le ha hb'; have e4 := iZ_lt hb' ha; have e5 := iZ_le hb' ha; first | exact e1.mp c0 | exact fun q0 => c0 (e1.mpr q0) | exact e2.mp c0 | exact e3.mp c0 | exact e4.mp c0 | exact e5.mp c0 | (rw [e2] at c0; omega) | (rw [e3] at c0; omega) | (rw [e4] at c0; omega) | (rw [e5] at c0; omega)) p l e s m args below meth c D A H locs ls hx hb hr hm ho ht hk hX hK hA hP hD hS hl)
theorem V_if_ge {q tgt : Nat} {off : Int} {a : Int} (d : decode cc pc = .ok (.ifCond .ge off, 3)) (ha : -2147483648 ≤ a ∧ a < 2147483648) (ht' : (pc : Int) + off = (tgt : Int)) (kt : 0 ≤ a → V own cc nL ret Ts R X tys Q k n ws tgt lv st) (kf : a < 0 → V own cc nL ret Ts R X tys Q k n ws q lv st) (hq : pc + 3 = q := by rfl) : V own cc nL ret Ts R X tys Q k n ws pc lv (.int (iZ a) :: st) := by
  subst hq
  intro p l e s m args below meth c D A H locs ls hx hb hr hm ho ht hk hX hK hA hP hD hS hl
  exact lv_if_ge hx hb d ht' (fun c0 => kt (by have e1 := iZ_inj ha (show -2147483648 ≤ (0 : Int) ∧ (0 : Int) < 2147483648 by decide); have e2 := iZ_lt ha (show -2147483648 ≤ (0 : Int) ∧ (0 : Int) < 2147483648 by decide); have e3 := iZ_le ha (show -2147483648 ≤ (0 : Int) ∧ (0 : Int) < 2147483648 by decide); have e4 := iZ_lt (show -2147483648 ≤ (0 : Int) ∧ (0 : Int) < 2147483648 by decide) ha; have e5 := iZ_le (show -2147483648 ≤ (0 : Int) ∧ (0 : Int) < 2147483648 by decide) ha; rw [iZ_0] at e1 e2 e3 e4 e5; first | exact e1.mp c0 | exact fun q0 => c0 (e1.mpr q0) | exact e2.mp c0 | exact e3.mp c0 | exact e4.mp c0 | exact e5.mp c0 | (rw [e2] at c0; omega) | (rw [e3] at c0; omega) | (rw [e4] at c0; omega) | (rw [e5] at c0; omega)) p l e s m args below meth c D A H locs ls hx hb hr hm ho ht hk hX hK hA hP hD hS hl) (fun c0 => kf (by have e1 := iZ_inj ha (show -2147483648 ≤ (0 : Int) ∧ (0 : Int) < 2147483648 by decide); have e2 := iZ_lt ha (show -2147483648 ≤ (0 : Int) ∧ (0 : Int) < 2147483648 by decide); have e3 := iZ_le ha (show -2147483648 ≤ (0 : Int) ∧ (0 : Int) < 2147483648 by decide); have e4 := iZ_lt (show -2147483648 ≤ (0 : Int) ∧ (0 : Int) < 2147483648 by decide) ha; have e5 := iZ_le (show -2147483648 ≤ (0 : Int) ∧ (0 : Int) < 2147483648 by decide) ha; rw [iZ_0] at e1 e2 e3 e4 e5; first | exact e1.mp c0 | exact fun q0 => c0 (e1.mpr q0) | exact e2.mp c0 | exact e3.mp c0 | exact e4.mp c0 | exact e5.mp c0 | (rw [e2] at c0; omega) | (rw [e3] at c0; omega) | (rw [e4] at c0; omega) | (rw [e5] at c0; omega)) p l e s m args below meth c D A H locs ls hx hb hr hm ho ht hk hX hK hA hP hD hS hl)
theorem V_icmp_gt {q tgt : Nat} {off : Int} {a b : Int} (d : decode cc pc = .ok (.if_icmp .gt off, 3)) (ha : -2147483648 ≤ a ∧ a < 2147483648) (hb' : -2147483648 ≤ b ∧ b < 2147483648) (ht' : (pc : Int) + off = (tgt : Int)) (kt : b < a → V own cc nL ret Ts R X tys Q k n ws tgt lv st) (kf : a ≤ b → V own cc nL ret Ts R X tys Q k n ws q lv st) (hq : pc + 3 = q := by rfl) : V own cc nL ret Ts R X tys Q k n ws pc lv (.int (iZ b) :: .int (iZ a) :: st) := by
  subst hq
  intro p l e s m args below meth c D A H locs ls hx hb hr hm ho ht hk hX hK hA hP hD hS hl
  exact lv_icmp_gt hx hb d ht' (fun c0 => kt (by have e1 := iZ_inj ha hb'; have e2 := iZ_lt ha hb'; have e3 := iZ_le ha hb'; have e4 := iZ_lt hb' ha; have e5 := iZ_le hb' ha; first | exact e1.mp c0 | exact fun q0 => c0 (e1.mpr q0) | exact e2.mp c0 | exact e3.mp c0 | exact e4.mp c0 | exact e5.mp c0 | (rw [e2] at c0; omega) | (rw [e3] at c0; omega) | (rw [e4] at c0; omega) | (rw [e5] at c0; omega)) p l e s m args below meth c D A H locs ls hx hb hr hm ho ht hk hX hK hA hP hD hS hl) (fun c0 => kf (by have e1 := iZ_inj ha hb'; have e2 := iZ_lt ha hb'; have e3 := iZ_le ha hb'; have e4 := iZ_lt hb' ha; have e5 := iZ_le hb' ha; first | exact e1.mp c0 | exact fun q0 => c0 (e1.mpr q0) | exact e2.mp c0 | exact e3.mp c0 | exact e4.mp c0 | exact e5.mp c0 | (rw [e2] at c0; omega) | (rw [e3] at c0; omega) | (rw [e4] at c0; omega) | (rw [e5] at c0; omega)) p l e s m args below meth c D A H locs ls hx hb hr hm ho ht hk hX hK hA hP hD hS hl)
theorem V_if_gt {q tgt : Nat} {off : Int} {a : Int} (d : decode cc pc = .ok (.ifCond .gt off, 3)) (ha : -2147483648 ≤ a ∧ a < 2147483648) (ht' : (pc : Int) + off = (tgt : Int)) (kt : 0 < a → V own cc nL ret Ts R X tys Q k n ws tgt lv st) (kf : a ≤ 0 → V own cc nL ret Ts R X tys Q k n ws q lv st) (hq : pc + 3 = q := by rfl) : V own cc nL ret Ts R X tys Q k n ws pc lv (.int (iZ a) :: st) := by
  subst hq
  intro p l e s m args below meth c D A H locs ls hx hb hr hm ho ht hk hX hK hA hP hD hS hl
  exact lv_if_gt hx hb d ht' (fun c0 => kt (by have e1 := iZ_inj ha (show -2147483648 ≤ (0 : Int) ∧ (0 : Int) < 2147483648 by decide); have e2 := iZ_lt ha (show -2147483648 ≤ (0 : Int) ∧ (0 : Int) < 2147483648 by decide); have e3 := iZ_le ha (show -2147483648 ≤ (0 : Int) ∧ (0 : Int) < 2147483648 by decide); have e4 := iZ_lt (show -2147483648 ≤ (0 : Int) ∧ (0 : Int) < 2147483648 by decide) ha; have e5 := iZ_le (show -2147483648 ≤ (0 : Int) ∧ (0 : Int) < 2147483648 by decide) ha; rw [iZ_0] at e1 e2 e3 e4 e5; first | exact e1.mp c0 | exact fun q0 => c0 (e1.mpr q0) | exact e2.mp c0 | exact e3.mp c0 | exact e4.mp c0 | exact e5.mp c0 | (rw [e2] at c0; omega) | (rw [e3] at c0; omega) | (rw [e4] at c0; omega) | (rw [e5] at c0; omega)) p l e s m args below meth c D A H locs ls hx hb hr hm ho ht hk hX hK hA hP hD hS hl) (fun c0 => kf (by have e1 := iZ_inj ha (show -2147483648 ≤ (0 : Int) ∧ (0 : Int) < 2147483648 by decide); have e2 := iZ_lt ha (show -2147483648 ≤ (0 : Int) ∧ (0 : Int) < 2147483648 by decide); have e3 := iZ_le ha (show -2147483648 ≤ (0 : Int) ∧ (0 : Int) < 2147483648 by decide); have e4 := iZ_lt (show -2147483648 ≤ (0 : Int) ∧ (0 : Int) < 2147483648 by decide) ha; have e5 := iZ_le (show -2147483648 ≤ (0 : Int) ∧ (0 : Int) < 2147483648 by decide) ha; rw [iZ_0] at e1 e2 e3 e4 e5; first | exact e1.mp c0 | exact fun q0 => c0 (e1.mpr q0) | exact e2.mp c0 | exact e3.mp c0 | exact e4.mp c0 | exact e5.mp c0 | (rw [e2] at c0; omega) | (rw [e3] at c0; omega) | (rw [e4] at c0; omega) | (rw [e5] at c0; omega)) p l e s m args below meth c D A H locs ls hx hb hr hm ho ht hk hX hK hA hP hD hS hl)
theorem V_icmp_le {q tgt : Nat} {off : Int} {a b : Int} (d : decode cc pc = .ok (.if_icmp .le off, 3)) (ha : -2147483648 ≤ a ∧ a < 2147483648) (hb' : -2147483648 ≤ b ∧ b < 2147483648) (ht' : (pc : Int) + off = (tgt : Int)) (kt : a ≤ b → V own cc nL ret Ts R X tys Q k n ws tgt lv st) (kf : b < a → V own cc nL ret Ts R X tys Q k n ws q lv st) (hq : pc + 3 = q := by rfl) : V own cc nL ret Ts R X tys Q k n ws pc lv (.int (iZ b) :: .int (iZ a) :: st) := by
  subst hq
  intro p l e s m args below meth c D A H locs ls hx hb hr hm ho ht hk hX hK hA hP hD hS hl
  exact lv_icmp_le hx hb d ht' (fun c0 => kt (by have e1 := iZ_inj ha hb'; have e2 := iZ_lt ha hb'; have e3 := iZ_le ha hb'; have e4 := iZ_lt hb' ha; have e5 := iZ_le hb' ha; first | exact e1.mp c0 | exact fun q0 => c0 (e1.mpr q0) | exact e2.mp c0 | exact e3.mp c0 | exact e4.mp c0 | exact e5.mp c0 | (rw [e2] at c0; omega) | (rw [e3] at c0; omega) | (rw [e4] at c0; omega) | (rw [e5] at c0; omega)) p l e s m args below meth c D A H locs ls hx hb hr hm ho ht hk hX hK hA hP hD hS hl) (fun c0 => kf (by have e1 := iZ_inj ha hb'; have e2 := iZ_lt ha hb'; have e3 := iZ_le ha hb'; have e4 := iZ_lt hb' ha; have e5 := iZ_le hb' ha; first | exact e1.mp c0 | exact fun q0 => c0 (e1.mpr q0) | exact e2.mp c0 | exact e3.mp c0 | exact e4.mp c0 | exact e5.mp c0 | (rw [e2] at c0; omega) | (rw [e3] at c0; omega) | (rw [e4] at c0; omega) | (rw [e5] at c0; omega)) p l e s m args below meth c D A H locs ls hx hb hr hm ho ht hk hX hK hA hP hD hS hl)
theorem V_if_le {q tgt : Nat} {off : Int} {a : Int} (d : decode cc pc = .ok (.ifCond .le off, 3)) (ha : -2147483648 ≤ a ∧ a < 2147483648) (ht' : (pc : Int) + off = (tgt : Int)) (kt : a ≤ 0 → V own cc nL ret Ts R X tys Q k n ws tgt lv st) (kf : 0 < a → V own cc nL ret Ts R X tys Q k n ws q lv st) (hq : pc + 3 = q := by rfl) : V own cc nL ret Ts R X tys Q k n ws pc lv (.int (iZ a) :: st) := by
  subst hq
  intro p l e s m args below meth c D A H locs ls hx hb hr hm ho ht hk hX hK hA hP hD hS hl
  exact lv_if_le hx hb d ht' (fun c0 => kt (by have e1 := iZ_inj ha (show -2147483648 ≤ (0 : Int) ∧ (0 : Int) < 2147483648 by decide); have e2 := iZ_lt ha (show -2147483648 ≤ (0 : Int) ∧ (0 : Int) < 2147483648 by decide); have e3 := iZ_le ha (show -2147483648 ≤ (0 : Int) ∧ (0 : Int) < 2147483648 by decide); have e4 := iZ_lt (show -2147483648 ≤ (0 : Int) ∧ (0 : Int) < 2147483648 by decide) ha; have e5 := iZ_le (show -2147483648 ≤ (0 : Int) ∧ (0 : Int) < 2147483648 by decide) ha; rw [iZ_0] at e1 e2 e3 e4 e5; first | exact e1.mp c0 | exact fun q0 => c0 (e1.mpr q0) | exact e2.mp c0 | exact e3.mp c0 | exact e4.mp c0 | exact e5.mp c0 | (rw [e2] at c0; omega) | (rw [e3] at c0; omega) | (rw [e4] at c0; omega) | (rw [e5] at c0; omega)) p l e s m args below meth c D A H locs ls hx hb hr hm ho ht hk hX hK hA hP hD hS hl) (fun c0 => kf (by have e1 := iZ_inj ha (show -2147483648 ≤ (0 : Int) ∧ (0 : Int) < 2147483648 by decide); have e2 := iZ_lt ha (show -2147483648 ≤ (0 : Int) ∧ (0 : Int) < 2147483648 by decide); have e3 := iZ_le ha (show -2147483648 ≤ (0 : Int) ∧ (0 : Int) < 2147483648 by decide); have e4 := iZ_lt (show -2147483648 ≤ (0 : Int) ∧ (0 : Int) < 2147483648 by decide) ha; have e5 := iZ_le (show -2147483648 ≤ (0 : Int) ∧ (0 : Int) < 2147483648 by decide) ha; rw [iZ_0] at e1 e2 e3 e4 e5; first | exact e1.mp c0 | exact fun q0 => c0 (e1.mpr q0) | exact e2.mp c0 | exact e3.mp c0 | exact e4.mp c0 | exact e5.mp c0 | (rw [e2] at c0; omega) | (rw [e3] at c0; omega) | (rw [e4] at c0; omega) | (rw [e5] at c0; omega)) p l e s m args below meth c D A H locs ls hx hb hr hm ho ht hk hX hK hA hP hD hS hl)
theorem V_goto {tgt : Nat} {off : Int} (d : decode cc pc = .ok (.goto off, 3)) (ht' : (pc : Int) + off = (tgt : Int)) (h : V own cc nL ret Ts R X tys Q k n ws tgt lv st) : V own cc nL ret Ts R X tys Q k n ws pc lv st := by
  intro p l e s m args below meth c D A H locs ls hx hb hr hm ho ht hk hX hK hA hP hD hS hl
  exact lv_goto hx hb d ht' (h p l e s m args below meth c D A H locs ls hx hb hr hm ho ht hk hX hK hA hP hD hS hl)
theorem V_get {q : Nat} {C : String} {T : u_T} {N ci index a : Nat} {fs : List Value} {v : Value} (d : decode cc pc = .ok (.getfield index, 3)) (hin : ∀ w ∈ u_ws C T N, w ∈ Ts) (q0 : Nat) (he : ws[q0]? = some (a, .inr (ci, fs))) (hc : vwCl[ci]? = some (C, T, N)) (j : Nat) (hj : j < N) (hlink : Cond.fieldLink own index (T j).1 (T j).2.1 (T j).2.2.1 ∈ Ts) (hv : fs[j]? = some v) (hq : pc + 3 = q := by rfl) (h : V own cc nL ret Ts R X tys Q k n ws q lv (v :: st)) : V own cc nL ret Ts R X tys Q k n ws pc lv (.ref a :: st) := by
  subst hq
  intro p l e s m args below meth c D A H locs ls hx hb hr hm ho ht hk hX hK hA hP hD hS hl
  exact va_get hx hb ht hin ho hK hP q0 he hc j hj (ht _ hlink) (fun _ h9 => h9) hv d (h p l e s m args below meth c D A H locs ls hx hb hr hm ho ht hk hX hK hA hP hD hS hl)
theorem V_put {q : Nat} {C : String} {T : u_T} {N ci index a : Nat} {fs : List Value} {v : Value} {ws' : va_W} {ty : FieldType} (d : decode cc pc = .ok (.putfield index, 3)) (hin : ∀ w ∈ u_ws C T N, w ∈ Ts) (ty0 : Nat → FieldType) (hty : ∀ k, k < N → parseFieldDescriptor (T k).2.2.1 = some (ty0 k)) (hnm : ∀ a, a < N → ∀ b, b < N → a ≠ b → (T a).2.1 ≠ (T b).2.1) (q0 : Nat) (he : ws[q0]? = some (a, .inr (ci, fs))) (hc : vwCl[ci]? = some (C, T, N)) (j : Nat) (hj : j < N) (hlink : Cond.fieldLink own index (T j).1 (T j).2.1 (T j).2.2.1 ∈ Ts) (hfin : (T j).2.2.2 = false) (hd : parseFieldDescriptor (T j).2.2.1 = some ty) (hn : narrow ty v = v) (hfit : fits ty v = true) (hfl : j < fs.length) (hw : ws.set q0 (a, .inr (ci, fs.set j v)) = ws') (hq : pc + 3 = q := by rfl) (h : V own cc nL ret Ts R X tys Q k n ws' q lv st) : V own cc nL ret Ts R X tys Q k n ws pc lv (v :: .ref a :: st) := by
  subst hq
  intro p l e s m args below meth c D A H locs ls hx hb hr hm ho ht hk hX hK hA hP hD hS hl
  subst hw
  exact va_put hx hb ht hin ty0 hty hnm ho hK hP hD hS q0 he hc j hj (ht _ hlink) (fun _ h9 => h9) hfin hd hn hfit hfl d (fun H1 locs1 hP1 hD1 hS1 => h p l e s m args below meth c D A H1 locs1 ls hx hb hr hm ho ht hk hX hK hA hP1 hD1 hS1 hl)
theorem V_iald {q : Nat} {cA : ClassId} {N a : Nat} {f : Nat → Int32} {z : Int} {v : Int32} (d : decode cc pc = .ok (.iaload, 1)) (q0 t0 : Nat) (he : ws[q0]? = some (a, .inl (cA, N, .inl f))) (ht0 : tys[t0]? = some (cA, .int)) (j : Nat) (hz : z = (j : Int)) (hj : j < N) (hN : N < 2147483648) (hv : f j = v) (hq : pc + 1 = q := by rfl) (h : V own cc nL ret Ts R X tys Q k n ws q lv (.int v :: st)) : V own cc nL ret Ts R X tys Q k n ws pc lv (.int (iZ z) :: .ref a :: st) := by
  subst hq
  intro p l e s m args below meth c D A H locs ls hx hb hr hm ho ht hk hX hK hA hP hD hS hl
  obtain ⟨g1, g2⟩ := iZ_in hz hj hN
  have h2 := h p l e s m args below meth c D A H locs ls hx hb hr hm ho ht hk hX hK hA hP hD hS hl
  rw [← hv, ← g2] at h2
  exact va_iald hx hb hK hP q0 t0 he ht0 g1 d h2
theorem V_zald {q : Nat} {cA : ClassId} {N a : Nat} {f : Nat → Int32} {z : Int} {v : Int32} (d : decode cc pc = .ok (.baload, 1)) (q0 t0 : Nat) (he : ws[q0]? = some (a, .inl (cA, N, .inl f))) (ht0 : tys[t0]? = some (cA, .boolean)) (j : Nat) (hz : z = (j : Int)) (hj : j < N) (hN : N < 2147483648) (hv : f j = v) (hq : pc + 1 = q := by rfl) (h : V own cc nL ret Ts R X tys Q k n ws q lv (.int v :: st)) : V own cc nL ret Ts R X tys Q k n ws pc lv (.int (iZ z) :: .ref a :: st) := by
  subst hq
  intro p l e s m args below meth c D A H locs ls hx hb hr hm ho ht hk hX hK hA hP hD hS hl
  obtain ⟨g1, g2⟩ := iZ_in hz hj hN
  have h2 := h p l e s m args below meth c D A H locs ls hx hb hr hm ho ht hk hX hK hA hP hD hS hl
  rw [← hv, ← g2] at h2
  exact va_zald hx hb hK hP q0 t0 he ht0 g1 d h2
theorem V_iast {q : Nat} {cA : ClassId} {N a : Nat} {f : Nat → Int32} {z : Int} {x : Int32} {ws' : va_W} (d : decode cc pc = .ok (.iastore, 1)) (q0 t0 : Nat) (he : ws[q0]? = some (a, .inl (cA, N, .inl f))) (ht0 : tys[t0]? = some (cA, .int)) (j : Nat) (hz : z = (j : Int)) (hj : j < N) (hN : N < 2147483648) (hw : ws.set q0 (a, .inl (cA, N, .inl (upd f j x))) = ws') (hq : pc + 1 = q := by rfl) (h : V own cc nL ret Ts R X tys Q k n ws' q lv st) : V own cc nL ret Ts R X tys Q k n ws pc lv (.int x :: .int (iZ z) :: .ref a :: st) := by
  subst hq
  intro p l e s m args below meth c D A H locs ls hx hb hr hm ho ht hk hX hK hA hP hD hS hl
  subst hw
  obtain ⟨g1, g2⟩ := iZ_in hz hj hN
  subst g2
  exact va_iast hx hb hK hP hD hS q0 t0 he ht0 g1 d (fun H1 locs1 hP1 hD1 hS1 => h p l e s m args below meth c D A H1 locs1 ls hx hb hr hm ho ht hk hX hK hA hP1 hD1 hS1 hl)
theorem V_zast {q : Nat} {cA : ClassId} {N a : Nat} {f : Nat → Int32} {z : Int} {x : Bool} {ws' : va_W} (d : decode cc pc = .ok (.bastore, 1)) (q0 t0 : Nat) (he : ws[q0]? = some (a, .inl (cA, N, .inl f))) (ht0 : tys[t0]? = some (cA, .boolean)) (j : Nat) (hz : z = (j : Int)) (hj : j < N) (hN : N < 2147483648) (hw : ws.set q0 (a, .inl (cA, N, .inl (upd f j (iZ (bZ x))))) = ws') (hq : pc + 1 = q := by rfl) (h : V own cc nL ret Ts R X tys Q k n ws' q lv st) : V own cc nL ret Ts R X tys Q k n ws pc lv (.int (iZ (bZ x)) :: .int (iZ z) :: .ref a :: st) := by
  subst hq
  intro p l e s m args below meth c D A H locs ls hx hb hr hm ho ht hk hX hK hA hP hD hS hl
  subst hw
  obtain ⟨g1, g2⟩ := iZ_in hz hj hN
  subst g2
  have e0 : vp_nar .boolean (iZ (bZ x)) = iZ (bZ x) := by cases x <;> rfl
  exact va_zast hx hb hK hP hD hS q0 t0 he ht0 g1 d (fun H1 locs1 hP1 hD1 hS1 => h p l e s m args below meth c D A H1 locs1 ls hx hb hr hm ho ht hk hX hK hA (by rw [e0] at hP1; exact hP1) (by rw [e0] at hD1; exact hD1) hS1 hl)
theorem V_loc {lv' : List (Nat × Value)} (ks : List Nat) (hl' : lv_pick lv ks = lv') (h : V own cc nL ret Ts R X tys Q k n ws pc lv' st) : V own cc nL ret Ts R X tys Q k n ws pc lv st := by
  intro p l e s m args below meth c D A H locs ls hx hb hr hm ho ht hk hX hK hA hP hD hS hl
  exact h p l e s m args below meth c D A H locs ls hx hb hr hm ho ht hk hX hK hA hP hD hS (lv_sub hl ks hl')
theorem V_top {x y : Int32} (e0 : x = y) (h : V own cc nL ret Ts R X tys Q k n ws pc lv (.int y :: st)) : V own cc nL ret Ts R X tys Q k n ws pc lv (.int x :: st) := e0 ▸ h
theorem V_topL {x y : Int64} (e0 : x = y) (h : V own cc nL ret Ts R X tys Q k n ws pc lv (.long y :: st)) : V own cc nL ret Ts R X tys Q k n ws pc lv (.long x :: st) := e0 ▸ h
theorem V_nm {x : Int32} (h : ∀ y : Int32, y = x → V own cc nL ret Ts R X tys Q k n ws pc lv (.int y :: st)) : V own cc nL ret Ts R X tys Q k n ws pc lv (.int x :: st) := h x rfl
theorem V_st {st' : List Value} (e0 : st = st') (h : V own cc nL ret Ts R X tys Q k n ws pc lv st') : V own cc nL ret Ts R X tys Q k n ws pc lv st := e0 ▸ h
theorem V_lvq {lv' : List (Nat × Value)} (e0 : lv = lv') (h : V own cc nL ret Ts R X tys Q k n ws pc lv' st) : V own cc nL ret Ts R X tys Q k n ws pc lv st := e0 ▸ h
theorem V_ws {ws' : va_W} (e0 : ws = ws') (h : V own cc nL ret Ts R X tys Q k n ws' pc lv st) : V own cc nL ret Ts R X tys Q k n ws pc lv st := e0 ▸ h
theorem V_cut {M : Nat} (x : Int32) (kk : V own cc nL ret Ts R X tys Q k n ws M lv (.int x :: st)) (h : (∀ y : Int32, y = x → V own cc nL ret Ts R X tys Q k n ws M lv (.int y :: st)) → V own cc nL ret Ts R X tys Q k n ws pc lv st) : V own cc nL ret Ts R X tys Q k n ws pc lv st := h (fun y e => e ▸ kk)
theorem V_cutL {M : Nat} (x : Int64) (kk : V own cc nL ret Ts R X tys Q k n ws M lv (.long x :: st)) (h : (∀ y : Int64, y = x → V own cc nL ret Ts R X tys Q k n ws M lv (.long y :: st)) → V own cc nL ret Ts R X tys Q k n ws pc lv st) : V own cc nL ret Ts R X tys Q k n ws pc lv st := h (fun y e => e ▸ kk)
end VR
end
section
/-! contracts in a standard form: from the world w with the arguments args the method answers r, and the world is w' -/
def wB (tys : List (ClassId × FieldType)) (w' : va_W) (D : va_G) (A : Nat → Prop) (t : State) : Prop := va_P D vwCl w' t.heap ∧ va_K D vwCl tys t ∧ va_D A w'
def pB (tys : List (ClassId × FieldType)) (w : va_W) (D : va_G) (sz : Nat) (U : State) : Prop := U.heap.size = sz ∧ va_P D vwCl w U.heap ∧ va_K D vwCl tys U ∧ va_D (fun _ => True) w
theorem pB_blind (tys : List (ClassId × FieldType)) (w : va_W) (D : va_G) (sz : Nat) (args : List Value) : FrameBlind (va_Pc args (pB tys w D sz)) := fun a U g mk q => ⟨q.1, q.2.1, q.2.2.1, va_K.moved (u := U) (U := U.calling g mk a) (Vm.Alike.refl U.vm) q.2.2.2.1, q.2.2.2.2⟩
/-- what the caller needs of the callee's name and code -/
def YV (y : MethodName) (wsy : List Cond) (n : Nat) : Prop := ∃ (bytes : ByteArray) (maxL : Nat) (rt : Option FieldType) (ws' : List Cond), wsy = Cond.code y bytes maxL rt :: ws' ∧ (y.cls ≠ "java/lang/invoke/MethodHandle" ∧ y.cls ≠ "java/lang/invoke/VarHandle" ∧ (parseMethodDescriptor y.desc).map (fun d => d.parameters.length) = some n) ∧ maxL ≤ 21
def qI (tys : List (ClassId × FieldType)) (w' : va_W) (r : Int32) (k n : Nat) : VQ := fun D A args s below => MQ below (va_Qi (fun (x : Int32) (_ : Unit) => x = r) (fun _ t => wB tys w' D A t) A) args s k n A
def CtI (y : MethodName) (ws : List Cond) (rm : Room) (tys : List (ClassId × FieldType)) (args : List Value) (w : va_W) (r : Int32) (w' : va_W) : Prop := ∀ (l : Launch) (D : va_G) (sz : Nat), Met l y ws rm (va_Pc args (pB tys w D sz)) (va_Qi (fun (x : Int32) (_ : Unit) => x = r) (fun _ t => wB tys w' D (va_A w sz) t) (va_A w sz)) 0 0 (va_A w sz)
theorem CtI_of {own : String} {y : MethodName} {ws ws' : List Cond} {rm : Room} {cc : ByteArray} {maxL : Nat} {ret : Option FieldType} {tys : List (ClassId × FieldType)} {args : List Value} {w w' : va_W} {r : Int32} (hy : plainName y.cls = true) (hyo : y.cls = own) (hw : ws = Cond.code y cc maxL ret :: ws') (hlen : (lg_sl args).length ≤ maxL)
    (h : V own cc maxL ret ws rm vX0 tys (qI tys w' r 0 0) 0 0 w 0 (lv_args 0 args) []) : CtI y ws rm tys args w r w' := by
  intro l D sz
  refine Met.ofW (cc := cc) (maxL := maxL) (ret := ret) hy hw ?_
  intro p e s m a below meth c s₁ B hml hv
  obtain ⟨rfl, hsz, hP, hK, hD0⟩ := hv
  have hown : s.vm.findClass own = some m.cls := by rw [← hyo]; exact findClass_of_methodNamed B.named
  subst hsz
  have hl := lv_entry args (n := maxL) hlen
  rw [lg_entry_eq]
  exact h p l e s m args.toArray below meth c D (va_A w s.heap.size) s.heap [] _ B.exec B.bytes B.returns hml hown (atoms_spec (ws := ws) B.pre) B.notSynchronized trivial hK (fun q h => Or.inr h) hP hD0.self va_S.rf hl
def qL (tys : List (ClassId × FieldType)) (w' : va_W) (r : Int64) (k n : Nat) : VQ := fun D A args s below => MQ below (va_Ql (fun (x : Int64) (_ : Unit) => x = r) (fun _ t => wB tys w' D A t) A) args s k n A
def CtL (y : MethodName) (ws : List Cond) (rm : Room) (tys : List (ClassId × FieldType)) (args : List Value) (w : va_W) (r : Int64) (w' : va_W) : Prop := ∀ (l : Launch) (D : va_G) (sz : Nat), Met l y ws rm (va_Pc args (pB tys w D sz)) (va_Ql (fun (x : Int64) (_ : Unit) => x = r) (fun _ t => wB tys w' D (va_A w sz) t) (va_A w sz)) 0 0 (va_A w sz)
theorem CtL_of {own : String} {y : MethodName} {ws ws' : List Cond} {rm : Room} {cc : ByteArray} {maxL : Nat} {ret : Option FieldType} {tys : List (ClassId × FieldType)} {args : List Value} {w w' : va_W} {r : Int64} (hy : plainName y.cls = true) (hyo : y.cls = own) (hw : ws = Cond.code y cc maxL ret :: ws') (hlen : (lg_sl args).length ≤ maxL)
    (h : V own cc maxL ret ws rm vX0 tys (qL tys w' r 0 0) 0 0 w 0 (lv_args 0 args) []) : CtL y ws rm tys args w r w' := by
  intro l D sz
  refine Met.ofW (cc := cc) (maxL := maxL) (ret := ret) hy hw ?_
  intro p e s m a below meth c s₁ B hml hv
  obtain ⟨rfl, hsz, hP, hK, hD0⟩ := hv
  have hown : s.vm.findClass own = some m.cls := by rw [← hyo]; exact findClass_of_methodNamed B.named
  subst hsz
  have hl := lv_entry args (n := maxL) hlen
  rw [lg_entry_eq]
  exact h p l e s m args.toArray below meth c D (va_A w s.heap.size) s.heap [] _ B.exec B.bytes B.returns hml hown (atoms_spec (ws := ws) B.pre) B.notSynchronized trivial hK (fun q h => Or.inr h) hP hD0.self va_S.rf hl
def qV (tys : List (ClassId × FieldType)) (w' : va_W) (k n : Nat) : VQ := fun D A args s below => MQ below (va_Qv (fun (_ : Unit) => True) (fun _ t => wB tys w' D A t) A) args s k n A
def CtV (y : MethodName) (ws : List Cond) (rm : Room) (tys : List (ClassId × FieldType)) (args : List Value) (w : va_W) (w' : va_W) : Prop := ∀ (l : Launch) (D : va_G) (sz : Nat), Met l y ws rm (va_Pc args (pB tys w D sz)) (va_Qv (fun (_ : Unit) => True) (fun _ t => wB tys w' D (va_A w sz) t) (va_A w sz)) 0 0 (va_A w sz)
theorem CtV_of {own : String} {y : MethodName} {ws ws' : List Cond} {rm : Room} {cc : ByteArray} {maxL : Nat} {ret : Option FieldType} {tys : List (ClassId × FieldType)} {args : List Value} {w w' : va_W} (hy : plainName y.cls = true) (hyo : y.cls = own) (hw : ws = Cond.code y cc maxL ret :: ws') (hlen : (lg_sl args).length ≤ maxL)
    (h : V own cc maxL ret ws rm vX0 tys (qV tys w' 0 0) 0 0 w 0 (lv_args 0 args) []) : CtV y ws rm tys args w w' := by
  intro l D sz
  refine Met.ofW (cc := cc) (maxL := maxL) (ret := ret) hy hw ?_
  intro p e s m a below meth c s₁ B hml hv
  obtain ⟨rfl, hsz, hP, hK, hD0⟩ := hv
  have hown : s.vm.findClass own = some m.cls := by rw [← hyo]; exact findClass_of_methodNamed B.named
  subst hsz
  have hl := lv_entry args (n := maxL) hlen
  rw [lg_entry_eq]
  exact h p l e s m args.toArray below meth c D (va_A w s.heap.size) s.heap [] _ B.exec B.bytes B.returns hml hown (atoms_spec (ws := ws) B.pre) B.notSynchronized trivial hK (fun q h => Or.inr h) hP hD0.self va_S.rf hl
section VC
variable {own : String} {cc : ByteArray} {nL : Nat} {ret : Option FieldType} {Ts : List Cond} {R : Room} {X : VX} {tys : List (ClassId × FieldType)} {Q : VQ} {k n : Nat} {ws w' : va_W} {pc : Nat} {lv : List (Nat × Value)} {st : List Value}
theorem V_iret {x r : Int32} (d : decode cc pc = .ok (.ireturn, 1)) (hret : ret = some .int) (e0 : x = r) (hw : ws = w') : V own cc nL ret Ts R X tys (qI tys w' r k n) k n ws pc lv [.int x] := by
  subst e0 hw
  intro p l e s m args below meth c D A H locs ls hx hb hr hm ho ht hk hX hK hA hP hD hS hl
  exact W.iret hx hb (hr.trans hret) (fun t ht hW => ⟨⟨x, (), rfl, rfl, by rw [ht]; exact hP, va_K.moved hW.alike hK, hD⟩, hS.F ht⟩) hS.2.2 d
theorem V_zret {x : Int32} {b : Bool} (d : decode cc pc = .ok (.ireturn, 1)) (hret : ret = some .boolean) (e0 : x = iZ (bZ b)) (hw : ws = w') : V own cc nL ret Ts R X tys (qI tys w' (iZ (bZ b)) k n) k n ws pc lv [.int x] := by
  subst e0 hw
  intro p l e s m args below meth c D A H locs ls hx hb hr hm ho ht hk hX hK hA hP hD hS hl
  exact W.zret hx hb (hr.trans hret) (by cases b <;> rfl) (fun t ht hW => ⟨⟨_, (), rfl, rfl, by rw [ht]; exact hP, va_K.moved hW.alike hK, hD⟩, hS.F ht⟩) hS.2.2 d
theorem V_lret {x r : Int64} (d : decode cc pc = .ok (.lreturn, 1)) (hret : ret = some .long) (e0 : x = r) (hw : ws = w') : V own cc nL ret Ts R X tys (qL tys w' r k n) k n ws pc lv [.long x] := by
  subst e0 hw
  intro p l e s m args below meth c D A H locs ls hx hb hr hm ho ht hk hX hK hA hP hD hS hl
  exact W.lret hx hb (hr.trans hret) (fun t ht hW => ⟨⟨x, (), rfl, rfl, by rw [ht]; exact hP, va_K.moved hW.alike hK, hD⟩, hS.F ht⟩) hS.2.2 d
theorem V_vret (d : decode cc pc = .ok (.return_, 1)) (hret : ret = none) (hw : ws = w') : V own cc nL ret Ts R X tys (qV tys w' k n) k n ws pc lv [] := by
  subst hw
  intro p l e s m args below meth c D A H locs ls hx hb hr hm ho ht hk hX hK hA hP hD hS hl
  exact W.vret hx hb (hr.trans hret) (fun t ht hW => ⟨⟨(), rfl, trivial, by rw [ht]; exact hP, va_K.moved hW.alike hK, hD⟩, hS.F ht⟩) hS.2.2 d
theorem V_callIv {q idx n' dc : Nat} {y : MethodName} {wsy : List Cond} {C : String} {b ci : Nat} {fs : List Value} {qq : vw_C} {As rest st0 : List Value} {r : Int32} (d : decode cc pc = .ok (.invokevirtual idx, 3)) (hM : CtI y wsy (rmD dc) tys (.ref b :: As) ws r w') (hY : YV y wsy n') (hn : As.length = n') (hG : GoodIn Ts (wsV own idx C y wsy)) (hC : y.cls = C) (q0 : Nat) (he : ws[q0]? = some (b, .inr (ci, fs))) (hc : vwCl[ci]? = some qq) (hC2 : qq.1 = C) (hst : st0 = As.reverse ++ .ref b :: rest) (hrest : (rest.map fun v => v.category).sum ≤ 8) (hR : dc + 1 ≤ R.frames ∧ 40 * dc + 40 ≤ R.locals ∧ k ≤ R.cells ∧ n ≤ R.slots)
    (h : V own cc nL ret Ts R X tys Q k n w' q lv (.int r :: rest)) (hq : pc + 3 = q := by rfl) : V own cc nL ret Ts R X tys Q k n ws pc lv st0 := by
  subst hq
  subst hst
  intro p l e s m args below meth c D A H locs ls hx hb hr hm ho ht hk hX hK hA hP hD hS hl
  have hFc : ∀ z, va_A ws H.size z → A z := fun z hz => hz.elim (fun ⟨j, e, he⟩ => hD.2 j _ he) (fun h => hA z (Nat.le_trans hS.1 h))
  obtain ⟨bytes, maxL, rt, wy', hw, hd1, hmL⟩ := hY
  have hR2 : (rmD dc).frames + 1 ≤ R.frames ∧ 8 + (maxL + 11) + (rmD dc).locals ≤ R.locals := ⟨hR.1, by have h1 := hR.2.1; show 8 + (maxL + 11) + 40 * dc ≤ R.locals; omega⟩
  refine va_calli (va_runV (As := As) (rest := rest) ⟨hx, hb, hm, ho, ht⟩ (hM l D H.size) (cwV n' ht hG hw rfl rfl ⟨hC, hd1⟩ hR2) ⟨pB_blind _ _ _ _ _, by rw [← hC2]; exact va_recv hK hP hc he, fun U hU hW => ⟨rfl, by rw [hU], by rw [hU]; exact hP, va_K.moved hW.alike hK, hD.weaken (fun _ _ _ _ => trivial)⟩⟩ rfl hn hl.1 rfl (lv_room hrest) d ⟨hR.2.2.1, hR.2.2.2⟩) hS (fun z _ h => hFc z h) hFc (fun r' u t H1 locs1 ht1 hvm hw1 hB hz1 hk1 hS1 => ?_)
  obtain ⟨hP1, hK1, hD1⟩ := hB
  rw [ht1] at hP1
  subst hw1
  exact h p l e s m args below meth c D A H1 locs1 ls hx hb hr hm ho ht hk hX hK hA hP1 (hD1.weaken (fun _ z _ hz => hFc z.1 hz)) hS1 hl
theorem V_callIs {q idx n' dc : Nat} {y : MethodName} {wsy : List Cond} {As rest st0 : List Value} {r : Int32} (d : decode cc pc = .ok (.invokestatic idx, 3)) (hM : CtI y wsy (rmD dc) tys As ws r w') (hY : YV y wsy n') (hn : As.length = n') (hG : GoodIn Ts (va_wsS own idx y wsy)) (hst : st0 = As.reverse ++ rest) (hrest : (rest.map fun v => v.category).sum ≤ 8) (hR : dc + 1 ≤ R.frames ∧ 40 * dc + 40 ≤ R.locals ∧ k ≤ R.cells ∧ n ≤ R.slots)
    (h : V own cc nL ret Ts R X tys Q k n w' q lv (.int r :: rest)) (hq : pc + 3 = q := by rfl) : V own cc nL ret Ts R X tys Q k n ws pc lv st0 := by
  subst hq
  subst hst
  intro p l e s m args below meth c D A H locs ls hx hb hr hm ho ht hk hX hK hA hP hD hS hl
  have hFc : ∀ z, va_A ws H.size z → A z := fun z hz => hz.elim (fun ⟨j, e, he⟩ => hD.2 j _ he) (fun h => hA z (Nat.le_trans hS.1 h))
  obtain ⟨bytes, maxL, rt, wy', hw, hd1, hmL⟩ := hY
  have hR2 : (rmD dc).frames + 1 ≤ R.frames ∧ 8 + (maxL + 11) + (rmD dc).locals ≤ R.locals := ⟨hR.1, by have h1 := hR.2.1; show 8 + (maxL + 11) + 40 * dc ≤ R.locals; omega⟩
  refine va_calli (va_runS (As := As) (rest := rest) ⟨hx, hb, hm, ho, ht⟩ (hM l D H.size) (va_cwS n' ht hG hw rfl rfl hd1 hR2) ⟨pB_blind _ _ _ _ _, fun U hU hW => ⟨rfl, by rw [hU], by rw [hU]; exact hP, va_K.moved hW.alike hK, hD.weaken (fun _ _ _ _ => trivial)⟩⟩ rfl hn hl.1 rfl (lv_room hrest) d ⟨hR.2.2.1, hR.2.2.2⟩) hS (fun z _ h => hFc z h) hFc (fun r' u t H1 locs1 ht1 hvm hw1 hB hz1 hk1 hS1 => ?_)
  obtain ⟨hP1, hK1, hD1⟩ := hB
  rw [ht1] at hP1
  subst hw1
  exact h p l e s m args below meth c D A H1 locs1 ls hx hb hr hm ho ht hk hX hK hA hP1 (hD1.weaken (fun _ z _ hz => hFc z.1 hz)) hS1 hl
theorem V_callLv {q idx n' dc : Nat} {y : MethodName} {wsy : List Cond} {C : String} {b ci : Nat} {fs : List Value} {qq : vw_C} {As rest st0 : List Value} {r : Int64} (d : decode cc pc = .ok (.invokevirtual idx, 3)) (hM : CtL y wsy (rmD dc) tys (.ref b :: As) ws r w') (hY : YV y wsy n') (hn : As.length = n') (hG : GoodIn Ts (wsV own idx C y wsy)) (hC : y.cls = C) (q0 : Nat) (he : ws[q0]? = some (b, .inr (ci, fs))) (hc : vwCl[ci]? = some qq) (hC2 : qq.1 = C) (hst : st0 = As.reverse ++ .ref b :: rest) (hrest : (rest.map fun v => v.category).sum ≤ 8) (hR : dc + 1 ≤ R.frames ∧ 40 * dc + 40 ≤ R.locals ∧ k ≤ R.cells ∧ n ≤ R.slots)
    (h : V own cc nL ret Ts R X tys Q k n w' q lv (.long r :: rest)) (hq : pc + 3 = q := by rfl) : V own cc nL ret Ts R X tys Q k n ws pc lv st0 := by
  subst hq
  subst hst
  intro p l e s m args below meth c D A H locs ls hx hb hr hm ho ht hk hX hK hA hP hD hS hl
  have hFc : ∀ z, va_A ws H.size z → A z := fun z hz => hz.elim (fun ⟨j, e, he⟩ => hD.2 j _ he) (fun h => hA z (Nat.le_trans hS.1 h))
  obtain ⟨bytes, maxL, rt, wy', hw, hd1, hmL⟩ := hY
  have hR2 : (rmD dc).frames + 1 ≤ R.frames ∧ 8 + (maxL + 11) + (rmD dc).locals ≤ R.locals := ⟨hR.1, by have h1 := hR.2.1; show 8 + (maxL + 11) + 40 * dc ≤ R.locals; omega⟩
  refine va_calll (va_runV (As := As) (rest := rest) ⟨hx, hb, hm, ho, ht⟩ (hM l D H.size) (cwV n' ht hG hw rfl rfl ⟨hC, hd1⟩ hR2) ⟨pB_blind _ _ _ _ _, by rw [← hC2]; exact va_recv hK hP hc he, fun U hU hW => ⟨rfl, by rw [hU], by rw [hU]; exact hP, va_K.moved hW.alike hK, hD.weaken (fun _ _ _ _ => trivial)⟩⟩ rfl hn hl.1 rfl (lv_room hrest) d ⟨hR.2.2.1, hR.2.2.2⟩) hS (fun z _ h => hFc z h) hFc (fun r' u t H1 locs1 ht1 hvm hw1 hB hz1 hk1 hS1 => ?_)
  obtain ⟨hP1, hK1, hD1⟩ := hB
  rw [ht1] at hP1
  subst hw1
  exact h p l e s m args below meth c D A H1 locs1 ls hx hb hr hm ho ht hk hX hK hA hP1 (hD1.weaken (fun _ z _ hz => hFc z.1 hz)) hS1 hl
theorem V_callLs {q idx n' dc : Nat} {y : MethodName} {wsy : List Cond} {As rest st0 : List Value} {r : Int64} (d : decode cc pc = .ok (.invokestatic idx, 3)) (hM : CtL y wsy (rmD dc) tys As ws r w') (hY : YV y wsy n') (hn : As.length = n') (hG : GoodIn Ts (va_wsS own idx y wsy)) (hst : st0 = As.reverse ++ rest) (hrest : (rest.map fun v => v.category).sum ≤ 8) (hR : dc + 1 ≤ R.frames ∧ 40 * dc + 40 ≤ R.locals ∧ k ≤ R.cells ∧ n ≤ R.slots)
    (h : V own cc nL ret Ts R X tys Q k n w' q lv (.long r :: rest)) (hq : pc + 3 = q := by rfl) : V own cc nL ret Ts R X tys Q k n ws pc lv st0 := by
  subst hq
  subst hst
  intro p l e s m args below meth c D A H locs ls hx hb hr hm ho ht hk hX hK hA hP hD hS hl
  have hFc : ∀ z, va_A ws H.size z → A z := fun z hz => hz.elim (fun ⟨j, e, he⟩ => hD.2 j _ he) (fun h => hA z (Nat.le_trans hS.1 h))
  obtain ⟨bytes, maxL, rt, wy', hw, hd1, hmL⟩ := hY
  have hR2 : (rmD dc).frames + 1 ≤ R.frames ∧ 8 + (maxL + 11) + (rmD dc).locals ≤ R.locals := ⟨hR.1, by have h1 := hR.2.1; show 8 + (maxL + 11) + 40 * dc ≤ R.locals; omega⟩
  refine va_calll (va_runS (As := As) (rest := rest) ⟨hx, hb, hm, ho, ht⟩ (hM l D H.size) (va_cwS n' ht hG hw rfl rfl hd1 hR2) ⟨pB_blind _ _ _ _ _, fun U hU hW => ⟨rfl, by rw [hU], by rw [hU]; exact hP, va_K.moved hW.alike hK, hD.weaken (fun _ _ _ _ => trivial)⟩⟩ rfl hn hl.1 rfl (lv_room hrest) d ⟨hR.2.2.1, hR.2.2.2⟩) hS (fun z _ h => hFc z h) hFc (fun r' u t H1 locs1 ht1 hvm hw1 hB hz1 hk1 hS1 => ?_)
  obtain ⟨hP1, hK1, hD1⟩ := hB
  rw [ht1] at hP1
  subst hw1
  exact h p l e s m args below meth c D A H1 locs1 ls hx hb hr hm ho ht hk hX hK hA hP1 (hD1.weaken (fun _ z _ hz => hFc z.1 hz)) hS1 hl
theorem V_callVv {q idx n' dc : Nat} {y : MethodName} {wsy : List Cond} {C : String} {b ci : Nat} {fs : List Value} {qq : vw_C} {As rest st0 : List Value} (d : decode cc pc = .ok (.invokevirtual idx, 3)) (hM : CtV y wsy (rmD dc) tys (.ref b :: As) ws w') (hY : YV y wsy n') (hn : As.length = n') (hG : GoodIn Ts (wsV own idx C y wsy)) (hC : y.cls = C) (q0 : Nat) (he : ws[q0]? = some (b, .inr (ci, fs))) (hc : vwCl[ci]? = some qq) (hC2 : qq.1 = C) (hst : st0 = As.reverse ++ .ref b :: rest) (hrest : (rest.map fun v => v.category).sum ≤ 8) (hR : dc + 1 ≤ R.frames ∧ 40 * dc + 40 ≤ R.locals ∧ k ≤ R.cells ∧ n ≤ R.slots)
    (h : V own cc nL ret Ts R X tys Q k n w' q lv rest) (hq : pc + 3 = q := by rfl) : V own cc nL ret Ts R X tys Q k n ws pc lv st0 := by
  subst hq
  subst hst
  intro p l e s m args below meth c D A H locs ls hx hb hr hm ho ht hk hX hK hA hP hD hS hl
  have hFc : ∀ z, va_A ws H.size z → A z := fun z hz => hz.elim (fun ⟨j, e, he⟩ => hD.2 j _ he) (fun h => hA z (Nat.le_trans hS.1 h))
  obtain ⟨bytes, maxL, rt, wy', hw, hd1, hmL⟩ := hY
  have hR2 : (rmD dc).frames + 1 ≤ R.frames ∧ 8 + (maxL + 11) + (rmD dc).locals ≤ R.locals := ⟨hR.1, by have h1 := hR.2.1; show 8 + (maxL + 11) + 40 * dc ≤ R.locals; omega⟩
  refine va_callv (va_runV (As := As) (rest := rest) ⟨hx, hb, hm, ho, ht⟩ (hM l D H.size) (cwV n' ht hG hw rfl rfl ⟨hC, hd1⟩ hR2) ⟨pB_blind _ _ _ _ _, by rw [← hC2]; exact va_recv hK hP hc he, fun U hU hW => ⟨rfl, by rw [hU], by rw [hU]; exact hP, va_K.moved hW.alike hK, hD.weaken (fun _ _ _ _ => trivial)⟩⟩ rfl hn hl.1 rfl (lv_room hrest) d ⟨hR.2.2.1, hR.2.2.2⟩) hS (fun z _ h => hFc z h) hFc (fun u t H1 locs1 ht1 hvm hw1 hB hz1 hk1 hS1 => ?_)
  obtain ⟨hP1, hK1, hD1⟩ := hB
  rw [ht1] at hP1
  exact h p l e s m args below meth c D A H1 locs1 ls hx hb hr hm ho ht hk hX hK hA hP1 (hD1.weaken (fun _ z _ hz => hFc z.1 hz)) hS1 hl
theorem V_callVs {q idx n' dc : Nat} {y : MethodName} {wsy : List Cond} {As rest st0 : List Value} (d : decode cc pc = .ok (.invokestatic idx, 3)) (hM : CtV y wsy (rmD dc) tys As ws w') (hY : YV y wsy n') (hn : As.length = n') (hG : GoodIn Ts (va_wsS own idx y wsy)) (hst : st0 = As.reverse ++ rest) (hrest : (rest.map fun v => v.category).sum ≤ 8) (hR : dc + 1 ≤ R.frames ∧ 40 * dc + 40 ≤ R.locals ∧ k ≤ R.cells ∧ n ≤ R.slots)
    (h : V own cc nL ret Ts R X tys Q k n w' q lv rest) (hq : pc + 3 = q := by rfl) : V own cc nL ret Ts R X tys Q k n ws pc lv st0 := by
  subst hq
  subst hst
  intro p l e s m args below meth c D A H locs ls hx hb hr hm ho ht hk hX hK hA hP hD hS hl
  have hFc : ∀ z, va_A ws H.size z → A z := fun z hz => hz.elim (fun ⟨j, e, he⟩ => hD.2 j _ he) (fun h => hA z (Nat.le_trans hS.1 h))
  obtain ⟨bytes, maxL, rt, wy', hw, hd1, hmL⟩ := hY
  have hR2 : (rmD dc).frames + 1 ≤ R.frames ∧ 8 + (maxL + 11) + (rmD dc).locals ≤ R.locals := ⟨hR.1, by have h1 := hR.2.1; show 8 + (maxL + 11) + 40 * dc ≤ R.locals; omega⟩
  refine va_callv (va_runS (As := As) (rest := rest) ⟨hx, hb, hm, ho, ht⟩ (hM l D H.size) (va_cwS n' ht hG hw rfl rfl hd1 hR2) ⟨pB_blind _ _ _ _ _, fun U hU hW => ⟨rfl, by rw [hU], by rw [hU]; exact hP, va_K.moved hW.alike hK, hD.weaken (fun _ _ _ _ => trivial)⟩⟩ rfl hn hl.1 rfl (lv_room hrest) d ⟨hR.2.2.1, hR.2.2.2⟩) hS (fun z _ h => hFc z h) hFc (fun u t H1 locs1 ht1 hvm hw1 hB hz1 hk1 hS1 => ?_)
  obtain ⟨hP1, hK1, hD1⟩ := hB
  rw [ht1] at hP1
  exact h p l e s m args below meth c D A H1 locs1 ls hx hb hr hm ho ht hk hX hK hA hP1 (hD1.weaken (fun _ z _ hz => hFc z.1 hz)) hS1 hl
end VC
end
section
/-! the common state of both objects, and the cells that hold it -/
abbrev St : Type := Nat × Nat × (Nat → Nat) × (Nat → Nat) × (Nat → Nat) × (Nat → Nat) × (Nat → Nat) × (Nat → Nat) × (Nat → Bool) × (Nat → Bool) × (Nat → Nat)
def sN (S : St) : Nat := S.1
def sT (S : St) : Nat := S.2.1
def sK (S : St) : Nat → Nat := S.2.2.1
def sC (S : St) : Nat → Nat := S.2.2.2.1
def sW (S : St) : Nat → Nat := S.2.2.2.2.1
def sM (S : St) : Nat → Nat := S.2.2.2.2.2.1
def sR (S : St) : Nat → Nat := S.2.2.2.2.2.2.1
def sL (S : St) : Nat → Nat := S.2.2.2.2.2.2.2.1
def sG (S : St) : Nat → Bool := S.2.2.2.2.2.2.2.2.1
def sX (S : St) : Nat → Bool := S.2.2.2.2.2.2.2.2.2.1
def sE (S : St) : Nat → Nat := S.2.2.2.2.2.2.2.2.2.2
def uT (S : St) (t : Nat) : St := (sN S, t, sK S, sC S, sW S, sM S, sR S, sL S, sG S, sX S, sE S)
def uL (S : St) (f : Nat → Nat) : St := (sN S, sT S, sK S, sC S, sW S, sM S, sR S, f, sG S, sX S, sE S)
def uG (S : St) (f : Nat → Bool) : St := (sN S, sT S, sK S, sC S, sW S, sM S, sR S, sL S, f, sX S, sE S)
def uX (S : St) (f : Nat → Bool) : St := (sN S, sT S, sK S, sC S, sW S, sM S, sR S, sL S, sG S, f, sE S)
def uE (S : St) (f : Nat → Nat) : St := (sN S, sT S, sK S, sC S, sW S, sM S, sR S, sL S, sG S, sX S, f)
def fu {α : Type} (f : Nat → α) (k : Nat) (v : α) : Nat → α := fun j => if j = k then v else f j
def uA (S : St) (k c w m r : Nat) : St := (sN S + 1, sT S, fu (sK S) (sN S) k, fu (sC S) (sN S) c, fu (sW S) (sN S) w, fu (sM S) (sN S) m, fu (sR S) (sN S) r, fu (sL S) (sN S) m, sG S, sX S, sE S)
/-- what holds of every state that is reached -/
def Ok (S : St) : Prop := sN S ≤ 12 ∧ sT S ≤ 10000 ∧ (∀ j, sK S j ≤ 2) ∧ (∀ j, sC S j ≤ 7) ∧ (∀ j, sW S j ≤ 10) ∧ (∀ j, sM S j ≤ 9) ∧ (∀ j, sR S j ≤ 2) ∧ (∀ j, sL S j ≤ sM S j) ∧ (∀ i, sE S i ≤ sT S + 1) ∧ (∀ a b, a ≤ 7 → b ≤ 7 → sX S (8 * a + b) = sX S (8 * b + a)) ∧ (∀ j, sN S ≤ j → sG S j = false)
def hasT (S : St) (j : Nat) : Bool := decide (j < sN S) && !(sG S j)
def bits (p : Nat → Bool) : Nat → Nat
  | 0 => 0
  | n + 1 => bits p n + (if p n then 2 ^ n else 0)
def fr (e : Nat) : Nat := if e = 0 then 0 else e + 6
def ow (S : St) : Int32 := iZ (bits (hasT S) 12)
def clL (S : St) : Int64 := lN (bits (sX S) 64)
abbrev iF (f : Nat → Nat) : Nat → Int32 := fun j => iZ (f j)
abbrev zF (f : Nat → Bool) : Nat → Int32 := fun j => iZ (bZ (f j))
def wkc (a : Nat → Nat) (c : Nat → ClassId) (S : St) (g : Nat → Nat) : va_W := [(a 0, .inr (0, [.ref (a 1), .ref (a 2), .ref (a 3), .ref (a 4), .ref (a 5), .ref (a 6), .int (iZ (sN S)), .int (ow S), .int (iZ (sT S)), .long (clL S), .ref (a 7), .ref (a 8)])), (a 1, .inl (c 1, 12, .inl (iF (sK S)))), (a 2, .inl (c 2, 12, .inl (iF (sC S)))), (a 3, .inl (c 3, 12, .inl (iF (sW S)))), (a 4, .inl (c 4, 12, .inl (iF (sM S)))), (a 5, .inl (c 5, 12, .inl (iF (sR S)))), (a 6, .inl (c 6, 12, .inl (iF (sL S)))), (a 7, .inl (c 7, 1152, .inl (iF (fun i => fr (sE S i))))), (a 8, .inl (c 8, 12, .inl (iF g)))]
def tyk (c : Nat → ClassId) : List (ClassId × FieldType) := [(c 1, .int), (c 2, .int), (c 3, .int), (c 4, .int), (c 5, .int), (c 6, .int), (c 7, .int), (c 8, .int)]
def mkc (b : Nat → Nat) (d : Nat → ClassId) (S : St) (g : Nat → Nat) (th : Nat) : va_W := [(b 0, .inr (1, [.int (iZ (sT S)), .int (iZ (sN S)), .ref (b 1), .ref (b 2), .ref (b 3), .ref (b 4), .ref (b 5), .ref (b 6), .ref (b 7), .ref (b 8), .ref (b 9), .ref (b 10), .int (iZ th)])), (b 1, .inl (d 1, 12, .inl (zF (sG S)))), (b 2, .inl (d 2, 12, .inl (iF (sK S)))), (b 3, .inl (d 3, 12, .inl (iF (sC S)))), (b 4, .inl (d 4, 12, .inl (iF (sW S)))), (b 5, .inl (d 5, 12, .inl (iF (sM S)))), (b 6, .inl (d 6, 12, .inl (iF (sR S)))), (b 7, .inl (d 7, 12, .inl (iF (sL S)))), (b 8, .inl (d 8, 64, .inl (zF (sX S)))), (b 9, .inl (d 9, 1152, .inl (iF (sE S)))), (b 10, .inl (d 10, 12, .inl (iF g)))]
def tym (d : Nat → ClassId) : List (ClassId × FieldType) := [(d 1, .boolean), (d 2, .int), (d 3, .int), (d 4, .int), (d 5, .int), (d 6, .int), (d 7, .int), (d 8, .boolean), (d 9, .int), (d 10, .int)]
/-! numbers -/
theorem bZ_t {b : Bool} (h : b = true) : iZ 1 = iZ (bZ b) := by subst h; rfl
theorem bZ_f {b : Bool} (h : b = false) : iZ 0 = iZ (bZ b) := by subst h; rfl
theorem bits_lt (p : Nat → Bool) : ∀ n, bits p n < 2 ^ n
  | 0 => Nat.zero_lt_one
  | n + 1 => by
    have h := bits_lt p n
    show bits p n + (if p n then 2 ^ n else 0) < 2 ^ (n + 1)
    rw [Nat.pow_succ]
    split <;> omega
theorem bits_le {p : Nat → Bool} {n m : Nat} (h : n ≤ m) : bits p n < 2 ^ m := Nat.lt_of_lt_of_le (bits_lt p n) (Nat.pow_le_pow_right (by decide) h)
theorem bits_cong {p q : Nat → Bool} : ∀ {n : Nat}, (∀ i, i < n → p i = q i) → bits p n = bits q n
  | 0, _ => rfl
  | n + 1, h => by
    show bits p n + (if p n then 2 ^ n else 0) = bits q n + (if q n then 2 ^ n else 0)
    rw [bits_cong (fun i hi => h i (Nat.lt_succ_of_lt hi)), h n (Nat.lt_succ_self n)]
theorem bits_tb (p : Nat → Bool) : ∀ (n i : Nat), (bits p n).testBit i = (decide (i < n) && p i)
  | 0, i => by simp [bits]
  | n + 1, i => by
    have ih := bits_tb p n i
    have hl := bits_lt p n
    show (bits p n + (if p n then 2 ^ n else 0)).testBit i = _
    by_cases hp : p n = true
    · rw [if_pos hp, Nat.add_comm]
      rcases Nat.lt_trichotomy i n with h | h | h
      · rw [Nat.testBit_two_pow_add_gt h, ih]
        simp [h, Nat.lt_succ_of_lt h]
      · subst h
        rw [Nat.testBit_two_pow_add_eq, Nat.testBit_lt_two_pow hl]
        simp [hp]
      · rw [Nat.testBit_lt_two_pow]
        · simp; intro h2; omega
        · have h2 : 2 ^ (n + 1) ≤ 2 ^ i := Nat.pow_le_pow_right (by decide) h
          rw [Nat.pow_succ] at h2
          omega
    · have hp' : p n = false := by cases h : p n <;> simp_all
      rw [if_neg hp, Nat.add_zero, ih]
      rcases Nat.lt_trichotomy i n with h | h | h
      · simp [h, Nat.lt_succ_of_lt h]
      · subst h; simp [hp']
      · have h1 : ¬ i < n := by omega
        have h2 : ¬ i < n + 1 := by omega
        simp [h1, h2]
theorem tb_ext {x y : Nat} (h : ∀ i, x.testBit i = y.testBit i) : x = y := Nat.eq_of_testBit_eq h
theorem s_l : ∀ n, n < 32 → ((nI n &&& 31).toBitVec.smod 32).toNat = n := by decide +kernel
theorem z_and (a b : Nat) : iZ a &&& iZ b = iZ ((a &&& b : Nat) : Int) := by
  rw [iZ_nI, iZ_nI, iZ_nI]
  apply Int32.toBitVec.inj
  show (BitVec.ofNat 32 a) &&& (BitVec.ofNat 32 b) = BitVec.ofNat 32 (a &&& b)
  exact (BitVec.ofNat_and ..).symm
theorem z_or (a b : Nat) : iZ a ||| iZ b = iZ ((a ||| b : Nat) : Int) := by
  rw [iZ_nI, iZ_nI, iZ_nI]
  apply Int32.toBitVec.inj
  show (BitVec.ofNat 32 a) ||| (BitVec.ofNat 32 b) = BitVec.ofNat 32 (a ||| b)
  exact (BitVec.ofNat_or ..).symm
theorem z_shr {a k : Nat} (ha : a < 2147483648) (hk : k < 32) : iZ a >>> (iZ k &&& 31) = iZ ((a / 2 ^ k : Nat) : Int) := by
  rw [iZ_nI, iZ_nI, iZ_nI]
  exact pk_shrN ha _ k (s_l k hk)
theorem z_shl {a k : Nat} (hk : k < 32) (h : a * 2 ^ k < 4294967296) : iZ a <<< (iZ k &&& 31) = iZ ((a * 2 ^ k : Nat) : Int) := by
  rw [iZ_nI, iZ_nI, iZ_nI]
  exact pk_shlN _ k (s_l k hk) h
theorem z_tb {x k : Nat} (hx : x < 2147483648) (hk : k < 32) : (iZ x >>> (iZ k &&& 31)) &&& iZ 1 = iZ (bZ (x.testBit k)) := by
  rw [z_shr hx hk, show (iZ 1 : Int32) = iZ ((1 : Nat) : Int) from rfl, z_and]
  congr 1
  rw [Nat.and_one_is_mod, Nat.testBit_eq_decide_div_mod_eq]
  rcases Nat.mod_two_eq_zero_or_one (x / 2 ^ k) with h | h <;> rw [h] <;> rfl
theorem ow_tb (S : St) {k : Nat} (hk : k < 12) : (ow S >>> (iZ k &&& 31)) &&& iZ 1 = iZ (bZ (hasT S k)) := by
  unfold ow
  rw [z_tb (Nat.lt_trans (bits_lt _ _) (by decide)) (by omega), bits_tb]
  simp [hk]
/-! one cell written anew -/
theorem wk6 {a : Nat → Nat} {c : Nat → ClassId} {S : St} {g : Nat → Nat} (f : Nat → Nat) : (wkc a c S g).set 6 (a 6, .inl (c 6, 12, .inl (iF f))) = wkc a c (uL S f) g := rfl
theorem wk7 {a : Nat → Nat} {c : Nat → ClassId} {S : St} {g : Nat → Nat} (F : Nat → Nat) : (wkc a c S g).set 7 (a 7, .inl (c 7, 1152, .inl (iF (fun i => fr (F i))))) = wkc a c (uE S F) g := rfl
theorem wk8 {a : Nat → Nat} {c : Nat → ClassId} {S : St} {g : Nat → Nat} (f : Nat → Nat) : (wkc a c S g).set 8 (a 8, .inl (c 8, 12, .inl (iF f))) = wkc a c S f := rfl
theorem mk7 {b : Nat → Nat} {d : Nat → ClassId} {S : St} {g : Nat → Nat} {th : Nat} (f : Nat → Nat) : (mkc b d S g th).set 7 (b 7, .inl (d 7, 12, .inl (iF f))) = mkc b d (uL S f) g th := rfl
theorem mk9 {b : Nat → Nat} {d : Nat → ClassId} {S : St} {g : Nat → Nat} {th : Nat} (f : Nat → Nat) : (mkc b d S g th).set 9 (b 9, .inl (d 9, 1152, .inl (iF f))) = mkc b d (uE S f) g th := rfl
theorem mk10 {b : Nat → Nat} {d : Nat → ClassId} {S : St} {g : Nat → Nat} {th : Nat} (f : Nat → Nat) : (mkc b d S g th).set 10 (b 10, .inl (d 10, 12, .inl (iF f))) = mkc b d S f th := rfl
theorem mk1 {b : Nat → Nat} {d : Nat → ClassId} {S : St} {g : Nat → Nat} {th : Nat} (f : Nat → Bool) : (mkc b d S g th).set 1 (b 1, .inl (d 1, 12, .inl (zF f))) = mkc b d (uG S f) g th := rfl
theorem mk8 {b : Nat → Nat} {d : Nat → ClassId} {S : St} {g : Nat → Nat} {th : Nat} (f : Nat → Bool) : (mkc b d S g th).set 8 (b 8, .inl (d 8, 64, .inl (zF f))) = mkc b d (uX S f) g th := rfl
theorem uE_uE (S : St) (F F' : Nat → Nat) : uE (uE S F) F' = uE S F' := rfl
theorem sE_uE (S : St) (F : Nat → Nat) : sE (uE S F) = F := rfl
theorem uL_uL (S : St) (F F' : Nat → Nat) : uL (uL S F) F' = uL S F' := rfl
theorem sL_uL (S : St) (F : Nat → Nat) : sL (uL S F) = F := rfl
theorem uE_self (S : St) : uE S (sE S) = S := rfl
theorem uL_self (S : St) : uL S (sL S) = S := rfl
def uK (S : St) (f : Nat → Nat) : St := (sN S, sT S, f, sC S, sW S, sM S, sR S, sL S, sG S, sX S, sE S)
def uC (S : St) (f : Nat → Nat) : St := (sN S, sT S, sK S, f, sW S, sM S, sR S, sL S, sG S, sX S, sE S)
def uW (S : St) (f : Nat → Nat) : St := (sN S, sT S, sK S, sC S, f, sM S, sR S, sL S, sG S, sX S, sE S)
def uM (S : St) (f : Nat → Nat) : St := (sN S, sT S, sK S, sC S, sW S, f, sR S, sL S, sG S, sX S, sE S)
def uR (S : St) (f : Nat → Nat) : St := (sN S, sT S, sK S, sC S, sW S, sM S, f, sL S, sG S, sX S, sE S)
def uN (S : St) (n : Nat) : St := (n, sT S, sK S, sC S, sW S, sM S, sR S, sL S, sG S, sX S, sE S)
def fkc (a : Nat → Nat) (n o t : Int32) (cl : Int64) : List Value := [.ref (a 1), .ref (a 2), .ref (a 3), .ref (a 4), .ref (a 5), .ref (a 6), .int n, .int o, .int t, .long cl, .ref (a 7), .ref (a 8)]
def wtl (a : Nat → Nat) (c : Nat → ClassId) (S : St) (g : Nat → Nat) : va_W := [(a 1, .inl (c 1, 12, .inl (iF (sK S)))), (a 2, .inl (c 2, 12, .inl (iF (sC S)))), (a 3, .inl (c 3, 12, .inl (iF (sW S)))), (a 4, .inl (c 4, 12, .inl (iF (sM S)))), (a 5, .inl (c 5, 12, .inl (iF (sR S)))), (a 6, .inl (c 6, 12, .inl (iF (sL S)))), (a 7, .inl (c 7, 1152, .inl (iF (fun i => fr (sE S i))))), (a 8, .inl (c 8, 12, .inl (iF g)))]
def wkr (a : Nat → Nat) (c : Nat → ClassId) (S : St) (g : Nat → Nat) (n o t : Int32) (cl : Int64) : va_W := (a 0, .inr (0, fkc a n o t cl)) :: wtl a c S g
section WK
variable {a b : Nat → Nat} {c d : Nat → ClassId} {S : St} {g : Nat → Nat} {th : Nat}
theorem wk1 (f : Nat → Nat) : (wkc a c S g).set 1 (a 1, .inl (c 1, 12, .inl (iF f))) = wkc a c (uK S f) g := rfl
theorem wk2 (f : Nat → Nat) : (wkc a c S g).set 2 (a 2, .inl (c 2, 12, .inl (iF f))) = wkc a c (uC S f) g := rfl
theorem wk3 (f : Nat → Nat) : (wkc a c S g).set 3 (a 3, .inl (c 3, 12, .inl (iF f))) = wkc a c (uW S f) g := rfl
theorem wk4 (f : Nat → Nat) : (wkc a c S g).set 4 (a 4, .inl (c 4, 12, .inl (iF f))) = wkc a c (uM S f) g := rfl
theorem wk5 (f : Nat → Nat) : (wkc a c S g).set 5 (a 5, .inl (c 5, 12, .inl (iF f))) = wkc a c (uR S f) g := rfl
theorem wkO (o : Int32) : (wkc a c S g).set 0 (a 0, .inr (0, (fkc a (iZ (sN S)) (ow S) (iZ (sT S)) (clL S)).set 7 (.int o))) = wkr a c S g (iZ (sN S)) o (iZ (sT S)) (clL S) := rfl
theorem wkN (n o n2 : Int32) (t : Int32) (cl : Int64) : (wkr a c S g n o t cl).set 0 (a 0, .inr (0, (fkc a n o t cl).set 6 (.int n2))) = wkr a c S g n2 o t cl := rfl
theorem wkr_eq : wkr a c S g (iZ (sN S)) (ow S) (iZ (sT S)) (clL S) = wkc a c S g := rfl
theorem wkG (F : Nat → Bool) : (wkc a c S g).set 0 (a 0, .inr (0, (fkc a (iZ (sN S)) (ow S) (iZ (sT S)) (clL S)).set 7 (.int (ow (uG S F))))) = wkc a c (uG S F) g := rfl
theorem wkT (t : Nat) : (wkc a c S g).set 0 (a 0, .inr (0, (fkc a (iZ (sN S)) (ow S) (iZ (sT S)) (clL S)).set 8 (.int (iZ t)))) = wkc a c (uT S t) g := rfl
theorem wkX (F : Nat → Bool) : (wkc a c S g).set 0 (a 0, .inr (0, (fkc a (iZ (sN S)) (ow S) (iZ (sT S)) (clL S)).set 9 (.long (clL (uX S F))))) = wkc a c (uX S F) g := rfl
theorem mk2 (f : Nat → Nat) : (mkc b d S g th).set 2 (b 2, .inl (d 2, 12, .inl (iF f))) = mkc b d (uK S f) g th := rfl
theorem mk3 (f : Nat → Nat) : (mkc b d S g th).set 3 (b 3, .inl (d 3, 12, .inl (iF f))) = mkc b d (uC S f) g th := rfl
theorem mk4 (f : Nat → Nat) : (mkc b d S g th).set 4 (b 4, .inl (d 4, 12, .inl (iF f))) = mkc b d (uW S f) g th := rfl
theorem mk5 (f : Nat → Nat) : (mkc b d S g th).set 5 (b 5, .inl (d 5, 12, .inl (iF f))) = mkc b d (uM S f) g th := rfl
theorem mk6 (f : Nat → Nat) : (mkc b d S g th).set 6 (b 6, .inl (d 6, 12, .inl (iF f))) = mkc b d (uR S f) g th := rfl
end WK
end
section
/-! counts, sums, searches, sets as numbers -/
def cnt (p : Nat → Bool) : Nat → Nat
  | 0 => 0
  | n + 1 => cnt p n + (if p n then 1 else 0)
theorem cnt_t {p : Nat → Bool} {n : Nat} (h : p n = true) : cnt p (n + 1) = cnt p n + 1 := by simp [cnt, h]
theorem cnt_f {p : Nat → Bool} {n : Nat} (h : p n = false) : cnt p (n + 1) = cnt p n := by simp [cnt, h]
theorem cnt_le (p : Nat → Bool) : ∀ n, cnt p n ≤ n
  | 0 => Nat.le_refl 0
  | n + 1 => by
    have h := cnt_le p n
    show cnt p n + (if p n then 1 else 0) ≤ n + 1
    split <;> omega
theorem cnt_cong {p q : Nat → Bool} : ∀ {n : Nat}, (∀ i, i < n → p i = q i) → cnt p n = cnt q n
  | 0, _ => rfl
  | n + 1, h => by
    show cnt p n + (if p n then 1 else 0) = cnt q n + (if q n then 1 else 0)
    rw [cnt_cong (fun i hi => h i (Nat.lt_succ_of_lt hi)), h n (Nat.lt_succ_self n)]
def sm (f : Nat → Nat) : Nat → Nat
  | 0 => 0
  | n + 1 => sm f n + f n
theorem sm_cong {f g : Nat → Nat} : ∀ {n : Nat}, (∀ i, i < n → f i = g i) → sm f n = sm g n
  | 0, _ => rfl
  | n + 1, h => by
    show sm f n + f n = sm g n + g n
    rw [sm_cong (fun i hi => h i (Nat.lt_succ_of_lt hi)), h n (Nat.lt_succ_self n)]
theorem sm_le {f : Nat → Nat} {c : Nat} : ∀ {n : Nat}, (∀ i, i < n → f i ≤ c) → sm f n ≤ n * c
  | 0, _ => Nat.zero_le _
  | n + 1, h => by
    have h1 := sm_le (n := n) (fun i hi => h i (Nat.lt_succ_of_lt hi))
    have h2 := h n (Nat.lt_succ_self n)
    show sm f n + f n ≤ (n + 1) * c
    rw [Nat.succ_mul]
    omega
def exB (p : Nat → Bool) : Nat → Bool
  | 0 => false
  | n + 1 => exB p n || p n
theorem exB_true {p : Nat → Bool} : ∀ {n : Nat}, exB p n = true ↔ ∃ i, i < n ∧ p i = true
  | 0 => ⟨fun h => Bool.noConfusion h, fun ⟨i, h, _⟩ => absurd h (Nat.not_lt_zero i)⟩
  | n + 1 => by
    show (exB p n || p n) = true ↔ _
    rw [Bool.or_eq_true, exB_true (n := n)]
    constructor
    · rintro (⟨i, h1, h2⟩ | h)
      · exact ⟨i, Nat.lt_succ_of_lt h1, h2⟩
      · exact ⟨n, Nat.lt_succ_self n, h⟩
    · rintro ⟨i, h1, h2⟩
      rcases Nat.lt_succ_iff_lt_or_eq.mp h1 with h | h
      · exact Or.inl ⟨i, h, h2⟩
      · exact Or.inr (h ▸ h2)
theorem exB_hit {p : Nat → Bool} {n i : Nat} (hi : i < n) (h : p i = true) : exB p n = true := exB_true.mpr ⟨i, hi, h⟩
theorem exB_s {p : Nat → Bool} {n : Nat} (h1 : exB p n = false) (h2 : p n = false) : exB p (n + 1) = false := by
  show (exB p n || p n) = false
  rw [h1, h2]; rfl
theorem exB_cong {p q : Nat → Bool} : ∀ {n : Nat}, (∀ i, i < n → p i = q i) → exB p n = exB q n
  | 0, _ => rfl
  | n + 1, h => by
    show (exB p n || p n) = (exB q n || q n)
    rw [exB_cong (fun i hi => h i (Nat.lt_succ_of_lt hi)), h n (Nat.lt_succ_self n)]
/-- or of the numbers of a set -/
def orU (g : Nat → Nat) (s : Nat) : Nat → Nat
  | 0 => 0
  | n + 1 => orU g s n ||| (if s.testBit n then g n else 0)
theorem orU_t {g : Nat → Nat} {s n : Nat} (h : s.testBit n = true) : orU g s (n + 1) = orU g s n ||| g n := by simp [orU, h]
theorem orU_f {g : Nat → Nat} {s n : Nat} (h : s.testBit n = false) : orU g s (n + 1) = orU g s n := by simp [orU, h]
theorem orU_tb {g : Nat → Nat} {s : Nat} (i : Nat) : ∀ n, (orU g s n).testBit i = exB (fun j => s.testBit j && (g j).testBit i) n
  | 0 => by simp [orU, exB]
  | n + 1 => by
    show (orU g s n ||| (if s.testBit n then g n else 0)).testBit i = (exB _ n || _)
    rw [Nat.testBit_or, orU_tb i n]
    cases h : s.testBit n <;> simp [h]
theorem bits_t {p : Nat → Bool} {n : Nat} (h : p n = true) : bits p (n + 1) = bits p n ||| 2 ^ n := by
  apply Nat.eq_of_testBit_eq
  intro i
  rw [Nat.testBit_or, bits_tb, bits_tb, Nat.testBit_two_pow]
  rcases Nat.lt_trichotomy i n with q | q | q
  · have h1 : i < n + 1 := by omega
    have h2 : ¬ n = i := by omega
    simp [q, h1, h2]
  · subst q; simp [h]
  · have h1 : ¬ i < n + 1 := by omega
    have h2 : ¬ n = i := by omega
    have h3 : ¬ i < n := by omega
    simp [h1, h2, h3]
theorem bits_f {p : Nat → Bool} {n : Nat} (h : p n = false) : bits p (n + 1) = bits p n := by simp [bits, h]
theorem bits_up {p : Nat → Bool} {n : Nat} (m : Nat) (hnm : n ≤ m) (h : ∀ i, n ≤ i → p i = false) : bits p n = bits p m := by
  apply Nat.eq_of_testBit_eq
  intro i
  rw [bits_tb, bits_tb]
  rcases Nat.lt_or_ge i n with q | q
  · have h1 : i < m := by omega
    simp [q, h1]
  · simp [h i q]
theorem tb_lt {x n i : Nat} (h : x < 2 ^ n) (hi : n ≤ i) : x.testBit i = false := Nat.testBit_lt_two_pow (Nat.lt_of_lt_of_le h (Nat.pow_le_pow_right (by decide) hi))
/-- a without the members of b -/
def andn (a b : Nat) : Nat := a &&& (4294967295 ^^^ b)
theorem andn_tb {a b : Nat} (ha : a < 4294967296) (i : Nat) : (andn a b).testBit i = (a.testBit i && !b.testBit i) := by
  unfold andn
  rw [Nat.testBit_and, Nat.testBit_xor, show (4294967295 : Nat) = 2 ^ 32 - 1 from rfl, Nat.testBit_two_pow_sub_one]
  rcases Nat.lt_or_ge i 32 with h | h
  · simp [h]
  · rw [tb_lt (n := 32) ha h]; rfl
theorem z_andn (a b : Nat) : iZ a &&& (iZ b ^^^ iZ (-1)) = iZ ((andn a b : Nat) : Int) := by
  rw [show (iZ (-1) : Int32) = nI 4294967295 from rfl, iZ_nI, iZ_nI, iZ_nI]
  apply Int32.toBitVec.inj
  show (BitVec.ofNat 32 a) &&& ((BitVec.ofNat 32 b) ^^^ (BitVec.ofNat 32 4294967295)) = BitVec.ofNat 32 (andn a b)
  unfold andn
  rw [BitVec.ofNat_and, BitVec.ofNat_xor, BitVec.xor_comm]
theorem and_lt {a b n : Nat} (h : a < 2 ^ n) : a &&& b < 2 ^ n := Nat.lt_of_le_of_lt Nat.and_le_left h
theorem andn_lt {a b n : Nat} (h : a < 2 ^ n) : andn a b < 2 ^ n := and_lt h
theorem or_lt {a b n : Nat} (ha : a < 2 ^ n) (hb : b < 2 ^ n) : a ||| b < 2 ^ n := Nat.or_lt_two_pow ha hb
def pc (x : Nat) : Nat := cnt (fun i => x.testBit i) 12
theorem pc_le (x : Nat) : pc x ≤ 12 := cnt_le _ 12
end
section
/-! the class: what its small methods answer, in terms of the state -/
def hasZ (S : St) (x : Int) : Bool := decide (0 ≤ x) && hasT S x.toNat
def kdZ (S : St) (x k : Int) : Bool := hasZ S x && decide ((sK S x.toNat : Int) = k)
def clnZ (S : St) (x k : Int) : Bool := kdZ S x k && decide (0 < sL S x.toNat)
def dcZ (S : St) (x y : Int) : Bool := hasZ S x && hasZ S y && sX S (8 * sC S x.toNat + sC S y.toNat)
def fovZ (S : St) (c t b : Int) : Bool := clnZ S c 2 && !dcZ S c t && !dcZ S c b
def canZ (S : St) (t b c : Int) : Bool := clnZ S t 0 && clnZ S b 1 && !dcZ S t b && (decide (c = -1) || fovZ S c t b)
def lftZ (S : St) (x : Int) : Nat := if hasZ S x then sL S x.toNat else 0
def wrmZ (S : St) (x : Int) : Nat := if hasZ S x then sW S x.toNat else 0
def owZ (S : St) (t b c : Int) : Nat := wrmZ S t + wrmZ S b + wrmZ S c
def warmZ (S : St) (t b c w : Int) : Bool := decide (w ≤ (owZ S t b c : Int)) && canZ S t b c
theorem hasZ_lt {S : St} (ho : Ok S) {x : Int} (h : hasZ S x = true) : 0 ≤ x ∧ x < 12 ∧ (x.toNat : Int) = x ∧ x.toNat < sN S ∧ x.toNat < 12 := by
  have h1 := ho.1
  simp [hasZ, hasT] at h
  omega
theorem hasZ_no {S : St} (ho : Ok S) {x : Int} (h : (decide (0 ≤ x) && decide (x ≤ 11)) = false) : hasZ S x = false := by
  have h1 := ho.1
  simp at h
  simp [hasZ, hasT]
  omega
theorem hasZ_in {S : St} {x : Int} (h : (decide (0 ≤ x) && decide (x ≤ 11)) = true) : (0 ≤ x ∧ x ≤ 11) ∧ hasZ S x = hasT S x.toNat := by
  simp at h
  exact ⟨h, by simp [hasZ, h.1]⟩
theorem ow_tbZ (S : St) {x : Int} (h : (decide (0 ≤ x) && decide (x ≤ 11)) = true) : (ow S >>> (iZ x &&& 31)) &&& iZ 1 = iZ (bZ (hasT S x.toNat)) := by
  simp at h
  have e : x = (x.toNat : Int) := by omega
  have h2 := ow_tb S (k := x.toNat) (by omega)
  rw [← e] at h2
  exact h2
theorem yv_X0_isWithin : YV yX0_isWithin wsX0_isWithin 3 := ⟨_, _, _, _, rfl, by decide +kernel, by decide⟩
set_option maxRecDepth 100000 in
set_option maxHeartbeats 4000000 in
theorem c_X0_isWithin {tys : List (ClassId × FieldType)} {w : va_W} (x lo hi : Int) (rx : -2147483648 ≤ x ∧ x < 2147483648) (rlo : -2147483648 ≤ lo ∧ lo < 2147483648) (rhi : -2147483648 ≤ hi ∧ hi < 2147483648) : CtI yX0_isWithin wsX0_isWithin (rmD 0) tys [.int (iZ x), .int (iZ lo), .int (iZ hi)] (w) (iZ (bZ (decide (lo ≤ x) && decide (x ≤ hi)))) (w) := by
  refine CtI_of (own := RX0) (by decide) rfl rfl (Nat.le_of_ble_eq_true rfl) ?_
  refine V_lvq (lv' := [(0, _), (1, _), (2, _)]) rfl ?_
  refine V_iload_n (q := 1) dX0_isWithin_0 0 rfl rfl ?_
  refine V_iload_n (q := 2) dX0_isWithin_1 1 rfl rfl ?_
  refine V_icmp_lt (q := 5) (tgt := 14) dX0_isWithin_2 (by omega) (by omega) (by decide) (fun c2 => ?_) (fun c2 => ?_)
  · skip
    refine V_iconst (q := 15) dX0_isWithin_14 rfl ?_
    exact V_zret dX0_isWithin_15 rfl (by first | exact bZ_t (by simp; omega) | exact bZ_f (by simp; omega)) rfl
  · skip
    refine V_iload_n (q := 6) dX0_isWithin_5 0 rfl rfl ?_
    refine V_iload_n (q := 7) dX0_isWithin_6 2 rfl rfl ?_
    refine V_icmp_gt (q := 10) (tgt := 14) dX0_isWithin_7 (by omega) (by omega) (by decide) (fun c7 => ?_) (fun c7 => ?_)
    · skip
      refine V_iconst (q := 15) dX0_isWithin_14 rfl ?_
      exact V_zret dX0_isWithin_15 rfl (by first | exact bZ_t (by simp; omega) | exact bZ_f (by simp; omega)) rfl
    · skip
      refine V_iconst (q := 11) dX0_isWithin_10 rfl ?_
      refine V_goto (tgt := 15) dX0_isWithin_11 (by decide) ?_
      exact V_zret dX0_isWithin_15 rfl (by first | exact bZ_t (by simp; omega) | exact bZ_f (by simp; omega)) rfl
theorem yv_X0_isColour : YV yX0_isColour wsX0_isColour 1 := ⟨_, _, _, _, rfl, by decide +kernel, by decide⟩
set_option maxRecDepth 100000 in
set_option maxHeartbeats 4000000 in
theorem c_X0_isColour {tys : List (ClassId × FieldType)} {w : va_W} (x : Int) (rx : -2147483648 ≤ x ∧ x < 2147483648) : CtI yX0_isColour wsX0_isColour (rmD 1) tys [.int (iZ x)] (w) (iZ (bZ (decide (0 ≤ x) && decide (x ≤ 7)))) (w) := by
  refine CtI_of (own := RX0) (by decide) rfl rfl (Nat.le_of_ble_eq_true rfl) ?_
  refine V_lvq (lv' := [(0, _)]) rfl ?_
  refine V_iload_n (q := 1) dX0_isColour_0 0 rfl rfl ?_
  refine V_iconst (q := 2) dX0_isColour_1 rfl ?_
  refine V_bipush (q := 4) dX0_isColour_2 (by decide) rfl ?_
  refine V_callIs (q := 7) dX0_isColour_4 (c_X0_isWithin x 0 7 rx (by decide) (by decide)) yv_X0_isWithin rfl gX0_isColour_X0_isWithin rfl (Nat.le_of_ble_eq_true rfl) (by decide) ?_
  exact V_zret dX0_isColour_7 rfl (rfl) rfl
theorem yv_X0_isCare : YV yX0_isCare wsX0_isCare 1 := ⟨_, _, _, _, rfl, by decide +kernel, by decide⟩
set_option maxRecDepth 100000 in
set_option maxHeartbeats 4000000 in
theorem c_X0_isCare {tys : List (ClassId × FieldType)} {w : va_W} (x : Int) (rx : -2147483648 ≤ x ∧ x < 2147483648) : CtI yX0_isCare wsX0_isCare (rmD 1) tys [.int (iZ x)] (w) (iZ (bZ (decide (0 ≤ x) && decide (x ≤ 2)))) (w) := by
  refine CtI_of (own := RX0) (by decide) rfl rfl (Nat.le_of_ble_eq_true rfl) ?_
  refine V_lvq (lv' := [(0, _)]) rfl ?_
  refine V_iload_n (q := 1) dX0_isCare_0 0 rfl rfl ?_
  refine V_iconst (q := 2) dX0_isCare_1 rfl ?_
  refine V_iconst (q := 3) dX0_isCare_2 rfl ?_
  refine V_callIs (q := 6) dX0_isCare_3 (c_X0_isWithin x 0 2 rx (by decide) (by decide)) yv_X0_isWithin rfl gX0_isCare_X0_isWithin rfl (Nat.le_of_ble_eq_true rfl) (by decide) ?_
  exact V_zret dX0_isCare_6 rfl (rfl) rfl
theorem yv_X0_arePeople : YV yX0_arePeople wsX0_arePeople 1 := ⟨_, _, _, _, rfl, by decide +kernel, by decide⟩
set_option maxRecDepth 100000 in
set_option maxHeartbeats 4000000 in
theorem c_X0_arePeople {tys : List (ClassId × FieldType)} {w : va_W} (x : Int) (rx : -2147483648 ≤ x ∧ x < 2147483648) : CtI yX0_arePeople wsX0_arePeople (rmD 1) tys [.int (iZ x)] (w) (iZ (bZ (decide (0 ≤ x) && decide (x ≤ 255)))) (w) := by
  refine CtI_of (own := RX0) (by decide) rfl rfl (Nat.le_of_ble_eq_true rfl) ?_
  refine V_lvq (lv' := [(0, _)]) rfl ?_
  refine V_iload_n (q := 1) dX0_arePeople_0 0 rfl rfl ?_
  refine V_iconst (q := 2) dX0_arePeople_1 rfl ?_
  refine V_sipush (q := 5) dX0_arePeople_2 (by decide) rfl ?_
  refine V_callIs (q := 8) dX0_arePeople_5 (c_X0_isWithin x 0 255 rx (by decide) (by decide)) yv_X0_isWithin rfl gX0_arePeople_X0_isWithin rfl (Nat.le_of_ble_eq_true rfl) (by decide) ?_
  exact V_zret dX0_arePeople_8 rfl (rfl) rfl
theorem yv_X0_isOutfitWarmth : YV yX0_isOutfitWarmth wsX0_isOutfitWarmth 1 := ⟨_, _, _, _, rfl, by decide +kernel, by decide⟩
set_option maxRecDepth 100000 in
set_option maxHeartbeats 4000000 in
theorem c_X0_isOutfitWarmth {tys : List (ClassId × FieldType)} {w : va_W} (x : Int) (rx : -2147483648 ≤ x ∧ x < 2147483648) : CtI yX0_isOutfitWarmth wsX0_isOutfitWarmth (rmD 1) tys [.int (iZ x)] (w) (iZ (bZ (decide (0 ≤ x) && decide (x ≤ 30)))) (w) := by
  refine CtI_of (own := RX0) (by decide) rfl rfl (Nat.le_of_ble_eq_true rfl) ?_
  refine V_lvq (lv' := [(0, _)]) rfl ?_
  refine V_iload_n (q := 1) dX0_isOutfitWarmth_0 0 rfl rfl ?_
  refine V_iconst (q := 2) dX0_isOutfitWarmth_1 rfl ?_
  refine V_bipush (q := 4) dX0_isOutfitWarmth_2 (by decide) rfl ?_
  refine V_callIs (q := 7) dX0_isOutfitWarmth_4 (c_X0_isWithin x 0 30 rx (by decide) (by decide)) yv_X0_isWithin rfl gX0_isOutfitWarmth_X0_isWithin rfl (Nat.le_of_ble_eq_true rfl) (by decide) ?_
  exact V_zret dX0_isOutfitWarmth_7 rfl (rfl) rfl
theorem yv_X0_isBagQuestion : YV yX0_isBagQuestion wsX0_isBagQuestion 2 := ⟨_, _, _, _, rfl, by decide +kernel, by decide⟩
set_option maxRecDepth 100000 in
set_option maxHeartbeats 4000000 in
theorem c_X0_isBagQuestion {tys : List (ClassId × FieldType)} {w : va_W} (x y : Int) (rx : -2147483648 ≤ x ∧ x < 2147483648) (ry : -2147483648 ≤ y ∧ y < 2147483648) : CtI yX0_isBagQuestion wsX0_isBagQuestion (rmD 1) tys [.int (iZ x), .int (iZ y)] (w) (iZ (bZ ((decide (1 ≤ x) && decide (x ≤ 20)) && (decide (0 ≤ y) && decide (y ≤ 20))))) (w) := by
  refine CtI_of (own := RX0) (by decide) rfl rfl (Nat.le_of_ble_eq_true rfl) ?_
  refine V_lvq (lv' := [(0, _), (1, _)]) rfl ?_
  refine V_iload_n (q := 1) dX0_isBagQuestion_0 0 rfl rfl ?_
  refine V_iconst (q := 2) dX0_isBagQuestion_1 rfl ?_
  refine V_bipush (q := 4) dX0_isBagQuestion_2 (by decide) rfl ?_
  refine V_callIs (q := 7) dX0_isBagQuestion_4 (c_X0_isWithin x 1 20 rx (by decide) (by decide)) yv_X0_isWithin rfl gX0_isBagQuestion_X0_isWithin rfl (Nat.le_of_ble_eq_true rfl) (by decide) ?_
  refine V_if_eqB (q := 10) (tgt := 24) dX0_isBagQuestion_7 (by decide) (fun c7 => ?_) (fun c7 => ?_)
  · skip
    refine V_iconst (q := 25) dX0_isBagQuestion_24 rfl ?_
    exact V_zret dX0_isBagQuestion_25 rfl (by first | exact bZ_t (by simp [*]) | exact bZ_f (by simp [*])) rfl
  · skip
    refine V_iload_n (q := 11) dX0_isBagQuestion_10 1 rfl rfl ?_
    refine V_iconst (q := 12) dX0_isBagQuestion_11 rfl ?_
    refine V_bipush (q := 14) dX0_isBagQuestion_12 (by decide) rfl ?_
    refine V_callIs (q := 17) dX0_isBagQuestion_14 (c_X0_isWithin y 0 20 ry (by decide) (by decide)) yv_X0_isWithin rfl gX0_isBagQuestion_X0_isWithin rfl (Nat.le_of_ble_eq_true rfl) (by decide) ?_
    refine V_if_eqB (q := 20) (tgt := 24) dX0_isBagQuestion_17 (by decide) (fun c17 => ?_) (fun c17 => ?_)
    · skip
      refine V_iconst (q := 25) dX0_isBagQuestion_24 rfl ?_
      exact V_zret dX0_isBagQuestion_25 rfl (by first | exact bZ_t (by simp [*]) | exact bZ_f (by simp [*])) rfl
    · skip
      refine V_iconst (q := 21) dX0_isBagQuestion_20 rfl ?_
      refine V_goto (tgt := 25) dX0_isBagQuestion_21 (by decide) ?_
      exact V_zret dX0_isBagQuestion_25 rfl (by first | exact bZ_t (by simp [*]) | exact bZ_f (by simp [*])) rfl
theorem hin_X0_isThing : ∀ w ∈ wsX00, w ∈ wsX0_isThing := by decide +kernel
theorem f_X0_isThing_61 : Cond.fieldLink RX0 61 (TX0 7).1 (TX0 7).2.1 (TX0 7).2.2.1 ∈ wsX0_isThing := by decide +kernel
theorem yv_X0_isThing : YV yX0_isThing wsX0_isThing 1 := ⟨_, _, _, _, rfl, by decide +kernel, by decide⟩
set_option maxRecDepth 100000 in
set_option maxHeartbeats 4000000 in
theorem c_X0_isThing {a : Nat → Nat} {c : Nat → ClassId} {S : St} {g : Nat → Nat} (ho : Ok S) (x : Int) (rx : -2147483648 ≤ x ∧ x < 2147483648) : CtI yX0_isThing wsX0_isThing (rmD 1) (tyk c) [.ref (a 0), .int (iZ x)] (wkc a c S g) (iZ (bZ (hasZ S x))) (wkc a c S g) := by
  refine CtI_of (own := RX0) (by decide) rfl rfl (Nat.le_of_ble_eq_true rfl) ?_
  refine V_lvq (lv' := [(0, _), (1, _)]) rfl ?_
  refine V_iload_n (q := 1) dX0_isThing_0 1 rfl rfl ?_
  refine V_iconst (q := 2) dX0_isThing_1 rfl ?_
  refine V_bipush (q := 4) dX0_isThing_2 (by decide) rfl ?_
  refine V_callIs (q := 7) dX0_isThing_4 (c_X0_isWithin x 0 11 rx (by decide) (by decide)) yv_X0_isWithin rfl gX0_isThing_X0_isWithin rfl (Nat.le_of_ble_eq_true rfl) (by decide) ?_
  refine V_if_eqB (q := 10) (tgt := 25) dX0_isThing_7 (by decide) (fun c7 => ?_) (fun c7 => ?_)
  · skip
    refine V_iconst (q := 26) dX0_isThing_25 rfl ?_
    exact V_zret dX0_isThing_26 rfl (by first | exact bZ_t (by first | exact hasZ_no ho c7 | (rw [(hasZ_in c7).2]; assumption)) | exact bZ_f (by first | exact hasZ_no ho c7 | (rw [(hasZ_in c7).2]; assumption))) rfl
  · skip
    refine V_aload_n (q := 11) dX0_isThing_10 0 rfl rfl ?_
    refine V_get (q := 14) dX0_isThing_11 hin_X0_isThing 0 rfl rfl 7 (by decide) f_X0_isThing_61 rfl rfl ?_
    refine V_iload_n (q := 15) dX0_isThing_14 1 rfl rfl ?_
    refine V_ishr (q := 16) dX0_isThing_15 rfl ?_
    refine V_iconst (q := 17) dX0_isThing_16 rfl ?_
    refine V_iand (q := 18) dX0_isThing_17 rfl ?_
    refine V_top (ow_tbZ S c7) ?_
    refine V_if_eqB (q := 21) (tgt := 25) dX0_isThing_18 (by decide) (fun c18 => ?_) (fun c18 => ?_)
    · skip
      refine V_iconst (q := 26) dX0_isThing_25 rfl ?_
      exact V_zret dX0_isThing_26 rfl (by first | exact bZ_t (by first | exact hasZ_no ho c7 | (rw [(hasZ_in c7).2]; assumption)) | exact bZ_f (by first | exact hasZ_no ho c7 | (rw [(hasZ_in c7).2]; assumption))) rfl
    · skip
      refine V_iconst (q := 22) dX0_isThing_21 rfl ?_
      refine V_goto (tgt := 26) dX0_isThing_22 (by decide) ?_
      exact V_zret dX0_isThing_26 rfl (by first | exact bZ_t (by first | exact hasZ_no ho c7 | (rw [(hasZ_in c7).2]; assumption)) | exact bZ_f (by first | exact hasZ_no ho c7 | (rw [(hasZ_in c7).2]; assumption))) rfl
theorem yv_X0_areThings : YV yX0_areThings wsX0_areThings 3 := ⟨_, _, _, _, rfl, by decide +kernel, by decide⟩
set_option maxRecDepth 100000 in
set_option maxHeartbeats 4000000 in
theorem c_X0_areThings {a : Nat → Nat} {c : Nat → ClassId} {S : St} {g : Nat → Nat} (ho : Ok S) (t b d : Int) (rt : -2147483648 ≤ t ∧ t < 2147483648) (rb : -2147483648 ≤ b ∧ b < 2147483648) (rd : -2147483648 ≤ d ∧ d < 2147483648) : CtI yX0_areThings wsX0_areThings (rmD 2) (tyk c) [.ref (a 0), .int (iZ t), .int (iZ b), .int (iZ d)] (wkc a c S g) (iZ (bZ (hasZ S t && hasZ S b && (decide (d = -1) || hasZ S d)))) (wkc a c S g) := by
  refine CtI_of (own := RX0) (by decide) rfl rfl (Nat.le_of_ble_eq_true rfl) ?_
  refine V_lvq (lv' := [(0, _), (1, _), (2, _), (3, _)]) rfl ?_
  refine V_aload_n (q := 1) dX0_areThings_0 0 rfl rfl ?_
  refine V_iload_n (q := 2) dX0_areThings_1 1 rfl rfl ?_
  refine V_callIv (q := 5) dX0_areThings_2 (c_X0_isThing ho t rt) yv_X0_isThing rfl gX0_areThings_X0_isThing rfl 0 rfl rfl rfl rfl (Nat.le_of_ble_eq_true rfl) (by decide) ?_
  refine V_if_eqB (q := 8) (tgt := 33) dX0_areThings_5 (by decide) (fun c5 => ?_) (fun c5 => ?_)
  · skip
    refine V_iconst (q := 34) dX0_areThings_33 rfl ?_
    exact V_zret dX0_areThings_34 rfl (by first | exact bZ_t (by simp [*]) | exact bZ_f (by simp [*])) rfl
  · skip
    refine V_aload_n (q := 9) dX0_areThings_8 0 rfl rfl ?_
    refine V_iload_n (q := 10) dX0_areThings_9 2 rfl rfl ?_
    refine V_callIv (q := 13) dX0_areThings_10 (c_X0_isThing ho b rb) yv_X0_isThing rfl gX0_areThings_X0_isThing rfl 0 rfl rfl rfl rfl (Nat.le_of_ble_eq_true rfl) (by decide) ?_
    refine V_if_eqB (q := 16) (tgt := 33) dX0_areThings_13 (by decide) (fun c13 => ?_) (fun c13 => ?_)
    · skip
      refine V_iconst (q := 34) dX0_areThings_33 rfl ?_
      exact V_zret dX0_areThings_34 rfl (by first | exact bZ_t (by simp [*]) | exact bZ_f (by simp [*])) rfl
    · skip
      refine V_iload_n (q := 17) dX0_areThings_16 3 rfl rfl ?_
      refine V_iconst (q := 18) dX0_areThings_17 rfl ?_
      refine V_icmp_eq (q := 21) (tgt := 29) dX0_areThings_18 (by omega) (by omega) (by decide) (fun c18 => ?_) (fun c18 => ?_)
      · skip
        refine V_iconst (q := 30) dX0_areThings_29 rfl ?_
        refine V_goto (tgt := 34) dX0_areThings_30 (by decide) ?_
        exact V_zret dX0_areThings_34 rfl (by first | exact bZ_t (by simp [*]) | exact bZ_f (by simp [*])) rfl
      · skip
        refine V_aload_n (q := 22) dX0_areThings_21 0 rfl rfl ?_
        refine V_iload_n (q := 23) dX0_areThings_22 3 rfl rfl ?_
        refine V_callIv (q := 26) dX0_areThings_23 (c_X0_isThing ho d rd) yv_X0_isThing rfl gX0_areThings_X0_isThing rfl 0 rfl rfl rfl rfl (Nat.le_of_ble_eq_true rfl) (by decide) ?_
        refine V_if_eqB (q := 29) (tgt := 33) dX0_areThings_26 (by decide) (fun c26 => ?_) (fun c26 => ?_)
        · skip
          refine V_iconst (q := 34) dX0_areThings_33 rfl ?_
          exact V_zret dX0_areThings_34 rfl (by first | exact bZ_t (by simp [*]) | exact bZ_f (by simp [*])) rfl
        · skip
          refine V_iconst (q := 30) dX0_areThings_29 rfl ?_
          refine V_goto (tgt := 34) dX0_areThings_30 (by decide) ?_
          exact V_zret dX0_areThings_34 rfl (by first | exact bZ_t (by simp [*]) | exact bZ_f (by simp [*])) rfl
theorem hin_X0_isOfKind : ∀ w ∈ wsX00, w ∈ wsX0_isOfKind := by decide +kernel
theorem f_X0_isOfKind_9 : Cond.fieldLink RX0 9 (TX0 0).1 (TX0 0).2.1 (TX0 0).2.2.1 ∈ wsX0_isOfKind := by decide +kernel
theorem yv_X0_isOfKind : YV yX0_isOfKind wsX0_isOfKind 2 := ⟨_, _, _, _, rfl, by decide +kernel, by decide⟩
set_option maxRecDepth 100000 in
set_option maxHeartbeats 4000000 in
theorem c_X0_isOfKind {a : Nat → Nat} {c : Nat → ClassId} {S : St} {g : Nat → Nat} (ho : Ok S) (x k : Int) (rx : -2147483648 ≤ x ∧ x < 2147483648) (rk : -2147483648 ≤ k ∧ k < 2147483648) : CtI yX0_isOfKind wsX0_isOfKind (rmD 2) (tyk c) [.ref (a 0), .int (iZ x), .int (iZ k)] (wkc a c S g) (iZ (bZ (kdZ S x k))) (wkc a c S g) := by
  refine CtI_of (own := RX0) (by decide) rfl rfl (Nat.le_of_ble_eq_true rfl) ?_
  refine V_lvq (lv' := [(0, _), (1, _), (2, _)]) rfl ?_
  refine V_aload_n (q := 1) dX0_isOfKind_0 0 rfl rfl ?_
  refine V_iload_n (q := 2) dX0_isOfKind_1 1 rfl rfl ?_
  refine V_callIv (q := 5) dX0_isOfKind_2 (c_X0_isThing ho x rx) yv_X0_isThing rfl gX0_isOfKind_X0_isThing rfl 0 rfl rfl rfl rfl (Nat.le_of_ble_eq_true rfl) (by decide) ?_
  refine V_if_eqB (q := 8) (tgt := 22) dX0_isOfKind_5 (by decide) (fun c5 => ?_) (fun c5 => ?_)
  · skip
    refine V_iconst (q := 23) dX0_isOfKind_22 rfl ?_
    exact V_zret dX0_isOfKind_23 rfl (by first | exact bZ_t (by simp [kdZ, *]) | exact bZ_f (by simp [kdZ, *])) rfl
  · skip
    obtain ⟨x0, x1, x2, x3, x4⟩ := hasZ_lt ho c5
    have y0 := ho.2.2.1 x.toNat
    refine V_aload_n (q := 9) dX0_isOfKind_8 0 rfl rfl ?_
    refine V_get (q := 12) dX0_isOfKind_9 hin_X0_isOfKind 0 rfl rfl 0 (by decide) f_X0_isOfKind_9 rfl rfl ?_
    refine V_iload_n (q := 13) dX0_isOfKind_12 1 rfl rfl ?_
    refine V_iald (q := 14) dX0_isOfKind_13 1 0 rfl rfl (x.toNat) (x2.symm) (x4) (by decide) rfl rfl ?_
    refine V_iload_n (q := 15) dX0_isOfKind_14 2 rfl rfl ?_
    refine V_icmp_ne (q := 18) (tgt := 22) dX0_isOfKind_15 (by omega) (by omega) (by decide) (fun c15 => ?_) (fun c15 => ?_)
    · skip
      refine V_iconst (q := 23) dX0_isOfKind_22 rfl ?_
      exact V_zret dX0_isOfKind_23 rfl (by first | exact bZ_t (by simp [kdZ, *]) | exact bZ_f (by simp [kdZ, *])) rfl
    · skip
      refine V_iconst (q := 19) dX0_isOfKind_18 rfl ?_
      refine V_goto (tgt := 23) dX0_isOfKind_19 (by decide) ?_
      exact V_zret dX0_isOfKind_23 rfl (by first | exact bZ_t (by simp [kdZ, *]) | exact bZ_f (by simp [kdZ, *])) rfl
theorem yv_X0_areOfTheirKinds : YV yX0_areOfTheirKinds wsX0_areOfTheirKinds 3 := ⟨_, _, _, _, rfl, by decide +kernel, by decide⟩
set_option maxRecDepth 100000 in
set_option maxHeartbeats 4000000 in
theorem c_X0_areOfTheirKinds {a : Nat → Nat} {c : Nat → ClassId} {S : St} {g : Nat → Nat} (ho : Ok S) (t b d : Int) (rt : -2147483648 ≤ t ∧ t < 2147483648) (rb : -2147483648 ≤ b ∧ b < 2147483648) (rd : -2147483648 ≤ d ∧ d < 2147483648) : CtI yX0_areOfTheirKinds wsX0_areOfTheirKinds (rmD 3) (tyk c) [.ref (a 0), .int (iZ t), .int (iZ b), .int (iZ d)] (wkc a c S g) (iZ (bZ (kdZ S t 0 && kdZ S b 1 && (decide (d = -1) || kdZ S d 2)))) (wkc a c S g) := by
  refine CtI_of (own := RX0) (by decide) rfl rfl (Nat.le_of_ble_eq_true rfl) ?_
  refine V_lvq (lv' := [(0, _), (1, _), (2, _), (3, _)]) rfl ?_
  refine V_aload_n (q := 1) dX0_areOfTheirKinds_0 0 rfl rfl ?_
  refine V_iload_n (q := 2) dX0_areOfTheirKinds_1 1 rfl rfl ?_
  refine V_iconst (q := 3) dX0_areOfTheirKinds_2 rfl ?_
  refine V_callIv (q := 6) dX0_areOfTheirKinds_3 (c_X0_isOfKind ho t 0 rt (by decide)) yv_X0_isOfKind rfl gX0_areOfTheirKinds_X0_isOfKind rfl 0 rfl rfl rfl rfl (Nat.le_of_ble_eq_true rfl) (by decide) ?_
  refine V_if_eqB (q := 9) (tgt := 36) dX0_areOfTheirKinds_6 (by decide) (fun c6 => ?_) (fun c6 => ?_)
  · skip
    refine V_iconst (q := 37) dX0_areOfTheirKinds_36 rfl ?_
    exact V_zret dX0_areOfTheirKinds_37 rfl (by first | exact bZ_t (by simp [*]) | exact bZ_f (by simp [*])) rfl
  · skip
    refine V_aload_n (q := 10) dX0_areOfTheirKinds_9 0 rfl rfl ?_
    refine V_iload_n (q := 11) dX0_areOfTheirKinds_10 2 rfl rfl ?_
    refine V_iconst (q := 12) dX0_areOfTheirKinds_11 rfl ?_
    refine V_callIv (q := 15) dX0_areOfTheirKinds_12 (c_X0_isOfKind ho b 1 rb (by decide)) yv_X0_isOfKind rfl gX0_areOfTheirKinds_X0_isOfKind rfl 0 rfl rfl rfl rfl (Nat.le_of_ble_eq_true rfl) (by decide) ?_
    refine V_if_eqB (q := 18) (tgt := 36) dX0_areOfTheirKinds_15 (by decide) (fun c15 => ?_) (fun c15 => ?_)
    · skip
      refine V_iconst (q := 37) dX0_areOfTheirKinds_36 rfl ?_
      exact V_zret dX0_areOfTheirKinds_37 rfl (by first | exact bZ_t (by simp [*]) | exact bZ_f (by simp [*])) rfl
    · skip
      refine V_iload_n (q := 19) dX0_areOfTheirKinds_18 3 rfl rfl ?_
      refine V_iconst (q := 20) dX0_areOfTheirKinds_19 rfl ?_
      refine V_icmp_eq (q := 23) (tgt := 32) dX0_areOfTheirKinds_20 (by omega) (by omega) (by decide) (fun c20 => ?_) (fun c20 => ?_)
      · skip
        refine V_iconst (q := 33) dX0_areOfTheirKinds_32 rfl ?_
        refine V_goto (tgt := 37) dX0_areOfTheirKinds_33 (by decide) ?_
        exact V_zret dX0_areOfTheirKinds_37 rfl (by first | exact bZ_t (by simp [*]) | exact bZ_f (by simp [*])) rfl
      · skip
        refine V_aload_n (q := 24) dX0_areOfTheirKinds_23 0 rfl rfl ?_
        refine V_iload_n (q := 25) dX0_areOfTheirKinds_24 3 rfl rfl ?_
        refine V_iconst (q := 26) dX0_areOfTheirKinds_25 rfl ?_
        refine V_callIv (q := 29) dX0_areOfTheirKinds_26 (c_X0_isOfKind ho d 2 rd (by decide)) yv_X0_isOfKind rfl gX0_areOfTheirKinds_X0_isOfKind rfl 0 rfl rfl rfl rfl (Nat.le_of_ble_eq_true rfl) (by decide) ?_
        refine V_if_eqB (q := 32) (tgt := 36) dX0_areOfTheirKinds_29 (by decide) (fun c29 => ?_) (fun c29 => ?_)
        · skip
          refine V_iconst (q := 37) dX0_areOfTheirKinds_36 rfl ?_
          exact V_zret dX0_areOfTheirKinds_37 rfl (by first | exact bZ_t (by simp [*]) | exact bZ_f (by simp [*])) rfl
        · skip
          refine V_iconst (q := 33) dX0_areOfTheirKinds_32 rfl ?_
          refine V_goto (tgt := 37) dX0_areOfTheirKinds_33 (by decide) ?_
          exact V_zret dX0_areOfTheirKinds_37 rfl (by first | exact bZ_t (by simp [*]) | exact bZ_f (by simp [*])) rfl
end
section
theorem lftZ_le {S : St} (ho : Ok S) (x : Int) : lftZ S x ≤ 9 := by
  have h1 := ho.2.2.2.2.2.2.2.1 x.toNat
  have h2 := ho.2.2.2.2.2.1 x.toNat
  unfold lftZ
  split <;> omega
theorem wrmZ_le {S : St} (ho : Ok S) (x : Int) : wrmZ S x ≤ 10 := by
  have h1 := ho.2.2.2.2.1 x.toNat
  unfold wrmZ
  split <;> omega
theorem lftZ_pos {S : St} {x : Int} (h : 0 < (lftZ S x : Int)) : hasZ S x = true ∧ lftZ S x = sL S x.toNat := by
  unfold lftZ at h ⊢
  by_cases h2 : hasZ S x = true
  · exact ⟨h2, by rw [if_pos h2]⟩
  · rw [if_neg h2] at h
    exact absurd h (by decide)
/-- worn once; made clean -/
def wo (S : St) (x : Int) : St := if 0 < lftZ S x then uL S (fu (sL S) x.toNat (sL S x.toNat - 1)) else S
def mc (S : St) (x : Int) : St := if hasZ S x then uL S (fu (sL S) x.toNat (sM S x.toNat)) else S
theorem iF_upd {f : Nat → Nat} {j : Nat} {z : Int} (v : Nat) (h : z = (v : Int)) : upd (iF f) j (iZ z) = iF (fu f j v) := by
  subst h
  funext k
  unfold upd fu iF
  by_cases hk : k = j <;> simp [hk]
theorem zF_upd {f : Nat → Bool} {j : Nat} {b : Bool} : upd (zF f) j (iZ (bZ b)) = zF (fu f j b) := by
  funext k
  unfold upd fu zF
  by_cases hk : k = j <;> simp [hk]
theorem l_shl : ∀ k, k < 64 → Int64.ofNat 1 <<< ((nI k).toInt64 &&& 63) = lN (2 ^ k) := by decide +kernel
theorem lg_cmp0 (x y : Int64) : lg_cmp x y = 0 ↔ x = y := by
  unfold lg_cmp
  rcases Int.lt_trichotomy x.toInt y.toInt with h | h | h
  · have h1 : x < y := Int64.lt_iff_toInt_lt.mpr h
    have h2 : ¬ y < x := fun q => by have := Int64.lt_iff_toInt_lt.mp q; omega
    have h3 : ¬ x = y := fun q => by subst q; omega
    simp [h1, h2, h3]
  · have h1 : x = y := Int64.toInt_inj.mp h
    subst h1
    have h2 : ¬ x < x := fun q => by have := Int64.lt_iff_toInt_lt.mp q; omega
    simp [h2]
  · have h1 : y < x := Int64.lt_iff_toInt_lt.mpr h
    have h3 : ¬ x = y := fun q => by subst q; omega
    simp [h1, h3]
theorem nat_and_pow (x i : Nat) : x &&& 2 ^ i = if x.testBit i then 2 ^ i else 0 := by
  apply Nat.eq_of_testBit_eq
  intro j
  rw [Nat.testBit_and, Nat.testBit_two_pow]
  by_cases h : i = j
  · subst h
    cases hx : x.testBit i <;> simp
  · cases hx : x.testBit i <;> simp [h, Nat.testBit_two_pow]
theorem lN_and (a b : Nat) : lN a &&& lN b = lN (a &&& b) := by
  apply Int64.toBitVec.inj
  show (BitVec.ofNat 64 a) &&& (BitVec.ofNat 64 b) = BitVec.ofNat 64 (a &&& b)
  exact (BitVec.ofNat_and ..).symm
theorem lN_or (a b : Nat) : lN a ||| lN b = lN (a ||| b) := by
  apply Int64.toBitVec.inj
  show (BitVec.ofNat 64 a) ||| (BitVec.ofNat 64 b) = BitVec.ofNat 64 (a ||| b)
  exact (BitVec.ofNat_or ..).symm
theorem lN_ne0 : ∀ i, i < 64 → lN (2 ^ i) ≠ 0 := by decide +kernel
theorem cl_bit (S : St) {i : Nat} (hi : i < 64) : clL S &&& lN (2 ^ i) = 0 ↔ sX S i = false := by
  unfold clL
  rw [lN_and, nat_and_pow, bits_tb]
  have h := lN_ne0 i hi
  cases hx : sX S i <;> simp [hi, h]
  rfl
theorem hin_X0_wearsLeftOf : ∀ w ∈ wsX00, w ∈ wsX0_wearsLeftOf := by decide +kernel
theorem f_X0_wearsLeftOf_25 : Cond.fieldLink RX0 25 (TX0 5).1 (TX0 5).2.1 (TX0 5).2.2.1 ∈ wsX0_wearsLeftOf := by decide +kernel
theorem yv_X0_wearsLeftOf : YV yX0_wearsLeftOf wsX0_wearsLeftOf 1 := ⟨_, _, _, _, rfl, by decide +kernel, by decide⟩
set_option maxRecDepth 100000 in
set_option maxHeartbeats 4000000 in
theorem c_X0_wearsLeftOf {a : Nat → Nat} {c : Nat → ClassId} {S : St} {g : Nat → Nat} (ho : Ok S) (x : Int) (rx : -2147483648 ≤ x ∧ x < 2147483648) : CtI yX0_wearsLeftOf wsX0_wearsLeftOf (rmD 2) (tyk c) [.ref (a 0), .int (iZ x)] (wkc a c S g) (iZ (lftZ S x)) (wkc a c S g) := by
  refine CtI_of (own := RX0) (by decide) rfl rfl (Nat.le_of_ble_eq_true rfl) ?_
  refine V_lvq (lv' := [(0, _), (1, _)]) rfl ?_
  refine V_aload_n (q := 1) dX0_wearsLeftOf_0 0 rfl rfl ?_
  refine V_iload_n (q := 2) dX0_wearsLeftOf_1 1 rfl rfl ?_
  refine V_callIv (q := 5) dX0_wearsLeftOf_2 (c_X0_isThing ho x rx) yv_X0_isThing rfl gX0_wearsLeftOf_X0_isThing rfl 0 rfl rfl rfl rfl (Nat.le_of_ble_eq_true rfl) (by decide) ?_
  refine V_if_eqB (q := 8) (tgt := 17) dX0_wearsLeftOf_5 (by decide) (fun c5 => ?_) (fun c5 => ?_)
  · skip
    refine V_iconst (q := 18) dX0_wearsLeftOf_17 rfl ?_
    exact V_iret dX0_wearsLeftOf_18 rfl (by simp [lftZ, *]) rfl
  · skip
    obtain ⟨x0, x1, x2, x3, x4⟩ := hasZ_lt ho c5
    refine V_aload_n (q := 9) dX0_wearsLeftOf_8 0 rfl rfl ?_
    refine V_get (q := 12) dX0_wearsLeftOf_9 hin_X0_wearsLeftOf 0 rfl rfl 5 (by decide) f_X0_wearsLeftOf_25 rfl rfl ?_
    refine V_iload_n (q := 13) dX0_wearsLeftOf_12 1 rfl rfl ?_
    refine V_iald (q := 14) dX0_wearsLeftOf_13 6 5 rfl rfl (x.toNat) (x2.symm) (x4) (by decide) rfl rfl ?_
    refine V_goto (tgt := 18) dX0_wearsLeftOf_14 (by decide) ?_
    exact V_iret dX0_wearsLeftOf_18 rfl (by simp [lftZ, *]) rfl
theorem hin_X0_warmthOf : ∀ w ∈ wsX00, w ∈ wsX0_warmthOf := by decide +kernel
theorem f_X0_warmthOf_16 : Cond.fieldLink RX0 16 (TX0 2).1 (TX0 2).2.1 (TX0 2).2.2.1 ∈ wsX0_warmthOf := by decide +kernel
theorem yv_X0_warmthOf : YV yX0_warmthOf wsX0_warmthOf 1 := ⟨_, _, _, _, rfl, by decide +kernel, by decide⟩
set_option maxRecDepth 100000 in
set_option maxHeartbeats 4000000 in
theorem c_X0_warmthOf {a : Nat → Nat} {c : Nat → ClassId} {S : St} {g : Nat → Nat} (ho : Ok S) (x : Int) (rx : -2147483648 ≤ x ∧ x < 2147483648) : CtI yX0_warmthOf wsX0_warmthOf (rmD 2) (tyk c) [.ref (a 0), .int (iZ x)] (wkc a c S g) (iZ (wrmZ S x)) (wkc a c S g) := by
  refine CtI_of (own := RX0) (by decide) rfl rfl (Nat.le_of_ble_eq_true rfl) ?_
  refine V_lvq (lv' := [(0, _), (1, _)]) rfl ?_
  refine V_aload_n (q := 1) dX0_warmthOf_0 0 rfl rfl ?_
  refine V_iload_n (q := 2) dX0_warmthOf_1 1 rfl rfl ?_
  refine V_callIv (q := 5) dX0_warmthOf_2 (c_X0_isThing ho x rx) yv_X0_isThing rfl gX0_warmthOf_X0_isThing rfl 0 rfl rfl rfl rfl (Nat.le_of_ble_eq_true rfl) (by decide) ?_
  refine V_if_eqB (q := 8) (tgt := 17) dX0_warmthOf_5 (by decide) (fun c5 => ?_) (fun c5 => ?_)
  · skip
    refine V_iconst (q := 18) dX0_warmthOf_17 rfl ?_
    exact V_iret dX0_warmthOf_18 rfl (by simp [wrmZ, *]) rfl
  · skip
    obtain ⟨x0, x1, x2, x3, x4⟩ := hasZ_lt ho c5
    refine V_aload_n (q := 9) dX0_warmthOf_8 0 rfl rfl ?_
    refine V_get (q := 12) dX0_warmthOf_9 hin_X0_warmthOf 0 rfl rfl 2 (by decide) f_X0_warmthOf_16 rfl rfl ?_
    refine V_iload_n (q := 13) dX0_warmthOf_12 1 rfl rfl ?_
    refine V_iald (q := 14) dX0_warmthOf_13 3 2 rfl rfl (x.toNat) (x2.symm) (x4) (by decide) rfl rfl ?_
    refine V_goto (tgt := 18) dX0_warmthOf_14 (by decide) ?_
    exact V_iret dX0_warmthOf_18 rfl (by simp [wrmZ, *]) rfl
theorem hin_X0_isCleanOfKind : ∀ w ∈ wsX00, w ∈ wsX0_isCleanOfKind := by decide +kernel
theorem f_X0_isCleanOfKind_25 : Cond.fieldLink RX0 25 (TX0 5).1 (TX0 5).2.1 (TX0 5).2.2.1 ∈ wsX0_isCleanOfKind := by decide +kernel
theorem yv_X0_isCleanOfKind : YV yX0_isCleanOfKind wsX0_isCleanOfKind 2 := ⟨_, _, _, _, rfl, by decide +kernel, by decide⟩
set_option maxRecDepth 100000 in
set_option maxHeartbeats 4000000 in
theorem c_X0_isCleanOfKind {a : Nat → Nat} {c : Nat → ClassId} {S : St} {g : Nat → Nat} (ho : Ok S) (x k : Int) (rx : -2147483648 ≤ x ∧ x < 2147483648) (rk : -2147483648 ≤ k ∧ k < 2147483648) : CtI yX0_isCleanOfKind wsX0_isCleanOfKind (rmD 3) (tyk c) [.ref (a 0), .int (iZ x), .int (iZ k)] (wkc a c S g) (iZ (bZ (clnZ S x k))) (wkc a c S g) := by
  refine CtI_of (own := RX0) (by decide) rfl rfl (Nat.le_of_ble_eq_true rfl) ?_
  refine V_lvq (lv' := [(0, _), (1, _), (2, _)]) rfl ?_
  refine V_aload_n (q := 1) dX0_isCleanOfKind_0 0 rfl rfl ?_
  refine V_iload_n (q := 2) dX0_isCleanOfKind_1 1 rfl rfl ?_
  refine V_iload_n (q := 3) dX0_isCleanOfKind_2 2 rfl rfl ?_
  refine V_callIv (q := 6) dX0_isCleanOfKind_3 (c_X0_isOfKind ho x k rx rk) yv_X0_isOfKind rfl gX0_isCleanOfKind_X0_isOfKind rfl 0 rfl rfl rfl rfl (Nat.le_of_ble_eq_true rfl) (by decide) ?_
  refine V_if_eqB (q := 9) (tgt := 22) dX0_isCleanOfKind_6 (by decide) (fun c6 => ?_) (fun c6 => ?_)
  · skip
    refine V_iconst (q := 23) dX0_isCleanOfKind_22 rfl ?_
    exact V_zret dX0_isCleanOfKind_23 rfl (by first | exact bZ_t (by first | (clear x2; simp [clnZ, *]; done) | (simp only [clnZ, c6, Bool.true_and, decide_eq_true_eq, decide_eq_false_iff_not]; omega) | simp [clnZ, c6]) | exact bZ_f (by first | (clear x2; simp [clnZ, *]; done) | (simp only [clnZ, c6, Bool.true_and, decide_eq_true_eq, decide_eq_false_iff_not]; omega) | simp [clnZ, c6])) rfl
  · skip
    have hx : hasZ S x = true := by simp [kdZ] at c6; exact c6.1
    obtain ⟨x0, x1, x2, x3, x4⟩ := hasZ_lt ho hx
    refine V_aload_n (q := 10) dX0_isCleanOfKind_9 0 rfl rfl ?_
    refine V_get (q := 13) dX0_isCleanOfKind_10 hin_X0_isCleanOfKind 0 rfl rfl 5 (by decide) f_X0_isCleanOfKind_25 rfl rfl ?_
    refine V_iload_n (q := 14) dX0_isCleanOfKind_13 1 rfl rfl ?_
    refine V_iald (q := 15) dX0_isCleanOfKind_14 6 5 rfl rfl (x.toNat) (x2.symm) (x4) (by decide) rfl rfl ?_
    refine V_if_le (q := 18) (tgt := 22) dX0_isCleanOfKind_15 (by have h8 := ho.2.2.2.2.2.2.2.1 x.toNat; have h9 := ho.2.2.2.2.2.1 x.toNat; omega) (by decide) (fun c15 => ?_) (fun c15 => ?_)
    · skip
      refine V_iconst (q := 23) dX0_isCleanOfKind_22 rfl ?_
      exact V_zret dX0_isCleanOfKind_23 rfl (by first | exact bZ_t (by first | (clear x2; simp [clnZ, *]; done) | (simp only [clnZ, c6, Bool.true_and, decide_eq_true_eq, decide_eq_false_iff_not]; omega) | simp [clnZ, c6]) | exact bZ_f (by first | (clear x2; simp [clnZ, *]; done) | (simp only [clnZ, c6, Bool.true_and, decide_eq_true_eq, decide_eq_false_iff_not]; omega) | simp [clnZ, c6])) rfl
    · skip
      refine V_iconst (q := 19) dX0_isCleanOfKind_18 rfl ?_
      refine V_goto (tgt := 23) dX0_isCleanOfKind_19 (by decide) ?_
      exact V_zret dX0_isCleanOfKind_23 rfl (by first | exact bZ_t (by first | (clear x2; simp [clnZ, *]; done) | (simp only [clnZ, c6, Bool.true_and, decide_eq_true_eq, decide_eq_false_iff_not]; omega) | simp [clnZ, c6]) | exact bZ_f (by first | (clear x2; simp [clnZ, *]; done) | (simp only [clnZ, c6, Bool.true_and, decide_eq_true_eq, decide_eq_false_iff_not]; omega) | simp [clnZ, c6])) rfl
theorem hin_X0_wearOnce : ∀ w ∈ wsX00, w ∈ wsX0_wearOnce := by decide +kernel
theorem f_X0_wearOnce_25 : Cond.fieldLink RX0 25 (TX0 5).1 (TX0 5).2.1 (TX0 5).2.2.1 ∈ wsX0_wearOnce := by decide +kernel
theorem yv_X0_wearOnce : YV yX0_wearOnce wsX0_wearOnce 1 := ⟨_, _, _, _, rfl, by decide +kernel, by decide⟩
set_option maxRecDepth 100000 in
set_option maxHeartbeats 4000000 in
theorem c_X0_wearOnce {a : Nat → Nat} {c : Nat → ClassId} {S : St} {g : Nat → Nat} (ho : Ok S) (x : Int) (rx : -2147483648 ≤ x ∧ x < 2147483648) : CtV yX0_wearOnce wsX0_wearOnce (rmD 3) (tyk c) [.ref (a 0), .int (iZ x)] (wkc a c S g) (wkc a c (wo S x) g) := by
  refine CtV_of (own := RX0) (by decide) rfl rfl (Nat.le_of_ble_eq_true rfl) ?_
  refine V_lvq (lv' := [(0, _), (1, _)]) rfl ?_
  refine V_aload_n (q := 1) dX0_wearOnce_0 0 rfl rfl ?_
  refine V_iload_n (q := 2) dX0_wearOnce_1 1 rfl rfl ?_
  refine V_callIv (q := 5) dX0_wearOnce_2 (c_X0_wearsLeftOf ho x rx) yv_X0_wearsLeftOf rfl gX0_wearOnce_X0_wearsLeftOf rfl 0 rfl rfl rfl rfl (Nat.le_of_ble_eq_true rfl) (by decide) ?_
  refine V_if_le (q := 8) (tgt := 18) dX0_wearOnce_5 (by have h8 := lftZ_le ho x; omega) (by decide) (fun c5 => ?_) (fun c5 => ?_)
  · skip
    exact V_vret dX0_wearOnce_18 rfl (by first | rfl | (rw [show wo S x = S from if_neg (by omega)]))
  · skip
    obtain ⟨hx, hl⟩ := lftZ_pos c5
    obtain ⟨x0, x1, x2, x3, x4⟩ := hasZ_lt ho hx
    have e0 : wkc a c (wo S x) g = wkc a c (uL S (fu (sL S) x.toNat (sL S x.toNat - 1))) g := by rw [show wo S x = uL S (fu (sL S) x.toNat (sL S x.toNat - 1)) from if_pos (by omega)]
    rw [e0]
    refine V_aload_n (q := 9) dX0_wearOnce_8 0 rfl rfl ?_
    refine V_get (q := 12) dX0_wearOnce_9 hin_X0_wearOnce 0 rfl rfl 5 (by decide) f_X0_wearOnce_25 rfl rfl ?_
    refine V_iload_n (q := 13) dX0_wearOnce_12 1 rfl rfl ?_
    refine V_dup2 (q := 14) dX0_wearOnce_13 rfl rfl rfl ?_
    refine V_iald (q := 15) dX0_wearOnce_14 6 5 rfl rfl (x.toNat) (x2.symm) (x4) (by decide) rfl rfl ?_
    refine V_iconst (q := 16) dX0_wearOnce_15 rfl ?_
    refine V_isub (q := 17) dX0_wearOnce_16 rfl ?_
    refine V_iast (q := 18) (ws' := wkc a c (uL S (fu (sL S) x.toNat (sL S x.toNat - 1))) g) dX0_wearOnce_17 6 5 rfl rfl (x.toNat) (x2.symm) (x4) (by decide) (by rw [iF_upd (sL S x.toNat - 1) (by omega)]; rfl) rfl ?_
    exact V_vret dX0_wearOnce_18 rfl (by first | rfl | (rw [show wo S x = S from if_neg (by omega)]))
theorem hin_X0_makeClean : ∀ w ∈ wsX00, w ∈ wsX0_makeClean := by decide +kernel
theorem f_X0_makeClean_19 : Cond.fieldLink RX0 19 (TX0 3).1 (TX0 3).2.1 (TX0 3).2.2.1 ∈ wsX0_makeClean := by decide +kernel
theorem f_X0_makeClean_25 : Cond.fieldLink RX0 25 (TX0 5).1 (TX0 5).2.1 (TX0 5).2.2.1 ∈ wsX0_makeClean := by decide +kernel
theorem yv_X0_makeClean : YV yX0_makeClean wsX0_makeClean 1 := ⟨_, _, _, _, rfl, by decide +kernel, by decide⟩
set_option maxRecDepth 100000 in
set_option maxHeartbeats 4000000 in
theorem c_X0_makeClean {a : Nat → Nat} {c : Nat → ClassId} {S : St} {g : Nat → Nat} (ho : Ok S) (x : Int) (rx : -2147483648 ≤ x ∧ x < 2147483648) : CtV yX0_makeClean wsX0_makeClean (rmD 2) (tyk c) [.ref (a 0), .int (iZ x)] (wkc a c S g) (wkc a c (mc S x) g) := by
  refine CtV_of (own := RX0) (by decide) rfl rfl (Nat.le_of_ble_eq_true rfl) ?_
  refine V_lvq (lv' := [(0, _), (1, _)]) rfl ?_
  refine V_aload_n (q := 1) dX0_makeClean_0 0 rfl rfl ?_
  refine V_iload_n (q := 2) dX0_makeClean_1 1 rfl rfl ?_
  refine V_callIv (q := 5) dX0_makeClean_2 (c_X0_isThing ho x rx) yv_X0_isThing rfl gX0_makeClean_X0_isThing rfl 0 rfl rfl rfl rfl (Nat.le_of_ble_eq_true rfl) (by decide) ?_
  refine V_if_eqB (q := 8) (tgt := 20) dX0_makeClean_5 (by decide) (fun c5 => ?_) (fun c5 => ?_)
  · skip
    exact V_vret dX0_makeClean_20 rfl (by first | rfl | (rw [show mc S x = S from if_neg (by rw [c5]; decide)]))
  · skip
    obtain ⟨x0, x1, x2, x3, x4⟩ := hasZ_lt ho c5
    have e0 : wkc a c (mc S x) g = wkc a c (uL S (fu (sL S) x.toNat (sM S x.toNat))) g := by rw [show mc S x = uL S (fu (sL S) x.toNat (sM S x.toNat)) from if_pos c5]
    rw [e0]
    refine V_aload_n (q := 9) dX0_makeClean_8 0 rfl rfl ?_
    refine V_get (q := 12) dX0_makeClean_9 hin_X0_makeClean 0 rfl rfl 5 (by decide) f_X0_makeClean_25 rfl rfl ?_
    refine V_iload_n (q := 13) dX0_makeClean_12 1 rfl rfl ?_
    refine V_aload_n (q := 14) dX0_makeClean_13 0 rfl rfl ?_
    refine V_get (q := 17) dX0_makeClean_14 hin_X0_makeClean 0 rfl rfl 3 (by decide) f_X0_makeClean_19 rfl rfl ?_
    refine V_iload_n (q := 18) dX0_makeClean_17 1 rfl rfl ?_
    refine V_iald (q := 19) dX0_makeClean_18 4 3 rfl rfl (x.toNat) (x2.symm) (x4) (by decide) rfl rfl ?_
    refine V_iast (q := 20) (ws' := wkc a c (uL S (fu (sL S) x.toNat (sM S x.toNat))) g) dX0_makeClean_19 6 5 rfl rfl (x.toNat) (x2.symm) (x4) (by decide) (by rw [iF_upd (sM S x.toNat) rfl]; rfl) rfl ?_
    exact V_vret dX0_makeClean_20 rfl (by first | rfl | (rw [show mc S x = S from if_neg (by rw [c5]; decide)]))
theorem yv_X0_clashBit : YV yX0_clashBit wsX0_clashBit 2 := ⟨_, _, _, _, rfl, by decide +kernel, by decide⟩
set_option maxRecDepth 100000 in
set_option maxHeartbeats 4000000 in
theorem c_X0_clashBit {tys : List (ClassId × FieldType)} {w : va_W} (x y : Nat) (hx : x ≤ 7) (hy : y ≤ 7) : CtL yX0_clashBit wsX0_clashBit (rmD 0) tys [.int (iZ x), .int (iZ y)] (w) (lN (2 ^ (8 * x + y))) (w) := by
  refine CtL_of (own := RX0) (by decide) rfl rfl (Nat.le_of_ble_eq_true rfl) ?_
  refine V_lvq (lv' := [(0, _), (1, _)]) rfl ?_
  refine V_lconst (q := 1) dX0_clashBit_0 rfl rfl ?_
  refine V_bipush (q := 3) dX0_clashBit_1 (by decide) rfl ?_
  refine V_iload_n (q := 4) dX0_clashBit_3 0 rfl rfl ?_
  refine V_imul (q := 5) dX0_clashBit_4 rfl ?_
  refine V_iload_n (q := 6) dX0_clashBit_5 1 rfl rfl ?_
  refine V_iadd (q := 7) dX0_clashBit_6 rfl ?_
  refine V_lshl (q := 8) dX0_clashBit_7 rfl ?_
  exact V_lret dX0_clashBit_8 rfl (by rw [show ((8 : Int) * (x : Int) + (y : Int)) = ((8 * x + y : Nat) : Int) by omega, iZ_nI]; exact l_shl _ (by omega)) rfl
theorem hin_X0_coloursClash : ∀ w ∈ wsX00, w ∈ wsX0_coloursClash := by decide +kernel
theorem f_X0_coloursClash_88 : Cond.fieldLink RX0 88 (TX0 9).1 (TX0 9).2.1 (TX0 9).2.2.1 ∈ wsX0_coloursClash := by decide +kernel
theorem yv_X0_coloursClash : YV yX0_coloursClash wsX0_coloursClash 2 := ⟨_, _, _, _, rfl, by decide +kernel, by decide⟩
set_option maxRecDepth 100000 in
set_option maxHeartbeats 4000000 in
theorem c_X0_coloursClash {a : Nat → Nat} {c : Nat → ClassId} {S : St} {g : Nat → Nat} (x y : Nat) (hx : x ≤ 7) (hy : y ≤ 7) : CtI yX0_coloursClash wsX0_coloursClash (rmD 1) (tyk c) [.ref (a 0), .int (iZ x), .int (iZ y)] (wkc a c S g) (iZ (bZ (sX S (8 * x + y)))) (wkc a c S g) := by
  refine CtI_of (own := RX0) (by decide) rfl rfl (Nat.le_of_ble_eq_true rfl) ?_
  refine V_lvq (lv' := [(0, _), (1, _), (2, _)]) rfl ?_
  refine V_aload_n (q := 1) dX0_coloursClash_0 0 rfl rfl ?_
  refine V_get (q := 4) dX0_coloursClash_1 hin_X0_coloursClash 0 rfl rfl 9 (by decide) f_X0_coloursClash_88 rfl rfl ?_
  refine V_iload_n (q := 5) dX0_coloursClash_4 1 rfl rfl ?_
  refine V_iload_n (q := 6) dX0_coloursClash_5 2 rfl rfl ?_
  refine V_callLs (q := 9) dX0_coloursClash_6 (c_X0_clashBit x y hx hy) yv_X0_clashBit rfl gX0_coloursClash_X0_clashBit rfl (Nat.le_of_ble_eq_true rfl) (by decide) ?_
  refine V_land (q := 10) dX0_coloursClash_9 rfl ?_
  refine V_lconst (q := 11) dX0_coloursClash_10 rfl rfl ?_
  refine V_lcmp (q := 12) dX0_coloursClash_11 rfl ?_
  refine V_if_eqR (q := 15) (tgt := 19) dX0_coloursClash_12 (by decide) (fun c12 => ?_) (fun c12 => ?_)
  · skip
    have c13 := (cl_bit S (i := 8 * x + y) (by omega)).mp ((lg_cmp0 _ _).mp c12)
    refine V_iconst (q := 20) dX0_coloursClash_19 rfl ?_
    exact V_zret dX0_coloursClash_20 rfl (by first | exact bZ_t (by exact c13) | exact bZ_f (by exact c13)) rfl
  · skip
    have c13 : sX S (8 * x + y) = true := by cases h9 : sX S (8 * x + y) <;> first | rfl | exact absurd ((lg_cmp0 _ _).mpr ((cl_bit S (i := 8 * x + y) (by omega)).mpr h9)) c12
    refine V_iconst (q := 16) dX0_coloursClash_15 rfl ?_
    refine V_goto (tgt := 20) dX0_coloursClash_16 (by decide) ?_
    exact V_zret dX0_coloursClash_20 rfl (by first | exact bZ_t (by exact c13) | exact bZ_f (by exact c13)) rfl
theorem hin_X0_doClash : ∀ w ∈ wsX00, w ∈ wsX0_doClash := by decide +kernel
theorem f_X0_doClash_13 : Cond.fieldLink RX0 13 (TX0 1).1 (TX0 1).2.1 (TX0 1).2.2.1 ∈ wsX0_doClash := by decide +kernel
theorem yv_X0_doClash : YV yX0_doClash wsX0_doClash 2 := ⟨_, _, _, _, rfl, by decide +kernel, by decide⟩
set_option maxRecDepth 100000 in
set_option maxHeartbeats 4000000 in
theorem c_X0_doClash {a : Nat → Nat} {c : Nat → ClassId} {S : St} {g : Nat → Nat} (ho : Ok S) (x y : Int) (rx : -2147483648 ≤ x ∧ x < 2147483648) (ry : -2147483648 ≤ y ∧ y < 2147483648) : CtI yX0_doClash wsX0_doClash (rmD 2) (tyk c) [.ref (a 0), .int (iZ x), .int (iZ y)] (wkc a c S g) (iZ (bZ (dcZ S x y))) (wkc a c S g) := by
  refine CtI_of (own := RX0) (by decide) rfl rfl (Nat.le_of_ble_eq_true rfl) ?_
  refine V_lvq (lv' := [(0, _), (1, _), (2, _)]) rfl ?_
  refine V_aload_n (q := 1) dX0_doClash_0 0 rfl rfl ?_
  refine V_iload_n (q := 2) dX0_doClash_1 1 rfl rfl ?_
  refine V_callIv (q := 5) dX0_doClash_2 (c_X0_isThing ho x rx) yv_X0_isThing rfl gX0_doClash_X0_isThing rfl 0 rfl rfl rfl rfl (Nat.le_of_ble_eq_true rfl) (by decide) ?_
  refine V_if_eqB (q := 8) (tgt := 39) dX0_doClash_5 (by decide) (fun c5 => ?_) (fun c5 => ?_)
  · skip
    refine V_iconst (q := 40) dX0_doClash_39 rfl ?_
    exact V_zret dX0_doClash_40 rfl (by first | exact bZ_t (by simp [dcZ, *]) | exact bZ_f (by simp [dcZ, *])) rfl
  · skip
    refine V_aload_n (q := 9) dX0_doClash_8 0 rfl rfl ?_
    refine V_iload_n (q := 10) dX0_doClash_9 2 rfl rfl ?_
    refine V_callIv (q := 13) dX0_doClash_10 (c_X0_isThing ho y ry) yv_X0_isThing rfl gX0_doClash_X0_isThing rfl 0 rfl rfl rfl rfl (Nat.le_of_ble_eq_true rfl) (by decide) ?_
    refine V_if_eqB (q := 16) (tgt := 39) dX0_doClash_13 (by decide) (fun c13 => ?_) (fun c13 => ?_)
    · skip
      refine V_iconst (q := 40) dX0_doClash_39 rfl ?_
      exact V_zret dX0_doClash_40 rfl (by first | exact bZ_t (by simp [dcZ, *]) | exact bZ_f (by simp [dcZ, *])) rfl
    · skip
      obtain ⟨x0, x1, x2, x3, x4⟩ := hasZ_lt ho c5
      obtain ⟨y0, y1, y2, y3, y4⟩ := hasZ_lt ho c13
      have h7 := ho.2.2.2.1
      refine V_aload_n (q := 17) dX0_doClash_16 0 rfl rfl ?_
      refine V_aload_n (q := 18) dX0_doClash_17 0 rfl rfl ?_
      refine V_get (q := 21) dX0_doClash_18 hin_X0_doClash 0 rfl rfl 1 (by decide) f_X0_doClash_13 rfl rfl ?_
      refine V_iload_n (q := 22) dX0_doClash_21 1 rfl rfl ?_
      refine V_iald (q := 23) dX0_doClash_22 2 1 rfl rfl (x.toNat) (x2.symm) (x4) (by decide) rfl rfl ?_
      refine V_aload_n (q := 24) dX0_doClash_23 0 rfl rfl ?_
      refine V_get (q := 27) dX0_doClash_24 hin_X0_doClash 0 rfl rfl 1 (by decide) f_X0_doClash_13 rfl rfl ?_
      refine V_iload_n (q := 28) dX0_doClash_27 2 rfl rfl ?_
      refine V_iald (q := 29) dX0_doClash_28 2 1 rfl rfl (y.toNat) (y2.symm) (y4) (by decide) rfl rfl ?_
      refine V_callIv (q := 32) dX0_doClash_29 (c_X0_coloursClash (sC S x.toNat) (sC S y.toNat) (h7 _) (h7 _)) yv_X0_coloursClash rfl gX0_doClash_X0_coloursClash rfl 0 rfl rfl rfl rfl (Nat.le_of_ble_eq_true rfl) (by decide) ?_
      refine V_if_eqB (q := 35) (tgt := 39) dX0_doClash_32 (by decide) (fun c32 => ?_) (fun c32 => ?_)
      · skip
        refine V_iconst (q := 40) dX0_doClash_39 rfl ?_
        exact V_zret dX0_doClash_40 rfl (by first | exact bZ_t (by simp [dcZ, *]) | exact bZ_f (by simp [dcZ, *])) rfl
      · skip
        refine V_iconst (q := 36) dX0_doClash_35 rfl ?_
        refine V_goto (tgt := 40) dX0_doClash_36 (by decide) ?_
        exact V_zret dX0_doClash_40 rfl (by first | exact bZ_t (by simp [dcZ, *]) | exact bZ_f (by simp [dcZ, *])) rfl
theorem yv_X0_fitsOver : YV yX0_fitsOver wsX0_fitsOver 3 := ⟨_, _, _, _, rfl, by decide +kernel, by decide⟩
set_option maxRecDepth 100000 in
set_option maxHeartbeats 4000000 in
theorem c_X0_fitsOver {a : Nat → Nat} {c : Nat → ClassId} {S : St} {g : Nat → Nat} (ho : Ok S) (d t b : Int) (rd : -2147483648 ≤ d ∧ d < 2147483648) (rt : -2147483648 ≤ t ∧ t < 2147483648) (rb : -2147483648 ≤ b ∧ b < 2147483648) : CtI yX0_fitsOver wsX0_fitsOver (rmD 4) (tyk c) [.ref (a 0), .int (iZ d), .int (iZ t), .int (iZ b)] (wkc a c S g) (iZ (bZ (fovZ S d t b))) (wkc a c S g) := by
  refine CtI_of (own := RX0) (by decide) rfl rfl (Nat.le_of_ble_eq_true rfl) ?_
  refine V_lvq (lv' := [(0, _), (1, _), (2, _), (3, _)]) rfl ?_
  refine V_aload_n (q := 1) dX0_fitsOver_0 0 rfl rfl ?_
  refine V_iload_n (q := 2) dX0_fitsOver_1 1 rfl rfl ?_
  refine V_iconst (q := 3) dX0_fitsOver_2 rfl ?_
  refine V_callIv (q := 6) dX0_fitsOver_3 (c_X0_isCleanOfKind ho d 2 rd (by decide)) yv_X0_isCleanOfKind rfl gX0_fitsOver_X0_isCleanOfKind rfl 0 rfl rfl rfl rfl (Nat.le_of_ble_eq_true rfl) (by decide) ?_
  refine V_if_eqB (q := 9) (tgt := 31) dX0_fitsOver_6 (by decide) (fun c6 => ?_) (fun c6 => ?_)
  · skip
    refine V_iconst (q := 32) dX0_fitsOver_31 rfl ?_
    exact V_zret dX0_fitsOver_32 rfl (by first | exact bZ_t (by simp [fovZ, *]) | exact bZ_f (by simp [fovZ, *])) rfl
  · skip
    refine V_aload_n (q := 10) dX0_fitsOver_9 0 rfl rfl ?_
    refine V_iload_n (q := 11) dX0_fitsOver_10 1 rfl rfl ?_
    refine V_iload_n (q := 12) dX0_fitsOver_11 2 rfl rfl ?_
    refine V_callIv (q := 15) dX0_fitsOver_12 (c_X0_doClash ho d t rd rt) yv_X0_doClash rfl gX0_fitsOver_X0_doClash rfl 0 rfl rfl rfl rfl (Nat.le_of_ble_eq_true rfl) (by decide) ?_
    refine V_if_neB (q := 18) (tgt := 31) dX0_fitsOver_15 (by decide) (fun c15 => ?_) (fun c15 => ?_)
    · skip
      refine V_iconst (q := 32) dX0_fitsOver_31 rfl ?_
      exact V_zret dX0_fitsOver_32 rfl (by first | exact bZ_t (by simp [fovZ, *]) | exact bZ_f (by simp [fovZ, *])) rfl
    · skip
      refine V_aload_n (q := 19) dX0_fitsOver_18 0 rfl rfl ?_
      refine V_iload_n (q := 20) dX0_fitsOver_19 1 rfl rfl ?_
      refine V_iload_n (q := 21) dX0_fitsOver_20 3 rfl rfl ?_
      refine V_callIv (q := 24) dX0_fitsOver_21 (c_X0_doClash ho d b rd rb) yv_X0_doClash rfl gX0_fitsOver_X0_doClash rfl 0 rfl rfl rfl rfl (Nat.le_of_ble_eq_true rfl) (by decide) ?_
      refine V_if_neB (q := 27) (tgt := 31) dX0_fitsOver_24 (by decide) (fun c24 => ?_) (fun c24 => ?_)
      · skip
        refine V_iconst (q := 32) dX0_fitsOver_31 rfl ?_
        exact V_zret dX0_fitsOver_32 rfl (by first | exact bZ_t (by simp [fovZ, *]) | exact bZ_f (by simp [fovZ, *])) rfl
      · skip
        refine V_iconst (q := 28) dX0_fitsOver_27 rfl ?_
        refine V_goto (tgt := 32) dX0_fitsOver_28 (by decide) ?_
        exact V_zret dX0_fitsOver_32 rfl (by first | exact bZ_t (by simp [fovZ, *]) | exact bZ_f (by simp [fovZ, *])) rfl
theorem yv_X0_canBeWorn : YV yX0_canBeWorn wsX0_canBeWorn 3 := ⟨_, _, _, _, rfl, by decide +kernel, by decide⟩
set_option maxRecDepth 100000 in
set_option maxHeartbeats 4000000 in
theorem c_X0_canBeWorn {a : Nat → Nat} {c : Nat → ClassId} {S : St} {g : Nat → Nat} (ho : Ok S) (t b d : Int) (rt : -2147483648 ≤ t ∧ t < 2147483648) (rb : -2147483648 ≤ b ∧ b < 2147483648) (rd : -2147483648 ≤ d ∧ d < 2147483648) : CtI yX0_canBeWorn wsX0_canBeWorn (rmD 5) (tyk c) [.ref (a 0), .int (iZ t), .int (iZ b), .int (iZ d)] (wkc a c S g) (iZ (bZ (canZ S t b d))) (wkc a c S g) := by
  refine CtI_of (own := RX0) (by decide) rfl rfl (Nat.le_of_ble_eq_true rfl) ?_
  refine V_lvq (lv' := [(0, _), (1, _), (2, _), (3, _)]) rfl ?_
  refine V_aload_n (q := 1) dX0_canBeWorn_0 0 rfl rfl ?_
  refine V_iload_n (q := 2) dX0_canBeWorn_1 1 rfl rfl ?_
  refine V_iconst (q := 3) dX0_canBeWorn_2 rfl ?_
  refine V_callIv (q := 6) dX0_canBeWorn_3 (c_X0_isCleanOfKind ho t 0 rt (by decide)) yv_X0_isCleanOfKind rfl gX0_canBeWorn_X0_isCleanOfKind rfl 0 rfl rfl rfl rfl (Nat.le_of_ble_eq_true rfl) (by decide) ?_
  refine V_if_eqB (q := 9) (tgt := 46) dX0_canBeWorn_6 (by decide) (fun c6 => ?_) (fun c6 => ?_)
  · skip
    refine V_iconst (q := 47) dX0_canBeWorn_46 rfl ?_
    exact V_zret dX0_canBeWorn_47 rfl (by first | exact bZ_t (by simp [canZ, *]) | exact bZ_f (by simp [canZ, *])) rfl
  · skip
    refine V_aload_n (q := 10) dX0_canBeWorn_9 0 rfl rfl ?_
    refine V_iload_n (q := 11) dX0_canBeWorn_10 2 rfl rfl ?_
    refine V_iconst (q := 12) dX0_canBeWorn_11 rfl ?_
    refine V_callIv (q := 15) dX0_canBeWorn_12 (c_X0_isCleanOfKind ho b 1 rb (by decide)) yv_X0_isCleanOfKind rfl gX0_canBeWorn_X0_isCleanOfKind rfl 0 rfl rfl rfl rfl (Nat.le_of_ble_eq_true rfl) (by decide) ?_
    refine V_if_eqB (q := 18) (tgt := 46) dX0_canBeWorn_15 (by decide) (fun c15 => ?_) (fun c15 => ?_)
    · skip
      refine V_iconst (q := 47) dX0_canBeWorn_46 rfl ?_
      exact V_zret dX0_canBeWorn_47 rfl (by first | exact bZ_t (by simp [canZ, *]) | exact bZ_f (by simp [canZ, *])) rfl
    · skip
      refine V_aload_n (q := 19) dX0_canBeWorn_18 0 rfl rfl ?_
      refine V_iload_n (q := 20) dX0_canBeWorn_19 1 rfl rfl ?_
      refine V_iload_n (q := 21) dX0_canBeWorn_20 2 rfl rfl ?_
      refine V_callIv (q := 24) dX0_canBeWorn_21 (c_X0_doClash ho t b rt rb) yv_X0_doClash rfl gX0_canBeWorn_X0_doClash rfl 0 rfl rfl rfl rfl (Nat.le_of_ble_eq_true rfl) (by decide) ?_
      refine V_if_neB (q := 27) (tgt := 46) dX0_canBeWorn_24 (by decide) (fun c24 => ?_) (fun c24 => ?_)
      · skip
        refine V_iconst (q := 47) dX0_canBeWorn_46 rfl ?_
        exact V_zret dX0_canBeWorn_47 rfl (by first | exact bZ_t (by simp [canZ, *]) | exact bZ_f (by simp [canZ, *])) rfl
      · skip
        refine V_iload_n (q := 28) dX0_canBeWorn_27 3 rfl rfl ?_
        refine V_iconst (q := 29) dX0_canBeWorn_28 rfl ?_
        refine V_icmp_eq (q := 32) (tgt := 42) dX0_canBeWorn_29 (by omega) (by omega) (by decide) (fun c29 => ?_) (fun c29 => ?_)
        · skip
          refine V_iconst (q := 43) dX0_canBeWorn_42 rfl ?_
          refine V_goto (tgt := 47) dX0_canBeWorn_43 (by decide) ?_
          exact V_zret dX0_canBeWorn_47 rfl (by first | exact bZ_t (by simp [canZ, *]) | exact bZ_f (by simp [canZ, *])) rfl
        · skip
          refine V_aload_n (q := 33) dX0_canBeWorn_32 0 rfl rfl ?_
          refine V_iload_n (q := 34) dX0_canBeWorn_33 3 rfl rfl ?_
          refine V_iload_n (q := 35) dX0_canBeWorn_34 1 rfl rfl ?_
          refine V_iload_n (q := 36) dX0_canBeWorn_35 2 rfl rfl ?_
          refine V_callIv (q := 39) dX0_canBeWorn_36 (c_X0_fitsOver ho d t b rd rt rb) yv_X0_fitsOver rfl gX0_canBeWorn_X0_fitsOver rfl 0 rfl rfl rfl rfl (Nat.le_of_ble_eq_true rfl) (by decide) ?_
          refine V_if_eqB (q := 42) (tgt := 46) dX0_canBeWorn_39 (by decide) (fun c39 => ?_) (fun c39 => ?_)
          · skip
            refine V_iconst (q := 47) dX0_canBeWorn_46 rfl ?_
            exact V_zret dX0_canBeWorn_47 rfl (by first | exact bZ_t (by simp [canZ, *]) | exact bZ_f (by simp [canZ, *])) rfl
          · skip
            refine V_iconst (q := 43) dX0_canBeWorn_42 rfl ?_
            refine V_goto (tgt := 47) dX0_canBeWorn_43 (by decide) ?_
            exact V_zret dX0_canBeWorn_47 rfl (by first | exact bZ_t (by simp [canZ, *]) | exact bZ_f (by simp [canZ, *])) rfl
theorem yv_X0_outfitWarmth : YV yX0_outfitWarmth wsX0_outfitWarmth 3 := ⟨_, _, _, _, rfl, by decide +kernel, by decide⟩
set_option maxRecDepth 100000 in
set_option maxHeartbeats 4000000 in
theorem c_X0_outfitWarmth {a : Nat → Nat} {c : Nat → ClassId} {S : St} {g : Nat → Nat} (ho : Ok S) (t b d : Int) (rt : -2147483648 ≤ t ∧ t < 2147483648) (rb : -2147483648 ≤ b ∧ b < 2147483648) (rd : -2147483648 ≤ d ∧ d < 2147483648) : CtI yX0_outfitWarmth wsX0_outfitWarmth (rmD 3) (tyk c) [.ref (a 0), .int (iZ t), .int (iZ b), .int (iZ d)] (wkc a c S g) (iZ (owZ S t b d)) (wkc a c S g) := by
  refine CtI_of (own := RX0) (by decide) rfl rfl (Nat.le_of_ble_eq_true rfl) ?_
  refine V_lvq (lv' := [(0, _), (1, _), (2, _), (3, _)]) rfl ?_
  refine V_aload_n (q := 1) dX0_outfitWarmth_0 0 rfl rfl ?_
  refine V_iload_n (q := 2) dX0_outfitWarmth_1 1 rfl rfl ?_
  refine V_callIv (q := 5) dX0_outfitWarmth_2 (c_X0_warmthOf ho t rt) yv_X0_warmthOf rfl gX0_outfitWarmth_X0_warmthOf rfl 0 rfl rfl rfl rfl (Nat.le_of_ble_eq_true rfl) (by decide) ?_
  refine V_aload_n (q := 6) dX0_outfitWarmth_5 0 rfl rfl ?_
  refine V_iload_n (q := 7) dX0_outfitWarmth_6 2 rfl rfl ?_
  refine V_callIv (q := 10) dX0_outfitWarmth_7 (c_X0_warmthOf ho b rb) yv_X0_warmthOf rfl gX0_outfitWarmth_X0_warmthOf rfl 0 rfl rfl rfl rfl (Nat.le_of_ble_eq_true rfl) (by decide) ?_
  refine V_iadd (q := 11) dX0_outfitWarmth_10 rfl ?_
  refine V_aload_n (q := 12) dX0_outfitWarmth_11 0 rfl rfl ?_
  refine V_iload_n (q := 13) dX0_outfitWarmth_12 3 rfl rfl ?_
  refine V_callIv (q := 16) dX0_outfitWarmth_13 (c_X0_warmthOf ho d rd) yv_X0_warmthOf rfl gX0_outfitWarmth_X0_warmthOf rfl 0 rfl rfl rfl rfl (Nat.le_of_ble_eq_true rfl) (by decide) ?_
  refine V_iadd (q := 17) dX0_outfitWarmth_16 rfl ?_
  exact V_iret dX0_outfitWarmth_17 rfl (by first | rfl | (congr 1; unfold owZ; omega)) rfl
theorem owZ_le {S : St} (ho : Ok S) (t b d : Int) : owZ S t b d ≤ 30 := by
  have h1 := wrmZ_le ho t
  have h2 := wrmZ_le ho b
  have h3 := wrmZ_le ho d
  unfold owZ
  omega
theorem yv_X0_isWarmOutfit : YV yX0_isWarmOutfit wsX0_isWarmOutfit 4 := ⟨_, _, _, _, rfl, by decide +kernel, by decide⟩
set_option maxRecDepth 100000 in
set_option maxHeartbeats 4000000 in
theorem c_X0_isWarmOutfit {a : Nat → Nat} {c : Nat → ClassId} {S : St} {g : Nat → Nat} (ho : Ok S) (t b d w : Int) (rt : -2147483648 ≤ t ∧ t < 2147483648) (rb : -2147483648 ≤ b ∧ b < 2147483648) (rd : -2147483648 ≤ d ∧ d < 2147483648) (rw : -2147483648 ≤ w ∧ w < 2147483648) : CtI yX0_isWarmOutfit wsX0_isWarmOutfit (rmD 6) (tyk c) [.ref (a 0), .int (iZ t), .int (iZ b), .int (iZ d), .int (iZ w)] (wkc a c S g) (iZ (bZ (warmZ S t b d w))) (wkc a c S g) := by
  refine CtI_of (own := RX0) (by decide) rfl rfl (Nat.le_of_ble_eq_true rfl) ?_
  refine V_lvq (lv' := [(0, _), (1, _), (2, _), (3, _), (4, _)]) rfl ?_
  refine V_aload_n (q := 1) dX0_isWarmOutfit_0 0 rfl rfl ?_
  refine V_iload_n (q := 2) dX0_isWarmOutfit_1 1 rfl rfl ?_
  refine V_iload_n (q := 3) dX0_isWarmOutfit_2 2 rfl rfl ?_
  refine V_iload_n (q := 4) dX0_isWarmOutfit_3 3 rfl rfl ?_
  refine V_callIv (q := 7) dX0_isWarmOutfit_4 (c_X0_outfitWarmth ho t b d rt rb rd) yv_X0_outfitWarmth rfl gX0_isWarmOutfit_X0_outfitWarmth rfl 0 rfl rfl rfl rfl (Nat.le_of_ble_eq_true rfl) (by decide) ?_
  refine V_iload (q := 9) dX0_isWarmOutfit_7 4 rfl rfl ?_
  refine V_icmp_lt (q := 12) (tgt := 26) dX0_isWarmOutfit_9 (by have h8 := owZ_le ho t b d; omega) (by have h8 := owZ_le ho t b d; omega) (by decide) (fun c9 => ?_) (fun c9 => ?_)
  · skip
    refine V_iconst (q := 27) dX0_isWarmOutfit_26 rfl ?_
    exact V_zret dX0_isWarmOutfit_27 rfl (by first | exact bZ_t (by first | (simp [warmZ, *]; done) | (simp [warmZ]; omega)) | exact bZ_f (by first | (simp [warmZ, *]; done) | (simp [warmZ]; omega))) rfl
  · skip
    refine V_aload_n (q := 13) dX0_isWarmOutfit_12 0 rfl rfl ?_
    refine V_iload_n (q := 14) dX0_isWarmOutfit_13 1 rfl rfl ?_
    refine V_iload_n (q := 15) dX0_isWarmOutfit_14 2 rfl rfl ?_
    refine V_iload_n (q := 16) dX0_isWarmOutfit_15 3 rfl rfl ?_
    refine V_callIv (q := 19) dX0_isWarmOutfit_16 (c_X0_canBeWorn ho t b d rt rb rd) yv_X0_canBeWorn rfl gX0_isWarmOutfit_X0_canBeWorn rfl 0 rfl rfl rfl rfl (Nat.le_of_ble_eq_true rfl) (by decide) ?_
    refine V_if_eqB (q := 22) (tgt := 26) dX0_isWarmOutfit_19 (by decide) (fun c19 => ?_) (fun c19 => ?_)
    · skip
      refine V_iconst (q := 27) dX0_isWarmOutfit_26 rfl ?_
      exact V_zret dX0_isWarmOutfit_27 rfl (by first | exact bZ_t (by first | (simp [warmZ, *]; done) | (simp [warmZ]; omega)) | exact bZ_f (by first | (simp [warmZ, *]; done) | (simp [warmZ]; omega))) rfl
    · skip
      refine V_iconst (q := 23) dX0_isWarmOutfit_22 rfl ?_
      refine V_goto (tgt := 27) dX0_isWarmOutfit_23 (by decide) ?_
      exact V_zret dX0_isWarmOutfit_27 rfl (by first | exact bZ_t (by first | (simp [warmZ, *]; done) | (simp [warmZ]; omega)) | exact bZ_f (by first | (simp [warmZ, *]; done) | (simp [warmZ]; omega))) rfl
end
section
theorem fr_le {S : St} (ho : Ok S) (i : Nat) : fr (sE S i) ≤ 10007 := by
  have h1 := ho.2.1
  have h2 := ho.2.2.2.2.2.2.2.2.1 i
  unfold fr
  split <;> omega
theorem hasZ_nat {S : St} (k : Nat) : hasZ S (k : Int) = hasT S k := by simp [hasZ]
theorem bZ_inj {u v : Bool} : bZ u = bZ v ↔ u = v := by cases u <;> cases v <;> decide
theorem or_bit {p : Nat → Bool} {k : Nat} (hk : k < 31) (h : p k = true) : iZ (bits p k : Nat) ||| (iZ 1 <<< (iZ (k : Int) &&& 31)) = iZ (bits p (k + 1) : Nat) := by
  have h1 : (2 : Nat) ^ k ≤ 2 ^ 31 := Nat.pow_le_pow_right (by decide) (by omega)
  rw [show (iZ 1 : Int32) = iZ ((1 : Nat) : Int) from rfl, z_shl (by omega) (by omega), z_or, bits_t h, Nat.one_mul]
/-- the answers of loops -/
def coP (S : St) (t b w : Int) : Nat → Bool := fun k => warmZ S t b ((k : Int) - 1) w
def coZ (S : St) (t b w : Int) : Nat := if canZ S t b (-1) then cnt (coP S t b w) (sN S + 1) else 0
def cbP (S : St) (tc : Nat) : Nat → Bool := fun j => clnZ S (j : Int) 1 && !sX S (8 * tc + sC S j)
def snP (S : St) (t b : Int) (p : Nat) : Nat → Bool := fun q => p.testBit q && decide (sT S < fr (sE S (8 * (12 * t.toNat + b.toNat) + q)))
def seenZ (S : St) (t b : Int) (p : Nat) : Bool := hasZ S t && hasZ S b && exB (snP S t b p) 8
def shE (S : St) (t b : Int) (p k : Nat) : Nat → Nat := fun i => if 8 * (12 * t.toNat + b.toNat) ≤ i ∧ i < 8 * (12 * t.toNat + b.toNat) + k ∧ p.testBit (i - 8 * (12 * t.toNat + b.toNat)) = true then sT S + 1 else sE S i
def shw (S : St) (t b : Int) (p : Nat) : St := if hasZ S t && hasZ S b then uE S (shE S t b p 8) else S
def washZ (S : St) (x r : Int) (dk : Bool) : Bool := hasZ S x && decide ((sR S x.toNat : Int) = r) && (decide (4 ≤ sC S x.toNat) == dk)
def nxP (S : St) (r : Int) (dk : Bool) (z : Int) (k : Nat) : Bool := washZ S (k : Int) r dk && decide (sL S k < sM S k) && (decide (z = -1) || decide (sL S k < lftZ S z))
def nxt (S : St) (r : Int) (dk : Bool) : Nat → Int
  | 0 => -1
  | k + 1 => if nxP S r dk (nxt S r dk k) k then (k : Int) else nxt S r dk k
theorem nxt_t {S : St} {r : Int} {dk : Bool} {k : Nat} (h : nxP S r dk (nxt S r dk k) k = true) : nxt S r dk (k + 1) = k := by
  show (if nxP S r dk (nxt S r dk k) k then (k : Int) else nxt S r dk k) = _
  rw [if_pos h]
theorem nxt_f {S : St} {r : Int} {dk : Bool} {k : Nat} (h : nxP S r dk (nxt S r dk k) k = false) : nxt S r dk (k + 1) = nxt S r dk k := by
  show (if nxP S r dk (nxt S r dk k) k then (k : Int) else nxt S r dk k) = _
  rw [if_neg (by rw [h]; decide)]
theorem nxt_in (S : St) (r : Int) (dk : Bool) : ∀ k, -1 ≤ nxt S r dk k ∧ nxt S r dk k < k
  | 0 => ⟨Int.le_refl _, by show (-1 : Int) < 0; decide⟩
  | k + 1 => by
    have h := nxt_in S r dk k
    show -1 ≤ (if nxP S r dk (nxt S r dk k) k then (k : Int) else nxt S r dk k) ∧ (if nxP S r dk (nxt S r dk k) k then (k : Int) else nxt S r dk k) < _
    split <;> omega
def tkP (S : St) (k : Int) : Nat → Bool := fun j => kdZ S (j : Int) k
def usP (S : St) (g : Nat → Nat) : Nat → Bool := fun j => decide (0 < lftZ S (j : Int)) && decide (g j ≠ 0)
def lfI (S : St) (x : Nat) : Nat → Nat := fun j => if x.testBit j then sL S j else 0
def prtZ (S : St) (t b w : Int) : Bool := kdZ S t 0 && kdZ S b 1 && !dcZ S t b && decide (w ≤ (owZ S t b (-1) : Int))
def nxp (p w : Nat) : Nat := (4294967296 + p - w) &&& w
theorem z_nxp (p w : Nat) (h : w ≤ 4294967296 + p) : iZ ((p : Int) - (w : Int)) &&& iZ w = iZ (nxp p w : Nat) := by
  have e : iZ ((p : Int) - (w : Int)) = iZ ((4294967296 + p - w : Nat) : Int) := by
    rw [show ((4294967296 + p - w : Nat) : Int) = ((p : Int) - (w : Int)) + 4294967296 by omega, ← iZ_add, show iZ 4294967296 = 0 from by decide, Int32.add_zero]
  rw [e, z_and]
  rfl
theorem bc_all : (List.range 4096).all (fun x => decide ((let y := iZ ((x : Nat) : Int); let y1 := y - ((y.toUInt32 >>> ((iZ 1).toUInt32 &&& Int32.toUInt32 31)).toInt32 &&& 1431655765); let y2 := (y1 &&& 858993459) + ((y1.toUInt32 >>> ((iZ 2).toUInt32 &&& Int32.toUInt32 31)).toInt32 &&& 858993459); let y3 := (y2 + (y2.toUInt32 >>> ((iZ 4).toUInt32 &&& Int32.toUInt32 31)).toInt32) &&& 252645135; let y4 := y3 + (y3.toUInt32 >>> ((iZ 8).toUInt32 &&& Int32.toUInt32 31)).toInt32; let y5 := y4 + (y4.toUInt32 >>> ((iZ 16).toUInt32 &&& Int32.toUInt32 31)).toInt32; y5 &&& iZ 63) = iZ (pc x : Nat))) = true := by decide +kernel
theorem yv_J6_bitCount_0f7a4 : YV yJ6_bitCount_0f7a4 wsJ6_bitCount_0f7a4 1 := ⟨_, _, _, _, rfl, by decide +kernel, by decide⟩
set_option maxRecDepth 100000 in
set_option maxHeartbeats 4000000 in
theorem c_J6_bitCount_0f7a4 {tys : List (ClassId × FieldType)} {w : va_W} (x : Nat) (hx : x < 4096) : CtI yJ6_bitCount_0f7a4 wsJ6_bitCount_0f7a4 (rmD 0) tys [.int (iZ x)] (w) (iZ (pc x : Nat)) (w) := by
  refine CtI_of (own := RJ6) (by decide) rfl rfl (Nat.le_of_ble_eq_true rfl) ?_
  refine V_lvq (lv' := [(0, _)]) rfl ?_
  refine V_iload_n (q := 1) dJ6_bitCount_0f7a4_0 0 rfl rfl ?_
  refine V_iload_n (q := 2) dJ6_bitCount_0f7a4_1 0 rfl rfl ?_
  refine V_iconst (q := 3) dJ6_bitCount_0f7a4_2 rfl ?_
  refine V_iushr (q := 4) dJ6_bitCount_0f7a4_3 rfl ?_
  refine V_ldcw (q := 7) (v := 1431655765) dJ6_bitCount_0f7a4_4 (by decide +kernel) rfl ?_
  refine V_iand (q := 8) dJ6_bitCount_0f7a4_7 rfl ?_
  refine V_isubR (q := 9) dJ6_bitCount_0f7a4_8 rfl ?_
  refine V_istore_n (q := 10) (lv' := [(0, _)]) dJ6_bitCount_0f7a4_9 (by decide) rfl rfl ?_
  refine V_iload_n (q := 11) dJ6_bitCount_0f7a4_10 0 rfl rfl ?_
  refine V_ldcw (q := 14) (v := 858993459) dJ6_bitCount_0f7a4_11 (by decide +kernel) rfl ?_
  refine V_iand (q := 15) dJ6_bitCount_0f7a4_14 rfl ?_
  refine V_iload_n (q := 16) dJ6_bitCount_0f7a4_15 0 rfl rfl ?_
  refine V_iconst (q := 17) dJ6_bitCount_0f7a4_16 rfl ?_
  refine V_iushr (q := 18) dJ6_bitCount_0f7a4_17 rfl ?_
  refine V_ldcw (q := 21) (v := 858993459) dJ6_bitCount_0f7a4_18 (by decide +kernel) rfl ?_
  refine V_iand (q := 22) dJ6_bitCount_0f7a4_21 rfl ?_
  refine V_iaddR (q := 23) dJ6_bitCount_0f7a4_22 rfl ?_
  refine V_istore_n (q := 24) (lv' := [(0, _)]) dJ6_bitCount_0f7a4_23 (by decide) rfl rfl ?_
  refine V_iload_n (q := 25) dJ6_bitCount_0f7a4_24 0 rfl rfl ?_
  refine V_iload_n (q := 26) dJ6_bitCount_0f7a4_25 0 rfl rfl ?_
  refine V_iconst (q := 27) dJ6_bitCount_0f7a4_26 rfl ?_
  refine V_iushr (q := 28) dJ6_bitCount_0f7a4_27 rfl ?_
  refine V_iaddR (q := 29) dJ6_bitCount_0f7a4_28 rfl ?_
  refine V_ldcw (q := 32) (v := 252645135) dJ6_bitCount_0f7a4_29 (by decide +kernel) rfl ?_
  refine V_iand (q := 33) dJ6_bitCount_0f7a4_32 rfl ?_
  refine V_istore_n (q := 34) (lv' := [(0, _)]) dJ6_bitCount_0f7a4_33 (by decide) rfl rfl ?_
  refine V_iload_n (q := 35) dJ6_bitCount_0f7a4_34 0 rfl rfl ?_
  refine V_iload_n (q := 36) dJ6_bitCount_0f7a4_35 0 rfl rfl ?_
  refine V_bipush (q := 38) dJ6_bitCount_0f7a4_36 (by decide) rfl ?_
  refine V_iushr (q := 39) dJ6_bitCount_0f7a4_38 rfl ?_
  refine V_iaddR (q := 40) dJ6_bitCount_0f7a4_39 rfl ?_
  refine V_istore_n (q := 41) (lv' := [(0, _)]) dJ6_bitCount_0f7a4_40 (by decide) rfl rfl ?_
  refine V_iload_n (q := 42) dJ6_bitCount_0f7a4_41 0 rfl rfl ?_
  refine V_iload_n (q := 43) dJ6_bitCount_0f7a4_42 0 rfl rfl ?_
  refine V_bipush (q := 45) dJ6_bitCount_0f7a4_43 (by decide) rfl ?_
  refine V_iushr (q := 46) dJ6_bitCount_0f7a4_45 rfl ?_
  refine V_iaddR (q := 47) dJ6_bitCount_0f7a4_46 rfl ?_
  refine V_istore_n (q := 48) (lv' := [(0, _)]) dJ6_bitCount_0f7a4_47 (by decide) rfl rfl ?_
  refine V_iload_n (q := 49) dJ6_bitCount_0f7a4_48 0 rfl rfl ?_
  refine V_bipush (q := 51) dJ6_bitCount_0f7a4_49 (by decide) rfl ?_
  refine V_iand (q := 52) dJ6_bitCount_0f7a4_51 rfl ?_
  exact V_iret dJ6_bitCount_0f7a4_52 rfl (of_decide_eq_true (List.all_eq_true.mp bc_all x (List.mem_range.mpr hx))) rfl
theorem hin_X0_countOutfitsOf : ∀ w ∈ wsX00, w ∈ wsX0_countOutfitsOf := by decide +kernel
theorem f_X0_countOutfitsOf_52 : Cond.fieldLink RX0 52 (TX0 6).1 (TX0 6).2.1 (TX0 6).2.2.1 ∈ wsX0_countOutfitsOf := by decide +kernel
set_option maxRecDepth 100000 in
set_option maxHeartbeats 4000000 in
theorem lp_X0_countOutfitsOf {a : Nat → Nat} {c : Nat → ClassId} {S : St} {g : Nat → Nat} (ho : Ok S) (t b w : Int) (rt : -2147483648 ≤ t ∧ t < 2147483648) (rb : -2147483648 ≤ b ∧ b < 2147483648) (rw : -2147483648 ≤ w ∧ w < 2147483648) : ∀ (m k : Nat), k ≤ sN S + 1 → sN S + 1 + 1 ≤ k + m → V RX0 cX0_countOutfitsOf 6 (some .int) wsX0_countOutfitsOf (rmD 7) vX0 (tyk c) (qI (tyk c) (wkc a c S g) (iZ (cnt (coP S t b w) (sN S + 1) : Nat)) 0 0) 0 0 (wkc a c S g) 18 [(0, .ref (a 0)), (1, .int (iZ t)), (2, .int (iZ b)), (3, .int (iZ w)), (4, .int (iZ (cnt (coP S t b w) k : Nat))), (5, .int (iZ ((k : Int) - 1)))] [] := by
  intro m
  induction m with
  | zero => intro k  h1 h2 ; exact absurd h2 (by omega)
  | succ m ih =>
    intro k  h1 h2 
    have hn := ho.1
    have rw' := rw
    refine V_iload (q := 20) dX0_countOutfitsOf_18 5 rfl rfl ?_
    refine V_aload_n (q := 21) dX0_countOutfitsOf_20 0 rfl rfl ?_
    refine V_get (q := 24) dX0_countOutfitsOf_21 hin_X0_countOutfitsOf 0 rfl rfl 6 (by decide) f_X0_countOutfitsOf_52 rfl rfl ?_
    refine V_icmp_ge (q := 27) (tgt := 48) dX0_countOutfitsOf_24 (by omega) (by omega) (by decide) (fun c24 => ?_) (fun c24 => ?_)
    · skip
      refine V_iload (q := 50) dX0_countOutfitsOf_48 4 rfl rfl ?_
      exact V_iret dX0_countOutfitsOf_50 rfl (by rw [show k = sN S + 1 by omega]) rfl
    · skip
      refine V_aload_n (q := 28) dX0_countOutfitsOf_27 0 rfl rfl ?_
      refine V_iload_n (q := 29) dX0_countOutfitsOf_28 1 rfl rfl ?_
      refine V_iload_n (q := 30) dX0_countOutfitsOf_29 2 rfl rfl ?_
      refine V_iload (q := 32) dX0_countOutfitsOf_30 5 rfl rfl ?_
      refine V_iload_n (q := 33) dX0_countOutfitsOf_32 3 rfl rfl ?_
      refine V_callIv (q := 36) dX0_countOutfitsOf_33 (c_X0_isWarmOutfit ho t b ((k : Int) - 1) w rt rb (by omega) rw') yv_X0_isWarmOutfit rfl gX0_countOutfitsOf_X0_isWarmOutfit rfl 0 rfl rfl rfl rfl (Nat.le_of_ble_eq_true rfl) (by decide) ?_
      refine V_if_eqB (q := 39) (tgt := 42) dX0_countOutfitsOf_36 (by decide) (fun c36 => ?_) (fun c36 => ?_)
      · skip
        rw [← cnt_f (p := coP S t b w) (n := k) c36]
        refine V_iinc (q := 45) (y := (((k + 1 : Nat) : Int) - 1)) (lv' := [(0, _), (1, _), (2, _), (3, _), (4, _), (5, _)]) dX0_countOutfitsOf_42 5 rfl (by omega) (by decide) rfl rfl ?_
        refine V_goto (tgt := 18) dX0_countOutfitsOf_45 (by decide) ?_
        exact ih (k + 1) (by omega) (by omega)
      · skip
        refine V_iinc (q := 42) (y := (cnt (coP S t b w) (k + 1) : Nat)) (lv' := [(0, _), (1, _), (2, _), (3, _), (4, _), (5, _)]) dX0_countOutfitsOf_39 4 rfl (by rw [cnt_t (p := coP S t b w) (n := k) c36]; rfl) (by decide) rfl rfl ?_
        refine V_iinc (q := 45) (y := (((k + 1 : Nat) : Int) - 1)) (lv' := [(0, _), (1, _), (2, _), (3, _), (4, _), (5, _)]) dX0_countOutfitsOf_42 5 rfl (by omega) (by decide) rfl rfl ?_
        refine V_goto (tgt := 18) dX0_countOutfitsOf_45 (by decide) ?_
        exact ih (k + 1) (by omega) (by omega)
theorem yv_X0_countOutfitsOf : YV yX0_countOutfitsOf wsX0_countOutfitsOf 3 := ⟨_, _, _, _, rfl, by decide +kernel, by decide⟩
set_option maxRecDepth 100000 in
set_option maxHeartbeats 4000000 in
theorem c_X0_countOutfitsOf {a : Nat → Nat} {c : Nat → ClassId} {S : St} {g : Nat → Nat} (ho : Ok S) (t b w : Int) (rt : -2147483648 ≤ t ∧ t < 2147483648) (rb : -2147483648 ≤ b ∧ b < 2147483648) (rw : -2147483648 ≤ w ∧ w < 2147483648) : CtI yX0_countOutfitsOf wsX0_countOutfitsOf (rmD 7) (tyk c) [.ref (a 0), .int (iZ t), .int (iZ b), .int (iZ w)] (wkc a c S g) (iZ (coZ S t b w : Nat)) (wkc a c S g) := by
  refine CtI_of (own := RX0) (by decide) rfl rfl (Nat.le_of_ble_eq_true rfl) ?_
  refine V_lvq (lv' := [(0, _), (1, _), (2, _), (3, _)]) rfl ?_
  refine V_aload_n (q := 1) dX0_countOutfitsOf_0 0 rfl rfl ?_
  refine V_iload_n (q := 2) dX0_countOutfitsOf_1 1 rfl rfl ?_
  refine V_iload_n (q := 3) dX0_countOutfitsOf_2 2 rfl rfl ?_
  refine V_iconst (q := 4) dX0_countOutfitsOf_3 rfl ?_
  refine V_callIv (q := 7) dX0_countOutfitsOf_4 (c_X0_canBeWorn ho t b (-1) rt rb (by decide)) yv_X0_canBeWorn rfl gX0_countOutfitsOf_X0_canBeWorn rfl 0 rfl rfl rfl rfl (Nat.le_of_ble_eq_true rfl) (by decide) ?_
  refine V_if_neB (q := 10) (tgt := 12) dX0_countOutfitsOf_7 (by decide) (fun c7 => ?_) (fun c7 => ?_)
  · skip
    rw [show coZ S t b w = cnt (coP S t b w) (sN S + 1) from if_pos c7]
    refine V_iconst (q := 13) dX0_countOutfitsOf_12 rfl ?_
    refine V_istore (q := 15) (lv' := [(0, _), (1, _), (2, _), (3, _), (4, _)]) dX0_countOutfitsOf_13 (by decide) rfl rfl ?_
    refine V_iconst (q := 16) dX0_countOutfitsOf_15 rfl ?_
    refine V_istore (q := 18) (lv' := [(0, _), (1, _), (2, _), (3, _), (4, _), (5, _)]) dX0_countOutfitsOf_16 (by decide) rfl rfl ?_
    exact lp_X0_countOutfitsOf ho t b w rt rb rw (sN S + 2) 0 (by omega) (by omega)
  · skip
    rw [show coZ S t b w = 0 from if_neg (by rw [c7]; decide)]
    refine V_iconst (q := 11) dX0_countOutfitsOf_10 rfl ?_
    exact V_iret dX0_countOutfitsOf_11 rfl (rfl) rfl
theorem hin_X0_countBottomsFor : ∀ w ∈ wsX00, w ∈ wsX0_countBottomsFor := by decide +kernel
theorem f_X0_countBottomsFor_13 : Cond.fieldLink RX0 13 (TX0 1).1 (TX0 1).2.1 (TX0 1).2.2.1 ∈ wsX0_countBottomsFor := by decide +kernel
theorem f_X0_countBottomsFor_52 : Cond.fieldLink RX0 52 (TX0 6).1 (TX0 6).2.1 (TX0 6).2.2.1 ∈ wsX0_countBottomsFor := by decide +kernel
set_option maxRecDepth 100000 in
set_option maxHeartbeats 4000000 in
theorem lp_X0_countBottomsFor {a : Nat → Nat} {c : Nat → ClassId} {S : St} {g : Nat → Nat} (ho : Ok S) (tc : Nat) (htc : tc ≤ 7) : ∀ (m k : Nat), k ≤ sN S → sN S + 1 ≤ k + m → V RX0 cX0_countBottomsFor 4 (some .int) wsX0_countBottomsFor (rmD 4) vX0 (tyk c) (qI (tyk c) (wkc a c S g) (iZ (cnt (cbP S tc) (sN S) : Nat)) 0 0) 0 0 (wkc a c S g) 4 [(0, .ref (a 0)), (1, .int (iZ tc)), (2, .int (iZ (cnt (cbP S tc) k : Nat))), (3, .int (iZ k))] [] := by
  intro m
  induction m with
  | zero => intro k  h1 h2 ; exact absurd h2 (by omega)
  | succ m ih =>
    intro k  h1 h2 
    have hn := ho.1
    refine V_iload_n (q := 5) dX0_countBottomsFor_4 3 rfl rfl ?_
    refine V_aload_n (q := 6) dX0_countBottomsFor_5 0 rfl rfl ?_
    refine V_get (q := 9) dX0_countBottomsFor_6 hin_X0_countBottomsFor 0 rfl rfl 6 (by decide) f_X0_countBottomsFor_52 rfl rfl ?_
    refine V_icmp_ge (q := 12) (tgt := 44) dX0_countBottomsFor_9 (by omega) (by omega) (by decide) (fun c9 => ?_) (fun c9 => ?_)
    · skip
      refine V_iload_n (q := 45) dX0_countBottomsFor_44 2 rfl rfl ?_
      exact V_iret dX0_countBottomsFor_45 rfl (by rw [show k = sN S by omega]) rfl
    · skip
      refine V_aload_n (q := 13) dX0_countBottomsFor_12 0 rfl rfl ?_
      refine V_iload_n (q := 14) dX0_countBottomsFor_13 3 rfl rfl ?_
      refine V_iconst (q := 15) dX0_countBottomsFor_14 rfl ?_
      refine V_callIv (q := 18) dX0_countBottomsFor_15 (c_X0_isCleanOfKind ho k 1 (by omega) (by decide)) yv_X0_isCleanOfKind rfl gX0_countBottomsFor_X0_isCleanOfKind rfl 0 rfl rfl rfl rfl (Nat.le_of_ble_eq_true rfl) (by decide) ?_
      refine V_if_eqB (q := 21) (tgt := 38) dX0_countBottomsFor_18 (by decide) (fun c18 => ?_) (fun c18 => ?_)
      · skip
        rw [← cnt_f (p := cbP S tc) (n := k) (by simp [cbP, c18])]
        refine V_iinc (q := 41) (lv' := [(0, _), (1, _), (2, _), (3, _)]) dX0_countBottomsFor_38 3 rfl (rfl) (by decide) rfl rfl ?_
        refine V_goto (tgt := 4) dX0_countBottomsFor_41 (by decide) ?_
        exact ih (k + 1) (by omega) (by omega)
      · skip
        refine V_aload_n (q := 22) dX0_countBottomsFor_21 0 rfl rfl ?_
        refine V_iload_n (q := 23) dX0_countBottomsFor_22 1 rfl rfl ?_
        refine V_aload_n (q := 24) dX0_countBottomsFor_23 0 rfl rfl ?_
        refine V_get (q := 27) dX0_countBottomsFor_24 hin_X0_countBottomsFor 0 rfl rfl 1 (by decide) f_X0_countBottomsFor_13 rfl rfl ?_
        refine V_iload_n (q := 28) dX0_countBottomsFor_27 3 rfl rfl ?_
        refine V_iald (q := 29) dX0_countBottomsFor_28 2 1 rfl rfl (k) (rfl) (by omega) (by decide) rfl rfl ?_
        refine V_callIv (q := 32) dX0_countBottomsFor_29 (c_X0_coloursClash tc (sC S k) htc (ho.2.2.2.1 k)) yv_X0_coloursClash rfl gX0_countBottomsFor_X0_coloursClash rfl 0 rfl rfl rfl rfl (Nat.le_of_ble_eq_true rfl) (by decide) ?_
        refine V_if_neB (q := 35) (tgt := 38) dX0_countBottomsFor_32 (by decide) (fun c32 => ?_) (fun c32 => ?_)
        · skip
          rw [← cnt_f (p := cbP S tc) (n := k) (by simp [cbP, c18, c32])]
          refine V_iinc (q := 41) (lv' := [(0, _), (1, _), (2, _), (3, _)]) dX0_countBottomsFor_38 3 rfl (rfl) (by decide) rfl rfl ?_
          refine V_goto (tgt := 4) dX0_countBottomsFor_41 (by decide) ?_
          exact ih (k + 1) (by omega) (by omega)
        · skip
          refine V_iinc (q := 38) (y := (cnt (cbP S tc) (k + 1) : Nat)) (lv' := [(0, _), (1, _), (2, _), (3, _)]) dX0_countBottomsFor_35 2 rfl (by rw [cnt_t (p := cbP S tc) (n := k) (by simp [cbP, c18, c32])]; rfl) (by decide) rfl rfl ?_
          refine V_iinc (q := 41) (lv' := [(0, _), (1, _), (2, _), (3, _)]) dX0_countBottomsFor_38 3 rfl (rfl) (by decide) rfl rfl ?_
          refine V_goto (tgt := 4) dX0_countBottomsFor_41 (by decide) ?_
          exact ih (k + 1) (by omega) (by omega)
theorem yv_X0_countBottomsFor : YV yX0_countBottomsFor wsX0_countBottomsFor 1 := ⟨_, _, _, _, rfl, by decide +kernel, by decide⟩
set_option maxRecDepth 100000 in
set_option maxHeartbeats 4000000 in
theorem c_X0_countBottomsFor {a : Nat → Nat} {c : Nat → ClassId} {S : St} {g : Nat → Nat} (ho : Ok S) (tc : Nat) (htc : tc ≤ 7) : CtI yX0_countBottomsFor wsX0_countBottomsFor (rmD 4) (tyk c) [.ref (a 0), .int (iZ tc)] (wkc a c S g) (iZ (cnt (cbP S tc) (sN S) : Nat)) (wkc a c S g) := by
  refine CtI_of (own := RX0) (by decide) rfl rfl (Nat.le_of_ble_eq_true rfl) ?_
  refine V_lvq (lv' := [(0, _), (1, _)]) rfl ?_
  refine V_iconst (q := 1) dX0_countBottomsFor_0 rfl ?_
  refine V_istore_n (q := 2) (lv' := [(0, _), (1, _), (2, _)]) dX0_countBottomsFor_1 (by decide) rfl rfl ?_
  refine V_iconst (q := 3) dX0_countBottomsFor_2 rfl ?_
  refine V_istore_n (q := 4) (lv' := [(0, _), (1, _), (2, _), (3, _)]) dX0_countBottomsFor_3 (by decide) rfl rfl ?_
  exact lp_X0_countBottomsFor ho tc htc (sN S + 1) 0 (by omega) (by omega)
theorem yv_X0_firstSeat : YV yX0_firstSeat wsX0_firstSeat 2 := ⟨_, _, _, _, rfl, by decide +kernel, by decide⟩
set_option maxRecDepth 100000 in
set_option maxHeartbeats 4000000 in
theorem c_X0_firstSeat {tys : List (ClassId × FieldType)} {w : va_W} (t b : Int) : CtI yX0_firstSeat wsX0_firstSeat (rmD 0) tys [.int (iZ t), .int (iZ b)] (w) (iZ ((t * 12 + b) * 8)) (w) := by
  refine CtI_of (own := RX0) (by decide) rfl rfl (Nat.le_of_ble_eq_true rfl) ?_
  refine V_lvq (lv' := [(0, _), (1, _)]) rfl ?_
  refine V_iload_n (q := 1) dX0_firstSeat_0 0 rfl rfl ?_
  refine V_bipush (q := 3) dX0_firstSeat_1 (by decide) rfl ?_
  refine V_imul (q := 4) dX0_firstSeat_3 rfl ?_
  refine V_iload_n (q := 5) dX0_firstSeat_4 1 rfl rfl ?_
  refine V_iadd (q := 6) dX0_firstSeat_5 rfl ?_
  refine V_bipush (q := 8) dX0_firstSeat_6 (by decide) rfl ?_
  refine V_imul (q := 9) dX0_firstSeat_8 rfl ?_
  exact V_iret dX0_firstSeat_9 rfl (rfl) rfl
theorem hin_X0_wasSeenLately : ∀ w ∈ wsX00, w ∈ wsX0_wasSeenLately := by decide +kernel
theorem f_X0_wasSeenLately_28 : Cond.fieldLink RX0 28 (TX0 10).1 (TX0 10).2.1 (TX0 10).2.2.1 ∈ wsX0_wasSeenLately := by decide +kernel
theorem f_X0_wasSeenLately_162 : Cond.fieldLink RX0 162 (TX0 8).1 (TX0 8).2.1 (TX0 8).2.2.1 ∈ wsX0_wasSeenLately := by decide +kernel
set_option maxRecDepth 100000 in
set_option maxHeartbeats 4000000 in
theorem lp_X0_wasSeenLately {a : Nat → Nat} {c : Nat → ClassId} {S : St} {g : Nat → Nat} (ho : Ok S) (t b : Int) (p : Nat) (rt : -2147483648 ≤ t ∧ t < 2147483648) (rb : -2147483648 ≤ b ∧ b < 2147483648) (hp : p < 256) (ht : hasZ S t = true) (hb : hasZ S b = true) : ∀ (m k : Nat), k ≤ 8 → 8 + 1 ≤ k + m → (exB (snP S t b p) k = false) → V RX0 cX0_wasSeenLately 6 (some .boolean) wsX0_wasSeenLately (rmD 2) vX0 (tyk c) (qI (tyk c) (wkc a c S g) (iZ (bZ (exB (snP S t b p) 8))) 0 0) 0 0 (wkc a c S g) 28 [(0, .ref (a 0)), (1, .int (iZ t)), (2, .int (iZ b)), (3, .int (iZ p)), (4, .int (iZ ((t * 12 + b) * 8))), (5, .int (iZ k))] [] := by
  intro m
  induction m with
  | zero => intro k  h1 h2 i0; exact absurd h2 (by omega)
  | succ m ih =>
    intro k  h1 h2 i0
    obtain ⟨t0, t1, t2, t3, t4⟩ := hasZ_lt ho ht
    obtain ⟨b0, b1, b2, b3, b4⟩ := hasZ_lt ho hb
    refine V_iload (q := 30) dX0_wasSeenLately_28 5 rfl rfl ?_
    refine V_bipush (q := 32) dX0_wasSeenLately_30 (by decide) rfl ?_
    refine V_icmp_ge (q := 35) (tgt := 69) dX0_wasSeenLately_32 (by omega) (by omega) (by decide) (fun c32 => ?_) (fun c32 => ?_)
    · skip
      refine V_iconst (q := 70) dX0_wasSeenLately_69 rfl ?_
      exact V_zret dX0_wasSeenLately_70 rfl (by have hk : k = 8 := (by omega); subst hk; exact bZ_f i0) rfl
    · skip
      refine V_iload_n (q := 36) dX0_wasSeenLately_35 3 rfl rfl ?_
      refine V_iload (q := 38) dX0_wasSeenLately_36 5 rfl rfl ?_
      refine V_ishr (q := 39) dX0_wasSeenLately_38 rfl ?_
      refine V_iconst (q := 40) dX0_wasSeenLately_39 rfl ?_
      refine V_iand (q := 41) dX0_wasSeenLately_40 rfl ?_
      refine V_top (z_tb (by omega) (by omega)) ?_
      refine V_if_eqB (q := 44) (tgt := 63) dX0_wasSeenLately_41 (by decide) (fun c41 => ?_) (fun c41 => ?_)
      · skip
        have e9 : exB (snP S t b p) (k + 1) = false := exB_s i0 (by simp [snP, c41])
        refine V_iinc (q := 66) (lv' := [(0, _), (1, _), (2, _), (3, _), (4, _), (5, _)]) dX0_wasSeenLately_63 5 rfl (rfl) (by decide) rfl rfl ?_
        refine V_goto (tgt := 28) dX0_wasSeenLately_66 (by decide) ?_
        exact ih (k + 1) (by omega) (by omega) e9
      · skip
        refine V_aload_n (q := 45) dX0_wasSeenLately_44 0 rfl rfl ?_
        refine V_get (q := 48) dX0_wasSeenLately_45 hin_X0_wasSeenLately 0 rfl rfl 8 (by decide) f_X0_wasSeenLately_162 rfl rfl ?_
        refine V_aload_n (q := 49) dX0_wasSeenLately_48 0 rfl rfl ?_
        refine V_get (q := 52) dX0_wasSeenLately_49 hin_X0_wasSeenLately 0 rfl rfl 10 (by decide) f_X0_wasSeenLately_28 rfl rfl ?_
        refine V_iload (q := 54) dX0_wasSeenLately_52 4 rfl rfl ?_
        refine V_iload (q := 56) dX0_wasSeenLately_54 5 rfl rfl ?_
        refine V_iadd (q := 57) dX0_wasSeenLately_56 rfl ?_
        refine V_iald (q := 58) (v := (iZ (fr (sE S (8 * (12 * t.toNat + b.toNat) + k)) : Nat))) dX0_wasSeenLately_57 7 6 rfl rfl (8 * (12 * t.toNat + b.toNat) + k) (by omega) (by omega) (by decide) rfl rfl ?_
        refine V_icmp_ge (q := 61) (tgt := 63) dX0_wasSeenLately_58 (by have h8 := ho.2.1; omega) (by have h8 := fr_le ho (8 * (12 * t.toNat + b.toNat) + k); omega) (by decide) (fun c58 => ?_) (fun c58 => ?_)
        · skip
          have e9 : exB (snP S t b p) (k + 1) = false := exB_s i0 (by simp only [snP, c41, Bool.true_and, decide_eq_false_iff_not]; omega)
          refine V_iinc (q := 66) (lv' := [(0, _), (1, _), (2, _), (3, _), (4, _), (5, _)]) dX0_wasSeenLately_63 5 rfl (rfl) (by decide) rfl rfl ?_
          refine V_goto (tgt := 28) dX0_wasSeenLately_66 (by decide) ?_
          exact ih (k + 1) (by omega) (by omega) e9
        · skip
          have e8 : exB (snP S t b p) 8 = true := exB_hit (i := k) (by omega) (by simp only [snP, c41, Bool.true_and, decide_eq_true_eq]; omega)
          refine V_iconst (q := 62) dX0_wasSeenLately_61 rfl ?_
          exact V_zret dX0_wasSeenLately_62 rfl (bZ_t e8) rfl
theorem yv_X0_wasSeenLately : YV yX0_wasSeenLately wsX0_wasSeenLately 3 := ⟨_, _, _, _, rfl, by decide +kernel, by decide⟩
set_option maxRecDepth 100000 in
set_option maxHeartbeats 4000000 in
theorem c_X0_wasSeenLately {a : Nat → Nat} {c : Nat → ClassId} {S : St} {g : Nat → Nat} (ho : Ok S) (t b : Int) (p : Nat) (rt : -2147483648 ≤ t ∧ t < 2147483648) (rb : -2147483648 ≤ b ∧ b < 2147483648) (hp : p < 256) : CtI yX0_wasSeenLately wsX0_wasSeenLately (rmD 2) (tyk c) [.ref (a 0), .int (iZ t), .int (iZ b), .int (iZ p)] (wkc a c S g) (iZ (bZ (seenZ S t b p))) (wkc a c S g) := by
  refine CtI_of (own := RX0) (by decide) rfl rfl (Nat.le_of_ble_eq_true rfl) ?_
  refine V_lvq (lv' := [(0, _), (1, _), (2, _), (3, _)]) rfl ?_
  refine V_aload_n (q := 1) dX0_wasSeenLately_0 0 rfl rfl ?_
  refine V_iload_n (q := 2) dX0_wasSeenLately_1 1 rfl rfl ?_
  refine V_callIv (q := 5) dX0_wasSeenLately_2 (c_X0_isThing ho t rt) yv_X0_isThing rfl gX0_wasSeenLately_X0_isThing rfl 0 rfl rfl rfl rfl (Nat.le_of_ble_eq_true rfl) (by decide) ?_
  refine V_if_eqB (q := 8) (tgt := 16) dX0_wasSeenLately_5 (by decide) (fun c5 => ?_) (fun c5 => ?_)
  · skip
    refine V_iconst (q := 17) dX0_wasSeenLately_16 rfl ?_
    exact V_zret dX0_wasSeenLately_17 rfl (bZ_f (by simp [seenZ, *])) rfl
  · skip
    refine V_aload_n (q := 9) dX0_wasSeenLately_8 0 rfl rfl ?_
    refine V_iload_n (q := 10) dX0_wasSeenLately_9 2 rfl rfl ?_
    refine V_callIv (q := 13) dX0_wasSeenLately_10 (c_X0_isThing ho b rb) yv_X0_isThing rfl gX0_wasSeenLately_X0_isThing rfl 0 rfl rfl rfl rfl (Nat.le_of_ble_eq_true rfl) (by decide) ?_
    refine V_if_neB (q := 16) (tgt := 18) dX0_wasSeenLately_13 (by decide) (fun c13 => ?_) (fun c13 => ?_)
    · skip
      rw [show seenZ S t b p = exB (snP S t b p) 8 by simp [seenZ, *]]
      refine V_iload_n (q := 19) dX0_wasSeenLately_18 1 rfl rfl ?_
      refine V_iload_n (q := 20) dX0_wasSeenLately_19 2 rfl rfl ?_
      refine V_callIs (q := 23) dX0_wasSeenLately_20 (c_X0_firstSeat t b) yv_X0_firstSeat rfl gX0_wasSeenLately_X0_firstSeat rfl (Nat.le_of_ble_eq_true rfl) (by decide) ?_
      refine V_istore (q := 25) (lv' := [(0, _), (1, _), (2, _), (3, _), (4, _)]) dX0_wasSeenLately_23 (by decide) rfl rfl ?_
      refine V_iconst (q := 26) dX0_wasSeenLately_25 rfl ?_
      refine V_istore (q := 28) (lv' := [(0, _), (1, _), (2, _), (3, _), (4, _), (5, _)]) dX0_wasSeenLately_26 (by decide) rfl rfl ?_
      exact lp_X0_wasSeenLately ho t b p rt rb hp c5 c13 9 0 (by omega) (by omega) rfl
    · skip
      refine V_iconst (q := 17) dX0_wasSeenLately_16 rfl ?_
      exact V_zret dX0_wasSeenLately_17 rfl (bZ_f (by simp [seenZ, *])) rfl
theorem shE_f {S : St} {t b : Int} {p k : Nat} (h : p.testBit k = false) : shE S t b p (k + 1) = shE S t b p k := by
  funext i
  unfold shE
  by_cases hi : i = 8 * (12 * t.toNat + b.toNat) + k
  · subst hi
    have e : 8 * (12 * t.toNat + b.toNat) + k - 8 * (12 * t.toNat + b.toNat) = k := by omega
    rw [e, h]; simp
  · have e : (i < 8 * (12 * t.toNat + b.toNat) + (k + 1)) ↔ (i < 8 * (12 * t.toNat + b.toNat) + k) := by omega
    simp only [e]
theorem shE_t {S : St} {t b : Int} {p k : Nat} (h : p.testBit k = true) : fu (shE S t b p k) (8 * (12 * t.toNat + b.toNat) + k) (sT S + 1) = shE S t b p (k + 1) := by
  funext i
  unfold fu shE
  by_cases hi : i = 8 * (12 * t.toNat + b.toNat) + k
  · subst hi
    have e : 8 * (12 * t.toNat + b.toNat) + k - 8 * (12 * t.toNat + b.toNat) = k := by omega
    rw [e, h, if_pos rfl, if_pos ⟨by omega, by omega, rfl⟩]
  · have e : (i < 8 * (12 * t.toNat + b.toNat) + (k + 1)) ↔ (i < 8 * (12 * t.toNat + b.toNat) + k) := by omega
    simp only [e, if_neg hi]
theorem fr_fu (f : Nat → Nat) (j e : Nat) : fu (fun i => fr (f i)) j (fr e) = fun i => fr (fu f j e i) := by
  funext i
  unfold fu
  by_cases h : i = j <;> simp [h]
theorem hin_X0_showTo : ∀ w ∈ wsX00, w ∈ wsX0_showTo := by decide +kernel
theorem f_X0_showTo_28 : Cond.fieldLink RX0 28 (TX0 10).1 (TX0 10).2.1 (TX0 10).2.2.1 ∈ wsX0_showTo := by decide +kernel
theorem f_X0_showTo_162 : Cond.fieldLink RX0 162 (TX0 8).1 (TX0 8).2.1 (TX0 8).2.2.1 ∈ wsX0_showTo := by decide +kernel
set_option maxRecDepth 100000 in
set_option maxHeartbeats 4000000 in
theorem lp_X0_showTo {a : Nat → Nat} {c : Nat → ClassId} {S : St} {g : Nat → Nat} (ho : Ok S) (t b : Int) (p : Nat) (rt : -2147483648 ≤ t ∧ t < 2147483648) (rb : -2147483648 ≤ b ∧ b < 2147483648) (hp : p < 256) (ht : hasZ S t = true) (hb : hasZ S b = true) : ∀ (m k : Nat), k ≤ 8 → 8 + 1 ≤ k + m → V RX0 cX0_showTo 6 (none) wsX0_showTo (rmD 2) vX0 (tyk c) (qV (tyk c) (wkc a c (uE S (shE S t b p 8)) g) 0 0) 0 0 (wkc a c (uE S (shE S t b p k)) g) 27 [(0, .ref (a 0)), (1, .int (iZ t)), (2, .int (iZ b)), (3, .int (iZ p)), (4, .int (iZ ((t * 12 + b) * 8))), (5, .int (iZ k))] [] := by
  intro m
  induction m with
  | zero => intro k  h1 h2 ; exact absurd h2 (by omega)
  | succ m ih =>
    intro k  h1 h2 
    obtain ⟨t0, t1, t2, t3, t4⟩ := hasZ_lt ho ht
    obtain ⟨b0, b1, b2, b3, b4⟩ := hasZ_lt ho hb
    refine V_iload (q := 29) dX0_showTo_27 5 rfl rfl ?_
    refine V_bipush (q := 31) dX0_showTo_29 (by decide) rfl ?_
    refine V_icmp_ge (q := 34) (tgt := 66) dX0_showTo_31 (by omega) (by omega) (by decide) (fun c31 => ?_) (fun c31 => ?_)
    · skip
      exact V_vret dX0_showTo_66 rfl (by rw [show k = 8 by omega])
    · skip
      refine V_iload_n (q := 35) dX0_showTo_34 3 rfl rfl ?_
      refine V_iload (q := 37) dX0_showTo_35 5 rfl rfl ?_
      refine V_ishr (q := 38) dX0_showTo_37 rfl ?_
      refine V_iconst (q := 39) dX0_showTo_38 rfl ?_
      refine V_iand (q := 40) dX0_showTo_39 rfl ?_
      refine V_top (z_tb (by omega) (by omega)) ?_
      refine V_if_eqB (q := 43) (tgt := 60) dX0_showTo_40 (by decide) (fun c40 => ?_) (fun c40 => ?_)
      · skip
        rw [← shE_f (S := S) (t := t) (b := b) c40]
        refine V_iinc (q := 63) (lv' := [(0, _), (1, _), (2, _), (3, _), (4, _), (5, _)]) dX0_showTo_60 5 rfl (rfl) (by decide) rfl rfl ?_
        refine V_goto (tgt := 27) dX0_showTo_63 (by decide) ?_
        exact ih (k + 1) (by omega) (by omega)
      · skip
        refine V_aload_n (q := 44) dX0_showTo_43 0 rfl rfl ?_
        refine V_get (q := 47) dX0_showTo_44 hin_X0_showTo 0 rfl rfl 10 (by decide) f_X0_showTo_28 rfl rfl ?_
        refine V_iload (q := 49) dX0_showTo_47 4 rfl rfl ?_
        refine V_iload (q := 51) dX0_showTo_49 5 rfl rfl ?_
        refine V_iadd (q := 52) dX0_showTo_51 rfl ?_
        refine V_aload_n (q := 53) dX0_showTo_52 0 rfl rfl ?_
        refine V_get (q := 56) dX0_showTo_53 hin_X0_showTo 0 rfl rfl 8 (by decide) f_X0_showTo_162 rfl rfl ?_
        refine V_bipush (q := 58) dX0_showTo_56 (by decide) rfl ?_
        refine V_iadd (q := 59) dX0_showTo_58 rfl ?_
        refine V_iast (q := 60) (ws' := wkc a c (uE S (shE S t b p (k + 1))) g) dX0_showTo_59 7 6 rfl rfl (8 * (12 * t.toNat + b.toNat) + k) (by omega) (by omega) (by decide) (by rw [iF_upd (fr (sT S + 1)) (by show ((sT S : Int) + 7) = _; unfold fr; rw [if_neg (by omega)]; omega), fr_fu, wk7, uE_uE, sE_uE, shE_t c40]) rfl ?_
        refine V_iinc (q := 63) (lv' := [(0, _), (1, _), (2, _), (3, _), (4, _), (5, _)]) dX0_showTo_60 5 rfl (rfl) (by decide) rfl rfl ?_
        refine V_goto (tgt := 27) dX0_showTo_63 (by decide) ?_
        exact ih (k + 1) (by omega) (by omega)
theorem yv_X0_showTo : YV yX0_showTo wsX0_showTo 3 := ⟨_, _, _, _, rfl, by decide +kernel, by decide⟩
set_option maxRecDepth 100000 in
set_option maxHeartbeats 4000000 in
theorem c_X0_showTo {a : Nat → Nat} {c : Nat → ClassId} {S : St} {g : Nat → Nat} (ho : Ok S) (t b : Int) (p : Nat) (rt : -2147483648 ≤ t ∧ t < 2147483648) (rb : -2147483648 ≤ b ∧ b < 2147483648) (hp : p < 256) : CtV yX0_showTo wsX0_showTo (rmD 2) (tyk c) [.ref (a 0), .int (iZ t), .int (iZ b), .int (iZ p)] (wkc a c S g) (wkc a c (shw S t b p) g) := by
  refine CtV_of (own := RX0) (by decide) rfl rfl (Nat.le_of_ble_eq_true rfl) ?_
  refine V_lvq (lv' := [(0, _), (1, _), (2, _), (3, _)]) rfl ?_
  refine V_aload_n (q := 1) dX0_showTo_0 0 rfl rfl ?_
  refine V_iload_n (q := 2) dX0_showTo_1 1 rfl rfl ?_
  refine V_callIv (q := 5) dX0_showTo_2 (c_X0_isThing ho t rt) yv_X0_isThing rfl gX0_showTo_X0_isThing rfl 0 rfl rfl rfl rfl (Nat.le_of_ble_eq_true rfl) (by decide) ?_
  refine V_if_eqB (q := 8) (tgt := 16) dX0_showTo_5 (by decide) (fun c5 => ?_) (fun c5 => ?_)
  · skip
    exact V_vret dX0_showTo_16 rfl (by simp [shw, *])
  · skip
    refine V_aload_n (q := 9) dX0_showTo_8 0 rfl rfl ?_
    refine V_iload_n (q := 10) dX0_showTo_9 2 rfl rfl ?_
    refine V_callIv (q := 13) dX0_showTo_10 (c_X0_isThing ho b rb) yv_X0_isThing rfl gX0_showTo_X0_isThing rfl 0 rfl rfl rfl rfl (Nat.le_of_ble_eq_true rfl) (by decide) ?_
    refine V_if_neB (q := 16) (tgt := 17) dX0_showTo_13 (by decide) (fun c13 => ?_) (fun c13 => ?_)
    · skip
      rw [show shw S t b p = uE S (shE S t b p 8) by simp [shw, *]]
      refine V_iload_n (q := 18) dX0_showTo_17 1 rfl rfl ?_
      refine V_iload_n (q := 19) dX0_showTo_18 2 rfl rfl ?_
      refine V_callIs (q := 22) dX0_showTo_19 (c_X0_firstSeat t b) yv_X0_firstSeat rfl gX0_showTo_X0_firstSeat rfl (Nat.le_of_ble_eq_true rfl) (by decide) ?_
      refine V_istore (q := 24) (lv' := [(0, _), (1, _), (2, _), (3, _), (4, _)]) dX0_showTo_22 (by decide) rfl rfl ?_
      refine V_iconst (q := 25) dX0_showTo_24 rfl ?_
      refine V_istore (q := 27) (lv' := [(0, _), (1, _), (2, _), (3, _), (4, _), (5, _)]) dX0_showTo_25 (by decide) rfl rfl ?_
      refine V_ws (ws' := wkc a c (uE S (shE S t b p 0)) g) (by rw [show shE S t b p 0 = sE S by funext i; unfold shE; rw [if_neg (by omega)]]; rfl) ?_
      exact lp_X0_showTo ho t b p rt rb hp c5 c13 9 0 (by omega) (by omega)
    · skip
      exact V_vret dX0_showTo_16 rfl (by simp [shw, *])
theorem hin_X0_isWashedWith : ∀ w ∈ wsX00, w ∈ wsX0_isWashedWith := by decide +kernel
theorem f_X0_isWashedWith_13 : Cond.fieldLink RX0 13 (TX0 1).1 (TX0 1).2.1 (TX0 1).2.2.1 ∈ wsX0_isWashedWith := by decide +kernel
theorem f_X0_isWashedWith_22 : Cond.fieldLink RX0 22 (TX0 4).1 (TX0 4).2.1 (TX0 4).2.2.1 ∈ wsX0_isWashedWith := by decide +kernel
theorem yv_X0_isWashedWith : YV yX0_isWashedWith wsX0_isWashedWith 3 := ⟨_, _, _, _, rfl, by decide +kernel, by decide⟩
set_option maxRecDepth 100000 in
set_option maxHeartbeats 4000000 in
theorem c_X0_isWashedWith {a : Nat → Nat} {c : Nat → ClassId} {S : St} {g : Nat → Nat} (ho : Ok S) (x r : Int) (dk : Bool) (rx : -2147483648 ≤ x ∧ x < 2147483648) (rr : -2147483648 ≤ r ∧ r < 2147483648) : CtI yX0_isWashedWith wsX0_isWashedWith (rmD 2) (tyk c) [.ref (a 0), .int (iZ x), .int (iZ r), .int (iZ (bZ dk))] (wkc a c S g) (iZ (bZ (washZ S x r dk))) (wkc a c S g) := by
  refine CtI_of (own := RX0) (by decide) rfl rfl (Nat.le_of_ble_eq_true rfl) ?_
  refine V_lvq (lv' := [(0, _), (1, _), (2, _), (3, _)]) rfl ?_
  refine V_aload_n (q := 1) dX0_isWashedWith_0 0 rfl rfl ?_
  refine V_iload_n (q := 2) dX0_isWashedWith_1 1 rfl rfl ?_
  refine V_callIv (q := 5) dX0_isWashedWith_2 (c_X0_isThing ho x rx) yv_X0_isThing rfl gX0_isWashedWith_X0_isThing rfl 0 rfl rfl rfl rfl (Nat.le_of_ble_eq_true rfl) (by decide) ?_
  refine V_if_eqB (q := 8) (tgt := 41) dX0_isWashedWith_5 (by decide) (fun c5 => ?_) (fun c5 => ?_)
  · skip
    refine V_iconst (q := 42) dX0_isWashedWith_41 rfl ?_
    exact V_zret dX0_isWashedWith_42 rfl (by first | exact bZ_t (by first | (simp [washZ, c5, c15, c35]; done) | (simp only [washZ, c5]; simp [c15, beq_eq_false_iff_ne.mpr c35]; done) | (simp [washZ, *]; done) | (simp [washZ, c5, c15])) | exact bZ_f (by first | (simp [washZ, c5, c15, c35]; done) | (simp only [washZ, c5]; simp [c15, beq_eq_false_iff_ne.mpr c35]; done) | (simp [washZ, *]; done) | (simp [washZ, c5, c15]))) rfl
  · skip
    obtain ⟨x0, x1, x2, x3, x4⟩ := hasZ_lt ho c5
    have h6 := ho.2.2.2.2.2.2.1 x.toNat
    have h7 := ho.2.2.2.1 x.toNat
    refine V_aload_n (q := 9) dX0_isWashedWith_8 0 rfl rfl ?_
    refine V_get (q := 12) dX0_isWashedWith_9 hin_X0_isWashedWith 0 rfl rfl 4 (by decide) f_X0_isWashedWith_22 rfl rfl ?_
    refine V_iload_n (q := 13) dX0_isWashedWith_12 1 rfl rfl ?_
    refine V_iald (q := 14) dX0_isWashedWith_13 5 4 rfl rfl (x.toNat) (x2.symm) (x4) (by decide) rfl rfl ?_
    refine V_iload_n (q := 15) dX0_isWashedWith_14 2 rfl rfl ?_
    refine V_icmp_ne (q := 18) (tgt := 41) dX0_isWashedWith_15 (by omega) (by omega) (by decide) (fun c15 => ?_) (fun c15 => ?_)
    · skip
      refine V_iconst (q := 42) dX0_isWashedWith_41 rfl ?_
      exact V_zret dX0_isWashedWith_42 rfl (by first | exact bZ_t (by first | (simp [washZ, c5, c15, c35]; done) | (simp only [washZ, c5]; simp [c15, beq_eq_false_iff_ne.mpr c35]; done) | (simp [washZ, *]; done) | (simp [washZ, c5, c15])) | exact bZ_f (by first | (simp [washZ, c5, c15, c35]; done) | (simp only [washZ, c5]; simp [c15, beq_eq_false_iff_ne.mpr c35]; done) | (simp [washZ, *]; done) | (simp [washZ, c5, c15]))) rfl
    · skip
      refine V_cut (M := 33) (iZ (bZ (decide (4 ≤ sC S x.toNat)))) ?_ (fun k33 => ?_)
      · -- from the merge
        refine V_iload_n (q := 34) dX0_isWashedWith_33 3 rfl rfl ?_
        refine V_icmp_ne (q := 37) (tgt := 41) dX0_isWashedWith_34 (bZ_in _) (bZ_in _) (by decide) (fun c34 => ?_) (fun c34 => ?_)
        · skip
          have c35 : ¬ (decide (4 ≤ sC S x.toNat)) = dk := fun q => c34 (bZ_inj.mpr q)
          refine V_iconst (q := 42) dX0_isWashedWith_41 rfl ?_
          exact V_zret dX0_isWashedWith_42 rfl (by first | exact bZ_t (by first | (simp [washZ, c5, c15, c35]; done) | (simp only [washZ, c5]; simp [c15, beq_eq_false_iff_ne.mpr c35]; done) | (simp [washZ, *]; done) | (simp [washZ, c5, c15])) | exact bZ_f (by first | (simp [washZ, c5, c15, c35]; done) | (simp only [washZ, c5]; simp [c15, beq_eq_false_iff_ne.mpr c35]; done) | (simp [washZ, *]; done) | (simp [washZ, c5, c15]))) rfl
        · skip
          have c35 := bZ_inj.mp c34
          refine V_iconst (q := 38) dX0_isWashedWith_37 rfl ?_
          refine V_goto (tgt := 42) dX0_isWashedWith_38 (by decide) ?_
          exact V_zret dX0_isWashedWith_42 rfl (by first | exact bZ_t (by first | (simp [washZ, c5, c15, c35]; done) | (simp only [washZ, c5]; simp [c15, beq_eq_false_iff_ne.mpr c35]; done) | (simp [washZ, *]; done) | (simp [washZ, c5, c15])) | exact bZ_f (by first | (simp [washZ, c5, c15, c35]; done) | (simp only [washZ, c5]; simp [c15, beq_eq_false_iff_ne.mpr c35]; done) | (simp [washZ, *]; done) | (simp [washZ, c5, c15]))) rfl
      · -- the ways to it
        refine V_aload_n (q := 19) dX0_isWashedWith_18 0 rfl rfl ?_
        refine V_get (q := 22) dX0_isWashedWith_19 hin_X0_isWashedWith 0 rfl rfl 1 (by decide) f_X0_isWashedWith_13 rfl rfl ?_
        refine V_iload_n (q := 23) dX0_isWashedWith_22 1 rfl rfl ?_
        refine V_iald (q := 24) dX0_isWashedWith_23 2 1 rfl rfl (x.toNat) (x2.symm) (x4) (by decide) rfl rfl ?_
        refine V_iconst (q := 25) dX0_isWashedWith_24 rfl ?_
        refine V_icmp_lt (q := 28) (tgt := 32) dX0_isWashedWith_25 (by omega) (by omega) (by decide) (fun c25 => ?_) (fun c25 => ?_)
        · skip
          refine V_iconst (q := 33) dX0_isWashedWith_32 rfl ?_
          exact k33 _ (by first | exact bZ_t (by simp; omega) | exact bZ_f (by simp; omega))
        · skip
          refine V_iconst (q := 29) dX0_isWashedWith_28 rfl ?_
          refine V_goto (tgt := 33) dX0_isWashedWith_29 (by decide) ?_
          exact k33 _ (by first | exact bZ_t (by simp; omega) | exact bZ_f (by simp; omega))
theorem hin_X0_nextToWash : ∀ w ∈ wsX00, w ∈ wsX0_nextToWash := by decide +kernel
theorem f_X0_nextToWash_19 : Cond.fieldLink RX0 19 (TX0 3).1 (TX0 3).2.1 (TX0 3).2.2.1 ∈ wsX0_nextToWash := by decide +kernel
theorem f_X0_nextToWash_25 : Cond.fieldLink RX0 25 (TX0 5).1 (TX0 5).2.1 (TX0 5).2.2.1 ∈ wsX0_nextToWash := by decide +kernel
theorem f_X0_nextToWash_52 : Cond.fieldLink RX0 52 (TX0 6).1 (TX0 6).2.1 (TX0 6).2.2.1 ∈ wsX0_nextToWash := by decide +kernel
set_option maxRecDepth 100000 in
set_option maxHeartbeats 4000000 in
theorem lp_X0_nextToWash {a : Nat → Nat} {c : Nat → ClassId} {S : St} {g : Nat → Nat} (ho : Ok S) (r : Int) (dk : Bool) (rr : -2147483648 ≤ r ∧ r < 2147483648) : ∀ (m k : Nat), k ≤ sN S → sN S + 1 ≤ k + m → V RX0 cX0_nextToWash 5 (some .int) wsX0_nextToWash (rmD 3) vX0 (tyk c) (qI (tyk c) (wkc a c S g) (iZ (nxt S r dk (sN S))) 0 0) 0 0 (wkc a c S g) 5 [(0, .ref (a 0)), (1, .int (iZ r)), (2, .int (iZ (bZ dk))), (3, .int (iZ (nxt S r dk k))), (4, .int (iZ k))] [] := by
  intro m
  induction m with
  | zero => intro k  h1 h2 ; exact absurd h2 (by omega)
  | succ m ih =>
    intro k  h1 h2 
    have hn := ho.1
    have h9 := nxt_in S r dk k
    have y1 := ho.2.2.2.2.2.2.2.1 k
    have y2 := ho.2.2.2.2.2.1 k
    refine V_iload (q := 7) dX0_nextToWash_5 4 rfl rfl ?_
    refine V_aload_n (q := 8) dX0_nextToWash_7 0 rfl rfl ?_
    refine V_get (q := 11) dX0_nextToWash_8 hin_X0_nextToWash 0 rfl rfl 6 (by decide) f_X0_nextToWash_52 rfl rfl ?_
    refine V_icmp_ge (q := 14) (tgt := 71) dX0_nextToWash_11 (by omega) (by omega) (by decide) (fun c11 => ?_) (fun c11 => ?_)
    · skip
      refine V_iload_n (q := 72) dX0_nextToWash_71 3 rfl rfl ?_
      exact V_iret dX0_nextToWash_72 rfl (by rw [show k = sN S by omega]) rfl
    · skip
      refine V_aload_n (q := 15) dX0_nextToWash_14 0 rfl rfl ?_
      refine V_iload (q := 17) dX0_nextToWash_15 4 rfl rfl ?_
      refine V_iload_n (q := 18) dX0_nextToWash_17 1 rfl rfl ?_
      refine V_iload_n (q := 19) dX0_nextToWash_18 2 rfl rfl ?_
      refine V_callIv (q := 22) dX0_nextToWash_19 (c_X0_isWashedWith ho k r dk (by omega) rr) yv_X0_isWashedWith rfl gX0_nextToWash_X0_isWashedWith rfl 0 rfl rfl rfl rfl (Nat.le_of_ble_eq_true rfl) (by decide) ?_
      refine V_if_eqB (q := 25) (tgt := 65) dX0_nextToWash_22 (by decide) (fun c22 => ?_) (fun c22 => ?_)
      · skip
        rw [← nxt_f (S := S) (r := r) (dk := dk) (k := k) (by simp [nxP, c22])]
        refine V_iinc (q := 68) (lv' := [(0, _), (1, _), (2, _), (3, _), (4, _)]) dX0_nextToWash_65 4 rfl (rfl) (by decide) rfl rfl ?_
        refine V_goto (tgt := 5) dX0_nextToWash_68 (by decide) ?_
        exact ih (k + 1) (by omega) (by omega)
      · skip
        refine V_aload_n (q := 26) dX0_nextToWash_25 0 rfl rfl ?_
        refine V_get (q := 29) dX0_nextToWash_26 hin_X0_nextToWash 0 rfl rfl 5 (by decide) f_X0_nextToWash_25 rfl rfl ?_
        refine V_iload (q := 31) dX0_nextToWash_29 4 rfl rfl ?_
        refine V_iald (q := 32) dX0_nextToWash_31 6 5 rfl rfl (k) (rfl) (by omega) (by decide) rfl rfl ?_
        refine V_aload_n (q := 33) dX0_nextToWash_32 0 rfl rfl ?_
        refine V_get (q := 36) dX0_nextToWash_33 hin_X0_nextToWash 0 rfl rfl 3 (by decide) f_X0_nextToWash_19 rfl rfl ?_
        refine V_iload (q := 38) dX0_nextToWash_36 4 rfl rfl ?_
        refine V_iald (q := 39) dX0_nextToWash_38 4 3 rfl rfl (k) (rfl) (by omega) (by decide) rfl rfl ?_
        refine V_icmp_ge (q := 42) (tgt := 65) dX0_nextToWash_39 (by omega) (by omega) (by decide) (fun c39 => ?_) (fun c39 => ?_)
        · skip
          rw [← nxt_f (S := S) (r := r) (dk := dk) (k := k) (by simp only [nxP, Bool.and_eq_false_iff, decide_eq_false_iff_not]; exact Or.inl (Or.inr (by omega)))]
          refine V_iinc (q := 68) (lv' := [(0, _), (1, _), (2, _), (3, _), (4, _)]) dX0_nextToWash_65 4 rfl (rfl) (by decide) rfl rfl ?_
          refine V_goto (tgt := 5) dX0_nextToWash_68 (by decide) ?_
          exact ih (k + 1) (by omega) (by omega)
        · skip
          refine V_iload_n (q := 43) dX0_nextToWash_42 3 rfl rfl ?_
          refine V_iconst (q := 44) dX0_nextToWash_43 rfl ?_
          refine V_icmp_eq (q := 47) (tgt := 62) dX0_nextToWash_44 (by omega) (by omega) (by decide) (fun c44 => ?_) (fun c44 => ?_)
          · skip
            refine V_iload (q := 64) dX0_nextToWash_62 4 rfl rfl ?_
            refine V_top (y := iZ (nxt S r dk (k + 1))) (by rw [nxt_t (S := S) (r := r) (dk := dk) (k := k) (by simp only [nxP, c22, Bool.true_and, Bool.and_eq_true, Bool.or_eq_true, decide_eq_true_eq]; omega)]) ?_
            refine V_istore_n (q := 65) (lv' := [(0, _), (1, _), (2, _), (3, _), (4, _)]) dX0_nextToWash_64 (by decide) rfl rfl ?_
            refine V_iinc (q := 68) (lv' := [(0, _), (1, _), (2, _), (3, _), (4, _)]) dX0_nextToWash_65 4 rfl (rfl) (by decide) rfl rfl ?_
            refine V_goto (tgt := 5) dX0_nextToWash_68 (by decide) ?_
            exact ih (k + 1) (by omega) (by omega)
          · skip
            refine V_aload_n (q := 48) dX0_nextToWash_47 0 rfl rfl ?_
            refine V_get (q := 51) dX0_nextToWash_48 hin_X0_nextToWash 0 rfl rfl 5 (by decide) f_X0_nextToWash_25 rfl rfl ?_
            refine V_iload (q := 53) dX0_nextToWash_51 4 rfl rfl ?_
            refine V_iald (q := 54) dX0_nextToWash_53 6 5 rfl rfl (k) (rfl) (by omega) (by decide) rfl rfl ?_
            refine V_aload_n (q := 55) dX0_nextToWash_54 0 rfl rfl ?_
            refine V_iload_n (q := 56) dX0_nextToWash_55 3 rfl rfl ?_
            refine V_callIv (q := 59) dX0_nextToWash_56 (c_X0_wearsLeftOf ho (nxt S r dk k) (by omega)) yv_X0_wearsLeftOf rfl gX0_nextToWash_X0_wearsLeftOf rfl 0 rfl rfl rfl rfl (Nat.le_of_ble_eq_true rfl) (by decide) ?_
            refine V_icmp_ge (q := 62) (tgt := 65) dX0_nextToWash_59 (by omega) (by have h8 := lftZ_le ho (nxt S r dk k); omega) (by decide) (fun c59 => ?_) (fun c59 => ?_)
            · skip
              rw [← nxt_f (S := S) (r := r) (dk := dk) (k := k) (by simp only [nxP, Bool.and_eq_false_iff, Bool.or_eq_false_iff, decide_eq_false_iff_not]; exact Or.inr ⟨by omega, by omega⟩)]
              refine V_iinc (q := 68) (lv' := [(0, _), (1, _), (2, _), (3, _), (4, _)]) dX0_nextToWash_65 4 rfl (rfl) (by decide) rfl rfl ?_
              refine V_goto (tgt := 5) dX0_nextToWash_68 (by decide) ?_
              exact ih (k + 1) (by omega) (by omega)
            · skip
              refine V_iload (q := 64) dX0_nextToWash_62 4 rfl rfl ?_
              refine V_top (y := iZ (nxt S r dk (k + 1))) (by rw [nxt_t (S := S) (r := r) (dk := dk) (k := k) (by simp only [nxP, c22, Bool.true_and, Bool.and_eq_true, Bool.or_eq_true, decide_eq_true_eq]; omega)]) ?_
              refine V_istore_n (q := 65) (lv' := [(0, _), (1, _), (2, _), (3, _), (4, _)]) dX0_nextToWash_64 (by decide) rfl rfl ?_
              refine V_iinc (q := 68) (lv' := [(0, _), (1, _), (2, _), (3, _), (4, _)]) dX0_nextToWash_65 4 rfl (rfl) (by decide) rfl rfl ?_
              refine V_goto (tgt := 5) dX0_nextToWash_68 (by decide) ?_
              exact ih (k + 1) (by omega) (by omega)
theorem yv_X0_nextToWash : YV yX0_nextToWash wsX0_nextToWash 2 := ⟨_, _, _, _, rfl, by decide +kernel, by decide⟩
set_option maxRecDepth 100000 in
set_option maxHeartbeats 4000000 in
theorem c_X0_nextToWash {a : Nat → Nat} {c : Nat → ClassId} {S : St} {g : Nat → Nat} (ho : Ok S) (r : Int) (dk : Bool) (rr : -2147483648 ≤ r ∧ r < 2147483648) : CtI yX0_nextToWash wsX0_nextToWash (rmD 3) (tyk c) [.ref (a 0), .int (iZ r), .int (iZ (bZ dk))] (wkc a c S g) (iZ (nxt S r dk (sN S))) (wkc a c S g) := by
  refine CtI_of (own := RX0) (by decide) rfl rfl (Nat.le_of_ble_eq_true rfl) ?_
  refine V_lvq (lv' := [(0, _), (1, _), (2, _)]) rfl ?_
  refine V_iconst (q := 1) dX0_nextToWash_0 rfl ?_
  refine V_istore_n (q := 2) (lv' := [(0, _), (1, _), (2, _), (3, _)]) dX0_nextToWash_1 (by decide) rfl rfl ?_
  refine V_iconst (q := 3) dX0_nextToWash_2 rfl ?_
  refine V_istore (q := 5) (lv' := [(0, _), (1, _), (2, _), (3, _), (4, _)]) dX0_nextToWash_3 (by decide) rfl rfl ?_
  exact lp_X0_nextToWash ho r dk rr (sN S + 1) 0 (by omega) (by omega)
theorem hin_X0_thingsOfKind : ∀ w ∈ wsX00, w ∈ wsX0_thingsOfKind := by decide +kernel
theorem f_X0_thingsOfKind_52 : Cond.fieldLink RX0 52 (TX0 6).1 (TX0 6).2.1 (TX0 6).2.2.1 ∈ wsX0_thingsOfKind := by decide +kernel
set_option maxRecDepth 100000 in
set_option maxHeartbeats 4000000 in
theorem lp_X0_thingsOfKind {a : Nat → Nat} {c : Nat → ClassId} {S : St} {g : Nat → Nat} (ho : Ok S) (q : Int) (rq : -2147483648 ≤ q ∧ q < 2147483648) : ∀ (m k : Nat), k ≤ sN S → sN S + 1 ≤ k + m → V RX0 cX0_thingsOfKind 4 (some .int) wsX0_thingsOfKind (rmD 3) vX0 (tyk c) (qI (tyk c) (wkc a c S g) (iZ (bits (tkP S q) (sN S) : Nat)) 0 0) 0 0 (wkc a c S g) 4 [(0, .ref (a 0)), (1, .int (iZ q)), (2, .int (iZ (bits (tkP S q) k : Nat))), (3, .int (iZ k))] [] := by
  intro m
  induction m with
  | zero => intro k  h1 h2 ; exact absurd h2 (by omega)
  | succ m ih =>
    intro k  h1 h2 
    have hn := ho.1
    refine V_iload_n (q := 5) dX0_thingsOfKind_4 3 rfl rfl ?_
    refine V_aload_n (q := 6) dX0_thingsOfKind_5 0 rfl rfl ?_
    refine V_get (q := 9) dX0_thingsOfKind_6 hin_X0_thingsOfKind 0 rfl rfl 6 (by decide) f_X0_thingsOfKind_52 rfl rfl ?_
    refine V_icmp_ge (q := 12) (tgt := 33) dX0_thingsOfKind_9 (by omega) (by omega) (by decide) (fun c9 => ?_) (fun c9 => ?_)
    · skip
      refine V_iload_n (q := 34) dX0_thingsOfKind_33 2 rfl rfl ?_
      exact V_iret dX0_thingsOfKind_34 rfl (by rw [show k = sN S by omega]) rfl
    · skip
      refine V_aload_n (q := 13) dX0_thingsOfKind_12 0 rfl rfl ?_
      refine V_iload_n (q := 14) dX0_thingsOfKind_13 3 rfl rfl ?_
      refine V_iload_n (q := 15) dX0_thingsOfKind_14 1 rfl rfl ?_
      refine V_callIv (q := 18) dX0_thingsOfKind_15 (c_X0_isOfKind ho k q (by omega) rq) yv_X0_isOfKind rfl gX0_thingsOfKind_X0_isOfKind rfl 0 rfl rfl rfl rfl (Nat.le_of_ble_eq_true rfl) (by decide) ?_
      refine V_if_eqB (q := 21) (tgt := 27) dX0_thingsOfKind_18 (by decide) (fun c18 => ?_) (fun c18 => ?_)
      · skip
        rw [← bits_f (p := tkP S q) (n := k) c18]
        refine V_iinc (q := 30) (lv' := [(0, _), (1, _), (2, _), (3, _)]) dX0_thingsOfKind_27 3 rfl (rfl) (by decide) rfl rfl ?_
        refine V_goto (tgt := 4) dX0_thingsOfKind_30 (by decide) ?_
        exact ih (k + 1) (by omega) (by omega)
      · skip
        refine V_iload_n (q := 22) dX0_thingsOfKind_21 2 rfl rfl ?_
        refine V_iconst (q := 23) dX0_thingsOfKind_22 rfl ?_
        refine V_iload_n (q := 24) dX0_thingsOfKind_23 3 rfl rfl ?_
        refine V_ishl (q := 25) dX0_thingsOfKind_24 rfl ?_
        refine V_ior (q := 26) dX0_thingsOfKind_25 rfl ?_
        refine V_top (or_bit (p := tkP S q) (by omega) c18) ?_
        refine V_istore_n (q := 27) (lv' := [(0, _), (1, _), (2, _), (3, _)]) dX0_thingsOfKind_26 (by decide) rfl rfl ?_
        refine V_iinc (q := 30) (lv' := [(0, _), (1, _), (2, _), (3, _)]) dX0_thingsOfKind_27 3 rfl (rfl) (by decide) rfl rfl ?_
        refine V_goto (tgt := 4) dX0_thingsOfKind_30 (by decide) ?_
        exact ih (k + 1) (by omega) (by omega)
theorem yv_X0_thingsOfKind : YV yX0_thingsOfKind wsX0_thingsOfKind 1 := ⟨_, _, _, _, rfl, by decide +kernel, by decide⟩
set_option maxRecDepth 100000 in
set_option maxHeartbeats 4000000 in
theorem c_X0_thingsOfKind {a : Nat → Nat} {c : Nat → ClassId} {S : St} {g : Nat → Nat} (ho : Ok S) (q : Int) (rq : -2147483648 ≤ q ∧ q < 2147483648) : CtI yX0_thingsOfKind wsX0_thingsOfKind (rmD 3) (tyk c) [.ref (a 0), .int (iZ q)] (wkc a c S g) (iZ (bits (tkP S q) (sN S) : Nat)) (wkc a c S g) := by
  refine CtI_of (own := RX0) (by decide) rfl rfl (Nat.le_of_ble_eq_true rfl) ?_
  refine V_lvq (lv' := [(0, _), (1, _)]) rfl ?_
  refine V_iconst (q := 1) dX0_thingsOfKind_0 rfl ?_
  refine V_istore_n (q := 2) (lv' := [(0, _), (1, _), (2, _)]) dX0_thingsOfKind_1 (by decide) rfl rfl ?_
  refine V_iconst (q := 3) dX0_thingsOfKind_2 rfl ?_
  refine V_istore_n (q := 4) (lv' := [(0, _), (1, _), (2, _), (3, _)]) dX0_thingsOfKind_3 (by decide) rfl rfl ?_
  exact lp_X0_thingsOfKind ho q rq (sN S + 1) 0 (by omega) (by omega)
theorem yv_X0_arePartners : YV yX0_arePartners wsX0_arePartners 3 := ⟨_, _, _, _, rfl, by decide +kernel, by decide⟩
set_option maxRecDepth 100000 in
set_option maxHeartbeats 4000000 in
theorem c_X0_arePartners {a : Nat → Nat} {c : Nat → ClassId} {S : St} {g : Nat → Nat} (ho : Ok S) (t b w : Int) (rt : -2147483648 ≤ t ∧ t < 2147483648) (rb : -2147483648 ≤ b ∧ b < 2147483648) (rw : -2147483648 ≤ w ∧ w < 2147483648) : CtI yX0_arePartners wsX0_arePartners (rmD 4) (tyk c) [.ref (a 0), .int (iZ t), .int (iZ b), .int (iZ w)] (wkc a c S g) (iZ (bZ (prtZ S t b w))) (wkc a c S g) := by
  refine CtI_of (own := RX0) (by decide) rfl rfl (Nat.le_of_ble_eq_true rfl) ?_
  refine V_lvq (lv' := [(0, _), (1, _), (2, _), (3, _)]) rfl ?_
  refine V_aload_n (q := 1) dX0_arePartners_0 0 rfl rfl ?_
  refine V_iload_n (q := 2) dX0_arePartners_1 1 rfl rfl ?_
  refine V_iload_n (q := 3) dX0_arePartners_2 2 rfl rfl ?_
  refine V_iconst (q := 4) dX0_arePartners_3 rfl ?_
  refine V_callIv (q := 7) dX0_arePartners_4 (c_X0_areOfTheirKinds ho t b (-1) rt rb (by decide)) yv_X0_areOfTheirKinds rfl gX0_arePartners_X0_areOfTheirKinds rfl 0 rfl rfl rfl rfl (Nat.le_of_ble_eq_true rfl) (by decide) ?_
  rw [show (kdZ S t 0 && kdZ S b 1 && (decide ((-1 : Int) = -1) || kdZ S (-1) 2)) = (kdZ S t 0 && kdZ S b 1) by simp]
  refine V_if_eqB (q := 10) (tgt := 34) dX0_arePartners_7 (by decide) (fun c7 => ?_) (fun c7 => ?_)
  · skip
    refine V_iconst (q := 35) dX0_arePartners_34 rfl ?_
    exact V_zret dX0_arePartners_35 rfl (by first | exact bZ_t (by first | (simp only [prtZ, c7, c16]; simp; omega) | (simp only [prtZ, c7]; simp; done) | (simp only [prtZ, c7, c16]; simp; done) | (simp [prtZ, *]; done) | (simp [prtZ, *]; omega)) | exact bZ_f (by first | (simp only [prtZ, c7, c16]; simp; omega) | (simp only [prtZ, c7]; simp; done) | (simp only [prtZ, c7, c16]; simp; done) | (simp [prtZ, *]; done) | (simp [prtZ, *]; omega))) rfl
  · skip
    refine V_aload_n (q := 11) dX0_arePartners_10 0 rfl rfl ?_
    refine V_iload_n (q := 12) dX0_arePartners_11 1 rfl rfl ?_
    refine V_iload_n (q := 13) dX0_arePartners_12 2 rfl rfl ?_
    refine V_callIv (q := 16) dX0_arePartners_13 (c_X0_doClash ho t b rt rb) yv_X0_doClash rfl gX0_arePartners_X0_doClash rfl 0 rfl rfl rfl rfl (Nat.le_of_ble_eq_true rfl) (by decide) ?_
    refine V_if_neB (q := 19) (tgt := 34) dX0_arePartners_16 (by decide) (fun c16 => ?_) (fun c16 => ?_)
    · skip
      refine V_iconst (q := 35) dX0_arePartners_34 rfl ?_
      exact V_zret dX0_arePartners_35 rfl (by first | exact bZ_t (by first | (simp only [prtZ, c7, c16]; simp; omega) | (simp only [prtZ, c7]; simp; done) | (simp only [prtZ, c7, c16]; simp; done) | (simp [prtZ, *]; done) | (simp [prtZ, *]; omega)) | exact bZ_f (by first | (simp only [prtZ, c7, c16]; simp; omega) | (simp only [prtZ, c7]; simp; done) | (simp only [prtZ, c7, c16]; simp; done) | (simp [prtZ, *]; done) | (simp [prtZ, *]; omega))) rfl
    · skip
      refine V_aload_n (q := 20) dX0_arePartners_19 0 rfl rfl ?_
      refine V_iload_n (q := 21) dX0_arePartners_20 1 rfl rfl ?_
      refine V_iload_n (q := 22) dX0_arePartners_21 2 rfl rfl ?_
      refine V_iconst (q := 23) dX0_arePartners_22 rfl ?_
      refine V_callIv (q := 26) dX0_arePartners_23 (c_X0_outfitWarmth ho t b (-1) rt rb (by decide)) yv_X0_outfitWarmth rfl gX0_arePartners_X0_outfitWarmth rfl 0 rfl rfl rfl rfl (Nat.le_of_ble_eq_true rfl) (by decide) ?_
      refine V_iload_n (q := 27) dX0_arePartners_26 3 rfl rfl ?_
      refine V_icmp_lt (q := 30) (tgt := 34) dX0_arePartners_27 (by have h8 := owZ_le ho t b (-1); omega) (by have h8 := owZ_le ho t b (-1); omega) (by decide) (fun c27 => ?_) (fun c27 => ?_)
      · skip
        refine V_iconst (q := 35) dX0_arePartners_34 rfl ?_
        exact V_zret dX0_arePartners_35 rfl (by first | exact bZ_t (by first | (simp only [prtZ, c7, c16]; simp; omega) | (simp only [prtZ, c7]; simp; done) | (simp only [prtZ, c7, c16]; simp; done) | (simp [prtZ, *]; done) | (simp [prtZ, *]; omega)) | exact bZ_f (by first | (simp only [prtZ, c7, c16]; simp; omega) | (simp only [prtZ, c7]; simp; done) | (simp only [prtZ, c7, c16]; simp; done) | (simp [prtZ, *]; done) | (simp [prtZ, *]; omega))) rfl
      · skip
        refine V_iconst (q := 31) dX0_arePartners_30 rfl ?_
        refine V_goto (tgt := 35) dX0_arePartners_31 (by decide) ?_
        exact V_zret dX0_arePartners_35 rfl (by first | exact bZ_t (by first | (simp only [prtZ, c7, c16]; simp; omega) | (simp only [prtZ, c7]; simp; done) | (simp only [prtZ, c7, c16]; simp; done) | (simp [prtZ, *]; done) | (simp [prtZ, *]; omega)) | exact bZ_f (by first | (simp only [prtZ, c7, c16]; simp; omega) | (simp only [prtZ, c7]; simp; done) | (simp only [prtZ, c7, c16]; simp; done) | (simp [prtZ, *]; done) | (simp [prtZ, *]; omega))) rfl
theorem hin_X0_usefulThings : ∀ w ∈ wsX00, w ∈ wsX0_usefulThings := by decide +kernel
theorem f_X0_usefulThings_31 : Cond.fieldLink RX0 31 (TX0 11).1 (TX0 11).2.1 (TX0 11).2.2.1 ∈ wsX0_usefulThings := by decide +kernel
theorem f_X0_usefulThings_52 : Cond.fieldLink RX0 52 (TX0 6).1 (TX0 6).2.1 (TX0 6).2.2.1 ∈ wsX0_usefulThings := by decide +kernel
set_option maxRecDepth 100000 in
set_option maxHeartbeats 4000000 in
theorem lp_X0_usefulThings {a : Nat → Nat} {c : Nat → ClassId} {S : St} {g : Nat → Nat} (ho : Ok S) (hg : ∀ j, g j < 4096) : ∀ (m k : Nat), k ≤ sN S → sN S + 1 ≤ k + m → V RX0 cX0_usefulThings 3 (some .int) wsX0_usefulThings (rmD 3) vX0 (tyk c) (qI (tyk c) (wkc a c S g) (iZ (bits (usP S g) (sN S) : Nat)) 0 0) 0 0 (wkc a c S g) 4 [(0, .ref (a 0)), (1, .int (iZ (bits (usP S g) k : Nat))), (2, .int (iZ k))] [] := by
  intro m
  induction m with
  | zero => intro k  h1 h2 ; exact absurd h2 (by omega)
  | succ m ih =>
    intro k  h1 h2 
    have hn := ho.1
    refine V_iload_n (q := 5) dX0_usefulThings_4 2 rfl rfl ?_
    refine V_aload_n (q := 6) dX0_usefulThings_5 0 rfl rfl ?_
    refine V_get (q := 9) dX0_usefulThings_6 hin_X0_usefulThings 0 rfl rfl 6 (by decide) f_X0_usefulThings_52 rfl rfl ?_
    refine V_icmp_ge (q := 12) (tgt := 41) dX0_usefulThings_9 (by omega) (by omega) (by decide) (fun c9 => ?_) (fun c9 => ?_)
    · skip
      refine V_iload_n (q := 42) dX0_usefulThings_41 1 rfl rfl ?_
      exact V_iret dX0_usefulThings_42 rfl (by rw [show k = sN S by omega]) rfl
    · skip
      refine V_aload_n (q := 13) dX0_usefulThings_12 0 rfl rfl ?_
      refine V_iload_n (q := 14) dX0_usefulThings_13 2 rfl rfl ?_
      refine V_callIv (q := 17) dX0_usefulThings_14 (c_X0_wearsLeftOf ho k (by omega)) yv_X0_wearsLeftOf rfl gX0_usefulThings_X0_wearsLeftOf rfl 0 rfl rfl rfl rfl (Nat.le_of_ble_eq_true rfl) (by decide) ?_
      refine V_if_le (q := 20) (tgt := 35) dX0_usefulThings_17 (by have h8 := lftZ_le ho k; omega) (by decide) (fun c17 => ?_) (fun c17 => ?_)
      · skip
        rw [← bits_f (p := usP S g) (n := k) (by simp only [usP, Bool.and_eq_false_iff, decide_eq_false_iff_not]; omega)]
        refine V_iinc (q := 38) (lv' := [(0, _), (1, _), (2, _)]) dX0_usefulThings_35 2 rfl (rfl) (by decide) rfl rfl ?_
        refine V_goto (tgt := 4) dX0_usefulThings_38 (by decide) ?_
        exact ih (k + 1) (by omega) (by omega)
      · skip
        refine V_aload_n (q := 21) dX0_usefulThings_20 0 rfl rfl ?_
        refine V_get (q := 24) dX0_usefulThings_21 hin_X0_usefulThings 0 rfl rfl 11 (by decide) f_X0_usefulThings_31 rfl rfl ?_
        refine V_iload_n (q := 25) dX0_usefulThings_24 2 rfl rfl ?_
        refine V_iald (q := 26) dX0_usefulThings_25 8 7 rfl rfl (k) (rfl) (by omega) (by decide) rfl rfl ?_
        refine V_if_eq (q := 29) (tgt := 35) dX0_usefulThings_26 (by have h8 := hg k; omega) (by decide) (fun c26 => ?_) (fun c26 => ?_)
        · skip
          rw [← bits_f (p := usP S g) (n := k) (by simp only [usP, Bool.and_eq_false_iff, decide_eq_false_iff_not]; omega)]
          refine V_iinc (q := 38) (lv' := [(0, _), (1, _), (2, _)]) dX0_usefulThings_35 2 rfl (rfl) (by decide) rfl rfl ?_
          refine V_goto (tgt := 4) dX0_usefulThings_38 (by decide) ?_
          exact ih (k + 1) (by omega) (by omega)
        · skip
          refine V_iload_n (q := 30) dX0_usefulThings_29 1 rfl rfl ?_
          refine V_iconst (q := 31) dX0_usefulThings_30 rfl ?_
          refine V_iload_n (q := 32) dX0_usefulThings_31 2 rfl rfl ?_
          refine V_ishl (q := 33) dX0_usefulThings_32 rfl ?_
          refine V_ior (q := 34) dX0_usefulThings_33 rfl ?_
          refine V_top (or_bit (p := usP S g) (by omega) (by simp only [usP, Bool.and_eq_true, decide_eq_true_eq]; omega)) ?_
          refine V_istore_n (q := 35) (lv' := [(0, _), (1, _), (2, _)]) dX0_usefulThings_34 (by decide) rfl rfl ?_
          refine V_iinc (q := 38) (lv' := [(0, _), (1, _), (2, _)]) dX0_usefulThings_35 2 rfl (rfl) (by decide) rfl rfl ?_
          refine V_goto (tgt := 4) dX0_usefulThings_38 (by decide) ?_
          exact ih (k + 1) (by omega) (by omega)
theorem yv_X0_usefulThings : YV yX0_usefulThings wsX0_usefulThings 0 := ⟨_, _, _, _, rfl, by decide +kernel, by decide⟩
set_option maxRecDepth 100000 in
set_option maxHeartbeats 4000000 in
theorem c_X0_usefulThings {a : Nat → Nat} {c : Nat → ClassId} {S : St} {g : Nat → Nat} (ho : Ok S) (hg : ∀ j, g j < 4096) : CtI yX0_usefulThings wsX0_usefulThings (rmD 3) (tyk c) [.ref (a 0)] (wkc a c S g) (iZ (bits (usP S g) (sN S) : Nat)) (wkc a c S g) := by
  refine CtI_of (own := RX0) (by decide) rfl rfl (Nat.le_of_ble_eq_true rfl) ?_
  refine V_lvq (lv' := [(0, _)]) rfl ?_
  refine V_iconst (q := 1) dX0_usefulThings_0 rfl ?_
  refine V_istore_n (q := 2) (lv' := [(0, _), (1, _)]) dX0_usefulThings_1 (by decide) rfl rfl ?_
  refine V_iconst (q := 3) dX0_usefulThings_2 rfl ?_
  refine V_istore_n (q := 4) (lv' := [(0, _), (1, _), (2, _)]) dX0_usefulThings_3 (by decide) rfl rfl ?_
  exact lp_X0_usefulThings ho hg (sN S + 1) 0 (by omega) (by omega)
theorem hin_X0_partnersOf : ∀ w ∈ wsX00, w ∈ wsX0_partnersOf := by decide +kernel
theorem f_X0_partnersOf_31 : Cond.fieldLink RX0 31 (TX0 11).1 (TX0 11).2.1 (TX0 11).2.2.1 ∈ wsX0_partnersOf := by decide +kernel
set_option maxRecDepth 100000 in
set_option maxHeartbeats 4000000 in
theorem lp_X0_partnersOf {a : Nat → Nat} {c : Nat → ClassId} {S : St} {g : Nat → Nat} (x : Nat) (hx : x < 4096) : ∀ (m k : Nat), k ≤ 12 → 12 + 1 ≤ k + m → V RX0 cX0_partnersOf 4 (some .int) wsX0_partnersOf (rmD 0) vX0 (tyk c) (qI (tyk c) (wkc a c S g) (iZ (orU g x 12 : Nat)) 0 0) 0 0 (wkc a c S g) 4 [(0, .ref (a 0)), (1, .int (iZ x)), (2, .int (iZ (orU g x k : Nat))), (3, .int (iZ k))] [] := by
  intro m
  induction m with
  | zero => intro k  h1 h2 ; exact absurd h2 (by omega)
  | succ m ih =>
    intro k  h1 h2 
    refine V_iload_n (q := 5) dX0_partnersOf_4 3 rfl rfl ?_
    refine V_bipush (q := 7) dX0_partnersOf_5 (by decide) rfl ?_
    refine V_icmp_ge (q := 10) (tgt := 33) dX0_partnersOf_7 (by omega) (by omega) (by decide) (fun c7 => ?_) (fun c7 => ?_)
    · skip
      refine V_iload_n (q := 34) dX0_partnersOf_33 2 rfl rfl ?_
      exact V_iret dX0_partnersOf_34 rfl (by rw [show k = 12 by omega]) rfl
    · skip
      refine V_iload_n (q := 11) dX0_partnersOf_10 1 rfl rfl ?_
      refine V_iload_n (q := 12) dX0_partnersOf_11 3 rfl rfl ?_
      refine V_ishr (q := 13) dX0_partnersOf_12 rfl ?_
      refine V_iconst (q := 14) dX0_partnersOf_13 rfl ?_
      refine V_iand (q := 15) dX0_partnersOf_14 rfl ?_
      refine V_top (z_tb (by omega) (by omega)) ?_
      refine V_if_eqB (q := 18) (tgt := 27) dX0_partnersOf_15 (by decide) (fun c15 => ?_) (fun c15 => ?_)
      · skip
        rw [← orU_f (g := g) c15]
        refine V_iinc (q := 30) (lv' := [(0, _), (1, _), (2, _), (3, _)]) dX0_partnersOf_27 3 rfl (rfl) (by decide) rfl rfl ?_
        refine V_goto (tgt := 4) dX0_partnersOf_30 (by decide) ?_
        exact ih (k + 1) (by omega) (by omega)
      · skip
        refine V_iload_n (q := 19) dX0_partnersOf_18 2 rfl rfl ?_
        refine V_aload_n (q := 20) dX0_partnersOf_19 0 rfl rfl ?_
        refine V_get (q := 23) dX0_partnersOf_20 hin_X0_partnersOf 0 rfl rfl 11 (by decide) f_X0_partnersOf_31 rfl rfl ?_
        refine V_iload_n (q := 24) dX0_partnersOf_23 3 rfl rfl ?_
        refine V_iald (q := 25) dX0_partnersOf_24 8 7 rfl rfl (k) (rfl) (by omega) (by decide) rfl rfl ?_
        refine V_ior (q := 26) dX0_partnersOf_25 rfl ?_
        refine V_top (y := iZ (orU g x (k + 1) : Nat)) (by rw [orU_t (g := g) c15]; exact z_or _ _) ?_
        refine V_istore_n (q := 27) (lv' := [(0, _), (1, _), (2, _), (3, _)]) dX0_partnersOf_26 (by decide) rfl rfl ?_
        refine V_iinc (q := 30) (lv' := [(0, _), (1, _), (2, _), (3, _)]) dX0_partnersOf_27 3 rfl (rfl) (by decide) rfl rfl ?_
        refine V_goto (tgt := 4) dX0_partnersOf_30 (by decide) ?_
        exact ih (k + 1) (by omega) (by omega)
theorem yv_X0_partnersOf : YV yX0_partnersOf wsX0_partnersOf 1 := ⟨_, _, _, _, rfl, by decide +kernel, by decide⟩
set_option maxRecDepth 100000 in
set_option maxHeartbeats 4000000 in
theorem c_X0_partnersOf {a : Nat → Nat} {c : Nat → ClassId} {S : St} {g : Nat → Nat} (x : Nat) (hx : x < 4096) : CtI yX0_partnersOf wsX0_partnersOf (rmD 0) (tyk c) [.ref (a 0), .int (iZ x)] (wkc a c S g) (iZ (orU g x 12 : Nat)) (wkc a c S g) := by
  refine CtI_of (own := RX0) (by decide) rfl rfl (Nat.le_of_ble_eq_true rfl) ?_
  refine V_lvq (lv' := [(0, _), (1, _)]) rfl ?_
  refine V_iconst (q := 1) dX0_partnersOf_0 rfl ?_
  refine V_istore_n (q := 2) (lv' := [(0, _), (1, _), (2, _)]) dX0_partnersOf_1 (by decide) rfl rfl ?_
  refine V_iconst (q := 3) dX0_partnersOf_2 rfl ?_
  refine V_istore_n (q := 4) (lv' := [(0, _), (1, _), (2, _), (3, _)]) dX0_partnersOf_3 (by decide) rfl rfl ?_
  exact lp_X0_partnersOf x hx 13 0 (by omega) (by omega)
theorem hin_X0_wearsLeftIn : ∀ w ∈ wsX00, w ∈ wsX0_wearsLeftIn := by decide +kernel
theorem f_X0_wearsLeftIn_25 : Cond.fieldLink RX0 25 (TX0 5).1 (TX0 5).2.1 (TX0 5).2.2.1 ∈ wsX0_wearsLeftIn := by decide +kernel
set_option maxRecDepth 100000 in
set_option maxHeartbeats 4000000 in
theorem lp_X0_wearsLeftIn {a : Nat → Nat} {c : Nat → ClassId} {S : St} {g : Nat → Nat} (x : Nat) (hx : x < 4096) : ∀ (m k : Nat), k ≤ 12 → 12 + 1 ≤ k + m → V RX0 cX0_wearsLeftIn 4 (some .int) wsX0_wearsLeftIn (rmD 0) vX0 (tyk c) (qI (tyk c) (wkc a c S g) (iZ (sm (lfI S x) 12 : Nat)) 0 0) 0 0 (wkc a c S g) 4 [(0, .ref (a 0)), (1, .int (iZ x)), (2, .int (iZ (sm (lfI S x) k : Nat))), (3, .int (iZ k))] [] := by
  intro m
  induction m with
  | zero => intro k  h1 h2 ; exact absurd h2 (by omega)
  | succ m ih =>
    intro k  h1 h2 
    refine V_iload_n (q := 5) dX0_wearsLeftIn_4 3 rfl rfl ?_
    refine V_bipush (q := 7) dX0_wearsLeftIn_5 (by decide) rfl ?_
    refine V_icmp_ge (q := 10) (tgt := 33) dX0_wearsLeftIn_7 (by omega) (by omega) (by decide) (fun c7 => ?_) (fun c7 => ?_)
    · skip
      refine V_iload_n (q := 34) dX0_wearsLeftIn_33 2 rfl rfl ?_
      exact V_iret dX0_wearsLeftIn_34 rfl (by rw [show k = 12 by omega]) rfl
    · skip
      refine V_iload_n (q := 11) dX0_wearsLeftIn_10 1 rfl rfl ?_
      refine V_iload_n (q := 12) dX0_wearsLeftIn_11 3 rfl rfl ?_
      refine V_ishr (q := 13) dX0_wearsLeftIn_12 rfl ?_
      refine V_iconst (q := 14) dX0_wearsLeftIn_13 rfl ?_
      refine V_iand (q := 15) dX0_wearsLeftIn_14 rfl ?_
      refine V_top (z_tb (by omega) (by omega)) ?_
      refine V_if_eqB (q := 18) (tgt := 27) dX0_wearsLeftIn_15 (by decide) (fun c15 => ?_) (fun c15 => ?_)
      · skip
        rw [show sm (lfI S x) k = sm (lfI S x) (k + 1) by simp [sm, lfI, c15]]
        refine V_iinc (q := 30) (lv' := [(0, _), (1, _), (2, _), (3, _)]) dX0_wearsLeftIn_27 3 rfl (rfl) (by decide) rfl rfl ?_
        refine V_goto (tgt := 4) dX0_wearsLeftIn_30 (by decide) ?_
        exact ih (k + 1) (by omega) (by omega)
      · skip
        refine V_iload_n (q := 19) dX0_wearsLeftIn_18 2 rfl rfl ?_
        refine V_aload_n (q := 20) dX0_wearsLeftIn_19 0 rfl rfl ?_
        refine V_get (q := 23) dX0_wearsLeftIn_20 hin_X0_wearsLeftIn 0 rfl rfl 5 (by decide) f_X0_wearsLeftIn_25 rfl rfl ?_
        refine V_iload_n (q := 24) dX0_wearsLeftIn_23 3 rfl rfl ?_
        refine V_iald (q := 25) dX0_wearsLeftIn_24 6 5 rfl rfl (k) (rfl) (by omega) (by decide) rfl rfl ?_
        refine V_iadd (q := 26) dX0_wearsLeftIn_25 rfl ?_
        refine V_top (y := iZ (sm (lfI S x) (k + 1) : Nat)) (by simp [sm, lfI, c15]) ?_
        refine V_istore_n (q := 27) (lv' := [(0, _), (1, _), (2, _), (3, _)]) dX0_wearsLeftIn_26 (by decide) rfl rfl ?_
        refine V_iinc (q := 30) (lv' := [(0, _), (1, _), (2, _), (3, _)]) dX0_wearsLeftIn_27 3 rfl (rfl) (by decide) rfl rfl ?_
        refine V_goto (tgt := 4) dX0_wearsLeftIn_30 (by decide) ?_
        exact ih (k + 1) (by omega) (by omega)
theorem yv_X0_wearsLeftIn : YV yX0_wearsLeftIn wsX0_wearsLeftIn 1 := ⟨_, _, _, _, rfl, by decide +kernel, by decide⟩
set_option maxRecDepth 100000 in
set_option maxHeartbeats 4000000 in
theorem c_X0_wearsLeftIn {a : Nat → Nat} {c : Nat → ClassId} {S : St} {g : Nat → Nat} (x : Nat) (hx : x < 4096) : CtI yX0_wearsLeftIn wsX0_wearsLeftIn (rmD 0) (tyk c) [.ref (a 0), .int (iZ x)] (wkc a c S g) (iZ (sm (lfI S x) 12 : Nat)) (wkc a c S g) := by
  refine CtI_of (own := RX0) (by decide) rfl rfl (Nat.le_of_ble_eq_true rfl) ?_
  refine V_lvq (lv' := [(0, _), (1, _)]) rfl ?_
  refine V_iconst (q := 1) dX0_wearsLeftIn_0 rfl ?_
  refine V_istore_n (q := 2) (lv' := [(0, _), (1, _), (2, _)]) dX0_wearsLeftIn_1 (by decide) rfl rfl ?_
  refine V_iconst (q := 3) dX0_wearsLeftIn_2 rfl ?_
  refine V_istore_n (q := 4) (lv' := [(0, _), (1, _), (2, _), (3, _)]) dX0_wearsLeftIn_3 (by decide) rfl rfl ?_
  exact lp_X0_wearsLeftIn x hx 13 0 (by omega) (by omega)
theorem yv_X0_nextPart : YV yX0_nextPart wsX0_nextPart 2 := ⟨_, _, _, _, rfl, by decide +kernel, by decide⟩
set_option maxRecDepth 100000 in
set_option maxHeartbeats 4000000 in
theorem c_X0_nextPart {tys : List (ClassId × FieldType)} {w' : va_W} (x w : Nat) (h : w ≤ 4294967296 + x) : CtI yX0_nextPart wsX0_nextPart (rmD 0) tys [.int (iZ x), .int (iZ w)] (w') (iZ (nxp x w : Nat)) (w') := by
  refine CtI_of (own := RX0) (by decide) rfl rfl (Nat.le_of_ble_eq_true rfl) ?_
  refine V_lvq (lv' := [(0, _), (1, _)]) rfl ?_
  refine V_iload_n (q := 1) dX0_nextPart_0 0 rfl rfl ?_
  refine V_iload_n (q := 2) dX0_nextPart_1 1 rfl rfl ?_
  refine V_isub (q := 3) dX0_nextPart_2 rfl ?_
  refine V_iload_n (q := 4) dX0_nextPart_3 1 rfl rfl ?_
  refine V_iand (q := 5) dX0_nextPart_4 rfl ?_
  exact V_iret dX0_nextPart_5 rfl (z_nxp x w h) rfl
end
section
theorem or_pow (x : Nat) {k : Nat} (hk : k < 31) : iZ x ||| (iZ 1 <<< (iZ (k : Int) &&& 31)) = iZ (x ||| 2 ^ k : Nat) := by
  have h1 : (2 : Nat) ^ k ≤ 2 ^ 31 := Nat.pow_le_pow_right (by decide) (by omega)
  rw [show (iZ 1 : Int32) = iZ ((1 : Nat) : Int) from rfl, z_shl (by omega) (by omega), z_or, Nat.one_mul]
/-- the partners so far: the pairs before the top T, and those of T before the bottom B -/
def prs (S : St) (w : Int) (T B t b : Nat) : Bool := prtZ S t b w && decide (t < T ∨ (t = T ∧ b < B))
def gP (S : St) (w : Int) (g : Nat → Nat) (T B : Nat) : Nat → Nat := fun j => if j < 12 then bits (fun i => prs S w T B j i || prs S w T B i j) 12 else g j
def gF (S : St) (w : Int) (g : Nat → Nat) : Nat → Nat := fun j => if j < 12 then bits (fun i => prtZ S j i w || prtZ S i j w) 12 else g j
def gZ (g : Nat → Nat) (k : Nat) : Nat → Nat := fun j => if j < k then 0 else g j
theorem prtZ_lt {S : St} {t b : Nat} {w : Int} (h : prtZ S t b w = true) : t < sN S ∧ b < sN S ∧ t ≠ b := by
  simp [prtZ, kdZ, hasZ, hasT] at h
  refine ⟨h.1.1.1.1.1, h.1.1.2.1.1, fun e => ?_⟩
  subst e
  have h1 := h.1.1.1.2
  have h2 := h.1.1.2.2
  omega
theorem gZ_0 (g : Nat → Nat) : gZ g 0 = g := by funext j; simp [gZ]
theorem gZ_s (g : Nat → Nat) (k : Nat) : fu (gZ g k) k 0 = gZ g (k + 1) := by
  funext j
  unfold fu gZ
  by_cases h : j = k
  · subst h; simp
  · have e : j < k + 1 ↔ j < k := by omega
    simp [h, e]
theorem bits_zero {p : Nat → Bool} : ∀ {n : Nat}, (∀ i, i < n → p i = false) → bits p n = 0
  | 0, _ => rfl
  | n + 1, h => by rw [bits_f (h n (Nat.lt_succ_self n)), bits_zero (fun i hi => h i (Nat.lt_succ_of_lt hi))]
theorem gP_0 (S : St) (w : Int) (g : Nat → Nat) : gZ g 12 = gP S w g 0 0 := by
  funext j
  unfold gZ gP
  by_cases h : j < 12
  · rw [if_pos h, if_pos h, bits_zero]
    intro i _
    simp [prs]
  · rw [if_neg h, if_neg h]
theorem prs_s {S : St} {w : Int} {T B t b : Nat} : prs S w T (B + 1) t b = (prs S w T B t b || (prtZ S t b w && decide (t = T ∧ b = B))) := by
  unfold prs
  cases prtZ S t b w with
  | false => rfl
  | true =>
    simp only [Bool.true_and]
    rw [Bool.eq_iff_iff]
    simp only [Bool.or_eq_true, decide_eq_true_eq]
    omega
theorem gP_f {S : St} {w : Int} {g : Nat → Nat} {T B : Nat} (h : prtZ S T B w = false) : gP S w g T (B + 1) = gP S w g T B := by
  have e : ∀ t b, prs S w T (B + 1) t b = prs S w T B t b := by
    intro t b
    rw [prs_s]
    by_cases q : t = T ∧ b = B
    · rw [q.1, q.2, h]; simp
    · simp [q]
  funext j
  unfold gP
  simp only [e]
theorem bits_or1 {p q : Nat → Bool} {n B : Nat} (hB : B < n) (h : ∀ i, i < n → q i = (p i || decide (i = B))) : bits p n ||| 2 ^ B = bits q n := by
  apply Nat.eq_of_testBit_eq
  intro i
  rw [Nat.testBit_or, bits_tb, bits_tb, Nat.testBit_two_pow]
  by_cases hi : i < n
  · rw [h i hi]
    simp [hi, eq_comm]
  · have h2 : ¬ B = i := by omega
    simp [hi, h2]
theorem gP_t {S : St} {w : Int} {g : Nat → Nat} {T B : Nat} (hT : T < 12) (hB : B < 12) (h : prtZ S T B w = true) : fu (fu (gP S w g T B) T (gP S w g T B T ||| 2 ^ B)) B (fu (gP S w g T B) T (gP S w g T B T ||| 2 ^ B) B ||| 2 ^ T) = gP S w g T (B + 1) := by
  have hne := (prtZ_lt h).2.2
  have hno : prtZ S B T w = false := by
    cases q : prtZ S B T w with
    | false => rfl
    | true =>
      simp [prtZ, kdZ] at h q
      have h1 := h.1.1.1.2
      have h2 := q.1.1.2.2
      omega
  funext j
  by_cases hj : j = B
  · subst hj
    have hne' : ¬ j = T := fun e => hne e.symm
    unfold fu
    rw [if_pos rfl, if_neg hne']
    unfold gP
    rw [if_pos hB, if_pos hB]
    refine bits_or1 hT fun i _ => ?_
    rw [prs_s, prs_s]
    by_cases q : i = T
    · subst q
      simp [h, hne']
    · simp [q, hne']
  · by_cases hj2 : j = T
    · subst hj2
      unfold fu
      rw [if_neg hne, if_pos rfl]
      unfold gP
      rw [if_pos hT, if_pos hT]
      refine bits_or1 hB fun i _ => ?_
      rw [prs_s, prs_s]
      by_cases q : i = B
      · subst q
        simp [h]
      · simp [q, hne]
    · unfold fu
      rw [if_neg hj, if_neg hj2]
      unfold gP
      by_cases h12 : j < 12
      · rw [if_pos h12, if_pos h12]
        refine bits_cong fun i _ => ?_
        rw [prs_s, prs_s]
        simp [hj, hj2]
      · rw [if_neg h12, if_neg h12]
theorem gP_n {S : St} {w : Int} {g : Nat → Nat} {T : Nat} : gP S w g T (sN S) = gP S w g (T + 1) 0 := by
  have e : ∀ t b, prs S w T (sN S) t b = prs S w (T + 1) 0 t b := by
    intro t b
    unfold prs
    cases h : prtZ S t b w with
    | false => rfl
    | true =>
      have h2 := (prtZ_lt h).2.1
      simp only [Bool.true_and]
      rw [Bool.eq_iff_iff]
      simp only [decide_eq_true_eq]
      omega
  funext j
  unfold gP
  simp only [e]
theorem gP_end {S : St} {w : Int} {g : Nat → Nat} : gP S w g (sN S) 0 = gF S w g := by
  have e : ∀ t b, prs S w (sN S) 0 t b = prtZ S t b w := by
    intro t b
    unfold prs
    cases h : prtZ S t b w with
    | false => rfl
    | true =>
      have h2 := (prtZ_lt h).1
      simp [h2]
  funext j
  unfold gP gF
  simp only [e]
theorem gF_lt {S : St} {w : Int} {g : Nat → Nat} (hg : ∀ j, g j < 4096) (j : Nat) : gF S w g j < 4096 := by
  unfold gF
  split
  · exact bits_lt _ 12
  · exact hg j
theorem hin_X0_findPartners : ∀ w ∈ wsX00, w ∈ wsX0_findPartners := by decide +kernel
theorem f_X0_findPartners_31 : Cond.fieldLink RX0 31 (TX0 11).1 (TX0 11).2.1 (TX0 11).2.2.1 ∈ wsX0_findPartners := by decide +kernel
theorem f_X0_findPartners_52 : Cond.fieldLink RX0 52 (TX0 6).1 (TX0 6).2.1 (TX0 6).2.2.1 ∈ wsX0_findPartners := by decide +kernel
set_option maxRecDepth 100000 in
set_option maxHeartbeats 4000000 in
theorem lp_X0_findPartners_33 {a : Nat → Nat} {c : Nat → ClassId} {S : St} {g : Nat → Nat} (ho : Ok S) (w : Int) (rw : -2147483648 ≤ w ∧ w < 2147483648) (T : Nat) (hT : T < sN S) (kk : V RX0 cX0_findPartners 4 (none) wsX0_findPartners (rmD 5) vX0 (tyk c) (qV (tyk c) (wkc a c S (gF S w g)) 0 0) 0 0 (wkc a c S (gP S w g T (sN S))) 81 [(0, .ref (a 0)), (1, .int (iZ w)), (2, .int (iZ T))] []) : ∀ (m k : Nat), k ≤ sN S → sN S + 1 ≤ k + m → V RX0 cX0_findPartners 4 (none) wsX0_findPartners (rmD 5) vX0 (tyk c) (qV (tyk c) (wkc a c S (gF S w g)) 0 0) 0 0 (wkc a c S (gP S w g T k)) 33 [(0, .ref (a 0)), (1, .int (iZ w)), (2, .int (iZ T)), (3, .int (iZ k))] [] := by
  intro m
  induction m with
  | zero => intro k  h1 h2 ; exact absurd h2 (by omega)
  | succ m ih =>
    intro k  h1 h2 
    have hn := ho.1
    have rw' := rw
    refine V_iload_n (q := 34) dX0_findPartners_33 3 rfl rfl ?_
    refine V_aload_n (q := 35) dX0_findPartners_34 0 rfl rfl ?_
    refine V_get (q := 38) dX0_findPartners_35 hin_X0_findPartners 0 rfl rfl 6 (by decide) f_X0_findPartners_52 rfl rfl ?_
    refine V_icmp_ge (q := 41) (tgt := 81) dX0_findPartners_38 (by omega) (by omega) (by decide) (fun c38 => ?_) (fun c38 => ?_)
    · skip
      refine V_loc (lv' := [(0, _), (1, _), (2, _)]) [0, 1, 2] rfl ?_
      obtain rfl : k = sN S := by omega
      exact kk
    · skip
      refine V_aload_n (q := 42) dX0_findPartners_41 0 rfl rfl ?_
      refine V_iload_n (q := 43) dX0_findPartners_42 2 rfl rfl ?_
      refine V_iload_n (q := 44) dX0_findPartners_43 3 rfl rfl ?_
      refine V_iload_n (q := 45) dX0_findPartners_44 1 rfl rfl ?_
      refine V_callIv (q := 48) dX0_findPartners_45 (c_X0_arePartners ho T k w (by omega) (by omega) rw') yv_X0_arePartners rfl gX0_findPartners_X0_arePartners rfl 0 rfl rfl rfl rfl (Nat.le_of_ble_eq_true rfl) (by decide) ?_
      refine V_if_eqB (q := 51) (tgt := 75) dX0_findPartners_48 (by decide) (fun c48 => ?_) (fun c48 => ?_)
      · skip
        rw [← gP_f (g := g) c48]
        refine V_iinc (q := 78) (lv' := [(0, _), (1, _), (2, _), (3, _)]) dX0_findPartners_75 3 rfl (rfl) (by decide) rfl rfl ?_
        refine V_goto (tgt := 33) dX0_findPartners_78 (by decide) ?_
        exact ih (k + 1) (by omega) (by omega)
      · skip
        refine V_aload_n (q := 52) dX0_findPartners_51 0 rfl rfl ?_
        refine V_get (q := 55) dX0_findPartners_52 hin_X0_findPartners 0 rfl rfl 11 (by decide) f_X0_findPartners_31 rfl rfl ?_
        refine V_iload_n (q := 56) dX0_findPartners_55 2 rfl rfl ?_
        refine V_dup2 (q := 57) dX0_findPartners_56 rfl rfl rfl ?_
        refine V_iald (q := 58) dX0_findPartners_57 8 7 rfl rfl (T) (rfl) (by omega) (by decide) rfl rfl ?_
        refine V_iconst (q := 59) dX0_findPartners_58 rfl ?_
        refine V_iload_n (q := 60) dX0_findPartners_59 3 rfl rfl ?_
        refine V_ishl (q := 61) dX0_findPartners_60 rfl ?_
        refine V_ior (q := 62) dX0_findPartners_61 rfl ?_
        refine V_top (or_pow _ (by omega)) ?_
        refine V_iast (q := 63) (ws' := wkc a c S (fu (gP S w g T k) T (gP S w g T k T ||| 2 ^ k))) dX0_findPartners_62 8 7 rfl rfl (T) (rfl) (by omega) (by decide) (by rw [iF_upd _ rfl, wk8]) rfl ?_
        refine V_aload_n (q := 64) dX0_findPartners_63 0 rfl rfl ?_
        refine V_get (q := 67) dX0_findPartners_64 hin_X0_findPartners 0 rfl rfl 11 (by decide) f_X0_findPartners_31 rfl rfl ?_
        refine V_iload_n (q := 68) dX0_findPartners_67 3 rfl rfl ?_
        refine V_dup2 (q := 69) dX0_findPartners_68 rfl rfl rfl ?_
        refine V_iald (q := 70) dX0_findPartners_69 8 7 rfl rfl (k) (rfl) (by omega) (by decide) rfl rfl ?_
        refine V_iconst (q := 71) dX0_findPartners_70 rfl ?_
        refine V_iload_n (q := 72) dX0_findPartners_71 2 rfl rfl ?_
        refine V_ishl (q := 73) dX0_findPartners_72 rfl ?_
        refine V_ior (q := 74) dX0_findPartners_73 rfl ?_
        refine V_top (or_pow _ (by omega)) ?_
        refine V_iast (q := 75) (ws' := wkc a c S (gP S w g T (k + 1))) dX0_findPartners_74 8 7 rfl rfl (k) (rfl) (by omega) (by decide) (by rw [iF_upd _ rfl, wk8, gP_t (by omega) (by omega) c48]) rfl ?_
        refine V_iinc (q := 78) (lv' := [(0, _), (1, _), (2, _), (3, _)]) dX0_findPartners_75 3 rfl (rfl) (by decide) rfl rfl ?_
        refine V_goto (tgt := 33) dX0_findPartners_78 (by decide) ?_
        exact ih (k + 1) (by omega) (by omega)
set_option maxRecDepth 100000 in
set_option maxHeartbeats 4000000 in
theorem lp_X0_findPartners_23 {a : Nat → Nat} {c : Nat → ClassId} {S : St} {g : Nat → Nat} (ho : Ok S) (w : Int) (rw : -2147483648 ≤ w ∧ w < 2147483648) : ∀ (m k : Nat), k ≤ sN S → sN S + 1 ≤ k + m → V RX0 cX0_findPartners 4 (none) wsX0_findPartners (rmD 5) vX0 (tyk c) (qV (tyk c) (wkc a c S (gF S w g)) 0 0) 0 0 (wkc a c S (gP S w g k 0)) 23 [(0, .ref (a 0)), (1, .int (iZ w)), (2, .int (iZ k))] [] := by
  intro m
  induction m with
  | zero => intro k  h1 h2 ; exact absurd h2 (by omega)
  | succ m ih =>
    intro k  h1 h2 
    have hn := ho.1
    have rw' := rw
    refine V_iload_n (q := 24) dX0_findPartners_23 2 rfl rfl ?_
    refine V_aload_n (q := 25) dX0_findPartners_24 0 rfl rfl ?_
    refine V_get (q := 28) dX0_findPartners_25 hin_X0_findPartners 0 rfl rfl 6 (by decide) f_X0_findPartners_52 rfl rfl ?_
    refine V_icmp_ge (q := 31) (tgt := 87) dX0_findPartners_28 (by omega) (by omega) (by decide) (fun c28 => ?_) (fun c28 => ?_)
    · skip
      exact V_vret dX0_findPartners_87 rfl (by rw [show k = sN S by omega, gP_end])
    · skip
      refine V_iconst (q := 32) dX0_findPartners_31 rfl ?_
      refine V_istore_n (q := 33) (lv' := [(0, _), (1, _), (2, _), (3, _)]) dX0_findPartners_32 (by decide) rfl rfl ?_
      refine lp_X0_findPartners_33 (g := g) ho w rw' k (by omega) ?_ (sN S + 1) 0 (by omega) (by omega)
      rw [gP_n]
      refine V_iinc (q := 84) (lv' := [(0, _), (1, _), (2, _)]) dX0_findPartners_81 2 rfl (rfl) (by decide) rfl rfl ?_
      refine V_goto (tgt := 23) dX0_findPartners_84 (by decide) ?_
      exact ih (k + 1) (by omega) (by omega)
set_option maxRecDepth 100000 in
set_option maxHeartbeats 4000000 in
theorem lp_X0_findPartners_2 {a : Nat → Nat} {c : Nat → ClassId} {S : St} {g : Nat → Nat} (ho : Ok S) (w : Int) (rw : -2147483648 ≤ w ∧ w < 2147483648) : ∀ (m k : Nat), k ≤ 12 → 12 + 1 ≤ k + m → V RX0 cX0_findPartners 4 (none) wsX0_findPartners (rmD 5) vX0 (tyk c) (qV (tyk c) (wkc a c S (gF S w g)) 0 0) 0 0 (wkc a c S (gZ g k)) 2 [(0, .ref (a 0)), (1, .int (iZ w)), (2, .int (iZ k))] [] := by
  intro m
  induction m with
  | zero => intro k  h1 h2 ; exact absurd h2 (by omega)
  | succ m ih =>
    intro k  h1 h2 
    have rw' := rw
    refine V_iload_n (q := 3) dX0_findPartners_2 2 rfl rfl ?_
    refine V_bipush (q := 5) dX0_findPartners_3 (by decide) rfl ?_
    refine V_icmp_ge (q := 8) (tgt := 21) dX0_findPartners_5 (by omega) (by omega) (by decide) (fun c5 => ?_) (fun c5 => ?_)
    · skip
      obtain rfl : k = 12 := by omega
      rw [gP_0 S w g]
      refine V_loc (lv' := [(0, _), (1, _)]) [0, 1] rfl ?_
      refine V_iconst (q := 22) dX0_findPartners_21 rfl ?_
      refine V_istore_n (q := 23) (lv' := [(0, _), (1, _), (2, _)]) dX0_findPartners_22 (by decide) rfl rfl ?_
      exact lp_X0_findPartners_23 ho w rw' (sN S + 1) 0 (by omega) (by omega)
    · skip
      refine V_aload_n (q := 9) dX0_findPartners_8 0 rfl rfl ?_
      refine V_get (q := 12) dX0_findPartners_9 hin_X0_findPartners 0 rfl rfl 11 (by decide) f_X0_findPartners_31 rfl rfl ?_
      refine V_iload_n (q := 13) dX0_findPartners_12 2 rfl rfl ?_
      refine V_iconst (q := 14) dX0_findPartners_13 rfl ?_
      refine V_iast (q := 15) (ws' := wkc a c S (gZ g (k + 1))) dX0_findPartners_14 8 7 rfl rfl (k) (rfl) (by omega) (by decide) (by rw [show (iZ 0 : Int32) = iZ ((0 : Nat) : Int) from rfl, iF_upd 0 rfl, wk8, gZ_s]) rfl ?_
      refine V_iinc (q := 18) (lv' := [(0, _), (1, _), (2, _)]) dX0_findPartners_15 2 rfl (rfl) (by decide) rfl rfl ?_
      refine V_goto (tgt := 2) dX0_findPartners_18 (by decide) ?_
      exact ih (k + 1) (by omega) (by omega)
theorem yv_X0_findPartners : YV yX0_findPartners wsX0_findPartners 1 := ⟨_, _, _, _, rfl, by decide +kernel, by decide⟩
set_option maxRecDepth 100000 in
set_option maxHeartbeats 4000000 in
theorem c_X0_findPartners {a : Nat → Nat} {c : Nat → ClassId} {S : St} {g : Nat → Nat} (ho : Ok S) (w : Int) (rw : -2147483648 ≤ w ∧ w < 2147483648) : CtV yX0_findPartners wsX0_findPartners (rmD 5) (tyk c) [.ref (a 0), .int (iZ w)] (wkc a c S g) (wkc a c S (gF S w g)) := by
  refine CtV_of (own := RX0) (by decide) rfl rfl (Nat.le_of_ble_eq_true rfl) ?_
  refine V_lvq (lv' := [(0, _), (1, _)]) rfl ?_
  refine V_iconst (q := 1) dX0_findPartners_0 rfl ?_
  refine V_istore_n (q := 2) (lv' := [(0, _), (1, _), (2, _)]) dX0_findPartners_1 (by decide) rfl rfl ?_
  refine V_ws (ws' := wkc a c S (gZ g 0)) (by rw [gZ_0]) ?_
  exact lp_X0_findPartners_2 ho w rw 13 0 (by omega) (by omega)
/-- the parts of a set as numbers, upwards -/
def sq (w : Nat) : Nat → Nat
  | 0 => 0
  | i + 1 => nxp (sq w i) w
theorem sq_lt {w : Nat} (h : w < 4096) : ∀ i, sq w i < 4096
  | 0 => Nat.zero_lt_succ _
  | i + 1 => by
    show nxp (sq w i) w < 4096
    unfold nxp
    exact Nat.lt_of_le_of_lt Nat.and_le_right h
def cst (S : St) (g : Nat → Nat) (few many x : Nat) : Nat := sm (lfI S (andn few x)) 12 + sm (lfI S (many &&& orU g x 12)) 12
def lsP (S : St) (g : Nat → Nat) (few many : Nat) (days : Int) : Nat → Bool := fun i => decide ((cst S g few many (sq few i) : Int) < days)
theorem lsP_f {S : St} {g : Nat → Nat} {few many i : Nat} {days : Int} (h : ¬ ((cst S g few many (sq few i) : Nat) : Int) < days) : lsP S g few many days i = false := decide_eq_false h
theorem lsP_t {S : St} {g : Nat → Nat} {few many i : Nat} {days : Int} (h : ((cst S g few many (sq few i) : Nat) : Int) < days) : lsP S g few many days i = true := decide_eq_true h
def few (t b : Nat) : Nat := if pc t < pc b then t else b
def many (t b : Nat) : Nat := if pc t < pc b then b else t
def lstZ (S : St) (g : Nat → Nat) (t b : Nat) (days : Int) : Bool := !(exB (lsP S g (few t b) (many t b) days) (2 ^ pc (few t b)))
theorem lfI_le {S : St} (ho : Ok S) (x : Nat) : sm (lfI S x) 12 ≤ 108 := by
  refine sm_le (c := 9) fun i _ => ?_
  have h1 := ho.2.2.2.2.2.2.2.1 i
  have h2 := ho.2.2.2.2.2.1 i
  unfold lfI
  split <;> omega
theorem few_lt {t b n : Nat} (ht : t < n) (hb : b < n) : few t b < n := by unfold few; split <;> assumption
theorem many_lt {t b n : Nat} (ht : t < n) (hb : b < n) : many t b < n := by unfold many; split <;> assumption
set_option maxRecDepth 100000 in
set_option maxHeartbeats 4000000 in
theorem lp_X0_lasts {a : Nat → Nat} {c : Nat → ClassId} {S : St} {g : Nat → Nat} (ho : Ok S) (f n : Nat) (days : Int) (hf : f < 4096) (hn : n < 4096) (rdays : -2147483648 ≤ days ∧ days < 2147483648) : ∀ (m k : Nat), k ≤ 2 ^ pc f → 2 ^ pc f + 1 ≤ k + m → (exB (lsP S g f n days) k = false) → V RX0 cX0_lasts 9 (some .boolean) wsX0_lasts (rmD 1) vX0 (tyk c) (qI (tyk c) (wkc a c S g) (iZ (bZ (!(exB (lsP S g f n days) (2 ^ pc f))))) 0 0) 0 0 (wkc a c S g) 54 [(0, .ref (a 0)), (3, .int (iZ days)), (5, .int (iZ f)), (6, .int (iZ n)), (7, .int (iZ (sq f k : Nat))), (8, .int (iZ (2 ^ pc f - k : Nat)))] [] := by
  intro m
  induction m with
  | zero => intro k  h1 h2 i0; exact absurd h2 (by omega)
  | succ m ih =>
    intro k  h1 h2 i0
    have h4 : 2 ^ pc f ≤ 4096 := Nat.pow_le_pow_right (n := 2) (by decide) (pc_le f)
    have y1 := lfI_le ho (andn f (sq f k))
    have y2 := lfI_le ho (n &&& orU g (sq f k) 12)
    refine V_iload (q := 56) dX0_lasts_54 5 rfl rfl ?_
    refine V_if_le (q := 59) (tgt := 105) dX0_lasts_56 (by omega) (by decide) (fun c56 => ?_) (fun c56 => ?_)
    · skip
      refine V_iconst (q := 106) dX0_lasts_105 rfl ?_
      exact V_zret dX0_lasts_106 rfl (bZ_t (by rw [show 2 ^ pc f = k by omega, i0]; rfl)) rfl
    · skip
      refine V_aload_n (q := 60) dX0_lasts_59 0 rfl rfl ?_
      refine V_iload (q := 62) dX0_lasts_60 2 rfl rfl ?_
      refine V_iload (q := 64) dX0_lasts_62 4 rfl rfl ?_
      refine V_iconst (q := 65) dX0_lasts_64 rfl ?_
      refine V_ixor (q := 66) dX0_lasts_65 rfl ?_
      refine V_iand (q := 67) dX0_lasts_66 rfl ?_
      refine V_top (z_andn _ _) ?_
      refine V_callIv (q := 70) dX0_lasts_67 (c_X0_wearsLeftIn (andn f (sq f k)) (andn_lt (n := 12) hf)) yv_X0_wearsLeftIn rfl gX0_lasts_X0_wearsLeftIn rfl 0 rfl rfl rfl rfl (Nat.le_of_ble_eq_true rfl) (by decide) ?_
      refine V_aload_n (q := 71) dX0_lasts_70 0 rfl rfl ?_
      refine V_iload (q := 73) dX0_lasts_71 3 rfl rfl ?_
      refine V_aload_n (q := 74) dX0_lasts_73 0 rfl rfl ?_
      refine V_iload (q := 76) dX0_lasts_74 4 rfl rfl ?_
      refine V_callIv (q := 79) dX0_lasts_76 (c_X0_partnersOf (sq f k) (sq_lt hf k)) yv_X0_partnersOf rfl gX0_lasts_X0_partnersOf rfl 0 rfl rfl rfl rfl (Nat.le_of_ble_eq_true rfl) (by decide) ?_
      refine V_iand (q := 80) dX0_lasts_79 rfl ?_
      refine V_top (z_and _ _) ?_
      refine V_callIv (q := 83) dX0_lasts_80 (c_X0_wearsLeftIn (n &&& orU g (sq f k) 12) (and_lt (n := 12) hn)) yv_X0_wearsLeftIn rfl gX0_lasts_X0_wearsLeftIn rfl 0 rfl rfl rfl rfl (Nat.le_of_ble_eq_true rfl) (by decide) ?_
      refine V_iadd (q := 84) dX0_lasts_83 rfl ?_
      refine V_iload_n (q := 85) dX0_lasts_84 1 rfl rfl ?_
      refine V_icmp_ge (q := 88) (tgt := 90) dX0_lasts_85 (by omega) (rdays) (by decide) (fun c85 => ?_) (fun c85 => ?_)
      · skip
        have e9 : exB (lsP S g f n days) (k + 1) = false := exB_s i0 (lsP_f (by unfold cst; omega))
        refine V_iload (q := 92) dX0_lasts_90 4 rfl rfl ?_
        refine V_iload (q := 94) dX0_lasts_92 2 rfl rfl ?_
        refine V_callIs (q := 97) dX0_lasts_94 (c_X0_nextPart (sq f k) f (by omega)) yv_X0_nextPart rfl gX0_lasts_X0_nextPart rfl (Nat.le_of_ble_eq_true rfl) (by decide) ?_
        refine V_istore (q := 99) (lv' := [(0, _), (3, _), (5, _), (6, _), (7, _), (8, _)]) dX0_lasts_97 (by decide) rfl rfl ?_
        refine V_iinc (q := 102) (y := ((2 ^ pc f - (k + 1) : Nat) : Int)) (lv' := [(0, _), (3, _), (5, _), (6, _), (7, _), (8, _)]) dX0_lasts_99 5 rfl (by omega) (by decide) rfl rfl ?_
        refine V_goto (tgt := 54) dX0_lasts_102 (by decide) ?_
        exact ih (k + 1) (by omega) (by omega) e9
      · skip
        have e8 : exB (lsP S g f n days) (2 ^ pc f) = true := exB_hit (i := k) (by omega) (lsP_t (by unfold cst; omega))
        refine V_iconst (q := 89) dX0_lasts_88 rfl ?_
        exact V_zret dX0_lasts_89 rfl (bZ_f (by rw [e8]; rfl)) rfl
theorem yv_X0_lasts : YV yX0_lasts wsX0_lasts 3 := ⟨_, _, _, _, rfl, by decide +kernel, by decide⟩
set_option maxRecDepth 100000 in
set_option maxHeartbeats 4000000 in
theorem c_X0_lasts {a : Nat → Nat} {c : Nat → ClassId} {S : St} {g : Nat → Nat} (ho : Ok S) (t b : Nat) (days : Int) (ht : t < 4096) (hb : b < 4096) (rdays : -2147483648 ≤ days ∧ days < 2147483648) : CtI yX0_lasts wsX0_lasts (rmD 1) (tyk c) [.ref (a 0), .int (iZ t), .int (iZ b), .int (iZ days)] (wkc a c S g) (iZ (bZ (lstZ S g t b days))) (wkc a c S g) := by
  refine CtI_of (own := RX0) (by decide) rfl rfl (Nat.le_of_ble_eq_true rfl) ?_
  refine V_lvq (lv' := [(0, _), (1, _), (2, _), (3, _)]) rfl ?_
  refine V_cut (M := 16) (iZ (bZ (decide (pc t < pc b)))) ?_ (fun k16 => ?_)
  · -- from the merge
    refine V_istore (q := 18) (lv' := [(0, _), (1, _), (2, _), (3, _), (4, _)]) dX0_lasts_16 (by decide) rfl rfl ?_
    refine V_cut (M := 28) (iZ (few t b : Nat)) ?_ (fun k28 => ?_)
    · -- from the merge
      refine V_istore (q := 30) (lv' := [(0, _), (1, _), (2, _), (3, _), (4, _), (5, _)]) dX0_lasts_28 (by decide) rfl rfl ?_
      refine V_cut (M := 40) (iZ (many t b : Nat)) ?_ (fun k40 => ?_)
      · -- from the merge
        refine V_istore (q := 42) (lv' := [(0, _), (1, _), (2, _), (3, _), (4, _), (5, _), (6, _)]) dX0_lasts_40 (by decide) rfl rfl ?_
        refine V_iconst (q := 43) dX0_lasts_42 rfl ?_
        refine V_istore (q := 45) (lv' := [(0, _), (1, _), (2, _), (3, _), (4, _), (5, _), (6, _), (7, _)]) dX0_lasts_43 (by decide) rfl rfl ?_
        refine V_iconst (q := 46) dX0_lasts_45 rfl ?_
        refine V_iload (q := 48) dX0_lasts_46 5 rfl rfl ?_
        refine V_callIs (q := 51) dX0_lasts_48 (c_J6_bitCount_0f7a4 (few t b) (few_lt ht hb)) yv_J6_bitCount_0f7a4 rfl gX0_lasts_J6_bitCount_0f7a4 rfl (Nat.le_of_ble_eq_true rfl) (by decide) ?_
        refine V_ishl (q := 52) dX0_lasts_51 rfl ?_
        refine V_top (y := iZ (2 ^ pc (few t b) - 0 : Nat)) (by have h4 : 2 ^ pc (few t b) ≤ 4096 := Nat.pow_le_pow_right (n := 2) (by decide) (pc_le _); rw [show (iZ 1 : Int32) = iZ ((1 : Nat) : Int) from rfl, z_shl (by have := pc_le (few t b); omega) (by omega), Nat.one_mul]; rfl) ?_
        refine V_istore (q := 54) (lv' := [(0, _), (1, _), (2, _), (3, _), (4, _), (5, _), (6, _), (7, _), (8, _)]) dX0_lasts_52 (by decide) rfl rfl ?_
        refine V_loc (lv' := [(0, _), (3, _), (5, _), (6, _), (7, _), (8, _)]) [0, 3, 5, 6, 7, 8] rfl ?_
        exact lp_X0_lasts ho (few t b) (many t b) days (few_lt ht hb) (many_lt ht hb) rdays (2 ^ pc (few t b) + 1) 0 (Nat.zero_le _) (by rw [Nat.zero_add]; exact Nat.le_refl _) rfl
      · -- the ways to it
        refine V_iload (q := 32) dX0_lasts_30 4 rfl rfl ?_
        refine V_if_eqB (q := 35) (tgt := 39) dX0_lasts_32 (by decide) (fun c32 => ?_) (fun c32 => ?_)
        · skip
          refine V_iload_n (q := 40) dX0_lasts_39 1 rfl rfl ?_
          exact k40 _ (by simp only [decide_eq_true_eq, decide_eq_false_iff_not] at c32; simp [many, c32])
        · skip
          refine V_iload_n (q := 36) dX0_lasts_35 2 rfl rfl ?_
          refine V_goto (tgt := 40) dX0_lasts_36 (by decide) ?_
          exact k40 _ (by simp only [decide_eq_true_eq, decide_eq_false_iff_not] at c32; simp [many, c32])
    · -- the ways to it
      refine V_iload (q := 20) dX0_lasts_18 4 rfl rfl ?_
      refine V_if_eqB (q := 23) (tgt := 27) dX0_lasts_20 (by decide) (fun c20 => ?_) (fun c20 => ?_)
      · skip
        refine V_iload_n (q := 28) dX0_lasts_27 2 rfl rfl ?_
        exact k28 _ (by simp only [decide_eq_true_eq, decide_eq_false_iff_not] at c20; simp [few, c20])
      · skip
        refine V_iload_n (q := 24) dX0_lasts_23 1 rfl rfl ?_
        refine V_goto (tgt := 28) dX0_lasts_24 (by decide) ?_
        exact k28 _ (by simp only [decide_eq_true_eq, decide_eq_false_iff_not] at c20; simp [few, c20])
  · -- the ways to it
    refine V_iload_n (q := 1) dX0_lasts_0 1 rfl rfl ?_
    refine V_callIs (q := 4) dX0_lasts_1 (c_J6_bitCount_0f7a4 t ht) yv_J6_bitCount_0f7a4 rfl gX0_lasts_J6_bitCount_0f7a4 rfl (Nat.le_of_ble_eq_true rfl) (by decide) ?_
    refine V_iload_n (q := 5) dX0_lasts_4 2 rfl rfl ?_
    refine V_callIs (q := 8) dX0_lasts_5 (c_J6_bitCount_0f7a4 b hb) yv_J6_bitCount_0f7a4 rfl gX0_lasts_J6_bitCount_0f7a4 rfl (Nat.le_of_ble_eq_true rfl) (by decide) ?_
    refine V_icmp_ge (q := 11) (tgt := 15) dX0_lasts_8 (by have q1 := pc_le t; omega) (by have q1 := pc_le b; omega) (by decide) (fun c8 => ?_) (fun c8 => ?_)
    · skip
      refine V_iconst (q := 16) dX0_lasts_15 rfl ?_
      exact k16 _ (by first | exact bZ_t (by simp; omega) | exact bZ_f (by simp; omega))
    · skip
      refine V_iconst (q := 12) dX0_lasts_11 rfl ?_
      refine V_goto (tgt := 16) dX0_lasts_12 (by decide) ?_
      exact k16 _ (by first | exact bZ_t (by simp; omega) | exact bZ_f (by simp; omega))
end
section
/-! methods that may throw: their contracts, their ends -/
def xtexts : List (Nat × String) := [(47, "an argument is out of range"), (58, "12 things were added"), (69, "no such thing"), (78, "a colour is out of range"), (100, "a thing of another kind"), (108, "a thing of another kind, or people out of range"), (113, "the outfit is not possible, or too soon"), (130, "the warmth is out of range"), (142, "the warmth or people is out of range"), (144, "the care is out of range"), (160, "days is out of range"), (165, "today would be above 10000"), (170, "no such thing, or days or warmth out of range"), (181, "days or warmth is out of range")]
def xdec : List Cond := [.declares ⟨"java/lang/RuntimeException", "<init>", "(Ljava/lang/String;)V"⟩, .declares ⟨"java/lang/Exception", "<init>", "(Ljava/lang/String;)V"⟩, .declares ⟨"java/lang/Throwable", "<init>", "(Ljava/lang/String;)V"⟩]
def xnw : List Cond := [.castable "java/lang/IllegalArgumentException" "java/lang/IllegalArgumentException", .castable "java/lang/IllegalStateException" "java/lang/IllegalStateException", .castable "java/lang/IndexOutOfBoundsException" "java/lang/IndexOutOfBoundsException"] ++ xdec
theorem xnw_tab : ∀ w ∈ xnw, w.onTables = true := by decide +kernel
theorem xnw_warm {s U : State} (hW : s.WarmedH U.vm) : ∀ w ∈ xnw, va_Nw w s → va_Nw w U := by
  intro w hw h
  simp only [xnw, xdec, List.cons_append, List.nil_append, List.mem_cons, List.not_mem_nil, or_false] at hw
  rcases hw with rfl | rfl | rfl | rfl | rfl | rfl
  · exact va_Nw.warmC hW h
  · exact va_Nw.warmC hW h
  · exact va_Nw.warmC hW h
  · exact va_tabs rfl (rfl : (s.setVm U.vm).vm = U.vm) (by rw [Cond.declares_setVm hW.alike]; exact h)
  · exact va_tabs rfl (rfl : (s.setVm U.vm).vm = U.vm) (by rw [Cond.declares_setVm hW.alike]; exact h)
  · exact va_tabs rfl (rfl : (s.setVm U.vm).vm = U.vm) (by rw [Cond.declares_setVm hW.alike]; exact h)
abbrev xnames : List String := ["java/lang/RuntimeException", "java/lang/Exception"]
def pT (A : Nat → Prop) (U : State) : Prop := vx_Zq Bundle.tN "UNASSIGNED_STACK" Bundle.steD A U U.heap ∧ vx_Zq Bundle.tN "SUPPRESSED_SENTINEL" Bundle.listD A U U.heap ∧ (∀ q ∈ xtexts, ∃ sa : Nat, vk_R RX0 q.1 q.2 sa U) ∧ ∀ w ∈ xnw, va_Nw w U
theorem pT_blind (A : Nat → Prop) (U : State) (g : JFrame) (mk : MethodId) (a : Array Value) (h : pT A U) : pT A (U.calling g mk a) :=
  ⟨vx_Zq.moved (u := U) (U := U.calling g mk a) (H := U.heap) (Vm.Alike.refl U.vm) h.1, vx_Zq.moved (u := U) (U := U.calling g mk a) (H := U.heap) (Vm.Alike.refl U.vm) h.2.1, fun q hq => by
    obtain ⟨sa, h9⟩ := h.2.2.1 q hq
    exact ⟨sa, vk_R.same (u := U) (U := U.calling g mk a) rfl h9⟩, fun w hw => va_Nw.same (u := U) (U := U.calling g mk a) (xnw_tab w hw) rfl (h.2.2.2 w hw)⟩
def vXT : VX := fun l c A _ s => l.stackTraces = false ∧ (∀ x ∈ c.exceptionTable.toList, False) ∧ pT A s
def rmX (d : Nat) : Room := { frames := d + 6, cells := 1, slots := 6, locals := 40 * d + 140 }
def tX (tys : List (ClassId × FieldType)) (w : va_W) (E : String) (D : va_G) (A : Nat → Prop) : String → State → State → Prop := vx_X (fun _ : Unit => True) (fun E' _ t => E' = E ∧ E ≠ "" ∧ wB tys w D A t) A
def rX (tys : List (ClassId × FieldType)) (w' : va_W) (E : String) (r : Int32) (D : va_G) (A : Nat → Prop) : Array Value → State → Outcome → State → Prop := va_Qi (fun (x : Int32) (_ : Unit) => E = "" ∧ x = r) (fun _ t => wB tys w' D A t) A
def qX (tys : List (ClassId × FieldType)) (w w' : va_W) (E : String) (r : Int32) : VQ := fun D A args s below => vx_MQ below (rX tys w' E r D A) (tX tys w E D A) args s 1 6 A
def CtX (y : MethodName) (ws : List Cond) (rm : Room) (tys : List (ClassId × FieldType)) (args : List Value) (w : va_W) (E : String) (r : Int32) (w' : va_W) : Prop := ∀ (l : Launch) (D : va_G) (sz : Nat), l.stackTraces = false → vx_Met l y ws rm (va_Pc args (fun U => pB tys w D sz U ∧ pT (va_A w sz) U)) (rX tys w' E r D (va_A w sz)) (tX tys w E D (va_A w sz)) 1 6 (va_A w sz)
theorem pX_blind (tys : List (ClassId × FieldType)) (w : va_W) (D : va_G) (sz : Nat) (args : List Value) : FrameBlind (va_Pc args (fun U => pB tys w D sz U ∧ pT (va_A w sz) U)) := fun a U g mk q => ⟨q.1, (pB_blind tys w D sz args a U g mk ⟨q.1, q.2.1⟩).2, pT_blind _ U g mk a q.2.2⟩
theorem CtX_of {own : String} {y : MethodName} {ws ws' : List Cond} {rm : Room} {cc : ByteArray} {maxL : Nat} {ret : Option FieldType} {tys : List (ClassId × FieldType)} {args : List Value} {w w' : va_W} {E : String} {r : Int32} (hy : plainName y.cls = true) (hyo : y.cls = own) (hw : ws = Cond.code y cc maxL ret :: ws') (hlen : (lg_sl args).length ≤ maxL)
    (h : V own cc maxL ret ws rm vXT tys (qX tys w w' E r) 0 0 w 0 (lv_args 0 args) []) : CtX y ws rm tys args w E r w' := by
  intro l D sz hlt
  refine vx_ofW (cc := cc) (maxL := maxL) (ret := ret) hy hw ?_
  intro p e s m a below meth c s₁ B hml htab hv
  obtain ⟨rfl, ⟨hsz, hP, hK, hD0⟩, hT⟩ := hv
  have hown : s.vm.findClass own = some m.cls := by rw [← hyo]; exact findClass_of_methodNamed B.named
  subst hsz
  have hl := lv_entry args (n := maxL) hlen
  rw [lg_entry_eq]
  exact h p l e s m args.toArray below meth c D (va_A w s.heap.size) s.heap [] _ B.exec B.bytes B.returns hml hown (atoms_spec (ws := ws) B.pre) B.notSynchronized ⟨hlt, htab, hT⟩ hK (fun q h => Or.inr h) hP hD0.self va_S.rf hl
section VT
variable {own : String} {cc : ByteArray} {nL : Nat} {ret : Option FieldType} {Ts : List Cond} {R : Room} {X : VX} {tys : List (ClassId × FieldType)} {Q : VQ} {k n : Nat} {ws w0 w' : va_W} {pc : Nat} {lv : List (Nat × Value)} {st : List Value}
theorem V_iretX {x r : Int32} {E : String} (d : decode cc pc = .ok (.ireturn, 1)) (hret : ret = some .int) (e0 : x = r) (hE : E = "") (hw : ws = w') : V own cc nL ret Ts R X tys (qX tys w0 w' E r) 0 0 ws pc lv [.int x] := by
  subst e0 hw
  intro p l e s m args below meth c D A H locs ls hx hb hr hm ho ht hk hX hK hA hP hD hS hl
  refine vx_ret (W.widen (k := 1) (n := 6) (Nat.zero_le _) (Nat.zero_le _) ?_)
  exact W.iret hx hb (hr.trans hret) (fun t ht hW => ⟨⟨x, (), rfl, ⟨hE, rfl⟩, by rw [ht]; exact hP, va_K.moved hW.alike hK, hD⟩, hS.F ht⟩) hS.2.2 d
theorem V_zretX {x : Int32} {b : Bool} {E : String} (d : decode cc pc = .ok (.ireturn, 1)) (hret : ret = some .boolean) (e0 : x = iZ (bZ b)) (hE : E = "") (hw : ws = w') : V own cc nL ret Ts R X tys (qX tys w0 w' E (iZ (bZ b))) 0 0 ws pc lv [.int x] := by
  subst e0 hw
  intro p l e s m args below meth c D A H locs ls hx hb hr hm ho ht hk hX hK hA hP hD hS hl
  refine vx_ret (W.widen (k := 1) (n := 6) (Nat.zero_le _) (Nat.zero_le _) ?_)
  exact W.zret hx hb (hr.trans hret) (by cases b <;> rfl) (fun t ht hW => ⟨⟨_, (), rfl, ⟨hE, rfl⟩, by rw [ht]; exact hP, va_K.moved hW.alike hK, hD⟩, hS.F ht⟩) hS.2.2 d
/-- throw new cls("text") -/
theorem V_throw {cls text E : String} {ik is ic : Nat} {r : Int32} (d0 : decode cc pc = .ok (.new ik, 3)) (d3 : decode cc (pc + 3) = .ok (.dup, 1)) (d4 : decode cc (pc + 4) = .ok (.ldc is, 2)) (d6 : decode cc (pc + 6) = .ok (.invokespecial ic, 3)) (d9 : decode cc (pc + 9) = .ok (.athrow, 1))
    (hcls : Bundle.fit cls = true) (hnames : ∀ z ∈ xnames, Bundle.fit z = true) (hck : Cond.classLink own ik cls ∈ Ts) (hini : Cond.initialized cls ∈ Ts) (hat : ∀ w ∈ (vx_atS own ic cls xnames).filter goodWord, w ∈ Ts) (hng : ∀ w ∈ (vx_atS own ic cls xnames).filter (fun w => !goodWord w), w ∈ xnw)
    (hgood : ∀ w ∈ Cond.classLink own ik cls :: Cond.initialized cls :: vx_atS own ic cls xnames, vx_ot w = true) (hown : own = RX0) (htext : (is, text) ∈ xtexts) (hE : cls = E) (hE0 : cls ≠ "") (hrest : (st.map fun v => v.category).sum ≤ 8) (hR : 5 < R.frames ∧ 100 ≤ R.locals ∧ 1 ≤ R.cells ∧ 6 ≤ R.slots) : V own cc nL ret Ts R vXT tys (qX tys ws w' E r) 0 0 ws pc lv st := by
  subst hE
  intro p l e s m args below meth c D A H locs ls hx hb hr hm ho ht hk hX hK hA hP hD hS hl
  obtain ⟨hlt, htab, hU, hN, hstr, hcs⟩ := hX
  obtain ⟨sa, hsa⟩ := hstr _ htext
  subst hown
  refine vx_throwS (names := xnames) (A := A) (mc := 1) (ms := 6) hx hb hlt ho hcls hnames (ht _ hck) (ht _ hini) hsa (vx_hat (fun w hw => ht w (hat w hw)) hng (fun w hw => va_Nw.use (xnw_tab w hw) (hcs w hw))) hgood hU hN hS (hl.1.trans hm.symm) d0 d3 d4 d6 d9 (fun x hx9 => (htab x hx9).elim) hR.1 (by show _ + (13 * (2 + 1) + 43) ≤ R.locals; have h1 := hR.2.1; omega) (by have h1 := hR.2.2.1; omega) (by have h1 := hR.2.2.2; omega) hk (fun t hW hz hq => ⟨(), trivial, ⟨rfl, hE0, hP.kept (fun k q hkq => hq q.1 (hP k q hkq).lt), va_K.moved hW hK, hD⟩, Nat.le_trans hS.1 hz, fun q h1 h2 => (hq q (Nat.lt_of_lt_of_le h1 hS.1)).trans (hS.2.1 q h1 h2)⟩) hS.2.2 (Nat.le_refl _) (Nat.le_refl _)
end VT
def EIAE : String := "java/lang/IllegalArgumentException"
theorem xg_IAE : ∀ w ∈ Cond.classLink RX0 45 EIAE :: Cond.initialized EIAE :: vx_atS RX0 49 EIAE xnames, vx_ot w = true := by decide +kernel
theorem xf_IAE : ∀ w ∈ (vx_atS RX0 49 EIAE xnames).filter (fun w => !goodWord w), w ∈ xnw := by decide +kernel
def EISE : String := "java/lang/IllegalStateException"
theorem xg_ISE : ∀ w ∈ Cond.classLink RX0 56 EISE :: Cond.initialized EISE :: vx_atS RX0 60 EISE xnames, vx_ot w = true := by decide +kernel
theorem xf_ISE : ∀ w ∈ (vx_atS RX0 60 EISE xnames).filter (fun w => !goodWord w), w ∈ xnw := by decide +kernel
def EIOB : String := "java/lang/IndexOutOfBoundsException"
theorem xg_IOB : ∀ w ∈ Cond.classLink RX0 67 EIOB :: Cond.initialized EIOB :: vx_atS RX0 71 EIOB xnames, vx_ot w = true := by decide +kernel
theorem xf_IOB : ∀ w ∈ (vx_atS RX0 71 EIOB xnames).filter (fun w => !goodWord w), w ∈ xnw := by decide +kernel
theorem xn_ok : ∀ z ∈ xnames, Bundle.fit z = true := by decide +kernel
end
section
/-! what each call asks, answers and changes: the same words for the class and its reference -/
def xE (L : List String) : Nat → String
  | 0 => ""
  | k + 1 => L.getD k ""
abbrev inZ (x lo hi : Int) : Bool := decide (lo ≤ x) && decide (x ≤ hi)
def cAdd (S : St) (k c w m r : Int) : Nat := if inZ k 0 2 && inZ c 0 7 && inZ w 0 10 && inZ m 1 9 && inZ r 0 2 then (if sN S = 12 then 2 else 0) else 1
def cHas (S : St) (x : Int) : Nat := if hasZ S x then 0 else 1
def cClash (c o : Int) : Nat := if inZ c 0 7 && inZ o 0 7 then 0 else 1
def wrZ (S : St) (t b d : Int) : Nat := if hasZ S t && hasZ S b && (decide (d = -1) || hasZ S d) then (if kdZ S t 0 && kdZ S b 1 && (decide (d = -1) || kdZ S d 2) then 0 else 2) else 1
theorem wrZ_m1 (S : St) (t b : Int) : wrZ S t b (-1) = if hasZ S t && hasZ S b then (if kdZ S t 0 && kdZ S b 1 then 0 else 2) else 1 := by simp [wrZ]
def cSoon (S : St) (t b p : Int) : Nat := if wrZ S t b (-1) = 0 then (if inZ p 0 255 then 0 else 2) else wrZ S t b (-1)
def cWear (S : St) (t b d p : Int) : Nat := if wrZ S t b d = 0 then (if inZ p 0 255 then (if canZ S t b d && !(seenZ S t b p.toNat) then 0 else 3) else 2) else wrZ S t b d
def cOut (w : Int) : Nat := if inZ w 0 30 then 0 else 1
def cAdds (S : St) (x w : Int) : Nat := if hasZ S x then (if inZ w 0 30 then 0 else 2) else 1
def cFor (w p : Int) : Nat := if inZ w 0 30 && inZ p 0 255 then 0 else 1
def cCare (r : Int) : Nat := if inZ r 0 2 then 0 else 1
def cPass (S : St) (d : Int) : Nat := if inZ d 1 365 then (if (sT S : Int) + d ≤ 10000 then 0 else 2) else 1
def cBag (d w : Int) : Nat := if inZ d 1 20 && inZ w 0 20 then 0 else 1
def gvS (S : St) (x : Int) : St := uG S (fu (sG S) x.toNat true)
def clS (S : St) (c o : Int) (v : Bool) : St := uX S (fun i => if i = 8 * c.toNat + o.toNat ∨ i = 8 * o.toNat + c.toNat then v else sX S i)
def wrS (S : St) (t b d : Int) (p : Nat) : St := shw (wo (wo (wo S t) b) d) t b p
theorem pc_bits (p : Nat → Bool) : pc (bits p 12) = cnt p 12 := cnt_cong fun i hi => by rw [bits_tb]; simp [hi]
/-- giving away, in the mask -/
theorem gv_ow {S : St} (ho : Ok S) {x : Int} (h : hasZ S x = true) : ow S &&& ((iZ 1 <<< (iZ x &&& 31)) ^^^ iZ (-1)) = ow (gvS S x) := by
  obtain ⟨x0, x1, x2, x3, x4⟩ := hasZ_lt ho h
  have h1 : (2 : Nat) ^ x.toNat ≤ 2 ^ 11 := Nat.pow_le_pow_right (by decide) (by omega)
  have e : iZ 1 <<< (iZ x &&& 31) = iZ (2 ^ x.toNat : Nat) := by
    rw [← x2, show (iZ 1 : Int32) = iZ ((1 : Nat) : Int) from rfl, z_shl (by omega) (by omega), Nat.one_mul]; rfl
  rw [e]
  unfold ow
  rw [z_andn]
  congr 2
  apply Nat.eq_of_testBit_eq
  intro i
  rw [andn_tb (Nat.lt_trans (bits_lt _ 12) (by decide)), bits_tb, bits_tb, Nat.testBit_two_pow]
  by_cases hi : i = x.toNat
  · subst hi
    simp [gvS, hasT, uG, sG, fu]
  · have h2 : ¬ x.toNat = i := fun q => hi q.symm
    have e2 : hasT (gvS S x) i = hasT S i := by
      unfold hasT gvS
      show (decide (i < sN S) && !(fu (sG S) x.toNat true i)) = _
      unfold fu
      rw [if_neg hi]
    rw [e2]
    simp [h2]
theorem gv_own {a : Nat → Nat} {c : Nat → ClassId} {S : St} {g : Nat → Nat} (ho : Ok S) {x : Int} (h : hasZ S x = true) : (wkc a c S g).set 0 (a 0, .inr (0, (fkc a (iZ (sN S)) (ow S) (iZ (sT S)) (clL S)).set 7 (.int (ow S &&& ((iZ 1 <<< (iZ x &&& 31)) ^^^ iZ (-1)))))) = wkc a c (gvS S x) g := by
  rw [gv_ow ho h]
  exact wkG _
theorem ad_ow {S S' : St} (ho : Ok S) (hn : sN S < 12) (h1 : sN S' = sN S + 1) (h2 : sG S' = sG S) : ow S ||| (iZ 1 <<< (iZ (sN S : Int) &&& 31)) = ow S' := by
  unfold ow
  rw [or_pow _ (by omega)]
  congr 2
  apply Nat.eq_of_testBit_eq
  intro i
  have hg := ho.2.2.2.2.2.2.2.2.2.2 (sN S) (Nat.le_refl _)
  rw [Nat.testBit_or, bits_tb, bits_tb, Nat.testBit_two_pow]
  unfold hasT
  rw [h1, h2]
  rcases Nat.lt_trichotomy i (sN S) with q | q | q
  · have e1 : ¬ sN S = i := by omega
    have e2 : i < sN S + 1 := by omega
    simp [q, e1, e2]
  · subst q
    simp [hg, hn]
  · have e1 : ¬ sN S = i := by omega
    have e2 : ¬ i < sN S + 1 := by omega
    have e3 : ¬ i < sN S := by omega
    simp [e1, e2, e3]
theorem hin_X0_add : ∀ w ∈ wsX00, w ∈ wsX0_add := by decide +kernel
theorem f_X0_add_9 : Cond.fieldLink RX0 9 (TX0 0).1 (TX0 0).2.1 (TX0 0).2.2.1 ∈ wsX0_add := by decide +kernel
theorem f_X0_add_13 : Cond.fieldLink RX0 13 (TX0 1).1 (TX0 1).2.1 (TX0 1).2.2.1 ∈ wsX0_add := by decide +kernel
theorem f_X0_add_16 : Cond.fieldLink RX0 16 (TX0 2).1 (TX0 2).2.1 (TX0 2).2.2.1 ∈ wsX0_add := by decide +kernel
theorem f_X0_add_19 : Cond.fieldLink RX0 19 (TX0 3).1 (TX0 3).2.1 (TX0 3).2.2.1 ∈ wsX0_add := by decide +kernel
theorem f_X0_add_22 : Cond.fieldLink RX0 22 (TX0 4).1 (TX0 4).2.1 (TX0 4).2.2.1 ∈ wsX0_add := by decide +kernel
theorem f_X0_add_25 : Cond.fieldLink RX0 25 (TX0 5).1 (TX0 5).2.1 (TX0 5).2.2.1 ∈ wsX0_add := by decide +kernel
theorem f_X0_add_52 : Cond.fieldLink RX0 52 (TX0 6).1 (TX0 6).2.1 (TX0 6).2.2.1 ∈ wsX0_add := by decide +kernel
theorem f_X0_add_61 : Cond.fieldLink RX0 61 (TX0 7).1 (TX0 7).2.1 (TX0 7).2.2.1 ∈ wsX0_add := by decide +kernel
theorem yv_X0_add : YV yX0_add wsX0_add 5 := ⟨_, _, _, _, rfl, by decide +kernel, by decide⟩
set_option maxRecDepth 100000 in
set_option maxHeartbeats 4000000 in
theorem c_X0_add {a : Nat → Nat} {c : Nat → ClassId} {S : St} {g : Nat → Nat} (ho : Ok S) (k d w m r : Int) (rk : -2147483648 ≤ k ∧ k < 2147483648) (rd : -2147483648 ≤ d ∧ d < 2147483648) (rw' : -2147483648 ≤ w ∧ w < 2147483648) (rm : -2147483648 ≤ m ∧ m < 2147483648) (rr : -2147483648 ≤ r ∧ r < 2147483648) : CtX yX0_add wsX0_add (rmX 2) (tyk c) [.ref (a 0), .int (iZ k), .int (iZ d), .int (iZ w), .int (iZ m), .int (iZ r)] (wkc a c S g) (xE [EIAE, EISE] (cAdd S k d w m r)) (iZ (sN S)) (wkc a c (uA S k.toNat d.toNat w.toNat m.toNat r.toNat) g) := by
  refine CtX_of (own := RX0) (by decide) rfl rfl (Nat.le_of_ble_eq_true rfl) ?_
  refine V_lvq (lv' := [(0, _), (1, _), (2, _), (3, _), (4, _), (5, _)]) rfl ?_
  refine V_iload_n (q := 1) dX0_add_0 1 rfl rfl ?_
  refine V_iconst (q := 2) dX0_add_1 rfl ?_
  refine V_iconst (q := 3) dX0_add_2 rfl ?_
  refine V_callIs (q := 6) dX0_add_3 (c_X0_isWithin k 0 2 rk (by decide) (by decide)) yv_X0_isWithin rfl gX0_add_X0_isWithin rfl (Nat.le_of_ble_eq_true rfl) (by decide) ?_
  refine V_if_eqB (q := 9) (tgt := 45) dX0_add_6 (by decide) (fun c6 => ?_) (fun c6 => ?_)
  · skip
    exact V_throw (text := "an argument is out of range") (cls := EIAE) dX0_add_45 dX0_add_48 dX0_add_49 dX0_add_51 dX0_add_54 (by decide +kernel) xn_ok (by decide +kernel) (by decide +kernel) (by decide +kernel) xf_IAE xg_IAE rfl (by decide +kernel) (by rw [show (cAdd S k d w m r : Nat) = 1 by simp only [cAdd, inZ, c6]; first | rfl | (simp only [c13]; first | rfl | (simp only [c23]; first | rfl | (simp only [c34]; first | rfl | (simp only [c42]; rfl))))]; rfl) (by decide +kernel) (by decide) (by decide)
  · skip
    refine V_iload_n (q := 10) dX0_add_9 2 rfl rfl ?_
    refine V_callIs (q := 13) dX0_add_10 (c_X0_isColour d rd) yv_X0_isColour rfl gX0_add_X0_isColour rfl (Nat.le_of_ble_eq_true rfl) (by decide) ?_
    refine V_if_eqB (q := 16) (tgt := 45) dX0_add_13 (by decide) (fun c13 => ?_) (fun c13 => ?_)
    · skip
      exact V_throw (text := "an argument is out of range") (cls := EIAE) dX0_add_45 dX0_add_48 dX0_add_49 dX0_add_51 dX0_add_54 (by decide +kernel) xn_ok (by decide +kernel) (by decide +kernel) (by decide +kernel) xf_IAE xg_IAE rfl (by decide +kernel) (by rw [show (cAdd S k d w m r : Nat) = 1 by simp only [cAdd, inZ, c6]; first | rfl | (simp only [c13]; first | rfl | (simp only [c23]; first | rfl | (simp only [c34]; first | rfl | (simp only [c42]; rfl))))]; rfl) (by decide +kernel) (by decide) (by decide)
    · skip
      refine V_iload_n (q := 17) dX0_add_16 3 rfl rfl ?_
      refine V_iconst (q := 18) dX0_add_17 rfl ?_
      refine V_bipush (q := 20) dX0_add_18 (by decide) rfl ?_
      refine V_callIs (q := 23) dX0_add_20 (c_X0_isWithin w 0 10 rw' (by decide) (by decide)) yv_X0_isWithin rfl gX0_add_X0_isWithin rfl (Nat.le_of_ble_eq_true rfl) (by decide) ?_
      refine V_if_eqB (q := 26) (tgt := 45) dX0_add_23 (by decide) (fun c23 => ?_) (fun c23 => ?_)
      · skip
        exact V_throw (text := "an argument is out of range") (cls := EIAE) dX0_add_45 dX0_add_48 dX0_add_49 dX0_add_51 dX0_add_54 (by decide +kernel) xn_ok (by decide +kernel) (by decide +kernel) (by decide +kernel) xf_IAE xg_IAE rfl (by decide +kernel) (by rw [show (cAdd S k d w m r : Nat) = 1 by simp only [cAdd, inZ, c6]; first | rfl | (simp only [c13]; first | rfl | (simp only [c23]; first | rfl | (simp only [c34]; first | rfl | (simp only [c42]; rfl))))]; rfl) (by decide +kernel) (by decide) (by decide)
      · skip
        refine V_iload (q := 28) dX0_add_26 4 rfl rfl ?_
        refine V_iconst (q := 29) dX0_add_28 rfl ?_
        refine V_bipush (q := 31) dX0_add_29 (by decide) rfl ?_
        refine V_callIs (q := 34) dX0_add_31 (c_X0_isWithin m 1 9 rm (by decide) (by decide)) yv_X0_isWithin rfl gX0_add_X0_isWithin rfl (Nat.le_of_ble_eq_true rfl) (by decide) ?_
        refine V_if_eqB (q := 37) (tgt := 45) dX0_add_34 (by decide) (fun c34 => ?_) (fun c34 => ?_)
        · skip
          exact V_throw (text := "an argument is out of range") (cls := EIAE) dX0_add_45 dX0_add_48 dX0_add_49 dX0_add_51 dX0_add_54 (by decide +kernel) xn_ok (by decide +kernel) (by decide +kernel) (by decide +kernel) xf_IAE xg_IAE rfl (by decide +kernel) (by rw [show (cAdd S k d w m r : Nat) = 1 by simp only [cAdd, inZ, c6]; first | rfl | (simp only [c13]; first | rfl | (simp only [c23]; first | rfl | (simp only [c34]; first | rfl | (simp only [c42]; rfl))))]; rfl) (by decide +kernel) (by decide) (by decide)
        · skip
          refine V_iload (q := 39) dX0_add_37 5 rfl rfl ?_
          refine V_callIs (q := 42) dX0_add_39 (c_X0_isCare r rr) yv_X0_isCare rfl gX0_add_X0_isCare rfl (Nat.le_of_ble_eq_true rfl) (by decide) ?_
          refine V_if_neB (q := 45) (tgt := 55) dX0_add_42 (by decide) (fun c42 => ?_) (fun c42 => ?_)
          · skip
            have b1 : 0 ≤ k ∧ k ≤ 2 := by simpa using c6
            have b2 : 0 ≤ d ∧ d ≤ 7 := by simpa using c13
            have b3 : 0 ≤ w ∧ w ≤ 10 := by simpa using c23
            have b4 : 1 ≤ m ∧ m ≤ 9 := by simpa using c34
            have b5 : 0 ≤ r ∧ r ≤ 2 := by simpa using c42
            have hn := ho.1
            refine V_aload_n (q := 56) dX0_add_55 0 rfl rfl ?_
            refine V_get (q := 59) dX0_add_56 hin_X0_add 0 rfl rfl 6 (by decide) f_X0_add_52 rfl rfl ?_
            refine V_bipush (q := 61) dX0_add_59 (by decide) rfl ?_
            refine V_icmp_lt (q := 64) (tgt := 74) dX0_add_61 (by omega) (by omega) (by decide) (fun c61 => ?_) (fun c61 => ?_)
            · skip
              have hn1 : sN S < 12 := by omega
              have ec : cAdd S k d w m r = 0 := by simp [cAdd, c6, c13, c23, c34, c42, Nat.ne_of_lt hn1]
              rw [ec]
              refine V_aload_n (q := 75) dX0_add_74 0 rfl rfl ?_
              refine V_get (q := 78) dX0_add_75 hin_X0_add 0 rfl rfl 6 (by decide) f_X0_add_52 rfl rfl ?_
              refine V_istore (q := 80) (lv' := [(0, _), (1, _), (2, _), (3, _), (4, _), (5, _), (6, _)]) dX0_add_78 (by decide) rfl rfl ?_
              refine V_aload_n (q := 81) dX0_add_80 0 rfl rfl ?_
              refine V_get (q := 84) dX0_add_81 hin_X0_add 0 rfl rfl 0 (by decide) f_X0_add_9 rfl rfl ?_
              refine V_iload (q := 86) dX0_add_84 6 rfl rfl ?_
              refine V_iload_n (q := 87) dX0_add_86 1 rfl rfl ?_
              refine V_iast (q := 88) (ws' := wkc a c (uK (S) (fu (sK S) (sN S) k.toNat)) g) dX0_add_87 1 0 rfl rfl (sN S) (rfl) (by omega) (by decide) (by (rw [iF_upd k.toNat (by omega), wk1]) <;> rfl) rfl ?_
              refine V_aload_n (q := 89) dX0_add_88 0 rfl rfl ?_
              refine V_get (q := 92) dX0_add_89 hin_X0_add 0 rfl rfl 1 (by decide) f_X0_add_13 rfl rfl ?_
              refine V_iload (q := 94) dX0_add_92 6 rfl rfl ?_
              refine V_iload_n (q := 95) dX0_add_94 2 rfl rfl ?_
              refine V_iast (q := 96) (ws' := wkc a c (uC (uK (S) (fu (sK S) (sN S) k.toNat)) (fu (sC S) (sN S) d.toNat)) g) dX0_add_95 2 1 rfl rfl (sN S) (rfl) (by omega) (by decide) (by (rw [iF_upd d.toNat (by omega), wk2]) <;> rfl) rfl ?_
              refine V_aload_n (q := 97) dX0_add_96 0 rfl rfl ?_
              refine V_get (q := 100) dX0_add_97 hin_X0_add 0 rfl rfl 2 (by decide) f_X0_add_16 rfl rfl ?_
              refine V_iload (q := 102) dX0_add_100 6 rfl rfl ?_
              refine V_iload_n (q := 103) dX0_add_102 3 rfl rfl ?_
              refine V_iast (q := 104) (ws' := wkc a c (uW (uC (uK (S) (fu (sK S) (sN S) k.toNat)) (fu (sC S) (sN S) d.toNat)) (fu (sW S) (sN S) w.toNat)) g) dX0_add_103 3 2 rfl rfl (sN S) (rfl) (by omega) (by decide) (by (rw [iF_upd w.toNat (by omega), wk3]) <;> rfl) rfl ?_
              refine V_aload_n (q := 105) dX0_add_104 0 rfl rfl ?_
              refine V_get (q := 108) dX0_add_105 hin_X0_add 0 rfl rfl 3 (by decide) f_X0_add_19 rfl rfl ?_
              refine V_iload (q := 110) dX0_add_108 6 rfl rfl ?_
              refine V_iload (q := 112) dX0_add_110 4 rfl rfl ?_
              refine V_iast (q := 113) (ws' := wkc a c (uM (uW (uC (uK (S) (fu (sK S) (sN S) k.toNat)) (fu (sC S) (sN S) d.toNat)) (fu (sW S) (sN S) w.toNat)) (fu (sM S) (sN S) m.toNat)) g) dX0_add_112 4 3 rfl rfl (sN S) (rfl) (by omega) (by decide) (by (rw [iF_upd m.toNat (by omega), wk4]) <;> rfl) rfl ?_
              refine V_aload_n (q := 114) dX0_add_113 0 rfl rfl ?_
              refine V_get (q := 117) dX0_add_114 hin_X0_add 0 rfl rfl 4 (by decide) f_X0_add_22 rfl rfl ?_
              refine V_iload (q := 119) dX0_add_117 6 rfl rfl ?_
              refine V_iload (q := 121) dX0_add_119 5 rfl rfl ?_
              refine V_iast (q := 122) (ws' := wkc a c (uR (uM (uW (uC (uK (S) (fu (sK S) (sN S) k.toNat)) (fu (sC S) (sN S) d.toNat)) (fu (sW S) (sN S) w.toNat)) (fu (sM S) (sN S) m.toNat)) (fu (sR S) (sN S) r.toNat)) g) dX0_add_121 5 4 rfl rfl (sN S) (rfl) (by omega) (by decide) (by (rw [iF_upd r.toNat (by omega), wk5]) <;> rfl) rfl ?_
              refine V_aload_n (q := 123) dX0_add_122 0 rfl rfl ?_
              refine V_get (q := 126) dX0_add_123 hin_X0_add 0 rfl rfl 5 (by decide) f_X0_add_25 rfl rfl ?_
              refine V_iload (q := 128) dX0_add_126 6 rfl rfl ?_
              refine V_iload (q := 130) dX0_add_128 4 rfl rfl ?_
              refine V_iast (q := 131) (ws' := wkc a c (uL (uR (uM (uW (uC (uK (S) (fu (sK S) (sN S) k.toNat)) (fu (sC S) (sN S) d.toNat)) (fu (sW S) (sN S) w.toNat)) (fu (sM S) (sN S) m.toNat)) (fu (sR S) (sN S) r.toNat)) (fu (sL S) (sN S) m.toNat)) g) dX0_add_130 6 5 rfl rfl (sN S) (rfl) (by omega) (by decide) (by (rw [iF_upd m.toNat (by omega), wk6]) <;> rfl) rfl ?_
              refine V_aload_n (q := 132) dX0_add_131 0 rfl rfl ?_
              refine V_dup (q := 133) dX0_add_132 rfl rfl ?_
              refine V_get (q := 136) dX0_add_133 hin_X0_add 0 rfl rfl 7 (by decide) f_X0_add_61 rfl rfl ?_
              refine V_iconst (q := 137) dX0_add_136 rfl ?_
              refine V_iload (q := 139) dX0_add_137 6 rfl rfl ?_
              refine V_ishl (q := 140) dX0_add_139 rfl ?_
              refine V_ior (q := 141) dX0_add_140 rfl ?_
              refine V_put (q := 144) (ty := .int) (ws' := wkr a c (uL (uR (uM (uW (uC (uK (S) (fu (sK S) (sN S) k.toNat)) (fu (sC S) (sN S) d.toNat)) (fu (sW S) (sN S) w.toNat)) (fu (sM S) (sN S) m.toNat)) (fu (sR S) (sN S) r.toNat)) (fu (sL S) (sN S) m.toNat)) g (iZ (sN S)) (ow (uA S k.toNat d.toNat w.toNat m.toNat r.toNat)) (iZ (sT S)) (clL S)) dX0_add_141 hin_X0_add tyX0 tyX0_ok nmX0 0 rfl rfl 7 (by decide) f_X0_add_61 rfl (by decide +kernel) rfl rfl (Nat.le_of_ble_eq_true rfl) (by rw [← ad_ow (S' := uA S k.toNat d.toNat w.toNat m.toNat r.toNat) ho hn1 rfl rfl]; rfl) rfl ?_
              refine V_aload_n (q := 145) dX0_add_144 0 rfl rfl ?_
              refine V_dup (q := 146) dX0_add_145 rfl rfl ?_
              refine V_get (q := 149) dX0_add_146 hin_X0_add 0 rfl rfl 6 (by decide) f_X0_add_52 rfl rfl ?_
              refine V_iconst (q := 150) dX0_add_149 rfl ?_
              refine V_iadd (q := 151) dX0_add_150 rfl ?_
              refine V_put (q := 154) (ty := .int) (ws' := wkc a c (uA S k.toNat d.toNat w.toNat m.toNat r.toNat) g) dX0_add_151 hin_X0_add tyX0 tyX0_ok nmX0 0 rfl rfl 6 (by decide) f_X0_add_52 rfl (by decide +kernel) rfl rfl (Nat.le_of_ble_eq_true rfl) (by rfl) rfl ?_
              refine V_iload (q := 156) dX0_add_154 6 rfl rfl ?_
              exact V_iretX dX0_add_156 rfl (rfl) (rfl) (rfl)
            · skip
              exact V_throw (text := "12 things were added") (cls := EISE) dX0_add_64 dX0_add_67 dX0_add_68 dX0_add_70 dX0_add_73 (by decide +kernel) xn_ok (by decide +kernel) (by decide +kernel) (by decide +kernel) xf_ISE xg_ISE rfl (by decide +kernel) (by rw [show (cAdd S k d w m r : Nat) = 2 by have e : sN S = 12 := (by omega); simp [cAdd, c6, c13, c23, c34, c42, e]]; rfl) (by decide +kernel) (by decide) (by decide)
          · skip
            exact V_throw (text := "an argument is out of range") (cls := EIAE) dX0_add_45 dX0_add_48 dX0_add_49 dX0_add_51 dX0_add_54 (by decide +kernel) xn_ok (by decide +kernel) (by decide +kernel) (by decide +kernel) xf_IAE xg_IAE rfl (by decide +kernel) (by rw [show (cAdd S k d w m r : Nat) = 1 by simp only [cAdd, inZ, c6]; first | rfl | (simp only [c13]; first | rfl | (simp only [c23]; first | rfl | (simp only [c34]; first | rfl | (simp only [c42]; rfl))))]; rfl) (by decide +kernel) (by decide) (by decide)
theorem hin_X0_giveAway : ∀ w ∈ wsX00, w ∈ wsX0_giveAway := by decide +kernel
theorem f_X0_giveAway_61 : Cond.fieldLink RX0 61 (TX0 7).1 (TX0 7).2.1 (TX0 7).2.2.1 ∈ wsX0_giveAway := by decide +kernel
theorem yv_X0_giveAway : YV yX0_giveAway wsX0_giveAway 1 := ⟨_, _, _, _, rfl, by decide +kernel, by decide⟩
set_option maxRecDepth 100000 in
set_option maxHeartbeats 4000000 in
theorem c_X0_giveAway {a : Nat → Nat} {c : Nat → ClassId} {S : St} {g : Nat → Nat} (ho : Ok S) (x : Int) (rx : -2147483648 ≤ x ∧ x < 2147483648) : CtX yX0_giveAway wsX0_giveAway (rmX 2) (tyk c) [.ref (a 0), .int (iZ x)] (wkc a c S g) (xE [EIOB] (cHas S x)) (iZ (cnt (hasT (gvS S x)) 12 : Nat)) (wkc a c (gvS S x) g) := by
  refine CtX_of (own := RX0) (by decide) rfl rfl (Nat.le_of_ble_eq_true rfl) ?_
  refine V_lvq (lv' := [(0, _), (1, _)]) rfl ?_
  refine V_aload_n (q := 1) dX0_giveAway_0 0 rfl rfl ?_
  refine V_iload_n (q := 2) dX0_giveAway_1 1 rfl rfl ?_
  refine V_callIv (q := 5) dX0_giveAway_2 (c_X0_isThing ho x rx) yv_X0_isThing rfl gX0_giveAway_X0_isThing rfl 0 rfl rfl rfl rfl (Nat.le_of_ble_eq_true rfl) (by decide) ?_
  refine V_if_neB (q := 8) (tgt := 18) dX0_giveAway_5 (by decide) (fun c5 => ?_) (fun c5 => ?_)
  · skip
    refine V_aload_n (q := 19) dX0_giveAway_18 0 rfl rfl ?_
    refine V_dup (q := 20) dX0_giveAway_19 rfl rfl ?_
    refine V_get (q := 23) dX0_giveAway_20 hin_X0_giveAway 0 rfl rfl 7 (by decide) f_X0_giveAway_61 rfl rfl ?_
    refine V_iconst (q := 24) dX0_giveAway_23 rfl ?_
    refine V_iload_n (q := 25) dX0_giveAway_24 1 rfl rfl ?_
    refine V_ishl (q := 26) dX0_giveAway_25 rfl ?_
    refine V_iconst (q := 27) dX0_giveAway_26 rfl ?_
    refine V_ixor (q := 28) dX0_giveAway_27 rfl ?_
    refine V_iand (q := 29) dX0_giveAway_28 rfl ?_
    refine V_put (q := 32) (ty := .int) (ws' := wkc a c (gvS S x) g) dX0_giveAway_29 hin_X0_giveAway tyX0 tyX0_ok nmX0 0 rfl rfl 7 (by decide) f_X0_giveAway_61 rfl (by decide +kernel) rfl rfl (Nat.le_of_ble_eq_true rfl) (gv_own ho c5) rfl ?_
    refine V_aload_n (q := 33) dX0_giveAway_32 0 rfl rfl ?_
    refine V_get (q := 36) dX0_giveAway_33 hin_X0_giveAway 0 rfl rfl 7 (by decide) f_X0_giveAway_61 rfl rfl ?_
    refine V_callIs (q := 39) dX0_giveAway_36 (c_J6_bitCount_0f7a4 (bits (hasT (gvS S x)) 12) (bits_lt _ 12)) yv_J6_bitCount_0f7a4 rfl gX0_giveAway_J6_bitCount_0f7a4 rfl (Nat.le_of_ble_eq_true rfl) (by decide) ?_
    exact V_iretX dX0_giveAway_39 rfl (by rw [pc_bits]) (by rw [show (cHas S x : Nat) = 0 by simp [cHas, c5]]; rfl) (rfl)
  · skip
    exact V_throw (text := "no such thing") (cls := EIOB) dX0_giveAway_8 dX0_giveAway_11 dX0_giveAway_12 dX0_giveAway_14 dX0_giveAway_17 (by decide +kernel) xn_ok (by decide +kernel) (by decide +kernel) (by decide +kernel) xf_IOB xg_IOB rfl (by decide +kernel) (by rw [show (cHas S x : Nat) = 1 by simp [cHas, c5]]; rfl) (by decide +kernel) (by decide) (by decide)
theorem hin_X0_things : ∀ w ∈ wsX00, w ∈ wsX0_things := by decide +kernel
theorem f_X0_things_61 : Cond.fieldLink RX0 61 (TX0 7).1 (TX0 7).2.1 (TX0 7).2.2.1 ∈ wsX0_things := by decide +kernel
theorem yv_X0_things : YV yX0_things wsX0_things 0 := ⟨_, _, _, _, rfl, by decide +kernel, by decide⟩
set_option maxRecDepth 100000 in
set_option maxHeartbeats 4000000 in
theorem c_X0_things {a : Nat → Nat} {c : Nat → ClassId} {S : St} {g : Nat → Nat}  : CtI yX0_things wsX0_things (rmD 1) (tyk c) [.ref (a 0)] (wkc a c S g) (iZ (cnt (hasT S) 12 : Nat)) (wkc a c S g) := by
  refine CtI_of (own := RX0) (by decide) rfl rfl (Nat.le_of_ble_eq_true rfl) ?_
  refine V_lvq (lv' := [(0, _)]) rfl ?_
  refine V_aload_n (q := 1) dX0_things_0 0 rfl rfl ?_
  refine V_get (q := 4) dX0_things_1 hin_X0_things 0 rfl rfl 7 (by decide) f_X0_things_61 rfl rfl ?_
  refine V_callIs (q := 7) dX0_things_4 (c_J6_bitCount_0f7a4 (bits (hasT S) 12) (bits_lt _ 12)) yv_J6_bitCount_0f7a4 rfl gX0_things_J6_bitCount_0f7a4 rfl (Nat.le_of_ble_eq_true rfl) (by decide) ?_
  exact V_iret dX0_things_7 rfl (by rw [pc_bits]) rfl
theorem hin_X0_left : ∀ w ∈ wsX00, w ∈ wsX0_left := by decide +kernel
theorem f_X0_left_25 : Cond.fieldLink RX0 25 (TX0 5).1 (TX0 5).2.1 (TX0 5).2.2.1 ∈ wsX0_left := by decide +kernel
theorem yv_X0_left : YV yX0_left wsX0_left 1 := ⟨_, _, _, _, rfl, by decide +kernel, by decide⟩
set_option maxRecDepth 100000 in
set_option maxHeartbeats 4000000 in
theorem c_X0_left {a : Nat → Nat} {c : Nat → ClassId} {S : St} {g : Nat → Nat} (ho : Ok S) (x : Int) (rx : -2147483648 ≤ x ∧ x < 2147483648) : CtX yX0_left wsX0_left (rmX 2) (tyk c) [.ref (a 0), .int (iZ x)] (wkc a c S g) (xE [EIOB] (cHas S x)) (iZ (sL S x.toNat)) (wkc a c S g) := by
  refine CtX_of (own := RX0) (by decide) rfl rfl (Nat.le_of_ble_eq_true rfl) ?_
  refine V_lvq (lv' := [(0, _), (1, _)]) rfl ?_
  refine V_aload_n (q := 1) dX0_left_0 0 rfl rfl ?_
  refine V_iload_n (q := 2) dX0_left_1 1 rfl rfl ?_
  refine V_callIv (q := 5) dX0_left_2 (c_X0_isThing ho x rx) yv_X0_isThing rfl gX0_left_X0_isThing rfl 0 rfl rfl rfl rfl (Nat.le_of_ble_eq_true rfl) (by decide) ?_
  refine V_if_neB (q := 8) (tgt := 18) dX0_left_5 (by decide) (fun c5 => ?_) (fun c5 => ?_)
  · skip
    obtain ⟨x0, x1, x2, x3, x4⟩ := hasZ_lt ho c5
    refine V_aload_n (q := 19) dX0_left_18 0 rfl rfl ?_
    refine V_get (q := 22) dX0_left_19 hin_X0_left 0 rfl rfl 5 (by decide) f_X0_left_25 rfl rfl ?_
    refine V_iload_n (q := 23) dX0_left_22 1 rfl rfl ?_
    refine V_iald (q := 24) dX0_left_23 6 5 rfl rfl (x.toNat) (x2.symm) (x4) (by decide) rfl rfl ?_
    exact V_iretX dX0_left_24 rfl (rfl) (by rw [show (cHas S x : Nat) = 0 by simp [cHas, c5]]; rfl) (rfl)
  · skip
    exact V_throw (text := "no such thing") (cls := EIOB) dX0_left_8 dX0_left_11 dX0_left_12 dX0_left_14 dX0_left_17 (by decide +kernel) xn_ok (by decide +kernel) (by decide +kernel) (by decide +kernel) xf_IOB xg_IOB rfl (by decide +kernel) (by rw [show (cHas S x : Nat) = 1 by simp [cHas, c5]]; rfl) (by decide +kernel) (by decide) (by decide)
theorem yv_X0_isPossible : YV yX0_isPossible wsX0_isPossible 3 := ⟨_, _, _, _, rfl, by decide +kernel, by decide⟩
set_option maxRecDepth 100000 in
set_option maxHeartbeats 4000000 in
theorem c_X0_isPossible {a : Nat → Nat} {c : Nat → ClassId} {S : St} {g : Nat → Nat} (ho : Ok S) (t b d : Int) (rt : -2147483648 ≤ t ∧ t < 2147483648) (rb : -2147483648 ≤ b ∧ b < 2147483648) (rd : -2147483648 ≤ d ∧ d < 2147483648) : CtX yX0_isPossible wsX0_isPossible (rmX 6) (tyk c) [.ref (a 0), .int (iZ t), .int (iZ b), .int (iZ d)] (wkc a c S g) (xE [EIOB, EIAE] (wrZ S t b d)) (iZ (bZ (canZ S t b d))) (wkc a c S g) := by
  refine CtX_of (own := RX0) (by decide) rfl rfl (Nat.le_of_ble_eq_true rfl) ?_
  refine V_lvq (lv' := [(0, _), (1, _), (2, _), (3, _)]) rfl ?_
  refine V_aload_n (q := 1) dX0_isPossible_0 0 rfl rfl ?_
  refine V_iload_n (q := 2) dX0_isPossible_1 1 rfl rfl ?_
  refine V_iload_n (q := 3) dX0_isPossible_2 2 rfl rfl ?_
  refine V_iload_n (q := 4) dX0_isPossible_3 3 rfl rfl ?_
  refine V_callIv (q := 7) dX0_isPossible_4 (c_X0_areThings ho t b d rt rb rd) yv_X0_areThings rfl gX0_isPossible_X0_areThings rfl 0 rfl rfl rfl rfl (Nat.le_of_ble_eq_true rfl) (by decide) ?_
  refine V_if_neB (q := 10) (tgt := 20) dX0_isPossible_7 (by decide) (fun c7 => ?_) (fun c7 => ?_)
  · skip
    refine V_aload_n (q := 21) dX0_isPossible_20 0 rfl rfl ?_
    refine V_iload_n (q := 22) dX0_isPossible_21 1 rfl rfl ?_
    refine V_iload_n (q := 23) dX0_isPossible_22 2 rfl rfl ?_
    refine V_iload_n (q := 24) dX0_isPossible_23 3 rfl rfl ?_
    refine V_callIv (q := 27) dX0_isPossible_24 (c_X0_areOfTheirKinds ho t b d rt rb rd) yv_X0_areOfTheirKinds rfl gX0_isPossible_X0_areOfTheirKinds rfl 0 rfl rfl rfl rfl (Nat.le_of_ble_eq_true rfl) (by decide) ?_
    refine V_if_neB (q := 30) (tgt := 40) dX0_isPossible_27 (by decide) (fun c27 => ?_) (fun c27 => ?_)
    · skip
      refine V_aload_n (q := 41) dX0_isPossible_40 0 rfl rfl ?_
      refine V_iload_n (q := 42) dX0_isPossible_41 1 rfl rfl ?_
      refine V_iload_n (q := 43) dX0_isPossible_42 2 rfl rfl ?_
      refine V_iload_n (q := 44) dX0_isPossible_43 3 rfl rfl ?_
      refine V_callIv (q := 47) dX0_isPossible_44 (c_X0_canBeWorn ho t b d rt rb rd) yv_X0_canBeWorn rfl gX0_isPossible_X0_canBeWorn rfl 0 rfl rfl rfl rfl (Nat.le_of_ble_eq_true rfl) (by decide) ?_
      exact V_zretX dX0_isPossible_47 rfl (rfl) (by rw [show (wrZ S t b d : Nat) = 0 by simp only [wrZ, c7]; first | rfl | (simp only [c27]; rfl)]; rfl) (rfl)
    · skip
      exact V_throw (text := "a thing of another kind") (cls := EIAE) dX0_isPossible_30 dX0_isPossible_33 dX0_isPossible_34 dX0_isPossible_36 dX0_isPossible_39 (by decide +kernel) xn_ok (by decide +kernel) (by decide +kernel) (by decide +kernel) xf_IAE xg_IAE rfl (by decide +kernel) (by rw [show (wrZ S t b d : Nat) = 2 by simp only [wrZ, c7]; first | rfl | (simp only [c27]; rfl)]; rfl) (by decide +kernel) (by decide) (by decide)
  · skip
    exact V_throw (text := "no such thing") (cls := EIOB) dX0_isPossible_10 dX0_isPossible_13 dX0_isPossible_14 dX0_isPossible_16 dX0_isPossible_19 (by decide +kernel) xn_ok (by decide +kernel) (by decide +kernel) (by decide +kernel) xf_IOB xg_IOB rfl (by decide +kernel) (by rw [show (wrZ S t b d : Nat) = 1 by simp only [wrZ, c7]; first | rfl | (simp only [c27]; rfl)]; rfl) (by decide +kernel) (by decide) (by decide)
theorem yv_X0_isTooSoon : YV yX0_isTooSoon wsX0_isTooSoon 3 := ⟨_, _, _, _, rfl, by decide +kernel, by decide⟩
set_option maxRecDepth 100000 in
set_option maxHeartbeats 4000000 in
theorem c_X0_isTooSoon {a : Nat → Nat} {c : Nat → ClassId} {S : St} {g : Nat → Nat} (ho : Ok S) (t b p : Int) (rt : -2147483648 ≤ t ∧ t < 2147483648) (rb : -2147483648 ≤ b ∧ b < 2147483648) (rp : -2147483648 ≤ p ∧ p < 2147483648) : CtX yX0_isTooSoon wsX0_isTooSoon (rmX 6) (tyk c) [.ref (a 0), .int (iZ t), .int (iZ b), .int (iZ p)] (wkc a c S g) (xE [EIOB, EIAE] (cSoon S t b p)) (iZ (bZ (seenZ S t b p.toNat))) (wkc a c S g) := by
  refine CtX_of (own := RX0) (by decide) rfl rfl (Nat.le_of_ble_eq_true rfl) ?_
  refine V_lvq (lv' := [(0, _), (1, _), (2, _), (3, _)]) rfl ?_
  refine V_aload_n (q := 1) dX0_isTooSoon_0 0 rfl rfl ?_
  refine V_iload_n (q := 2) dX0_isTooSoon_1 1 rfl rfl ?_
  refine V_iload_n (q := 3) dX0_isTooSoon_2 2 rfl rfl ?_
  refine V_iconst (q := 4) dX0_isTooSoon_3 rfl ?_
  refine V_callIv (q := 7) dX0_isTooSoon_4 (c_X0_areThings ho t b (-1) rt rb (by decide)) yv_X0_areThings rfl gX0_isTooSoon_X0_areThings rfl 0 rfl rfl rfl rfl (Nat.le_of_ble_eq_true rfl) (by decide) ?_
  rw [show (hasZ S t && hasZ S b && (decide ((-1 : Int) = -1) || hasZ S (-1))) = (hasZ S t && hasZ S b) by simp]
  refine V_if_neB (q := 10) (tgt := 20) dX0_isTooSoon_7 (by decide) (fun c7 => ?_) (fun c7 => ?_)
  · skip
    refine V_aload_n (q := 21) dX0_isTooSoon_20 0 rfl rfl ?_
    refine V_iload_n (q := 22) dX0_isTooSoon_21 1 rfl rfl ?_
    refine V_iload_n (q := 23) dX0_isTooSoon_22 2 rfl rfl ?_
    refine V_iconst (q := 24) dX0_isTooSoon_23 rfl ?_
    refine V_callIv (q := 27) dX0_isTooSoon_24 (c_X0_areOfTheirKinds ho t b (-1) rt rb (by decide)) yv_X0_areOfTheirKinds rfl gX0_isTooSoon_X0_areOfTheirKinds rfl 0 rfl rfl rfl rfl (Nat.le_of_ble_eq_true rfl) (by decide) ?_
    rw [show (kdZ S t 0 && kdZ S b 1 && (decide ((-1 : Int) = -1) || kdZ S (-1) 2)) = (kdZ S t 0 && kdZ S b 1) by simp]
    refine V_if_eqB (q := 30) (tgt := 37) dX0_isTooSoon_27 (by decide) (fun c27 => ?_) (fun c27 => ?_)
    · skip
      exact V_throw (text := "a thing of another kind, or people out of range") (cls := EIAE) dX0_isTooSoon_37 dX0_isTooSoon_40 dX0_isTooSoon_41 dX0_isTooSoon_43 dX0_isTooSoon_46 (by decide +kernel) xn_ok (by decide +kernel) (by decide +kernel) (by decide +kernel) xf_IAE xg_IAE rfl (by decide +kernel) (by rw [show (cSoon S t b p : Nat) = 2 by simp only [cSoon, wrZ_m1, c7]; first | rfl | (simp only [c27]; first | rfl | (simp only [inZ, c34]; rfl))]; rfl) (by decide +kernel) (by decide) (by decide)
    · skip
      refine V_iload_n (q := 31) dX0_isTooSoon_30 3 rfl rfl ?_
      refine V_callIs (q := 34) dX0_isTooSoon_31 (c_X0_arePeople p rp) yv_X0_arePeople rfl gX0_isTooSoon_X0_arePeople rfl (Nat.le_of_ble_eq_true rfl) (by decide) ?_
      refine V_if_neB (q := 37) (tgt := 47) dX0_isTooSoon_34 (by decide) (fun c34 => ?_) (fun c34 => ?_)
      · skip
        have b1 : 0 ≤ p ∧ p ≤ 255 := by simpa using c34
        rw [show (iZ p : Int32) = iZ ((p.toNat : Nat) : Int) by rw [Int.toNat_of_nonneg b1.1]]
        refine V_aload_n (q := 48) dX0_isTooSoon_47 0 rfl rfl ?_
        refine V_iload_n (q := 49) dX0_isTooSoon_48 1 rfl rfl ?_
        refine V_iload_n (q := 50) dX0_isTooSoon_49 2 rfl rfl ?_
        refine V_iload_n (q := 51) dX0_isTooSoon_50 3 rfl rfl ?_
        refine V_callIv (q := 54) dX0_isTooSoon_51 (c_X0_wasSeenLately ho t b p.toNat rt rb (by omega)) yv_X0_wasSeenLately rfl gX0_isTooSoon_X0_wasSeenLately rfl 0 rfl rfl rfl rfl (Nat.le_of_ble_eq_true rfl) (by decide) ?_
        exact V_zretX dX0_isTooSoon_54 rfl (rfl) (by rw [show (cSoon S t b p : Nat) = 0 by simp only [cSoon, wrZ_m1, c7]; first | rfl | (simp only [c27]; first | rfl | (simp only [inZ, c34]; rfl))]; rfl) (rfl)
      · skip
        exact V_throw (text := "a thing of another kind, or people out of range") (cls := EIAE) dX0_isTooSoon_37 dX0_isTooSoon_40 dX0_isTooSoon_41 dX0_isTooSoon_43 dX0_isTooSoon_46 (by decide +kernel) xn_ok (by decide +kernel) (by decide +kernel) (by decide +kernel) xf_IAE xg_IAE rfl (by decide +kernel) (by rw [show (cSoon S t b p : Nat) = 2 by simp only [cSoon, wrZ_m1, c7]; first | rfl | (simp only [c27]; first | rfl | (simp only [inZ, c34]; rfl))]; rfl) (by decide +kernel) (by decide) (by decide)
  · skip
    exact V_throw (text := "no such thing") (cls := EIOB) dX0_isTooSoon_10 dX0_isTooSoon_13 dX0_isTooSoon_14 dX0_isTooSoon_16 dX0_isTooSoon_19 (by decide +kernel) xn_ok (by decide +kernel) (by decide +kernel) (by decide +kernel) xf_IOB xg_IOB rfl (by decide +kernel) (by rw [show (cSoon S t b p : Nat) = 1 by simp only [cSoon, wrZ_m1, c7]; first | rfl | (simp only [c27]; first | rfl | (simp only [inZ, c34]; rfl))]; rfl) (by decide +kernel) (by decide) (by decide)
theorem wo_ok {S : St} (ho : Ok S) (x : Int) : Ok (wo S x) := by
  unfold wo
  by_cases h : 0 < lftZ S x
  · rw [if_pos h]
    obtain ⟨h1, h2, h3, h4, h5, h6, h7, h8, h9, h10, h11⟩ := ho
    refine ⟨h1, h2, h3, h4, h5, h6, h7, fun j => ?_, h9, h10, h11⟩
    show fu (sL S) x.toNat (sL S x.toNat - 1) j ≤ sM S j
    have := h8 j
    unfold fu
    split
    · next e => subst e; omega
    · exact this
  · rw [if_neg h]; exact ho
theorem shw_ok {S : St} (ho : Ok S) (t b : Int) (p : Nat) : Ok (shw S t b p) := by
  unfold shw
  split
  · obtain ⟨h1, h2, h3, h4, h5, h6, h7, h8, h9, h10, h11⟩ := ho
    refine ⟨h1, h2, h3, h4, h5, h6, h7, h8, fun i => ?_, h10, h11⟩
    show shE S t b p 8 i ≤ sT S + 1
    unfold shE
    split
    · exact Nat.le_refl _
    · exact h9 i
  · exact ho
theorem owZ_cong {S S' : St} (h1 : sN S' = sN S) (h2 : sG S' = sG S) (h3 : sW S' = sW S) (t b d : Int) : owZ S' t b d = owZ S t b d := by
  unfold owZ wrmZ hasZ hasT
  rw [h1, h2, h3]
theorem wo_same (S : St) (x : Int) : sN (wo S x) = sN S ∧ sG (wo S x) = sG S ∧ sW (wo S x) = sW S := by
  unfold wo
  split <;> exact ⟨rfl, rfl, rfl⟩
theorem shw_same (S : St) (t b : Int) (p : Nat) : sN (shw S t b p) = sN S ∧ sG (shw S t b p) = sG S ∧ sW (shw S t b p) = sW S := by
  unfold shw
  split <;> exact ⟨rfl, rfl, rfl⟩
theorem owZ_wrS (S : St) (t b d : Int) (p : Nat) : owZ (wrS S t b d p) t b d = owZ S t b d := by
  unfold wrS
  obtain ⟨a1, a2, a3⟩ := shw_same (wo (wo (wo S t) b) d) t b p
  obtain ⟨b1, b2, b3⟩ := wo_same (wo (wo S t) b) d
  obtain ⟨c1, c2, c3⟩ := wo_same (wo S t) b
  obtain ⟨d1, d2, d3⟩ := wo_same S t
  rw [owZ_cong a1 a2 a3, owZ_cong b1 b2 b3, owZ_cong c1 c2 c3, owZ_cong d1 d2 d3]
theorem yv_X0_wear : YV yX0_wear wsX0_wear 4 := ⟨_, _, _, _, rfl, by decide +kernel, by decide⟩
set_option maxRecDepth 100000 in
set_option maxHeartbeats 4000000 in
theorem c_X0_wear {a : Nat → Nat} {c : Nat → ClassId} {S : St} {g : Nat → Nat} (ho : Ok S) (t b d p : Int) (rt : -2147483648 ≤ t ∧ t < 2147483648) (rb : -2147483648 ≤ b ∧ b < 2147483648) (rd : -2147483648 ≤ d ∧ d < 2147483648) (rp : -2147483648 ≤ p ∧ p < 2147483648) : CtX yX0_wear wsX0_wear (rmX 6) (tyk c) [.ref (a 0), .int (iZ t), .int (iZ b), .int (iZ d), .int (iZ p)] (wkc a c S g) (xE [EIOB, EIAE, EISE] (cWear S t b d p)) (iZ (owZ S t b d)) (wkc a c (wrS S t b d p.toNat) g) := by
  refine CtX_of (own := RX0) (by decide) rfl rfl (Nat.le_of_ble_eq_true rfl) ?_
  refine V_lvq (lv' := [(0, _), (1, _), (2, _), (3, _), (4, _)]) rfl ?_
  refine V_aload_n (q := 1) dX0_wear_0 0 rfl rfl ?_
  refine V_iload_n (q := 2) dX0_wear_1 1 rfl rfl ?_
  refine V_iload_n (q := 3) dX0_wear_2 2 rfl rfl ?_
  refine V_iload_n (q := 4) dX0_wear_3 3 rfl rfl ?_
  refine V_callIv (q := 7) dX0_wear_4 (c_X0_areThings ho t b d rt rb rd) yv_X0_areThings rfl gX0_wear_X0_areThings rfl 0 rfl rfl rfl rfl (Nat.le_of_ble_eq_true rfl) (by decide) ?_
  refine V_if_neB (q := 10) (tgt := 20) dX0_wear_7 (by decide) (fun c7 => ?_) (fun c7 => ?_)
  · skip
    refine V_aload_n (q := 21) dX0_wear_20 0 rfl rfl ?_
    refine V_iload_n (q := 22) dX0_wear_21 1 rfl rfl ?_
    refine V_iload_n (q := 23) dX0_wear_22 2 rfl rfl ?_
    refine V_iload_n (q := 24) dX0_wear_23 3 rfl rfl ?_
    refine V_callIv (q := 27) dX0_wear_24 (c_X0_areOfTheirKinds ho t b d rt rb rd) yv_X0_areOfTheirKinds rfl gX0_wear_X0_areOfTheirKinds rfl 0 rfl rfl rfl rfl (Nat.le_of_ble_eq_true rfl) (by decide) ?_
    refine V_if_eqB (q := 30) (tgt := 38) dX0_wear_27 (by decide) (fun c27 => ?_) (fun c27 => ?_)
    · skip
      exact V_throw (text := "a thing of another kind, or people out of range") (cls := EIAE) dX0_wear_38 dX0_wear_41 dX0_wear_42 dX0_wear_44 dX0_wear_47 (by decide +kernel) xn_ok (by decide +kernel) (by decide +kernel) (by decide +kernel) xf_IAE xg_IAE rfl (by decide +kernel) (by rw [show (cWear S t b d p : Nat) = 2 by simp only [cWear, wrZ, c7]; first | rfl | (simp only [c27]; first | rfl | (simp only [inZ, c35]; first | rfl | (simp only [c55]; first | rfl | (simp only [c66]; rfl))))]; rfl) (by decide +kernel) (by decide) (by decide)
    · skip
      refine V_iload (q := 32) dX0_wear_30 4 rfl rfl ?_
      refine V_callIs (q := 35) dX0_wear_32 (c_X0_arePeople p rp) yv_X0_arePeople rfl gX0_wear_X0_arePeople rfl (Nat.le_of_ble_eq_true rfl) (by decide) ?_
      refine V_if_neB (q := 38) (tgt := 48) dX0_wear_35 (by decide) (fun c35 => ?_) (fun c35 => ?_)
      · skip
        have b1 : 0 ≤ p ∧ p ≤ 255 := by simpa using c35
        refine V_aload_n (q := 49) dX0_wear_48 0 rfl rfl ?_
        refine V_iload_n (q := 50) dX0_wear_49 1 rfl rfl ?_
        refine V_iload_n (q := 51) dX0_wear_50 2 rfl rfl ?_
        refine V_iload_n (q := 52) dX0_wear_51 3 rfl rfl ?_
        refine V_callIv (q := 55) dX0_wear_52 (c_X0_canBeWorn ho t b d rt rb rd) yv_X0_canBeWorn rfl gX0_wear_X0_canBeWorn rfl 0 rfl rfl rfl rfl (Nat.le_of_ble_eq_true rfl) (by decide) ?_
        refine V_if_eqB (q := 58) (tgt := 69) dX0_wear_55 (by decide) (fun c55 => ?_) (fun c55 => ?_)
        · skip
          exact V_throw (text := "the outfit is not possible, or too soon") (cls := EISE) dX0_wear_69 dX0_wear_72 dX0_wear_73 dX0_wear_75 dX0_wear_78 (by decide +kernel) xn_ok (by decide +kernel) (by decide +kernel) (by decide +kernel) xf_ISE xg_ISE rfl (by decide +kernel) (by rw [show (cWear S t b d p : Nat) = 3 by simp only [cWear, wrZ, c7]; first | rfl | (simp only [c27]; first | rfl | (simp only [inZ, c35]; first | rfl | (simp only [c55]; first | rfl | (simp only [c66]; rfl))))]; rfl) (by decide +kernel) (by decide) (by decide)
        · skip
          refine V_aload_n (q := 59) dX0_wear_58 0 rfl rfl ?_
          refine V_iload_n (q := 60) dX0_wear_59 1 rfl rfl ?_
          refine V_iload_n (q := 61) dX0_wear_60 2 rfl rfl ?_
          refine V_iload (q := 63) dX0_wear_61 4 rfl rfl ?_
          rw [show (iZ p : Int32) = iZ ((p.toNat : Nat) : Int) by rw [Int.toNat_of_nonneg b1.1]]
          refine V_callIv (q := 66) dX0_wear_63 (c_X0_wasSeenLately ho t b p.toNat rt rb (by omega)) yv_X0_wasSeenLately rfl gX0_wear_X0_wasSeenLately rfl 0 rfl rfl rfl rfl (Nat.le_of_ble_eq_true rfl) (by decide) ?_
          refine V_if_eqB (q := 69) (tgt := 79) dX0_wear_66 (by decide) (fun c66 => ?_) (fun c66 => ?_)
          · skip
            have ec : cWear S t b d p = 0 := by simp only [cWear, wrZ, c7, c27, inZ, c35, c55, c66]; rfl
            rw [ec]
            have o1 := wo_ok ho t
            have o2 := wo_ok o1 b
            have o3 := wo_ok o2 d
            refine V_aload_n (q := 80) dX0_wear_79 0 rfl rfl ?_
            refine V_iload_n (q := 81) dX0_wear_80 1 rfl rfl ?_
            refine V_callVv (q := 84) dX0_wear_81 (c_X0_wearOnce ho t rt) yv_X0_wearOnce rfl gX0_wear_X0_wearOnce rfl 0 rfl rfl rfl rfl (Nat.le_of_ble_eq_true rfl) (by decide) ?_
            refine V_aload_n (q := 85) dX0_wear_84 0 rfl rfl ?_
            refine V_iload_n (q := 86) dX0_wear_85 2 rfl rfl ?_
            refine V_callVv (q := 89) dX0_wear_86 (c_X0_wearOnce o1 b rb) yv_X0_wearOnce rfl gX0_wear_X0_wearOnce rfl 0 rfl rfl rfl rfl (Nat.le_of_ble_eq_true rfl) (by decide) ?_
            refine V_aload_n (q := 90) dX0_wear_89 0 rfl rfl ?_
            refine V_iload_n (q := 91) dX0_wear_90 3 rfl rfl ?_
            refine V_callVv (q := 94) dX0_wear_91 (c_X0_wearOnce o2 d rd) yv_X0_wearOnce rfl gX0_wear_X0_wearOnce rfl 0 rfl rfl rfl rfl (Nat.le_of_ble_eq_true rfl) (by decide) ?_
            refine V_aload_n (q := 95) dX0_wear_94 0 rfl rfl ?_
            refine V_iload_n (q := 96) dX0_wear_95 1 rfl rfl ?_
            refine V_iload_n (q := 97) dX0_wear_96 2 rfl rfl ?_
            refine V_iload (q := 99) dX0_wear_97 4 rfl rfl ?_
            refine V_callVv (q := 102) dX0_wear_99 (c_X0_showTo o3 t b p.toNat rt rb (by omega)) yv_X0_showTo rfl gX0_wear_X0_showTo rfl 0 rfl rfl rfl rfl (Nat.le_of_ble_eq_true rfl) (by decide) ?_
            refine V_aload_n (q := 103) dX0_wear_102 0 rfl rfl ?_
            refine V_iload_n (q := 104) dX0_wear_103 1 rfl rfl ?_
            refine V_iload_n (q := 105) dX0_wear_104 2 rfl rfl ?_
            refine V_iload_n (q := 106) dX0_wear_105 3 rfl rfl ?_
            refine V_callIv (q := 109) dX0_wear_106 (c_X0_outfitWarmth (S := wrS S t b d p.toNat) (shw_ok o3 t b p.toNat) t b d rt rb rd) yv_X0_outfitWarmth rfl gX0_wear_X0_outfitWarmth rfl 0 rfl rfl rfl rfl (Nat.le_of_ble_eq_true rfl) (by decide) ?_
            exact V_iretX dX0_wear_109 rfl (by rw [owZ_wrS]) (rfl) (rfl)
          · skip
            exact V_throw (text := "the outfit is not possible, or too soon") (cls := EISE) dX0_wear_69 dX0_wear_72 dX0_wear_73 dX0_wear_75 dX0_wear_78 (by decide +kernel) xn_ok (by decide +kernel) (by decide +kernel) (by decide +kernel) xf_ISE xg_ISE rfl (by decide +kernel) (by rw [show (cWear S t b d p : Nat) = 3 by simp only [cWear, wrZ, c7]; first | rfl | (simp only [c27]; first | rfl | (simp only [inZ, c35]; first | rfl | (simp only [c55]; first | rfl | (simp only [c66]; rfl))))]; rfl) (by decide +kernel) (by decide) (by decide)
      · skip
        exact V_throw (text := "a thing of another kind, or people out of range") (cls := EIAE) dX0_wear_38 dX0_wear_41 dX0_wear_42 dX0_wear_44 dX0_wear_47 (by decide +kernel) xn_ok (by decide +kernel) (by decide +kernel) (by decide +kernel) xf_IAE xg_IAE rfl (by decide +kernel) (by rw [show (cWear S t b d p : Nat) = 2 by simp only [cWear, wrZ, c7]; first | rfl | (simp only [c27]; first | rfl | (simp only [inZ, c35]; first | rfl | (simp only [c55]; first | rfl | (simp only [c66]; rfl))))]; rfl) (by decide +kernel) (by decide) (by decide)
  · skip
    exact V_throw (text := "no such thing") (cls := EIOB) dX0_wear_10 dX0_wear_13 dX0_wear_14 dX0_wear_16 dX0_wear_19 (by decide +kernel) xn_ok (by decide +kernel) (by decide +kernel) (by decide +kernel) xf_IOB xg_IOB rfl (by decide +kernel) (by rw [show (cWear S t b d p : Nat) = 1 by simp only [cWear, wrZ, c7]; first | rfl | (simp only [c27]; first | rfl | (simp only [inZ, c35]; first | rfl | (simp only [c55]; first | rfl | (simp only [c66]; rfl))))]; rfl) (by decide +kernel) (by decide) (by decide)
theorem lN_xm (b : Nat) : lN b ^^^ (-1) = lN (b ^^^ 18446744073709551615) := by
  apply Int64.toBitVec.inj
  show (BitVec.ofNat 64 b) ^^^ (BitVec.ofNat 64 18446744073709551615) = BitVec.ofNat 64 (b ^^^ 18446744073709551615)
  exact (BitVec.ofNat_xor ..).symm
theorem cl_or {S S' : St} {i j : Nat} (hi : i < 64) (hj : j < 64) (h : ∀ q, q < 64 → sX S' q = if q = i ∨ q = j then true else sX S q) : clL S ||| (lN (2 ^ i) ||| lN (2 ^ j)) = clL S' := by
  unfold clL
  rw [lN_or, lN_or]
  congr 1
  apply Nat.eq_of_testBit_eq
  intro q
  rw [Nat.testBit_or, Nat.testBit_or, bits_tb, bits_tb, Nat.testBit_two_pow, Nat.testBit_two_pow]
  by_cases hq : q < 64
  · rw [h q hq]
    by_cases e1 : q = i
    · subst e1; simp [hi]
    · by_cases e2 : q = j
      · subst e2; simp [hj]
      · have e3 : ¬ i = q := fun z => e1 z.symm
        have e4 : ¬ j = q := fun z => e2 z.symm
        simp [e1, e2, e3, e4]
  · have e1 : ¬ i = q := by omega
    have e2 : ¬ j = q := by omega
    simp [hq, e1, e2]
theorem cl_an {S S' : St} {i j : Nat} (hi : i < 64) (hj : j < 64) (h : ∀ q, q < 64 → sX S' q = if q = i ∨ q = j then false else sX S q) : clL S &&& ((lN (2 ^ i) ||| lN (2 ^ j)) ^^^ (-1)) = clL S' := by
  unfold clL
  rw [lN_or, lN_xm, lN_and]
  congr 1
  apply Nat.eq_of_testBit_eq
  intro q
  rw [Nat.testBit_and, Nat.testBit_xor, Nat.testBit_or, bits_tb, bits_tb, Nat.testBit_two_pow, Nat.testBit_two_pow, show (18446744073709551615 : Nat) = 2 ^ 64 - 1 from rfl, Nat.testBit_two_pow_sub_one]
  by_cases hq : q < 64
  · rw [h q hq]
    by_cases e1 : q = i
    · subst e1; simp [hi]
    · by_cases e2 : q = j
      · subst e2; simp [hj]
      · have e3 : ¬ i = q := fun z => e1 z.symm
        have e4 : ¬ j = q := fun z => e2 z.symm
        simp [e1, e2, e3, e4, hq]
  · simp [hq]
theorem hin_X0_setClash : ∀ w ∈ wsX00, w ∈ wsX0_setClash := by decide +kernel
theorem f_X0_setClash_88 : Cond.fieldLink RX0 88 (TX0 9).1 (TX0 9).2.1 (TX0 9).2.2.1 ∈ wsX0_setClash := by decide +kernel
theorem yv_X0_setClash : YV yX0_setClash wsX0_setClash 3 := ⟨_, _, _, _, rfl, by decide +kernel, by decide⟩
set_option maxRecDepth 100000 in
set_option maxHeartbeats 4000000 in
theorem c_X0_setClash {a : Nat → Nat} {c : Nat → ClassId} {S : St} {g : Nat → Nat} (ho : Ok S) (x' y' : Int) (v : Bool) (rx : -2147483648 ≤ x' ∧ x' < 2147483648) (ry : -2147483648 ≤ y' ∧ y' < 2147483648) : CtX yX0_setClash wsX0_setClash (rmX 2) (tyk c) [.ref (a 0), .int (iZ x'), .int (iZ y'), .int (iZ (bZ v))] (wkc a c S g) (xE [EIAE] (cClash x' y')) (iZ (bZ (sX S (8 * x'.toNat + y'.toNat)))) (wkc a c (clS S x' y' v) g) := by
  refine CtX_of (own := RX0) (by decide) rfl rfl (Nat.le_of_ble_eq_true rfl) ?_
  refine V_lvq (lv' := [(0, _), (1, _), (2, _), (3, _)]) rfl ?_
  refine V_iload_n (q := 1) dX0_setClash_0 1 rfl rfl ?_
  refine V_callIs (q := 4) dX0_setClash_1 (c_X0_isColour x' rx) yv_X0_isColour rfl gX0_setClash_X0_isColour rfl (Nat.le_of_ble_eq_true rfl) (by decide) ?_
  refine V_if_eqB (q := 7) (tgt := 14) dX0_setClash_4 (by decide) (fun c4 => ?_) (fun c4 => ?_)
  · skip
    exact V_throw (text := "a colour is out of range") (cls := EIAE) dX0_setClash_14 dX0_setClash_17 dX0_setClash_18 dX0_setClash_20 dX0_setClash_23 (by decide +kernel) xn_ok (by decide +kernel) (by decide +kernel) (by decide +kernel) xf_IAE xg_IAE rfl (by decide +kernel) (by rw [show (cClash x' y' : Nat) = 1 by simp only [cClash, inZ, c4]; first | rfl | (simp only [c11]; rfl)]; rfl) (by decide +kernel) (by decide) (by decide)
  · skip
    refine V_iload_n (q := 8) dX0_setClash_7 2 rfl rfl ?_
    refine V_callIs (q := 11) dX0_setClash_8 (c_X0_isColour y' ry) yv_X0_isColour rfl gX0_setClash_X0_isColour rfl (Nat.le_of_ble_eq_true rfl) (by decide) ?_
    refine V_if_neB (q := 14) (tgt := 24) dX0_setClash_11 (by decide) (fun c11 => ?_) (fun c11 => ?_)
    · skip
      have b1 : 0 ≤ x' ∧ x' ≤ 7 := by simpa using c4
      have b2 : 0 ≤ y' ∧ y' ≤ 7 := by simpa using c11
      have ec : cClash x' y' = 0 := by simp only [cClash, inZ, c4, c11]; rfl
      rw [ec]
      obtain ⟨x, hx⟩ : ∃ x : Nat, x' = (x : Int) := ⟨x'.toNat, by omega⟩
      obtain ⟨y, hy⟩ : ∃ y : Nat, y' = (y : Int) := ⟨y'.toNat, by omega⟩
      subst hx
      subst hy
      rw [show ((x : Int)).toNat = x from Int.toNat_natCast x, show ((y : Int)).toNat = y from Int.toNat_natCast y]
      refine V_aload_n (q := 25) dX0_setClash_24 0 rfl rfl ?_
      refine V_iload_n (q := 26) dX0_setClash_25 1 rfl rfl ?_
      refine V_iload_n (q := 27) dX0_setClash_26 2 rfl rfl ?_
      refine V_callIv (q := 30) dX0_setClash_27 (c_X0_coloursClash x y (by omega) (by omega)) yv_X0_coloursClash rfl gX0_setClash_X0_coloursClash rfl 0 rfl rfl rfl rfl (Nat.le_of_ble_eq_true rfl) (by decide) ?_
      refine V_istore (q := 32) (lv' := [(0, _), (1, _), (2, _), (3, _), (4, _)]) dX0_setClash_30 (by decide) rfl rfl ?_
      refine V_iload_n (q := 33) dX0_setClash_32 1 rfl rfl ?_
      refine V_iload_n (q := 34) dX0_setClash_33 2 rfl rfl ?_
      refine V_callLs (q := 37) dX0_setClash_34 (c_X0_clashBit x y (by omega) (by omega)) yv_X0_clashBit rfl gX0_setClash_X0_clashBit rfl (Nat.le_of_ble_eq_true rfl) (by decide) ?_
      refine V_iload_n (q := 38) dX0_setClash_37 2 rfl rfl ?_
      refine V_iload_n (q := 39) dX0_setClash_38 1 rfl rfl ?_
      refine V_callLs (q := 42) dX0_setClash_39 (c_X0_clashBit y x (by omega) (by omega)) yv_X0_clashBit rfl gX0_setClash_X0_clashBit rfl (Nat.le_of_ble_eq_true rfl) (by decide) ?_
      refine V_lor (q := 43) dX0_setClash_42 rfl ?_
      refine V_lstore (q := 45) (lv' := [(0, _), (1, _), (2, _), (3, _), (4, _), (5, _)]) dX0_setClash_43 (by decide) rfl rfl ?_
      refine V_aload_n (q := 46) dX0_setClash_45 0 rfl rfl ?_
      refine V_cutL (M := 71) (clL (clS S x y v)) ?_ (fun k71 => ?_)
      · -- from the merge
        refine V_put (q := 74) (ty := .long) (ws' := wkc a c (clS S x y v) g) dX0_setClash_71 hin_X0_setClash tyX0 tyX0_ok nmX0 0 rfl rfl 9 (by decide) f_X0_setClash_88 rfl (by decide +kernel) rfl rfl (Nat.le_of_ble_eq_true rfl) (wkX _) rfl ?_
        refine V_iload (q := 76) dX0_setClash_74 4 rfl rfl ?_
        exact V_zretX dX0_setClash_76 rfl (rfl) (rfl) (rfl)
      · -- the ways to it
        refine V_iload_n (q := 47) dX0_setClash_46 3 rfl rfl ?_
        refine V_if_eqB (q := 50) (tgt := 60) dX0_setClash_47 (by decide) (fun c47 => ?_) (fun c47 => ?_)
        · skip
          refine V_aload_n (q := 61) dX0_setClash_60 0 rfl rfl ?_
          refine V_get (q := 64) dX0_setClash_61 hin_X0_setClash 0 rfl rfl 9 (by decide) f_X0_setClash_88 rfl rfl ?_
          refine V_lload (q := 66) dX0_setClash_64 5 rfl rfl ?_
          refine V_ldc2 (q := 69) (v := -1) dX0_setClash_66 (by decide +kernel) rfl ?_
          refine V_lxor (q := 70) dX0_setClash_69 rfl ?_
          refine V_land (q := 71) dX0_setClash_70 rfl ?_
          exact k71 _ (by subst c47; first | exact cl_or (S' := clS S x y true) (by omega) (by omega) (fun q _ => rfl) | exact cl_an (S' := clS S x y false) (by omega) (by omega) (fun q _ => rfl))
        · skip
          refine V_aload_n (q := 51) dX0_setClash_50 0 rfl rfl ?_
          refine V_get (q := 54) dX0_setClash_51 hin_X0_setClash 0 rfl rfl 9 (by decide) f_X0_setClash_88 rfl rfl ?_
          refine V_lload (q := 56) dX0_setClash_54 5 rfl rfl ?_
          refine V_lor (q := 57) dX0_setClash_56 rfl ?_
          refine V_goto (tgt := 71) dX0_setClash_57 (by decide) ?_
          exact k71 _ (by subst c47; first | exact cl_or (S' := clS S x y true) (by omega) (by omega) (fun q _ => rfl) | exact cl_an (S' := clS S x y false) (by omega) (by omega) (fun q _ => rfl))
    · skip
      exact V_throw (text := "a colour is out of range") (cls := EIAE) dX0_setClash_14 dX0_setClash_17 dX0_setClash_18 dX0_setClash_20 dX0_setClash_23 (by decide +kernel) xn_ok (by decide +kernel) (by decide +kernel) (by decide +kernel) xf_IAE xg_IAE rfl (by decide +kernel) (by rw [show (cClash x' y' : Nat) = 1 by simp only [cClash, inZ, c4]; first | rfl | (simp only [c11]; rfl)]; rfl) (by decide +kernel) (by decide) (by decide)
end
