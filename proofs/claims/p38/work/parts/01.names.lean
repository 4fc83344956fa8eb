-- ===== PART A: goes FIRST, ahead of the names: the tables' words, and 'selects' of the private methods out of them =====
/-- a private method of a class that the tables say can be made, by its rows of tables_1 -/
def lw_okq (q : MethodName × Nat) : Prop := (q.1.cls ≠ "java/lang/invoke/MethodHandle" ∧ q.1.cls ≠ "java/lang/invoke/VarHandle") ∧ Cond.instantiable q.1.cls q.2 ∈ tables_1 ∧ Cond.privateMethod q.1 ∈ tables_1 ∧ Cond.instanceMethod q.1 ∈ tables_1
theorem lw_p0 : lw_okq (⟨"BucketSheet$Reader", "begin", "()V"⟩, 11) := ⟨⟨by decide +kernel, by decide +kernel⟩, List.mem_of_getElem? (i := 87) (by decide +kernel), List.mem_of_getElem? (i := 317) (by decide +kernel), List.mem_of_getElem? (i := 318) (by decide +kernel)⟩
theorem lw_p1 : lw_okq (⟨"BucketSheet$Reader", "fetch", "()V"⟩, 11) := ⟨⟨by decide +kernel, by decide +kernel⟩, List.mem_of_getElem? (i := 87) (by decide +kernel), List.mem_of_getElem? (i := 323) (by decide +kernel), List.mem_of_getElem? (i := 324) (by decide +kernel)⟩
theorem lw_p2 : lw_okq (⟨"BucketSheet$Reader", "takeAlike", "()V"⟩, 11) := ⟨⟨by decide +kernel, by decide +kernel⟩, List.mem_of_getElem? (i := 87) (by decide +kernel), List.mem_of_getElem? (i := 334) (by decide +kernel), List.mem_of_getElem? (i := 335) (by decide +kernel)⟩
theorem lw_p3 : lw_okq (⟨"BucketSheet$Reader", "fail", "(II)V"⟩, 11) := ⟨⟨by decide +kernel, by decide +kernel⟩, List.mem_of_getElem? (i := 87) (by decide +kernel), List.mem_of_getElem? (i := 338) (by decide +kernel), List.mem_of_getElem? (i := 339) (by decide +kernel)⟩
theorem lw_p4 : lw_okq (⟨"BucketSheet$Reader", "readLine", "()V"⟩, 11) := ⟨⟨by decide +kernel, by decide +kernel⟩, List.mem_of_getElem? (i := 87) (by decide +kernel), List.mem_of_getElem? (i := 342) (by decide +kernel), List.mem_of_getElem? (i := 343) (by decide +kernel)⟩
theorem lw_p5 : lw_okq (⟨"BucketSheet$Reader", "kindHere", "()I"⟩, 11) := ⟨⟨by decide +kernel, by decide +kernel⟩, List.mem_of_getElem? (i := 87) (by decide +kernel), List.mem_of_getElem? (i := 346) (by decide +kernel), List.mem_of_getElem? (i := 347) (by decide +kernel)⟩
theorem lw_p6 : lw_okq (⟨"BucketSheet$Reader", "spells", "(Ljava/lang/String;)Z"⟩, 11) := ⟨⟨by decide +kernel, by decide +kernel⟩, List.mem_of_getElem? (i := 87) (by decide +kernel), List.mem_of_getElem? (i := 363) (by decide +kernel), List.mem_of_getElem? (i := 364) (by decide +kernel)⟩
theorem lw_p7 : lw_okq (⟨"BucketSheet$Reader", "mayBegin", "(I)Z"⟩, 11) := ⟨⟨by decide +kernel, by decide +kernel⟩, List.mem_of_getElem? (i := 87) (by decide +kernel), List.mem_of_getElem? (i := 415) (by decide +kernel), List.mem_of_getElem? (i := 416) (by decide +kernel)⟩
theorem lw_p8 : lw_okq (⟨"BucketSheet$Reader", "readRow", "()V"⟩, 11) := ⟨⟨by decide +kernel, by decide +kernel⟩, List.mem_of_getElem? (i := 87) (by decide +kernel), List.mem_of_getElem? (i := 419) (by decide +kernel), List.mem_of_getElem? (i := 420) (by decide +kernel)⟩
theorem lw_p9 : lw_okq (⟨"BucketSheet$Reader", "number", "(II)I"⟩, 11) := ⟨⟨by decide +kernel, by decide +kernel⟩, List.mem_of_getElem? (i := 87) (by decide +kernel), List.mem_of_getElem? (i := 423) (by decide +kernel), List.mem_of_getElem? (i := 424) (by decide +kernel)⟩
theorem lw_p10 : lw_okq (⟨"BucketSheet$Reader", "numberHere", "(II)I"⟩, 11) := ⟨⟨by decide +kernel, by decide +kernel⟩, List.mem_of_getElem? (i := 87) (by decide +kernel), List.mem_of_getElem? (i := 427) (by decide +kernel), List.mem_of_getElem? (i := 428) (by decide +kernel)⟩
theorem lw_p11 : lw_okq (⟨"BucketSheet$Reader", "readPart", "([II)V"⟩, 11) := ⟨⟨by decide +kernel, by decide +kernel⟩, List.mem_of_getElem? (i := 87) (by decide +kernel), List.mem_of_getElem? (i := 431) (by decide +kernel), List.mem_of_getElem? (i := 432) (by decide +kernel)⟩
theorem lw_p12 : lw_okq (⟨"BucketSheet$Reader", "readRound", "()V"⟩, 11) := ⟨⟨by decide +kernel, by decide +kernel⟩, List.mem_of_getElem? (i := 87) (by decide +kernel), List.mem_of_getElem? (i := 435) (by decide +kernel), List.mem_of_getElem? (i := 436) (by decide +kernel)⟩
theorem lw_p13 : lw_okq (⟨"BucketSheet$Reader", "lookAtWords", "()V"⟩, 11) := ⟨⟨by decide +kernel, by decide +kernel⟩, List.mem_of_getElem? (i := 87) (by decide +kernel), List.mem_of_getElem? (i := 439) (by decide +kernel), List.mem_of_getElem? (i := 440) (by decide +kernel)⟩
theorem lw_p14 : lw_okq (⟨"BucketSheet", "tellAll", "()V"⟩, 11) := ⟨⟨by decide +kernel, by decide +kernel⟩, List.mem_of_getElem? (i := 18) (by decide +kernel), List.mem_of_getElem? (i := 443) (by decide +kernel), List.mem_of_getElem? (i := 444) (by decide +kernel)⟩
theorem lw_p15 : lw_okq (⟨"BucketSheet$Charge", "bring", "(II)V"⟩, 7) := ⟨⟨by decide +kernel, by decide +kernel⟩, List.mem_of_getElem? (i := 133) (by decide +kernel), List.mem_of_getElem? (i := 493) (by decide +kernel), List.mem_of_getElem? (i := 494) (by decide +kernel)⟩
def lw_privs_1 : List (MethodName × Nat) := [(⟨"BucketSheet$Reader", "begin", "()V"⟩, 11), (⟨"BucketSheet$Reader", "fetch", "()V"⟩, 11), (⟨"BucketSheet$Reader", "takeAlike", "()V"⟩, 11), (⟨"BucketSheet$Reader", "fail", "(II)V"⟩, 11), (⟨"BucketSheet$Reader", "readLine", "()V"⟩, 11), (⟨"BucketSheet$Reader", "kindHere", "()I"⟩, 11), (⟨"BucketSheet$Reader", "spells", "(Ljava/lang/String;)Z"⟩, 11), (⟨"BucketSheet$Reader", "mayBegin", "(I)Z"⟩, 11), (⟨"BucketSheet$Reader", "readRow", "()V"⟩, 11), (⟨"BucketSheet$Reader", "number", "(II)I"⟩, 11), (⟨"BucketSheet$Reader", "numberHere", "(II)I"⟩, 11), (⟨"BucketSheet$Reader", "readPart", "([II)V"⟩, 11), (⟨"BucketSheet$Reader", "readRound", "()V"⟩, 11), (⟨"BucketSheet$Reader", "lookAtWords", "()V"⟩, 11), (⟨"BucketSheet", "tellAll", "()V"⟩, 11), (⟨"BucketSheet$Charge", "bring", "(II)V"⟩, 7)]
theorem lw_r1 : ∀ q ∈ lw_privs_1, lw_okq q := List.forall_mem_cons.mpr ⟨lw_p0, List.forall_mem_cons.mpr ⟨lw_p1, List.forall_mem_cons.mpr ⟨lw_p2, List.forall_mem_cons.mpr ⟨lw_p3, List.forall_mem_cons.mpr ⟨lw_p4, List.forall_mem_cons.mpr ⟨lw_p5, List.forall_mem_cons.mpr ⟨lw_p6, List.forall_mem_cons.mpr ⟨lw_p7, List.forall_mem_cons.mpr ⟨lw_p8, List.forall_mem_cons.mpr ⟨lw_p9, List.forall_mem_cons.mpr ⟨lw_p10, List.forall_mem_cons.mpr ⟨lw_p11, List.forall_mem_cons.mpr ⟨lw_p12, List.forall_mem_cons.mpr ⟨lw_p13, List.forall_mem_cons.mpr ⟨lw_p14, List.forall_mem_cons.mpr ⟨lw_p15, fun _ h => absurd h List.not_mem_nil⟩⟩⟩⟩⟩⟩⟩⟩⟩⟩⟩⟩⟩⟩⟩⟩
theorem lw_p16 : lw_okq (⟨"BucketSheet$Charge", "runOver", "(LBucketSheet$Plan;)V"⟩, 7) := ⟨⟨by decide +kernel, by decide +kernel⟩, List.mem_of_getElem? (i := 133) (by decide +kernel), List.mem_of_getElem? (i := 497) (by decide +kernel), List.mem_of_getElem? (i := 498) (by decide +kernel)⟩
theorem lw_p17 : lw_okq (⟨"BucketSheet$Charge", "spread", "(III)I"⟩, 7) := ⟨⟨by decide +kernel, by decide +kernel⟩, List.mem_of_getElem? (i := 133) (by decide +kernel), List.mem_of_getElem? (i := 501) (by decide +kernel), List.mem_of_getElem? (i := 502) (by decide +kernel)⟩
theorem lw_p18 : lw_okq (⟨"BucketSheet$Charge", "pourInto", "(III)I"⟩, 7) := ⟨⟨by decide +kernel, by decide +kernel⟩, List.mem_of_getElem? (i := 133) (by decide +kernel), List.mem_of_getElem? (i := 505) (by decide +kernel), List.mem_of_getElem? (i := 506) (by decide +kernel)⟩
theorem lw_p19 : lw_okq (⟨"BucketSheet$Charge", "rowsDown", "(I)V"⟩, 7) := ⟨⟨by decide +kernel, by decide +kernel⟩, List.mem_of_getElem? (i := 133) (by decide +kernel), List.mem_of_getElem? (i := 524) (by decide +kernel), List.mem_of_getElem? (i := 525) (by decide +kernel)⟩
theorem lw_p20 : lw_okq (⟨"BucketSheet$Charge", "trapAll", "(LBucketSheet$Plan;)V"⟩, 7) := ⟨⟨by decide +kernel, by decide +kernel⟩, List.mem_of_getElem? (i := 133) (by decide +kernel), List.mem_of_getElem? (i := 528) (by decide +kernel), List.mem_of_getElem? (i := 529) (by decide +kernel)⟩
theorem lw_p21 : lw_okq (⟨"BucketSheet", "fullWells", "()I"⟩, 11) := ⟨⟨by decide +kernel, by decide +kernel⟩, List.mem_of_getElem? (i := 18) (by decide +kernel), List.mem_of_getElem? (i := 558) (by decide +kernel), List.mem_of_getElem? (i := 559) (by decide +kernel)⟩
theorem lw_p22 : lw_okq (⟨"BucketSheet$Picture", "readRowOf", "(LBucketSheet$Plan;II)V"⟩, 4) := ⟨⟨by decide +kernel, by decide +kernel⟩, List.mem_of_getElem? (i := 170) (by decide +kernel), List.mem_of_getElem? (i := 590) (by decide +kernel), List.mem_of_getElem? (i := 591) (by decide +kernel)⟩
theorem lw_p23 : lw_okq (⟨"BucketSheet$Picture", "valueIn", "(I)I"⟩, 4) := ⟨⟨by decide +kernel, by decide +kernel⟩, List.mem_of_getElem? (i := 170) (by decide +kernel), List.mem_of_getElem? (i := 604) (by decide +kernel), List.mem_of_getElem? (i := 605) (by decide +kernel)⟩
theorem lw_p24 : lw_okq (⟨"BucketSheet", "comesInTick", "(I)I"⟩, 11) := ⟨⟨by decide +kernel, by decide +kernel⟩, List.mem_of_getElem? (i := 18) (by decide +kernel), List.mem_of_getElem? (i := 640) (by decide +kernel), List.mem_of_getElem? (i := 641) (by decide +kernel)⟩
theorem lw_p25 : lw_okq (⟨"BucketSheet", "isWord", "(I)Z"⟩, 11) := ⟨⟨by decide +kernel, by decide +kernel⟩, List.mem_of_getElem? (i := 18) (by decide +kernel), List.mem_of_getElem? (i := 668) (by decide +kernel), List.mem_of_getElem? (i := 669) (by decide +kernel)⟩
theorem lw_p26 : lw_okq (⟨"BucketSheet", "mostWord", "()I"⟩, 11) := ⟨⟨by decide +kernel, by decide +kernel⟩, List.mem_of_getElem? (i := 18) (by decide +kernel), List.mem_of_getElem? (i := 672) (by decide +kernel), List.mem_of_getElem? (i := 673) (by decide +kernel)⟩
theorem lw_p27 : lw_okq (⟨"BucketSheet$Gates", "listRegions", "()V"⟩, 13) := ⟨⟨by decide +kernel, by decide +kernel⟩, List.mem_of_getElem? (i := 193) (by decide +kernel), List.mem_of_getElem? (i := 692) (by decide +kernel), List.mem_of_getElem? (i := 693) (by decide +kernel)⟩
theorem lw_p28 : lw_okq (⟨"BucketSheet$Gates", "allHigh", "()I"⟩, 13) := ⟨⟨by decide +kernel, by decide +kernel⟩, List.mem_of_getElem? (i := 193) (by decide +kernel), List.mem_of_getElem? (i := 696) (by decide +kernel), List.mem_of_getElem? (i := 697) (by decide +kernel)⟩
theorem lw_p29 : lw_okq (⟨"BucketSheet$Gates", "beginsAt", "(II)Z"⟩, 13) := ⟨⟨by decide +kernel, by decide +kernel⟩, List.mem_of_getElem? (i := 193) (by decide +kernel), List.mem_of_getElem? (i := 700) (by decide +kernel), List.mem_of_getElem? (i := 701) (by decide +kernel)⟩
theorem lw_p30 : lw_okq (⟨"BucketSheet$Gates", "isHigh", "(II)Z"⟩, 13) := ⟨⟨by decide +kernel, by decide +kernel⟩, List.mem_of_getElem? (i := 193) (by decide +kernel), List.mem_of_getElem? (i := 704) (by decide +kernel), List.mem_of_getElem? (i := 705) (by decide +kernel)⟩
theorem lw_p31 : lw_okq (⟨"BucketSheet$Gates", "listGoing", "()V"⟩, 13) := ⟨⟨by decide +kernel, by decide +kernel⟩, List.mem_of_getElem? (i := 193) (by decide +kernel), List.mem_of_getElem? (i := 711) (by decide +kernel), List.mem_of_getElem? (i := 712) (by decide +kernel)⟩
def lw_privs_2 : List (MethodName × Nat) := [(⟨"BucketSheet$Charge", "runOver", "(LBucketSheet$Plan;)V"⟩, 7), (⟨"BucketSheet$Charge", "spread", "(III)I"⟩, 7), (⟨"BucketSheet$Charge", "pourInto", "(III)I"⟩, 7), (⟨"BucketSheet$Charge", "rowsDown", "(I)V"⟩, 7), (⟨"BucketSheet$Charge", "trapAll", "(LBucketSheet$Plan;)V"⟩, 7), (⟨"BucketSheet", "fullWells", "()I"⟩, 11), (⟨"BucketSheet$Picture", "readRowOf", "(LBucketSheet$Plan;II)V"⟩, 4), (⟨"BucketSheet$Picture", "valueIn", "(I)I"⟩, 4), (⟨"BucketSheet", "comesInTick", "(I)I"⟩, 11), (⟨"BucketSheet", "isWord", "(I)Z"⟩, 11), (⟨"BucketSheet", "mostWord", "()I"⟩, 11), (⟨"BucketSheet$Gates", "listRegions", "()V"⟩, 13), (⟨"BucketSheet$Gates", "allHigh", "()I"⟩, 13), (⟨"BucketSheet$Gates", "beginsAt", "(II)Z"⟩, 13), (⟨"BucketSheet$Gates", "isHigh", "(II)Z"⟩, 13), (⟨"BucketSheet$Gates", "listGoing", "()V"⟩, 13)]
theorem lw_r2 : ∀ q ∈ lw_privs_2, lw_okq q := List.forall_mem_cons.mpr ⟨lw_p16, List.forall_mem_cons.mpr ⟨lw_p17, List.forall_mem_cons.mpr ⟨lw_p18, List.forall_mem_cons.mpr ⟨lw_p19, List.forall_mem_cons.mpr ⟨lw_p20, List.forall_mem_cons.mpr ⟨lw_p21, List.forall_mem_cons.mpr ⟨lw_p22, List.forall_mem_cons.mpr ⟨lw_p23, List.forall_mem_cons.mpr ⟨lw_p24, List.forall_mem_cons.mpr ⟨lw_p25, List.forall_mem_cons.mpr ⟨lw_p26, List.forall_mem_cons.mpr ⟨lw_p27, List.forall_mem_cons.mpr ⟨lw_p28, List.forall_mem_cons.mpr ⟨lw_p29, List.forall_mem_cons.mpr ⟨lw_p30, List.forall_mem_cons.mpr ⟨lw_p31, fun _ h => absurd h List.not_mem_nil⟩⟩⟩⟩⟩⟩⟩⟩⟩⟩⟩⟩⟩⟩⟩⟩
theorem lw_p32 : lw_okq (⟨"BucketSheet$Gates", "lastOfRegion", "(II)I"⟩, 13) := ⟨⟨by decide +kernel, by decide +kernel⟩, List.mem_of_getElem? (i := 193) (by decide +kernel), List.mem_of_getElem? (i := 720) (by decide +kernel), List.mem_of_getElem? (i := 721) (by decide +kernel)⟩
theorem lw_p33 : lw_okq (⟨"BucketSheet$Gates", "firstOfRegion", "(II)I"⟩, 13) := ⟨⟨by decide +kernel, by decide +kernel⟩, List.mem_of_getElem? (i := 193) (by decide +kernel), List.mem_of_getElem? (i := 724) (by decide +kernel), List.mem_of_getElem? (i := 725) (by decide +kernel)⟩
theorem lw_p34 : lw_okq (⟨"BucketSheet$Gates", "wellsIn", "(I)I"⟩, 13) := ⟨⟨by decide +kernel, by decide +kernel⟩, List.mem_of_getElem? (i := 193) (by decide +kernel), List.mem_of_getElem? (i := 728) (by decide +kernel), List.mem_of_getElem? (i := 729) (by decide +kernel)⟩
theorem lw_p35 : lw_okq (⟨"BucketSheet$Gates", "goOnByAWord", "()V"⟩, 13) := ⟨⟨by decide +kernel, by decide +kernel⟩, List.mem_of_getElem? (i := 193) (by decide +kernel), List.mem_of_getElem? (i := 766) (by decide +kernel), List.mem_of_getElem? (i := 767) (by decide +kernel)⟩
theorem lw_p36 : lw_okq (⟨"BucketSheet$Gates", "addWays", "(III)V"⟩, 13) := ⟨⟨by decide +kernel, by decide +kernel⟩, List.mem_of_getElem? (i := 193) (by decide +kernel), List.mem_of_getElem? (i := 770) (by decide +kernel), List.mem_of_getElem? (i := 771) (by decide +kernel)⟩
theorem lw_p37 : lw_okq (⟨"BucketSheetModel", "firstDraft", "()V"⟩, 36) := ⟨⟨by decide +kernel, by decide +kernel⟩, List.mem_of_getElem? (i := 835) (by decide +kernel), List.mem_of_getElem? (i := 841) (by decide +kernel), List.mem_of_getElem? (i := 842) (by decide +kernel)⟩
theorem lw_p38 : lw_okq (⟨"BucketSheetModel", "keepDraft", "()V"⟩, 36) := ⟨⟨by decide +kernel, by decide +kernel⟩, List.mem_of_getElem? (i := 835) (by decide +kernel), List.mem_of_getElem? (i := 845) (by decide +kernel), List.mem_of_getElem? (i := 846) (by decide +kernel)⟩
theorem lw_p39 : lw_okq (⟨"BucketSheetModel", "clearSums", "()V"⟩, 36) := ⟨⟨by decide +kernel, by decide +kernel⟩, List.mem_of_getElem? (i := 835) (by decide +kernel), List.mem_of_getElem? (i := 854) (by decide +kernel), List.mem_of_getElem? (i := 855) (by decide +kernel)⟩
theorem lw_p40 : lw_okq (⟨"BucketSheetModel", "next", "()V"⟩, 36) := ⟨⟨by decide +kernel, by decide +kernel⟩, List.mem_of_getElem? (i := 835) (by decide +kernel), List.mem_of_getElem? (i := 980) (by decide +kernel), List.mem_of_getElem? (i := 981) (by decide +kernel)⟩
theorem lw_p41 : lw_okq (⟨"BucketSheetModel", "look", "(I)I"⟩, 36) := ⟨⟨by decide +kernel, by decide +kernel⟩, List.mem_of_getElem? (i := 835) (by decide +kernel), List.mem_of_getElem? (i := 984) (by decide +kernel), List.mem_of_getElem? (i := 985) (by decide +kernel)⟩
theorem lw_p42 : lw_okq (⟨"BucketSheetModel", "needs", "(ZI)V"⟩, 36) := ⟨⟨by decide +kernel, by decide +kernel⟩, List.mem_of_getElem? (i := 835) (by decide +kernel), List.mem_of_getElem? (i := 992) (by decide +kernel), List.mem_of_getElem? (i := 993) (by decide +kernel)⟩
theorem lw_p43 : lw_okq (⟨"BucketSheetModel", "readLine", "()V"⟩, 36) := ⟨⟨by decide +kernel, by decide +kernel⟩, List.mem_of_getElem? (i := 835) (by decide +kernel), List.mem_of_getElem? (i := 996) (by decide +kernel), List.mem_of_getElem? (i := 997) (by decide +kernel)⟩
theorem lw_p44 : lw_okq (⟨"BucketSheetModel", "nameNow", "()I"⟩, 36) := ⟨⟨by decide +kernel, by decide +kernel⟩, List.mem_of_getElem? (i := 835) (by decide +kernel), List.mem_of_getElem? (i := 1000) (by decide +kernel), List.mem_of_getElem? (i := 1001) (by decide +kernel)⟩
theorem lw_p45 : lw_okq (⟨"BucketSheetModel", "is", "(IIIII)Z"⟩, 36) := ⟨⟨by decide +kernel, by decide +kernel⟩, List.mem_of_getElem? (i := 835) (by decide +kernel), List.mem_of_getElem? (i := 1004) (by decide +kernel), List.mem_of_getElem? (i := 1005) (by decide +kernel)⟩
theorem lw_p46 : lw_okq (⟨"BucketSheetModel", "readRow", "()V"⟩, 36) := ⟨⟨by decide +kernel, by decide +kernel⟩, List.mem_of_getElem? (i := 835) (by decide +kernel), List.mem_of_getElem? (i := 1009) (by decide +kernel), List.mem_of_getElem? (i := 1010) (by decide +kernel)⟩
theorem lw_p47 : lw_okq (⟨"BucketSheetModel", "readNumber", "(II)I"⟩, 36) := ⟨⟨by decide +kernel, by decide +kernel⟩, List.mem_of_getElem? (i := 835) (by decide +kernel), List.mem_of_getElem? (i := 1013) (by decide +kernel), List.mem_of_getElem? (i := 1014) (by decide +kernel)⟩
def lw_privs_3 : List (MethodName × Nat) := [(⟨"BucketSheet$Gates", "lastOfRegion", "(II)I"⟩, 13), (⟨"BucketSheet$Gates", "firstOfRegion", "(II)I"⟩, 13), (⟨"BucketSheet$Gates", "wellsIn", "(I)I"⟩, 13), (⟨"BucketSheet$Gates", "goOnByAWord", "()V"⟩, 13), (⟨"BucketSheet$Gates", "addWays", "(III)V"⟩, 13), (⟨"BucketSheetModel", "firstDraft", "()V"⟩, 36), (⟨"BucketSheetModel", "keepDraft", "()V"⟩, 36), (⟨"BucketSheetModel", "clearSums", "()V"⟩, 36), (⟨"BucketSheetModel", "next", "()V"⟩, 36), (⟨"BucketSheetModel", "look", "(I)I"⟩, 36), (⟨"BucketSheetModel", "needs", "(ZI)V"⟩, 36), (⟨"BucketSheetModel", "readLine", "()V"⟩, 36), (⟨"BucketSheetModel", "nameNow", "()I"⟩, 36), (⟨"BucketSheetModel", "is", "(IIIII)Z"⟩, 36), (⟨"BucketSheetModel", "readRow", "()V"⟩, 36), (⟨"BucketSheetModel", "readNumber", "(II)I"⟩, 36)]
theorem lw_r3 : ∀ q ∈ lw_privs_3, lw_okq q := List.forall_mem_cons.mpr ⟨lw_p32, List.forall_mem_cons.mpr ⟨lw_p33, List.forall_mem_cons.mpr ⟨lw_p34, List.forall_mem_cons.mpr ⟨lw_p35, List.forall_mem_cons.mpr ⟨lw_p36, List.forall_mem_cons.mpr ⟨lw_p37, List.forall_mem_cons.mpr ⟨lw_p38, List.forall_mem_cons.mpr ⟨lw_p39, List.forall_mem_cons.mpr ⟨lw_p40, List.forall_mem_cons.mpr ⟨lw_p41, List.forall_mem_cons.mpr ⟨lw_p42, List.forall_mem_cons.mpr ⟨lw_p43, List.forall_mem_cons.mpr ⟨lw_p44, List.forall_mem_cons.mpr ⟨lw_p45, List.forall_mem_cons.mpr ⟨lw_p46, List.forall_mem_cons.mpr ⟨lw_p47, fun _ h => absurd h List.not_mem_nil⟩⟩⟩⟩⟩⟩⟩⟩⟩⟩⟩⟩⟩⟩⟩⟩
theorem lw_p48 : lw_okq (⟨"BucketSheetModel", "isNumber", "(II)V"⟩, 36) := ⟨⟨by decide +kernel, by decide +kernel⟩, List.mem_of_getElem? (i := 835) (by decide +kernel), List.mem_of_getElem? (i := 1017) (by decide +kernel), List.mem_of_getElem? (i := 1018) (by decide +kernel)⟩
theorem lw_p49 : lw_okq (⟨"BucketSheetModel", "readWell", "(Z)V"⟩, 36) := ⟨⟨by decide +kernel, by decide +kernel⟩, List.mem_of_getElem? (i := 835) (by decide +kernel), List.mem_of_getElem? (i := 1021) (by decide +kernel), List.mem_of_getElem? (i := 1022) (by decide +kernel)⟩
theorem lw_p50 : lw_okq (⟨"BucketSheetModel", "readRule", "(I)V"⟩, 36) := ⟨⟨by decide +kernel, by decide +kernel⟩, List.mem_of_getElem? (i := 835) (by decide +kernel), List.mem_of_getElem? (i := 1025) (by decide +kernel), List.mem_of_getElem? (i := 1026) (by decide +kernel)⟩
theorem lw_p51 : lw_okq (⟨"BucketSheetModel", "readClock", "()V"⟩, 36) := ⟨⟨by decide +kernel, by decide +kernel⟩, List.mem_of_getElem? (i := 835) (by decide +kernel), List.mem_of_getElem? (i := 1029) (by decide +kernel), List.mem_of_getElem? (i := 1030) (by decide +kernel)⟩
theorem lw_p52 : lw_okq (⟨"BucketSheetModel", "rateOf", "(I)I"⟩, 36) := ⟨⟨by decide +kernel, by decide +kernel⟩, List.mem_of_getElem? (i := 835) (by decide +kernel), List.mem_of_getElem? (i := 1061) (by decide +kernel), List.mem_of_getElem? (i := 1062) (by decide +kernel)⟩
theorem lw_p53 : lw_okq (⟨"BucketSheetModel", "comes", "(III)V"⟩, 36) := ⟨⟨by decide +kernel, by decide +kernel⟩, List.mem_of_getElem? (i := 835) (by decide +kernel), List.mem_of_getElem? (i := 1065) (by decide +kernel), List.mem_of_getElem? (i := 1066) (by decide +kernel)⟩
theorem lw_p54 : lw_okq (⟨"BucketSheetModel", "adds", "(III)V"⟩, 36) := ⟨⟨by decide +kernel, by decide +kernel⟩, List.mem_of_getElem? (i := 835) (by decide +kernel), List.mem_of_getElem? (i := 1069) (by decide +kernel), List.mem_of_getElem? (i := 1070) (by decide +kernel)⟩
theorem lw_p55 : lw_okq (⟨"BucketSheetModel", "runsOver", "(I)V"⟩, 36) := ⟨⟨by decide +kernel, by decide +kernel⟩, List.mem_of_getElem? (i := 835) (by decide +kernel), List.mem_of_getElem? (i := 1073) (by decide +kernel), List.mem_of_getElem? (i := 1074) (by decide +kernel)⟩
theorem lw_p56 : lw_okq (⟨"BucketSheetModel", "flows", "(III)I"⟩, 36) := ⟨⟨by decide +kernel, by decide +kernel⟩, List.mem_of_getElem? (i := 835) (by decide +kernel), List.mem_of_getElem? (i := 1077) (by decide +kernel), List.mem_of_getElem? (i := 1078) (by decide +kernel)⟩
theorem lw_p57 : lw_okq (⟨"BucketSheetModel", "sumOf", "(II)I"⟩, 36) := ⟨⟨by decide +kernel, by decide +kernel⟩, List.mem_of_getElem? (i := 835) (by decide +kernel), List.mem_of_getElem? (i := 1084) (by decide +kernel), List.mem_of_getElem? (i := 1085) (by decide +kernel)⟩
theorem lw_p58 : lw_okq (⟨"BucketSheetModel", "handsDown", "(IZI)V"⟩, 36) := ⟨⟨by decide +kernel, by decide +kernel⟩, List.mem_of_getElem? (i := 835) (by decide +kernel), List.mem_of_getElem? (i := 1092) (by decide +kernel), List.mem_of_getElem? (i := 1093) (by decide +kernel)⟩
theorem lw_p59 : lw_okq (⟨"BucketSheetModel", "toLine", "(III)V"⟩, 36) := ⟨⟨by decide +kernel, by decide +kernel⟩, List.mem_of_getElem? (i := 835) (by decide +kernel), List.mem_of_getElem? (i := 1096) (by decide +kernel), List.mem_of_getElem? (i := 1097) (by decide +kernel)⟩
theorem lw_p60 : lw_okq (⟨"BucketSheetModel", "traps", "(II)V"⟩, 36) := ⟨⟨by decide +kernel, by decide +kernel⟩, List.mem_of_getElem? (i := 835) (by decide +kernel), List.mem_of_getElem? (i := 1100) (by decide +kernel), List.mem_of_getElem? (i := 1101) (by decide +kernel)⟩
theorem lw_p61 : lw_okq (⟨"BucketSheetModel", "lineSum", "(I)I"⟩, 36) := ⟨⟨by decide +kernel, by decide +kernel⟩, List.mem_of_getElem? (i := 835) (by decide +kernel), List.mem_of_getElem? (i := 1104) (by decide +kernel), List.mem_of_getElem? (i := 1105) (by decide +kernel)⟩
theorem lw_p62 : lw_okq (⟨"BucketSheetModel", "takes", "(I)I"⟩, 36) := ⟨⟨by decide +kernel, by decide +kernel⟩, List.mem_of_getElem? (i := 835) (by decide +kernel), List.mem_of_getElem? (i := 1112) (by decide +kernel), List.mem_of_getElem? (i := 1113) (by decide +kernel)⟩
theorem lw_p63 : lw_okq (⟨"BucketSheetModel", "shadeOf", "(I)I"⟩, 36) := ⟨⟨by decide +kernel, by decide +kernel⟩, List.mem_of_getElem? (i := 835) (by decide +kernel), List.mem_of_getElem? (i := 1116) (by decide +kernel), List.mem_of_getElem? (i := 1117) (by decide +kernel)⟩
def lw_privs_4 : List (MethodName × Nat) := [(⟨"BucketSheetModel", "isNumber", "(II)V"⟩, 36), (⟨"BucketSheetModel", "readWell", "(Z)V"⟩, 36), (⟨"BucketSheetModel", "readRule", "(I)V"⟩, 36), (⟨"BucketSheetModel", "readClock", "()V"⟩, 36), (⟨"BucketSheetModel", "rateOf", "(I)I"⟩, 36), (⟨"BucketSheetModel", "comes", "(III)V"⟩, 36), (⟨"BucketSheetModel", "adds", "(III)V"⟩, 36), (⟨"BucketSheetModel", "runsOver", "(I)V"⟩, 36), (⟨"BucketSheetModel", "flows", "(III)I"⟩, 36), (⟨"BucketSheetModel", "sumOf", "(II)I"⟩, 36), (⟨"BucketSheetModel", "handsDown", "(IZI)V"⟩, 36), (⟨"BucketSheetModel", "toLine", "(III)V"⟩, 36), (⟨"BucketSheetModel", "traps", "(II)V"⟩, 36), (⟨"BucketSheetModel", "lineSum", "(I)I"⟩, 36), (⟨"BucketSheetModel", "takes", "(I)I"⟩, 36), (⟨"BucketSheetModel", "shadeOf", "(I)I"⟩, 36)]
theorem lw_r4 : ∀ q ∈ lw_privs_4, lw_okq q := List.forall_mem_cons.mpr ⟨lw_p48, List.forall_mem_cons.mpr ⟨lw_p49, List.forall_mem_cons.mpr ⟨lw_p50, List.forall_mem_cons.mpr ⟨lw_p51, List.forall_mem_cons.mpr ⟨lw_p52, List.forall_mem_cons.mpr ⟨lw_p53, List.forall_mem_cons.mpr ⟨lw_p54, List.forall_mem_cons.mpr ⟨lw_p55, List.forall_mem_cons.mpr ⟨lw_p56, List.forall_mem_cons.mpr ⟨lw_p57, List.forall_mem_cons.mpr ⟨lw_p58, List.forall_mem_cons.mpr ⟨lw_p59, List.forall_mem_cons.mpr ⟨lw_p60, List.forall_mem_cons.mpr ⟨lw_p61, List.forall_mem_cons.mpr ⟨lw_p62, List.forall_mem_cons.mpr ⟨lw_p63, fun _ h => absurd h List.not_mem_nil⟩⟩⟩⟩⟩⟩⟩⟩⟩⟩⟩⟩⟩⟩⟩⟩
theorem lw_p64 : lw_okq (⟨"BucketSheetModel", "shoots", "(IIZI)V"⟩, 36) := ⟨⟨by decide +kernel, by decide +kernel⟩, List.mem_of_getElem? (i := 835) (by decide +kernel), List.mem_of_getElem? (i := 1145) (by decide +kernel), List.mem_of_getElem? (i := 1146) (by decide +kernel)⟩
theorem lw_p65 : lw_okq (⟨"BucketSheetModel", "copies", "(II)V"⟩, 36) := ⟨⟨by decide +kernel, by decide +kernel⟩, List.mem_of_getElem? (i := 835) (by decide +kernel), List.mem_of_getElem? (i := 1149) (by decide +kernel), List.mem_of_getElem? (i := 1150) (by decide +kernel)⟩
theorem lw_p66 : lw_okq (⟨"BucketSheetModel", "isWord", "(I)Z"⟩, 36) := ⟨⟨by decide +kernel, by decide +kernel⟩, List.mem_of_getElem? (i := 835) (by decide +kernel), List.mem_of_getElem? (i := 1195) (by decide +kernel), List.mem_of_getElem? (i := 1196) (by decide +kernel)⟩
theorem lw_p67 : lw_okq (⟨"BucketSheetModel", "full", "()I"⟩, 36) := ⟨⟨by decide +kernel, by decide +kernel⟩, List.mem_of_getElem? (i := 835) (by decide +kernel), List.mem_of_getElem? (i := 1199) (by decide +kernel), List.mem_of_getElem? (i := 1200) (by decide +kernel)⟩
theorem lw_p68 : lw_okq (⟨"BucketSheetModel", "isGood", "(I)Z"⟩, 36) := ⟨⟨by decide +kernel, by decide +kernel⟩, List.mem_of_getElem? (i := 835) (by decide +kernel), List.mem_of_getElem? (i := 1216) (by decide +kernel), List.mem_of_getElem? (i := 1217) (by decide +kernel)⟩
theorem lw_p69 : lw_okq (⟨"BucketSheetModel", "isHigh", "(II)Z"⟩, 36) := ⟨⟨by decide +kernel, by decide +kernel⟩, List.mem_of_getElem? (i := 835) (by decide +kernel), List.mem_of_getElem? (i := 1220) (by decide +kernel), List.mem_of_getElem? (i := 1221) (by decide +kernel)⟩
theorem lw_p70 : lw_okq (⟨"BucketSheetModel", "firstBegin", "(I)I"⟩, 36) := ⟨⟨by decide +kernel, by decide +kernel⟩, List.mem_of_getElem? (i := 835) (by decide +kernel), List.mem_of_getElem? (i := 1224) (by decide +kernel), List.mem_of_getElem? (i := 1225) (by decide +kernel)⟩
theorem lw_p71 : lw_okq (⟨"BucketSheetModel", "wrong", "(III)I"⟩, 36) := ⟨⟨by decide +kernel, by decide +kernel⟩, List.mem_of_getElem? (i := 835) (by decide +kernel), List.mem_of_getElem? (i := 1228) (by decide +kernel), List.mem_of_getElem? (i := 1229) (by decide +kernel)⟩
theorem lw_p72 : lw_okq (⟨"BucketSheetModel", "findMeets", "(III)V"⟩, 36) := ⟨⟨by decide +kernel, by decide +kernel⟩, List.mem_of_getElem? (i := 835) (by decide +kernel), List.mem_of_getElem? (i := 1232) (by decide +kernel), List.mem_of_getElem? (i := 1233) (by decide +kernel)⟩
theorem lw_p73 : lw_okq (⟨"BucketSheetModel", "beginOf", "(II)I"⟩, 36) := ⟨⟨by decide +kernel, by decide +kernel⟩, List.mem_of_getElem? (i := 835) (by decide +kernel), List.mem_of_getElem? (i := 1236) (by decide +kernel), List.mem_of_getElem? (i := 1237) (by decide +kernel)⟩
theorem lw_p74 : lw_okq (⟨"BucketSheetModel", "goesTo", "(III)I"⟩, 36) := ⟨⟨by decide +kernel, by decide +kernel⟩, List.mem_of_getElem? (i := 835) (by decide +kernel), List.mem_of_getElem? (i := 1240) (by decide +kernel), List.mem_of_getElem? (i := 1241) (by decide +kernel)⟩
theorem lw_p75 : lw_okq (⟨"BucketSheetModel", "wells", "(I)I"⟩, 36) := ⟨⟨by decide +kernel, by decide +kernel⟩, List.mem_of_getElem? (i := 835) (by decide +kernel), List.mem_of_getElem? (i := 1244) (by decide +kernel), List.mem_of_getElem? (i := 1245) (by decide +kernel)⟩
theorem lw_p76 : lw_okq (⟨"BucketSheetModel", "roundsOf", "(III)J"⟩, 36) := ⟨⟨by decide +kernel, by decide +kernel⟩, List.mem_of_getElem? (i := 835) (by decide +kernel), List.mem_of_getElem? (i := 1256) (by decide +kernel), List.mem_of_getElem? (i := 1257) (by decide +kernel)⟩
theorem lw_p77 : lw_okq (⟨"BucketSheetModel", "leads", "(I)V"⟩, 36) := ⟨⟨by decide +kernel, by decide +kernel⟩, List.mem_of_getElem? (i := 835) (by decide +kernel), List.mem_of_getElem? (i := 1260) (by decide +kernel), List.mem_of_getElem? (i := 1261) (by decide +kernel)⟩
def lw_privs_5 : List (MethodName × Nat) := [(⟨"BucketSheetModel", "shoots", "(IIZI)V"⟩, 36), (⟨"BucketSheetModel", "copies", "(II)V"⟩, 36), (⟨"BucketSheetModel", "isWord", "(I)Z"⟩, 36), (⟨"BucketSheetModel", "full", "()I"⟩, 36), (⟨"BucketSheetModel", "isGood", "(I)Z"⟩, 36), (⟨"BucketSheetModel", "isHigh", "(II)Z"⟩, 36), (⟨"BucketSheetModel", "firstBegin", "(I)I"⟩, 36), (⟨"BucketSheetModel", "wrong", "(III)I"⟩, 36), (⟨"BucketSheetModel", "findMeets", "(III)V"⟩, 36), (⟨"BucketSheetModel", "beginOf", "(II)I"⟩, 36), (⟨"BucketSheetModel", "goesTo", "(III)I"⟩, 36), (⟨"BucketSheetModel", "wells", "(I)I"⟩, 36), (⟨"BucketSheetModel", "roundsOf", "(III)J"⟩, 36), (⟨"BucketSheetModel", "leads", "(I)V"⟩, 36)]
theorem lw_r5 : ∀ q ∈ lw_privs_5, lw_okq q := List.forall_mem_cons.mpr ⟨lw_p64, List.forall_mem_cons.mpr ⟨lw_p65, List.forall_mem_cons.mpr ⟨lw_p66, List.forall_mem_cons.mpr ⟨lw_p67, List.forall_mem_cons.mpr ⟨lw_p68, List.forall_mem_cons.mpr ⟨lw_p69, List.forall_mem_cons.mpr ⟨lw_p70, List.forall_mem_cons.mpr ⟨lw_p71, List.forall_mem_cons.mpr ⟨lw_p72, List.forall_mem_cons.mpr ⟨lw_p73, List.forall_mem_cons.mpr ⟨lw_p74, List.forall_mem_cons.mpr ⟨lw_p75, List.forall_mem_cons.mpr ⟨lw_p76, List.forall_mem_cons.mpr ⟨lw_p77, fun _ h => absurd h List.not_mem_nil⟩⟩⟩⟩⟩⟩⟩⟩⟩⟩⟩⟩⟩⟩
def lw_privs : List (MethodName × Nat) := lw_privs_1 ++ (lw_privs_2 ++ (lw_privs_3 ++ (lw_privs_4 ++ (lw_privs_5))))
def lw_tbl : List Cond := k2_sels lw_privs ++ tables_1
theorem lw_privs_ok : ∀ q ∈ lw_privs, lw_okq q := by
  show ∀ q ∈ lw_privs_1 ++ (lw_privs_2 ++ (lw_privs_3 ++ (lw_privs_4 ++ (lw_privs_5)))), lw_okq q
  exact List.forall_mem_append.mpr ⟨lw_r1, List.forall_mem_append.mpr ⟨lw_r2, List.forall_mem_append.mpr ⟨lw_r3, List.forall_mem_append.mpr ⟨lw_r4, lw_r5⟩⟩⟩⟩

def RX0 : String := "BucketSheet$Charge"
def TX0 : u_T := fun k => match k with
  | 0 => ("BucketSheet$Charge", "light", "[I", true)
  | 1 => ("BucketSheet$Charge", "wells", "[I", true)
  | 2 => ("BucketSheet$Charge", "held", "[I", true)
  | 3 => ("BucketSheet$Charge", "line", "[I", true)
  | 4 => ("BucketSheet$Charge", "lost", "J", false)
  | 5 => ("BucketSheet$Charge", "readOut", "J", false)
  | _ => ("BucketSheet$Charge", "came", "J", false)
def tyX0 : Nat → FieldType := fun k => match k with
  | 0 => .array .int
  | 1 => .array .int
  | 2 => .array .int
  | 3 => .array .int
  | 4 => .long
  | 5 => .long
  | _ => .long
abbrev wsX00 : List Cond := u_ws RX0 TX0 7
theorem nmX0 : ∀ a, a < 7 → ∀ b, b < 7 → a ≠ b → (TX0 a).2.1 ≠ (TX0 b).2.1 := by decide +kernel
theorem tyX0_ok : ∀ k, k < 7 → parseFieldDescriptor (TX0 k).2.2.1 = some (tyX0 k) := by decide +kernel
abbrev cX0_init : ByteArray := prog_2_method_1_code
def yX0_init : MethodName := ⟨RX0, "<init>", "()V"⟩
abbrev cX0_takeFrom : ByteArray := prog_2_method_2_code
def yX0_takeFrom : MethodName := ⟨RX0, "takeFrom", "(LBucketSheet$Charge;)V"⟩
abbrev cX0_drainAll : ByteArray := prog_2_method_3_code
def yX0_drainAll : MethodName := ⟨RX0, "drainAll", "()V"⟩
abbrev cX0_fillFor : ByteArray := prog_2_method_4_code
def yX0_fillFor : MethodName := ⟨RX0, "fillFor", "(ILBucketSheet$Plan;)V"⟩
abbrev cX0_bring : ByteArray := prog_2_method_5_code
def yX0_bring : MethodName := ⟨RX0, "bring", "(II)V"⟩
abbrev cX0_runOver : ByteArray := prog_2_method_6_code
def yX0_runOver : MethodName := ⟨RX0, "runOver", "(LBucketSheet$Plan;)V"⟩
abbrev cX0_spread : ByteArray := prog_2_method_7_code
def yX0_spread : MethodName := ⟨RX0, "spread", "(III)I"⟩
abbrev cX0_pourInto : ByteArray := prog_2_method_8_code
def yX0_pourInto : MethodName := ⟨RX0, "pourInto", "(III)I"⟩
abbrev cX0_handDown : ByteArray := prog_2_method_9_code
def yX0_handDown : MethodName := ⟨RX0, "handDown", "(LBucketSheet$Plan;Z)V"⟩
abbrev cX0_rowsDown : ByteArray := prog_2_method_10_code
def yX0_rowsDown : MethodName := ⟨RX0, "rowsDown", "(I)V"⟩
abbrev cX0_trapAll : ByteArray := prog_2_method_11_code
def yX0_trapAll : MethodName := ⟨RX0, "trapAll", "(LBucketSheet$Plan;)V"⟩
abbrev cX0_readOne : ByteArray := prog_2_method_12_code
def yX0_readOne : MethodName := ⟨RX0, "readOne", "()I"⟩
def RX1 : String := "BucketSheet$Gates"
def TX1 : u_T := fun k => match k with
  | 0 => ("BucketSheet$Gates", "phases", "I", false)
  | 1 => ("BucketSheet$Gates", "landed", "I", false)
  | 2 => ("BucketSheet$Gates", "wrong", "I", false)
  | 3 => ("BucketSheet$Gates", "wrongAt", "I", false)
  | 4 => ("BucketSheet$Gates", "carried", "I", false)
  | 5 => ("BucketSheet$Gates", "wordOf", "[I", true)
  | 6 => ("BucketSheet$Gates", "startIn", "[I", true)
  | 7 => ("BucketSheet$Gates", "regions", "I", false)
  | 8 => ("BucketSheet$Gates", "regionAt", "[I", true)
  | 9 => ("BucketSheet$Gates", "goesTo", "[I", true)
  | 10 => ("BucketSheet$Gates", "goesBy", "[I", true)
  | 11 => ("BucketSheet$Gates", "ways", "[J", false)
  | _ => ("BucketSheet$Gates", "waysNext", "[J", false)
def tyX1 : Nat → FieldType := fun k => match k with
  | 0 => .int
  | 1 => .int
  | 2 => .int
  | 3 => .int
  | 4 => .int
  | 5 => .array .int
  | 6 => .array .int
  | 7 => .int
  | 8 => .array .int
  | 9 => .array .int
  | 10 => .array .int
  | 11 => .array .long
  | _ => .array .long
abbrev wsX10 : List Cond := u_ws RX1 TX1 13
theorem nmX1 : ∀ a, a < 13 → ∀ b, b < 13 → a ≠ b → (TX1 a).2.1 ≠ (TX1 b).2.1 := by decide +kernel
theorem tyX1_ok : ∀ k, k < 13 → parseFieldDescriptor (TX1 k).2.2.1 = some (tyX1 k) := by decide +kernel
abbrev cX1_init : ByteArray := prog_3_method_1_code
def yX1_init : MethodName := ⟨RX1, "<init>", "()V"⟩
abbrev cX1_bePhases : ByteArray := prog_3_method_2_code
def yX1_bePhases : MethodName := ⟨RX1, "bePhases", "(I)V"⟩
abbrev cX1_allHigh : ByteArray := prog_3_method_3_code
def yX1_allHigh : MethodName := ⟨RX1, "allHigh", "()I"⟩
abbrev cX1_isHigh : ByteArray := prog_3_method_4_code
def yX1_isHigh : MethodName := ⟨RX1, "isHigh", "(II)Z"⟩
abbrev cX1_beginsAt : ByteArray := prog_3_method_5_code
def yX1_beginsAt : MethodName := ⟨RX1, "beginsAt", "(II)Z"⟩
abbrev cX1_isGood : ByteArray := prog_3_method_6_code
def yX1_isGood : MethodName := ⟨RX1, "isGood", "(I)Z"⟩
abbrev cX1_startOf : ByteArray := prog_3_method_7_code
def yX1_startOf : MethodName := ⟨RX1, "startOf", "(I)I"⟩
abbrev cX1_firstOfRegion : ByteArray := prog_3_method_8_code
def yX1_firstOfRegion : MethodName := ⟨RX1, "firstOfRegion", "(II)I"⟩
abbrev cX1_lastOfRegion : ByteArray := prog_3_method_9_code
def yX1_lastOfRegion : MethodName := ⟨RX1, "lastOfRegion", "(II)I"⟩
abbrev cX1_fare : ByteArray := prog_3_method_10_code
def yX1_fare : MethodName := ⟨RX1, "fare", "(III)I"⟩
abbrev cX1_goRound : ByteArray := prog_3_method_11_code
def yX1_goRound : MethodName := ⟨RX1, "goRound", "(LBucketSheet$Plan;)V"⟩
abbrev cX1_wellsIn : ByteArray := prog_3_method_12_code
def yX1_wellsIn : MethodName := ⟨RX1, "wellsIn", "(I)I"⟩
abbrev cX1_listRegions : ByteArray := prog_3_method_13_code
def yX1_listRegions : MethodName := ⟨RX1, "listRegions", "()V"⟩
abbrev cX1_listGoing : ByteArray := prog_3_method_14_code
def yX1_listGoing : MethodName := ⟨RX1, "listGoing", "()V"⟩
abbrev cX1_waysRound : ByteArray := prog_3_method_15_code
def yX1_waysRound : MethodName := ⟨RX1, "waysRound", "(III)J"⟩
abbrev cX1_goOnByAWord : ByteArray := prog_3_method_16_code
def yX1_goOnByAWord : MethodName := ⟨RX1, "goOnByAWord", "()V"⟩
abbrev cX1_addWays : ByteArray := prog_3_method_17_code
def yX1_addWays : MethodName := ⟨RX1, "addWays", "(III)V"⟩
def RX2 : String := "BucketSheet$Picture"
def TX2 : u_T := fun k => match k with
  | 0 => ("BucketSheet$Picture", "shadow", "LBucketSheet$Charge;", true)
  | 1 => ("BucketSheet$Picture", "values", "[I", true)
  | 2 => ("BucketSheet$Picture", "rows", "I", false)
  | _ => ("BucketSheet$Picture", "columns", "I", false)
def tyX2 : Nat → FieldType := fun k => match k with
  | 0 => .object "BucketSheet$Charge"
  | 1 => .array .int
  | 2 => .int
  | _ => .int
abbrev wsX20 : List Cond := u_ws RX2 TX2 4
theorem nmX2 : ∀ a, a < 4 → ∀ b, b < 4 → a ≠ b → (TX2 a).2.1 ≠ (TX2 b).2.1 := by decide +kernel
theorem tyX2_ok : ∀ k, k < 4 → parseFieldDescriptor (TX2 k).2.2.1 = some (tyX2 k) := by decide +kernel
abbrev cX2_init : ByteArray := prog_4_method_1_code
def yX2_init : MethodName := ⟨RX2, "<init>", "()V"⟩
abbrev cX2_make : ByteArray := prog_4_method_2_code
def yX2_make : MethodName := ⟨RX2, "make", "(LBucketSheet$Charge;LBucketSheet$Plan;IIZ)V"⟩
abbrev cX2_readRowOf : ByteArray := prog_4_method_3_code
def yX2_readRowOf : MethodName := ⟨RX2, "readRowOf", "(LBucketSheet$Plan;II)V"⟩
abbrev cX2_greatest : ByteArray := prog_4_method_4_code
def yX2_greatest : MethodName := ⟨RX2, "greatest", "()I"⟩
abbrev cX2_least : ByteArray := prog_4_method_5_code
def yX2_least : MethodName := ⟨RX2, "least", "()I"⟩
abbrev cX2_summed : ByteArray := prog_4_method_6_code
def yX2_summed : MethodName := ⟨RX2, "summed", "()I"⟩
abbrev cX2_brightest : ByteArray := prog_4_method_7_code
def yX2_brightest : MethodName := ⟨RX2, "brightest", "()I"⟩
abbrev cX2_valueIn : ByteArray := prog_4_method_8_code
def yX2_valueIn : MethodName := ⟨RX2, "valueIn", "(I)I"⟩
def RX3 : String := "BucketSheet$Plan"
def TX3 : u_T := fun k => match k with
  | 0 => ("BucketSheet$Plan", "rules", "[I", true)
  | 1 => ("BucketSheet$Plan", "hot", "[I", true)
  | 2 => ("BucketSheet$Plan", "trap", "[I", true)
  | 3 => ("BucketSheet$Plan", "round", "[I", true)
  | _ => ("BucketSheet$Plan", "roundLength", "I", false)
def tyX3 : Nat → FieldType := fun k => match k with
  | 0 => .array .int
  | 1 => .array .int
  | 2 => .array .int
  | 3 => .array .int
  | _ => .int
abbrev wsX30 : List Cond := u_ws RX3 TX3 5
theorem nmX3 : ∀ a, a < 5 → ∀ b, b < 5 → a ≠ b → (TX3 a).2.1 ≠ (TX3 b).2.1 := by decide +kernel
theorem tyX3_ok : ∀ k, k < 5 → parseFieldDescriptor (TX3 k).2.2.1 = some (tyX3 k) := by decide +kernel
abbrev cX3_init : ByteArray := prog_5_method_1_code
def yX3_init : MethodName := ⟨RX3, "<init>", "()V"⟩
abbrev cX3_beAsAtFirst : ByteArray := prog_5_method_2_code
def yX3_beAsAtFirst : MethodName := ⟨RX3, "beAsAtFirst", "()V"⟩
abbrev cX3_takeFrom : ByteArray := prog_5_method_3_code
def yX3_takeFrom : MethodName := ⟨RX3, "takeFrom", "(LBucketSheet$Plan;)V"⟩
def RX4 : String := "BucketSheet$Reader"
def TX4 : u_T := fun k => match k with
  | 0 => ("BucketSheet$Reader", "tape", "LBucketSheet$Tape;", true)
  | 1 => ("BucketSheet$Reader", "told", "LBucketSheet$Plan;", true)
  | 2 => ("BucketSheet$Reader", "toldLight", "[I", true)
  | 3 => ("BucketSheet$Reader", "seen", "[Z", true)
  | 4 => ("BucketSheet$Reader", "at", "I", false)
  | 5 => ("BucketSheet$Reader", "token", "I", false)
  | 6 => ("BucketSheet$Reader", "start", "I", false)
  | 7 => ("BucketSheet$Reader", "value", "I", false)
  | 8 => ("BucketSheet$Reader", "rows", "I", false)
  | 9 => ("BucketSheet$Reader", "place", "I", false)
  | _ => ("BucketSheet$Reader", "found", "I", false)
def tyX4 : Nat → FieldType := fun k => match k with
  | 0 => .object "BucketSheet$Tape"
  | 1 => .object "BucketSheet$Plan"
  | 2 => .array .int
  | 3 => .array .boolean
  | 4 => .int
  | 5 => .int
  | 6 => .int
  | 7 => .int
  | 8 => .int
  | 9 => .int
  | _ => .int
abbrev wsX40 : List Cond := u_ws RX4 TX4 11
theorem nmX4 : ∀ a, a < 11 → ∀ b, b < 11 → a ≠ b → (TX4 a).2.1 ≠ (TX4 b).2.1 := by decide +kernel
theorem tyX4_ok : ∀ k, k < 11 → parseFieldDescriptor (TX4 k).2.2.1 = some (tyX4 k) := by decide +kernel
abbrev cX4_init : ByteArray := prog_6_method_1_code
def yX4_init : MethodName := ⟨RX4, "<init>", "(LBucketSheet$Tape;)V"⟩
abbrev cX4_readAll : ByteArray := prog_6_method_2_code
def yX4_readAll : MethodName := ⟨RX4, "readAll", "()I"⟩
abbrev cX4_begin : ByteArray := prog_6_method_3_code
def yX4_begin : MethodName := ⟨RX4, "begin", "()V"⟩
abbrev cX4_fail : ByteArray := prog_6_method_4_code
def yX4_fail : MethodName := ⟨RX4, "fail", "(II)V"⟩
abbrev cX4_fetch : ByteArray := prog_6_method_5_code
def yX4_fetch : MethodName := ⟨RX4, "fetch", "()V"⟩
abbrev cX4_takeAlike : ByteArray := prog_6_method_6_code
def yX4_takeAlike : MethodName := ⟨RX4, "takeAlike", "()V"⟩
abbrev cX4_tokenOf : ByteArray := prog_6_method_7_code
def yX4_tokenOf : MethodName := ⟨RX4, "tokenOf", "(I)I"⟩
abbrev cX4_readLine : ByteArray := prog_6_method_8_code
def yX4_readLine : MethodName := ⟨RX4, "readLine", "()V"⟩
abbrev cX4_mayBegin : ByteArray := prog_6_method_9_code
def yX4_mayBegin : MethodName := ⟨RX4, "mayBegin", "(I)Z"⟩
abbrev cX4_kindHere : ByteArray := prog_6_method_10_code
def yX4_kindHere : MethodName := ⟨RX4, "kindHere", "()I"⟩
abbrev cX4_nameOf : ByteArray := prog_6_method_11_code
def yX4_nameOf : MethodName := ⟨RX4, "nameOf", "(I)Ljava/lang/String;"⟩
abbrev cX4_spells : ByteArray := prog_6_method_12_code
def yX4_spells : MethodName := ⟨RX4, "spells", "(Ljava/lang/String;)Z"⟩
abbrev cX4_readRow : ByteArray := prog_6_method_13_code
def yX4_readRow : MethodName := ⟨RX4, "readRow", "()V"⟩
abbrev cX4_readPart : ByteArray := prog_6_method_14_code
def yX4_readPart : MethodName := ⟨RX4, "readPart", "([II)V"⟩
abbrev cX4_readRound : ByteArray := prog_6_method_15_code
def yX4_readRound : MethodName := ⟨RX4, "readRound", "()V"⟩
abbrev cX4_number : ByteArray := prog_6_method_16_code
def yX4_number : MethodName := ⟨RX4, "number", "(II)I"⟩
abbrev cX4_numberHere : ByteArray := prog_6_method_17_code
def yX4_numberHere : MethodName := ⟨RX4, "numberHere", "(II)I"⟩
abbrev cX4_lookAtWords : ByteArray := prog_6_method_18_code
def yX4_lookAtWords : MethodName := ⟨RX4, "lookAtWords", "()V"⟩
def RX5 : String := "BucketSheet$Sheet"
def TX5 : u_T := fun k => match k with
  | 0 => ("BucketSheet$Sheet", "cells", "[I", true)
  | 1 => ("BucketSheet$Sheet", "lane", "I", false)
  | _ => ("BucketSheet$Sheet", "length", "I", false)
def tyX5 : Nat → FieldType := fun k => match k with
  | 0 => .array .int
  | 1 => .int
  | _ => .int
abbrev wsX50 : List Cond := u_ws RX5 TX5 3
theorem nmX5 : ∀ a, a < 3 → ∀ b, b < 3 → a ≠ b → (TX5 a).2.1 ≠ (TX5 b).2.1 := by decide +kernel
theorem tyX5_ok : ∀ k, k < 3 → parseFieldDescriptor (TX5 k).2.2.1 = some (tyX5 k) := by decide +kernel
abbrev cX5_init : ByteArray := prog_7_method_1_code
def yX5_init : MethodName := ⟨RX5, "<init>", "()V"⟩
abbrev cX5_renew : ByteArray := prog_7_method_2_code
def yX5_renew : MethodName := ⟨RX5, "renew", "(II)V"⟩
abbrev cX5_faultAt : ByteArray := prog_7_method_3_code
def yX5_faultAt : MethodName := ⟨RX5, "faultAt", "(II)I"⟩
abbrev cX5_pairFaultAt : ByteArray := prog_7_method_4_code
def yX5_pairFaultAt : MethodName := ⟨RX5, "pairFaultAt", "(II)I"⟩
abbrev cX5_put : ByteArray := prog_7_method_5_code
def yX5_put : MethodName := ⟨RX5, "put", "(II)V"⟩
def RX6 : String := "BucketSheet$Tape"
def TX6 : u_T := fun k => match k with
  | 0 => ("BucketSheet$Tape", "bytes", "[B", true)
  | _ => ("BucketSheet$Tape", "length", "I", false)
def tyX6 : Nat → FieldType := fun k => match k with
  | 0 => .array .byte
  | _ => .int
abbrev wsX60 : List Cond := u_ws RX6 TX6 2
theorem nmX6 : ∀ a, a < 2 → ∀ b, b < 2 → a ≠ b → (TX6 a).2.1 ≠ (TX6 b).2.1 := by decide +kernel
theorem tyX6_ok : ∀ k, k < 2 → parseFieldDescriptor (TX6 k).2.2.1 = some (tyX6 k) := by decide +kernel
abbrev cX6_init : ByteArray := prog_8_method_1_code
def yX6_init : MethodName := ⟨RX6, "<init>", "()V"⟩
abbrev cX6_append : ByteArray := prog_8_method_2_code
def yX6_append : MethodName := ⟨RX6, "append", "(J)I"⟩
abbrev cX6_byteAt : ByteArray := prog_8_method_3_code
def yX6_byteAt : MethodName := ⟨RX6, "byteAt", "(I)I"⟩
def RX7 : String := "BucketSheet"
def TX7 : u_T := fun k => match k with
  | 0 => ("BucketSheet", "tape", "LBucketSheet$Tape;", true)
  | 1 => ("BucketSheet", "plan", "LBucketSheet$Plan;", true)
  | 2 => ("BucketSheet", "reader", "LBucketSheet$Reader;", true)
  | 3 => ("BucketSheet", "charge", "LBucketSheet$Charge;", true)
  | 4 => ("BucketSheet", "images", "[LBucketSheet$Charge;", true)
  | 5 => ("BucketSheet", "kept", "[Z", true)
  | 6 => ("BucketSheet", "asItIs", "LBucketSheet$Picture;", true)
  | 7 => ("BucketSheet", "unspoiled", "LBucketSheet$Picture;", true)
  | 8 => ("BucketSheet", "gates", "LBucketSheet$Gates;", true)
  | 9 => ("BucketSheet", "sheets", "[LBucketSheet$Sheet;", true)
  | _ => ("BucketSheet", "tornBy", "I", false)
def tyX7 : Nat → FieldType := fun k => match k with
  | 0 => .object "BucketSheet$Tape"
  | 1 => .object "BucketSheet$Plan"
  | 2 => .object "BucketSheet$Reader"
  | 3 => .object "BucketSheet$Charge"
  | 4 => .array (.object "BucketSheet$Charge")
  | 5 => .array .boolean
  | 6 => .object "BucketSheet$Picture"
  | 7 => .object "BucketSheet$Picture"
  | 8 => .object "BucketSheet$Gates"
  | 9 => .array (.object "BucketSheet$Sheet")
  | _ => .int
abbrev wsX70 : List Cond := u_ws RX7 TX7 11
theorem nmX7 : ∀ a, a < 11 → ∀ b, b < 11 → a ≠ b → (TX7 a).2.1 ≠ (TX7 b).2.1 := by decide +kernel
theorem tyX7_ok : ∀ k, k < 11 → parseFieldDescriptor (TX7 k).2.2.1 = some (tyX7 k) := by decide +kernel
abbrev cX7_init : ByteArray := prog_1_method_1_code
def yX7_init : MethodName := ⟨RX7, "<init>", "()V"⟩
abbrev cX7_feed : ByteArray := prog_1_method_2_code
def yX7_feed : MethodName := ⟨RX7, "feed", "(J)I"⟩
abbrev cX7_end : ByteArray := prog_1_method_3_code
def yX7_end : MethodName := ⟨RX7, "end", "(I)I"⟩
abbrev cX7_text : ByteArray := prog_1_method_4_code
def yX7_text : MethodName := ⟨RX7, "text", "()I"⟩
abbrev cX7_fault : ByteArray := prog_1_method_5_code
def yX7_fault : MethodName := ⟨RX7, "fault", "()I"⟩
abbrev cX7_rule : ByteArray := prog_1_method_6_code
def yX7_rule : MethodName := ⟨RX7, "rule", "(I)I"⟩
abbrev cX7_well : ByteArray := prog_1_method_7_code
def yX7_well : MethodName := ⟨RX7, "well", "(II)I"⟩
abbrev cX7_light : ByteArray := prog_1_method_8_code
def yX7_light : MethodName := ⟨RX7, "light", "(II)I"⟩
abbrev cX7_expose : ByteArray := prog_1_method_9_code
def yX7_expose : MethodName := ⟨RX7, "expose", "(I)I"⟩
abbrev cX7_down : ByteArray := prog_1_method_10_code
def yX7_down : MethodName := ⟨RX7, "down", "()I"⟩
abbrev cX7_read : ByteArray := prog_1_method_11_code
def yX7_read : MethodName := ⟨RX7, "read", "()I"⟩
abbrev cX7_line : ByteArray := prog_1_method_12_code
def yX7_line : MethodName := ⟨RX7, "line", "(I)I"⟩
abbrev cX7_now : ByteArray := prog_1_method_13_code
def yX7_now : MethodName := ⟨RX7, "now", "(I)J"⟩
abbrev cX7_clear : ByteArray := prog_1_method_14_code
def yX7_clear : MethodName := ⟨RX7, "clear", "()I"⟩
abbrev cX7_picture : ByteArray := prog_1_method_15_code
def yX7_picture : MethodName := ⟨RX7, "picture", "(IIII)I"⟩
abbrev cX7_shades : ByteArray := prog_1_method_16_code
def yX7_shades : MethodName := ⟨RX7, "shades", "(III)I"⟩
abbrev cX7_late : ByteArray := prog_1_method_17_code
def yX7_late : MethodName := ⟨RX7, "late", "(I)I"⟩
abbrev cX7_smear : ByteArray := prog_1_method_18_code
def yX7_smear : MethodName := ⟨RX7, "smear", "(I)I"⟩
abbrev cX7_spoiled : ByteArray := prog_1_method_19_code
def yX7_spoiled : MethodName := ⟨RX7, "spoiled", "(I)I"⟩
abbrev cX7_full : ByteArray := prog_1_method_20_code
def yX7_full : MethodName := ⟨RX7, "full", "(I)I"⟩
abbrev cX7_longest : ByteArray := prog_1_method_21_code
def yX7_longest : MethodName := ⟨RX7, "longest", "()I"⟩
abbrev cX7_enough : ByteArray := prog_1_method_22_code
def yX7_enough : MethodName := ⟨RX7, "enough", "(I)I"⟩
abbrev cX7_hots : ByteArray := prog_1_method_23_code
def yX7_hots : MethodName := ⟨RX7, "hots", "(II)J"⟩
abbrev cX7_mended : ByteArray := prog_1_method_24_code
def yX7_mended : MethodName := ⟨RX7, "mended", "(I)I"⟩
abbrev cX7_word : ByteArray := prog_1_method_25_code
def yX7_word : MethodName := ⟨RX7, "word", "(I)I"⟩
abbrev cX7_still : ByteArray := prog_1_method_26_code
def yX7_still : MethodName := ⟨RX7, "still", "()I"⟩
abbrev cX7_words : ByteArray := prog_1_method_27_code
def yX7_words : MethodName := ⟨RX7, "words", "(I)I"⟩
abbrev cX7_clock : ByteArray := prog_1_method_28_code
def yX7_clock : MethodName := ⟨RX7, "clock", "(I)I"⟩
abbrev cX7_goes : ByteArray := prog_1_method_29_code
def yX7_goes : MethodName := ⟨RX7, "goes", "(II)I"⟩
abbrev cX7_fewest : ByteArray := prog_1_method_30_code
def yX7_fewest : MethodName := ⟨RX7, "fewest", "(I)I"⟩
abbrev cX7_rounds : ByteArray := prog_1_method_31_code
def yX7_rounds : MethodName := ⟨RX7, "rounds", "(III)J"⟩
abbrev cX7_keep : ByteArray := prog_1_method_32_code
def yX7_keep : MethodName := ⟨RX7, "keep", "(I)I"⟩
abbrev cX7_back : ByteArray := prog_1_method_33_code
def yX7_back : MethodName := ⟨RX7, "back", "(I)I"⟩
abbrev cX7_sheet : ByteArray := prog_1_method_34_code
def yX7_sheet : MethodName := ⟨RX7, "sheet", "(III)I"⟩
abbrev cX7_lay : ByteArray := prog_1_method_35_code
def yX7_lay : MethodName := ⟨RX7, "lay", "(III)I"⟩
abbrev cX7_reads : ByteArray := prog_1_method_36_code
def yX7_reads : MethodName := ⟨RX7, "reads", "(IIII)I"⟩
abbrev cX7_torn : ByteArray := prog_1_method_37_code
def yX7_torn : MethodName := ⟨RX7, "torn", "()I"⟩
abbrev cX7_count : ByteArray := prog_1_method_38_code
def yX7_count : MethodName := ⟨RX7, "count", "(I)I"⟩
abbrev cX7_isWell : ByteArray := prog_1_method_39_code
def yX7_isWell : MethodName := ⟨RX7, "isWell", "(I)Z"⟩
abbrev cX7_isColumn : ByteArray := prog_1_method_40_code
def yX7_isColumn : MethodName := ⟨RX7, "isColumn", "(I)Z"⟩
abbrev cX7_isLighting : ByteArray := prog_1_method_41_code
def yX7_isLighting : MethodName := ⟨RX7, "isLighting", "(II)Z"⟩
abbrev cX7_isTicks : ByteArray := prog_1_method_42_code
def yX7_isTicks : MethodName := ⟨RX7, "isTicks", "(I)Z"⟩
abbrev cX7_isBin : ByteArray := prog_1_method_43_code
def yX7_isBin : MethodName := ⟨RX7, "isBin", "(I)Z"⟩
abbrev cX7_isSheet : ByteArray := prog_1_method_44_code
def yX7_isSheet : MethodName := ⟨RX7, "isSheet", "(I)Z"⟩
abbrev cX7_isLane : ByteArray := prog_1_method_45_code
def yX7_isLane : MethodName := ⟨RX7, "isLane", "(I)Z"⟩
abbrev cX7_isWord : ByteArray := prog_1_method_46_code
def yX7_isWord : MethodName := ⟨RX7, "isWord", "(I)Z"⟩
abbrev cX7_mostWord : ByteArray := prog_1_method_47_code
def yX7_mostWord : MethodName := ⟨RX7, "mostWord", "()I"⟩
abbrev cX7_sumOf : ByteArray := prog_1_method_48_code
def yX7_sumOf : MethodName := ⟨RX7, "sumOf", "([I)I"⟩
abbrev cX7_howManyAbove0 : ByteArray := prog_1_method_49_code
def yX7_howManyAbove0 : MethodName := ⟨RX7, "howManyAbove0", "([I)I"⟩
abbrev cX7_fullWells : ByteArray := prog_1_method_50_code
def yX7_fullWells : MethodName := ⟨RX7, "fullWells", "()I"⟩
abbrev cX7_comesInTick : ByteArray := prog_1_method_51_code
def yX7_comesInTick : MethodName := ⟨RX7, "comesInTick", "(I)I"⟩
abbrev cX7_besideOf : ByteArray := prog_1_method_52_code
def yX7_besideOf : MethodName := ⟨RX7, "besideOf", "(III)I"⟩
abbrev cX7_binsOf : ByteArray := prog_1_method_53_code
def yX7_binsOf : MethodName := ⟨RX7, "binsOf", "(II)I"⟩
abbrev cX7_valueOf : ByteArray := prog_1_method_54_code
def yX7_valueOf : MethodName := ⟨RX7, "valueOf", "(ILBucketSheet$Plan;)I"⟩
abbrev cX7_tellAll : ByteArray := prog_1_method_55_code
def yX7_tellAll : MethodName := ⟨RX7, "tellAll", "()V"⟩
def RX8 : String := "BucketSheetModel"
def TX8 : u_T := fun k => match k with
  | 0 => ("BucketSheetModel", "st", "[I", true)
  | 1 => ("BucketSheetModel", "sums", "[J", true)
  | 2 => ("BucketSheetModel", "isKept", "[Z", true)
  | 3 => ("BucketSheetModel", "rule", "[I", true)
  | 4 => ("BucketSheetModel", "hot", "[I", true)
  | 5 => ("BucketSheetModel", "trap", "[I", true)
  | 6 => ("BucketSheetModel", "wordMany", "I", false)
  | 7 => ("BucketSheetModel", "word", "[I", true)
  | 8 => ("BucketSheetModel", "dRule", "[I", true)
  | 9 => ("BucketSheetModel", "dLight", "[I", true)
  | 10 => ("BucketSheetModel", "dHot", "[I", true)
  | 11 => ("BucketSheetModel", "dTrap", "[I", true)
  | 12 => ("BucketSheetModel", "dWordMany", "I", false)
  | 13 => ("BucketSheetModel", "dWord", "[I", true)
  | 14 => ("BucketSheetModel", "dRows", "I", false)
  | 15 => ("BucketSheetModel", "toldLines", "I", false)
  | 16 => ("BucketSheetModel", "tape", "[I", true)
  | 17 => ("BucketSheetModel", "taped", "I", false)
  | 18 => ("BucketSheetModel", "pos", "I", false)
  | 19 => ("BucketSheetModel", "from", "I", false)
  | 20 => ("BucketSheetModel", "sort", "I", false)
  | 21 => ("BucketSheetModel", "value", "I", false)
  | 22 => ("BucketSheetModel", "fault", "I", false)
  | 23 => ("BucketSheetModel", "wrongAt", "I", false)
  | 24 => ("BucketSheetModel", "shade", "[I", true)
  | 25 => ("BucketSheetModel", "other", "[I", true)
  | 26 => ("BucketSheetModel", "high", "I", false)
  | 27 => ("BucketSheetModel", "wide", "I", false)
  | 28 => ("BucketSheetModel", "meets", "I", false)
  | 29 => ("BucketSheetModel", "meetsAt", "I", false)
  | 30 => ("BucketSheetModel", "lead", "[J", true)
  | 31 => ("BucketSheetModel", "leadThen", "[J", true)
  | 32 => ("BucketSheetModel", "lanes", "[I", true)
  | 33 => ("BucketSheetModel", "sizes", "[I", true)
  | 34 => ("BucketSheetModel", "cells", "[I", true)
  | _ => ("BucketSheetModel", "torn", "I", false)
def tyX8 : Nat → FieldType := fun k => match k with
  | 0 => .array .int
  | 1 => .array .long
  | 2 => .array .boolean
  | 3 => .array .int
  | 4 => .array .int
  | 5 => .array .int
  | 6 => .int
  | 7 => .array .int
  | 8 => .array .int
  | 9 => .array .int
  | 10 => .array .int
  | 11 => .array .int
  | 12 => .int
  | 13 => .array .int
  | 14 => .int
  | 15 => .int
  | 16 => .array .int
  | 17 => .int
  | 18 => .int
  | 19 => .int
  | 20 => .int
  | 21 => .int
  | 22 => .int
  | 23 => .int
  | 24 => .array .int
  | 25 => .array .int
  | 26 => .int
  | 27 => .int
  | 28 => .int
  | 29 => .int
  | 30 => .array .long
  | 31 => .array .long
  | 32 => .array .int
  | 33 => .array .int
  | 34 => .array .int
  | _ => .int
abbrev wsX80 : List Cond := u_ws RX8 TX8 36
theorem nmX8 : ∀ a, a < 36 → ∀ b, b < 36 → a ≠ b → (TX8 a).2.1 ≠ (TX8 b).2.1 := by decide +kernel
theorem tyX8_ok : ∀ k, k < 36 → parseFieldDescriptor (TX8 k).2.2.1 = some (tyX8 k) := by decide +kernel
abbrev cX8_init : ByteArray := prog_10_method_1_code
def yX8_init : MethodName := ⟨RX8, "<init>", "()V"⟩
abbrev cX8_in : ByteArray := prog_10_method_3_code
def yX8_in : MethodName := ⟨RX8, "in", "(JJJ)Z"⟩
abbrev cX8_flag : ByteArray := prog_10_method_4_code
def yX8_flag : MethodName := ⟨RX8, "flag", "(Z)I"⟩
abbrev cX8_less : ByteArray := prog_10_method_5_code
def yX8_less : MethodName := ⟨RX8, "less", "(II)I"⟩
abbrev cX8_firstDraft : ByteArray := prog_10_method_6_code
def yX8_firstDraft : MethodName := ⟨RX8, "firstDraft", "()V"⟩
abbrev cX8_keepDraft : ByteArray := prog_10_method_7_code
def yX8_keepDraft : MethodName := ⟨RX8, "keepDraft", "()V"⟩
abbrev cX8_feed : ByteArray := prog_10_method_8_code
def yX8_feed : MethodName := ⟨RX8, "feed", "(J)I"⟩
abbrev cX8_end : ByteArray := prog_10_method_9_code
def yX8_end : MethodName := ⟨RX8, "end", "(I)I"⟩
abbrev cX8_needs : ByteArray := prog_10_method_10_code
def yX8_needs : MethodName := ⟨RX8, "needs", "(ZI)V"⟩
abbrev cX8_look : ByteArray := prog_10_method_11_code
def yX8_look : MethodName := ⟨RX8, "look", "(I)I"⟩
abbrev cX8_is : ByteArray := prog_10_method_12_code
def yX8_is : MethodName := ⟨RX8, "is", "(IIIII)Z"⟩
abbrev cX8_nameNow : ByteArray := prog_10_method_13_code
def yX8_nameNow : MethodName := ⟨RX8, "nameNow", "()I"⟩
abbrev cX8_next : ByteArray := prog_10_method_14_code
def yX8_next : MethodName := ⟨RX8, "next", "()V"⟩
abbrev cX8_isNumber : ByteArray := prog_10_method_15_code
def yX8_isNumber : MethodName := ⟨RX8, "isNumber", "(II)V"⟩
abbrev cX8_readNumber : ByteArray := prog_10_method_16_code
def yX8_readNumber : MethodName := ⟨RX8, "readNumber", "(II)I"⟩
abbrev cX8_readRow : ByteArray := prog_10_method_17_code
def yX8_readRow : MethodName := ⟨RX8, "readRow", "()V"⟩
abbrev cX8_readWell : ByteArray := prog_10_method_18_code
def yX8_readWell : MethodName := ⟨RX8, "readWell", "(Z)V"⟩
abbrev cX8_readClock : ByteArray := prog_10_method_19_code
def yX8_readClock : MethodName := ⟨RX8, "readClock", "()V"⟩
abbrev cX8_readRule : ByteArray := prog_10_method_20_code
def yX8_readRule : MethodName := ⟨RX8, "readRule", "(I)V"⟩
abbrev cX8_readLine : ByteArray := prog_10_method_21_code
def yX8_readLine : MethodName := ⟨RX8, "readLine", "()V"⟩
abbrev cX8_text : ByteArray := prog_10_method_22_code
def yX8_text : MethodName := ⟨RX8, "text", "()I"⟩
abbrev cX8_fault : ByteArray := prog_10_method_23_code
def yX8_fault : MethodName := ⟨RX8, "fault", "()I"⟩
abbrev cX8_rule : ByteArray := prog_10_method_24_code
def yX8_rule : MethodName := ⟨RX8, "rule", "(I)I"⟩
abbrev cX8_isWell : ByteArray := prog_10_method_25_code
def yX8_isWell : MethodName := ⟨RX8, "isWell", "(I)Z"⟩
abbrev cX8_well : ByteArray := prog_10_method_26_code
def yX8_well : MethodName := ⟨RX8, "well", "(II)I"⟩
abbrev cX8_light : ByteArray := prog_10_method_27_code
def yX8_light : MethodName := ⟨RX8, "light", "(II)I"⟩
abbrev cX8_adds : ByteArray := prog_10_method_28_code
def yX8_adds : MethodName := ⟨RX8, "adds", "(III)V"⟩
abbrev cX8_clearSums : ByteArray := prog_10_method_29_code
def yX8_clearSums : MethodName := ⟨RX8, "clearSums", "()V"⟩
abbrev cX8_sumOf : ByteArray := prog_10_method_30_code
def yX8_sumOf : MethodName := ⟨RX8, "sumOf", "(II)I"⟩
abbrev cX8_flows : ByteArray := prog_10_method_31_code
def yX8_flows : MethodName := ⟨RX8, "flows", "(III)I"⟩
abbrev cX8_runsOver : ByteArray := prog_10_method_32_code
def yX8_runsOver : MethodName := ⟨RX8, "runsOver", "(I)V"⟩
abbrev cX8_rateOf : ByteArray := prog_10_method_33_code
def yX8_rateOf : MethodName := ⟨RX8, "rateOf", "(I)I"⟩
abbrev cX8_comes : ByteArray := prog_10_method_34_code
def yX8_comes : MethodName := ⟨RX8, "comes", "(III)V"⟩
abbrev cX8_expose : ByteArray := prog_10_method_35_code
def yX8_expose : MethodName := ⟨RX8, "expose", "(I)I"⟩
abbrev cX8_toLine : ByteArray := prog_10_method_36_code
def yX8_toLine : MethodName := ⟨RX8, "toLine", "(III)V"⟩
abbrev cX8_traps : ByteArray := prog_10_method_37_code
def yX8_traps : MethodName := ⟨RX8, "traps", "(II)V"⟩
abbrev cX8_handsDown : ByteArray := prog_10_method_38_code
def yX8_handsDown : MethodName := ⟨RX8, "handsDown", "(IZI)V"⟩
abbrev cX8_lineSum : ByteArray := prog_10_method_39_code
def yX8_lineSum : MethodName := ⟨RX8, "lineSum", "(I)I"⟩
abbrev cX8_down : ByteArray := prog_10_method_40_code
def yX8_down : MethodName := ⟨RX8, "down", "()I"⟩
abbrev cX8_takes : ByteArray := prog_10_method_41_code
def yX8_takes : MethodName := ⟨RX8, "takes", "(I)I"⟩
abbrev cX8_shadeOf : ByteArray := prog_10_method_42_code
def yX8_shadeOf : MethodName := ⟨RX8, "shadeOf", "(I)I"⟩
abbrev cX8_read : ByteArray := prog_10_method_43_code
def yX8_read : MethodName := ⟨RX8, "read", "()I"⟩
abbrev cX8_line : ByteArray := prog_10_method_44_code
def yX8_line : MethodName := ⟨RX8, "line", "(I)I"⟩
abbrev cX8_now : ByteArray := prog_10_method_45_code
def yX8_now : MethodName := ⟨RX8, "now", "(I)J"⟩
abbrev cX8_clear : ByteArray := prog_10_method_46_code
def yX8_clear : MethodName := ⟨RX8, "clear", "()I"⟩
abbrev cX8_copies : ByteArray := prog_10_method_47_code
def yX8_copies : MethodName := ⟨RX8, "copies", "(II)V"⟩
abbrev cX8_shoots : ByteArray := prog_10_method_48_code
def yX8_shoots : MethodName := ⟨RX8, "shoots", "(IIZI)V"⟩
abbrev cX8_isPicture : ByteArray := prog_10_method_49_code
def yX8_isPicture : MethodName := ⟨RX8, "isPicture", "(II)Z"⟩
abbrev cX8_picture : ByteArray := prog_10_method_50_code
def yX8_picture : MethodName := ⟨RX8, "picture", "(IIII)I"⟩
abbrev cX8_shades : ByteArray := prog_10_method_51_code
def yX8_shades : MethodName := ⟨RX8, "shades", "(III)I"⟩
abbrev cX8_late : ByteArray := prog_10_method_52_code
def yX8_late : MethodName := ⟨RX8, "late", "(I)I"⟩
abbrev cX8_smear : ByteArray := prog_10_method_53_code
def yX8_smear : MethodName := ⟨RX8, "smear", "(I)I"⟩
abbrev cX8_spoiled : ByteArray := prog_10_method_54_code
def yX8_spoiled : MethodName := ⟨RX8, "spoiled", "(I)I"⟩
abbrev cX8_full : ByteArray := prog_10_method_55_code
def yX8_full : MethodName := ⟨RX8, "full", "(I)I"⟩
abbrev cX8_longest : ByteArray := prog_10_method_56_code
def yX8_longest : MethodName := ⟨RX8, "longest", "()I"⟩
abbrev cX8_enough : ByteArray := prog_10_method_57_code
def yX8_enough : MethodName := ⟨RX8, "enough", "(I)I"⟩
abbrev cX8_hots : ByteArray := prog_10_method_58_code
def yX8_hots : MethodName := ⟨RX8, "hots", "(II)J"⟩
abbrev cX8_mended : ByteArray := prog_10_method_59_code
def yX8_mended : MethodName := ⟨RX8, "mended", "(I)I"⟩
abbrev cX8_full_ : ByteArray := prog_10_method_60_code
def yX8_full_ : MethodName := ⟨RX8, "full", "()I"⟩
abbrev cX8_isWord : ByteArray := prog_10_method_61_code
def yX8_isWord : MethodName := ⟨RX8, "isWord", "(I)Z"⟩
abbrev cX8_isHigh : ByteArray := prog_10_method_62_code
def yX8_isHigh : MethodName := ⟨RX8, "isHigh", "(II)Z"⟩
abbrev cX8_isGood : ByteArray := prog_10_method_63_code
def yX8_isGood : MethodName := ⟨RX8, "isGood", "(I)Z"⟩
abbrev cX8_beginOf : ByteArray := prog_10_method_64_code
def yX8_beginOf : MethodName := ⟨RX8, "beginOf", "(II)I"⟩
abbrev cX8_findMeets : ByteArray := prog_10_method_65_code
def yX8_findMeets : MethodName := ⟨RX8, "findMeets", "(III)V"⟩
abbrev cX8_wrong : ByteArray := prog_10_method_66_code
def yX8_wrong : MethodName := ⟨RX8, "wrong", "(III)I"⟩
abbrev cX8_goesTo : ByteArray := prog_10_method_67_code
def yX8_goesTo : MethodName := ⟨RX8, "goesTo", "(III)I"⟩
abbrev cX8_word : ByteArray := prog_10_method_68_code
def yX8_word : MethodName := ⟨RX8, "word", "(I)I"⟩
abbrev cX8_still : ByteArray := prog_10_method_69_code
def yX8_still : MethodName := ⟨RX8, "still", "()I"⟩
abbrev cX8_words : ByteArray := prog_10_method_70_code
def yX8_words : MethodName := ⟨RX8, "words", "(I)I"⟩
abbrev cX8_firstBegin : ByteArray := prog_10_method_71_code
def yX8_firstBegin : MethodName := ⟨RX8, "firstBegin", "(I)I"⟩
abbrev cX8_wells : ByteArray := prog_10_method_72_code
def yX8_wells : MethodName := ⟨RX8, "wells", "(I)I"⟩
abbrev cX8_clock : ByteArray := prog_10_method_73_code
def yX8_clock : MethodName := ⟨RX8, "clock", "(I)I"⟩
abbrev cX8_goes : ByteArray := prog_10_method_74_code
def yX8_goes : MethodName := ⟨RX8, "goes", "(II)I"⟩
abbrev cX8_leads : ByteArray := prog_10_method_75_code
def yX8_leads : MethodName := ⟨RX8, "leads", "(I)V"⟩
abbrev cX8_roundsOf : ByteArray := prog_10_method_76_code
def yX8_roundsOf : MethodName := ⟨RX8, "roundsOf", "(III)J"⟩
abbrev cX8_fewest : ByteArray := prog_10_method_77_code
def yX8_fewest : MethodName := ⟨RX8, "fewest", "(I)I"⟩
abbrev cX8_rounds : ByteArray := prog_10_method_78_code
def yX8_rounds : MethodName := ⟨RX8, "rounds", "(III)J"⟩
abbrev cX8_keep : ByteArray := prog_10_method_79_code
def yX8_keep : MethodName := ⟨RX8, "keep", "(I)I"⟩
abbrev cX8_back : ByteArray := prog_10_method_80_code
def yX8_back : MethodName := ⟨RX8, "back", "(I)I"⟩
abbrev cX8_isSheet : ByteArray := prog_10_method_81_code
def yX8_isSheet : MethodName := ⟨RX8, "isSheet", "(II)Z"⟩
abbrev cX8_sheet : ByteArray := prog_10_method_82_code
def yX8_sheet : MethodName := ⟨RX8, "sheet", "(III)I"⟩
abbrev cX8_lay : ByteArray := prog_10_method_83_code
def yX8_lay : MethodName := ⟨RX8, "lay", "(III)I"⟩
abbrev cX8_reads : ByteArray := prog_10_method_84_code
def yX8_reads : MethodName := ⟨RX8, "reads", "(IIII)I"⟩
abbrev cX8_torn : ByteArray := prog_10_method_85_code
def yX8_torn : MethodName := ⟨RX8, "torn", "()I"⟩
abbrev cX8_count : ByteArray := prog_10_method_86_code
def yX8_count : MethodName := ⟨RX8, "count", "(I)I"⟩
def RJx145de : String := "java/io/Serializable"
def TJx145de : u_T := fun k => match k with
  | _ => ("", "", "", false)
def tyJx145de : Nat → FieldType := fun k => match k with
  | _ => .int
abbrev wsJx145de0 : List Cond := u_ws RJx145de TJx145de 0
theorem nmJx145de : ∀ a, a < 0 → ∀ b, b < 0 → a ≠ b → (TJx145de a).2.1 ≠ (TJx145de b).2.1 := by decide +kernel
theorem tyJx145de_ok : ∀ k, k < 0 → parseFieldDescriptor (TJx145de k).2.2.1 = some (tyJx145de k) := by decide +kernel
def RJx9f9b0 : String := "java/lang/CharSequence"
def TJx9f9b0 : u_T := fun k => match k with
  | _ => ("", "", "", false)
def tyJx9f9b0 : Nat → FieldType := fun k => match k with
  | _ => .int
abbrev wsJx9f9b00 : List Cond := u_ws RJx9f9b0 TJx9f9b0 0
theorem nmJx9f9b0 : ∀ a, a < 0 → ∀ b, b < 0 → a ≠ b → (TJx9f9b0 a).2.1 ≠ (TJx9f9b0 b).2.1 := by decide +kernel
theorem tyJx9f9b0_ok : ∀ k, k < 0 → parseFieldDescriptor (TJx9f9b0 k).2.2.1 = some (tyJx9f9b0 k) := by decide +kernel
def RJxb160c : String := "java/lang/Comparable"
def TJxb160c : u_T := fun k => match k with
  | _ => ("", "", "", false)
def tyJxb160c : Nat → FieldType := fun k => match k with
  | _ => .int
abbrev wsJxb160c0 : List Cond := u_ws RJxb160c TJxb160c 0
theorem nmJxb160c : ∀ a, a < 0 → ∀ b, b < 0 → a ≠ b → (TJxb160c a).2.1 ≠ (TJxb160c b).2.1 := by decide +kernel
theorem tyJxb160c_ok : ∀ k, k < 0 → parseFieldDescriptor (TJxb160c k).2.2.1 = some (tyJxb160c k) := by decide +kernel
def RJ9 : String := "java/lang/Math"
def TJ9 : u_T := fun k => match k with
  | _ => ("", "", "", false)
def tyJ9 : Nat → FieldType := fun k => match k with
  | _ => .int
abbrev wsJ90 : List Cond := u_ws RJ9 TJ9 0
theorem nmJ9 : ∀ a, a < 0 → ∀ b, b < 0 → a ≠ b → (TJ9 a).2.1 ≠ (TJ9 b).2.1 := by decide +kernel
theorem tyJ9_ok : ∀ k, k < 0 → parseFieldDescriptor (TJ9 k).2.2.1 = some (tyJ9 k) := by decide +kernel
abbrev cJ9_floorDiv_7cf53 : ByteArray := prog_11_method_47_code
def yJ9_floorDiv_7cf53 : MethodName := ⟨RJ9, "floorDiv", "(II)I"⟩
abbrev cJ9_floorMod_7cf53 : ByteArray := prog_11_method_50_code
def yJ9_floorMod_7cf53 : MethodName := ⟨RJ9, "floorMod", "(II)I"⟩
abbrev cJ9_abs_0f7a4 : ByteArray := prog_11_method_59_code
def yJ9_abs_0f7a4 : MethodName := ⟨RJ9, "abs", "(I)I"⟩
abbrev cJ9_max_7cf53 : ByteArray := prog_11_method_65_code
def yJ9_max_7cf53 : MethodName := ⟨RJ9, "max", "(II)I"⟩
abbrev cJ9_min_7cf53 : ByteArray := prog_11_method_69_code
def yJ9_min_7cf53 : MethodName := ⟨RJ9, "min", "(II)I"⟩
def RJ0 : String := "java/lang/String"
def TJ0 : u_T := fun k => match k with
  | _ => ("", "", "", false)
def tyJ0 : Nat → FieldType := fun k => match k with
  | _ => .int
abbrev wsJ00 : List Cond := u_ws RJ0 TJ0 0
theorem nmJ0 : ∀ a, a < 0 → ∀ b, b < 0 → a ≠ b → (TJ0 a).2.1 ≠ (TJ0 b).2.1 := by decide +kernel
theorem tyJ0_ok : ∀ k, k < 0 → parseFieldDescriptor (TJ0 k).2.2.1 = some (tyJ0 k) := by decide +kernel
abbrev cJ0_length_8abf5 : ByteArray := prog_12_method_54_code
def yJ0_length_8abf5 : MethodName := ⟨RJ0, "length", "()I"⟩
abbrev cJ0_charAt_5068e : ByteArray := prog_12_method_56_code
def yJ0_charAt_5068e : MethodName := ⟨RJ0, "charAt", "(I)C"⟩
abbrev cJ0_coder_7d493 : ByteArray := prog_12_method_152_code
def yJ0_coder_7d493 : MethodName := ⟨RJ0, "coder", "()B"⟩
abbrev cJ0_isLatin1_aae02 : ByteArray := prog_12_method_154_code
def yJ0_isLatin1_aae02 : MethodName := ⟨RJ0, "isLatin1", "()Z"⟩
abbrev cJ0_checkIndex_df160 : ByteArray := prog_12_method_155_code
def yJ0_checkIndex_df160 : MethodName := ⟨RJ0, "checkIndex", "(II)V"⟩
def RJ1 : String := "java/lang/StringLatin1"
def TJ1 : u_T := fun k => match k with
  | _ => ("", "", "", false)
def tyJ1 : Nat → FieldType := fun k => match k with
  | _ => .int
abbrev wsJ10 : List Cond := u_ws RJ1 TJ1 0
theorem nmJ1 : ∀ a, a < 0 → ∀ b, b < 0 → a ≠ b → (TJ1 a).2.1 ≠ (TJ1 b).2.1 := by decide +kernel
theorem tyJ1_ok : ∀ k, k < 0 → parseFieldDescriptor (TJ1 k).2.2.1 = some (tyJ1 k) := by decide +kernel
abbrev cJ1_charAt_3b067 : ByteArray := prog_13_method_2_code
def yJ1_charAt_3b067 : MethodName := ⟨RJ1, "charAt", "([BI)C"⟩
def RJ2 : String := "java/lang/StringUTF16"
def TJ2 : u_T := fun k => match k with
  | _ => ("", "", "", false)
def tyJ2 : Nat → FieldType := fun k => match k with
  | _ => .int
abbrev wsJ20 : List Cond := u_ws RJ2 TJ2 0
theorem nmJ2 : ∀ a, a < 0 → ∀ b, b < 0 → a ≠ b → (TJ2 a).2.1 ≠ (TJ2 b).2.1 := by decide +kernel
theorem tyJ2_ok : ∀ k, k < 0 → parseFieldDescriptor (TJ2 k).2.2.1 = some (tyJ2 k) := by decide +kernel
abbrev cJ2_getChar_3b067 : ByteArray := prog_14_method_5_code
def yJ2_getChar_3b067 : MethodName := ⟨RJ2, "getChar", "([BI)C"⟩
abbrev cJ2_length_9d52b : ByteArray := prog_14_method_6_code
def yJ2_length_9d52b : MethodName := ⟨RJ2, "length", "([B)I"⟩
abbrev cJ2_charAt_3b067 : ByteArray := prog_14_method_83_code
def yJ2_charAt_3b067 : MethodName := ⟨RJ2, "charAt", "([BI)C"⟩
abbrev cJ2_checkIndex_2214a : ByteArray := prog_14_method_91_code
def yJ2_checkIndex_2214a : MethodName := ⟨RJ2, "checkIndex", "(I[B)V"⟩
def RJ10 : String := "java/lang/System"
def TJ10 : u_T := fun k => match k with
  | _ => ("", "", "", false)
def tyJ10 : Nat → FieldType := fun k => match k with
  | _ => .int
abbrev wsJ100 : List Cond := u_ws RJ10 TJ10 0
theorem nmJ10 : ∀ a, a < 0 → ∀ b, b < 0 → a ≠ b → (TJ10 a).2.1 ≠ (TJ10 b).2.1 := by decide +kernel
theorem tyJ10_ok : ∀ k, k < 0 → parseFieldDescriptor (TJ10 k).2.2.1 = some (tyJ10 k) := by decide +kernel
def RJxfd54e : String := "java/lang/constant/Constable"
def TJxfd54e : u_T := fun k => match k with
  | _ => ("", "", "", false)
def tyJxfd54e : Nat → FieldType := fun k => match k with
  | _ => .int
abbrev wsJxfd54e0 : List Cond := u_ws RJxfd54e TJxfd54e 0
theorem nmJxfd54e : ∀ a, a < 0 → ∀ b, b < 0 → a ≠ b → (TJxfd54e a).2.1 ≠ (TJxfd54e b).2.1 := by decide +kernel
theorem tyJxfd54e_ok : ∀ k, k < 0 → parseFieldDescriptor (TJxfd54e k).2.2.1 = some (tyJxfd54e k) := by decide +kernel
def RJx3cf43 : String := "java/lang/constant/ConstantDesc"
def TJx3cf43 : u_T := fun k => match k with
  | _ => ("", "", "", false)
def tyJx3cf43 : Nat → FieldType := fun k => match k with
  | _ => .int
abbrev wsJx3cf430 : List Cond := u_ws RJx3cf43 TJx3cf43 0
theorem nmJx3cf43 : ∀ a, a < 0 → ∀ b, b < 0 → a ≠ b → (TJx3cf43 a).2.1 ≠ (TJx3cf43 b).2.1 := by decide +kernel
theorem tyJx3cf43_ok : ∀ k, k < 0 → parseFieldDescriptor (TJx3cf43 k).2.2.1 = some (tyJx3cf43 k) := by decide +kernel
def RJ7 : String := "java/util/Arrays"
def TJ7 : u_T := fun k => match k with
  | _ => ("", "", "", false)
def tyJ7 : Nat → FieldType := fun k => match k with
  | _ => .int
abbrev wsJ70 : List Cond := u_ws RJ7 TJ7 0
theorem nmJ7 : ∀ a, a < 0 → ∀ b, b < 0 → a ≠ b → (TJ7 a).2.1 ≠ (TJ7 b).2.1 := by decide +kernel
theorem tyJ7_ok : ∀ k, k < 0 → parseFieldDescriptor (TJ7 k).2.2.1 = some (tyJ7 k) := by decide +kernel
abbrev cJ7_fill_d0a16 : ByteArray := prog_16_method_101_code
def yJ7_fill_d0a16 : MethodName := ⟨RJ7, "fill", "([JJ)V"⟩
abbrev cJ7_fill_53178 : ByteArray := prog_16_method_103_code
def yJ7_fill_53178 : MethodName := ⟨RJ7, "fill", "([II)V"⟩
def RJ3 : String := "jdk/internal/util/Preconditions"
def TJ3 : u_T := fun k => match k with
  | _ => ("", "", "", false)
def tyJ3 : Nat → FieldType := fun k => match k with
  | _ => .int
abbrev wsJ30 : List Cond := u_ws RJ3 TJ3 0
theorem nmJ3 : ∀ a, a < 0 → ∀ b, b < 0 → a ≠ b → (TJ3 a).2.1 ≠ (TJ3 b).2.1 := by decide +kernel
theorem tyJ3_ok : ∀ k, k < 0 → parseFieldDescriptor (TJ3 k).2.2.1 = some (tyJ3 k) := by decide +kernel
abbrev cJ3_checkIndex_8e157 : ByteArray := prog_17_method_11_code
def yJ3_checkIndex_8e157 : MethodName := ⟨RJ3, "checkIndex", "(IILjava/util/function/BiFunction;)I"⟩
def RL : String := "BucketSheetLaw"
abbrev cL_law : ByteArray := code
def yL_law : MethodName := ⟨RL, "law", "([I)Z"⟩
abbrev vwCl : List vw_C := [(RX0, TX0, 7), (RX1, TX1, 13), (RX2, TX2, 4), (RX3, TX3, 5), (RX4, TX4, 11), (RX5, TX5, 3), (RX6, TX6, 2), (RX7, TX7, 11), (RX8, TX8, 36)]
theorem up_1 {w : Cond} (h : w ∈ tables_1_1) : w ∈ lw_tbl := List.mem_append_right _ (show w ∈ tables_1_1 ++ (tables_1_2 ++ (tables_1_3 ++ (tables_1_4 ++ (tables_1_5 ++ tables_1_6)))) from List.mem_append_left _ h)
theorem up_2 {w : Cond} (h : w ∈ tables_1_2) : w ∈ lw_tbl := List.mem_append_right _ (show w ∈ tables_1_1 ++ (tables_1_2 ++ (tables_1_3 ++ (tables_1_4 ++ (tables_1_5 ++ tables_1_6)))) from List.mem_append_right _ (List.mem_append_left _ h))
theorem up_3 {w : Cond} (h : w ∈ tables_1_3) : w ∈ lw_tbl := List.mem_append_right _ (show w ∈ tables_1_1 ++ (tables_1_2 ++ (tables_1_3 ++ (tables_1_4 ++ (tables_1_5 ++ tables_1_6)))) from List.mem_append_right _ (List.mem_append_right _ (List.mem_append_left _ h)))
theorem up_4 {w : Cond} (h : w ∈ tables_1_4) : w ∈ lw_tbl := List.mem_append_right _ (show w ∈ tables_1_1 ++ (tables_1_2 ++ (tables_1_3 ++ (tables_1_4 ++ (tables_1_5 ++ tables_1_6)))) from List.mem_append_right _ (List.mem_append_right _ (List.mem_append_right _ (List.mem_append_left _ h))))
theorem up_5 {w : Cond} (h : w ∈ tables_1_5) : w ∈ lw_tbl := List.mem_append_right _ (show w ∈ tables_1_1 ++ (tables_1_2 ++ (tables_1_3 ++ (tables_1_4 ++ (tables_1_5 ++ tables_1_6)))) from List.mem_append_right _ (List.mem_append_right _ (List.mem_append_right _ (List.mem_append_right _ (List.mem_append_left _ h)))))
theorem up_6 {w : Cond} (h : w ∈ tables_1_6) : w ∈ lw_tbl := List.mem_append_right _ (show w ∈ tables_1_1 ++ (tables_1_2 ++ (tables_1_3 ++ (tables_1_4 ++ (tables_1_5 ++ tables_1_6)))) from List.mem_append_right _ (List.mem_append_right _ (List.mem_append_right _ (List.mem_append_right _ (List.mem_append_right _ (h))))))
def lw_g : List Cond := lw_tbl.filter goodWord
theorem in_g {w : Cond} (h : w ∈ lw_tbl) (hg : goodWord w = true) : w ∈ lw_g := List.mem_filter.mpr ⟨h, hg⟩
theorem in_X0 : ∀ w ∈ u_ws RX0 TX0 7, w ∈ lw_g := by
  intro w h
  have e : u_ws RX0 TX0 7 = [.laysFinal "BucketSheet$Charge" "BucketSheet$Charge" "light" "[I", .laysFinal "BucketSheet$Charge" "BucketSheet$Charge" "wells" "[I", .laysFinal "BucketSheet$Charge" "BucketSheet$Charge" "held" "[I", .laysFinal "BucketSheet$Charge" "BucketSheet$Charge" "line" "[I", .lays "BucketSheet$Charge" "BucketSheet$Charge" "lost" "J", .lays "BucketSheet$Charge" "BucketSheet$Charge" "readOut" "J", .lays "BucketSheet$Charge" "BucketSheet$Charge" "came" "J"] := rfl
  rw [e] at h
  simp only [List.mem_cons, List.not_mem_nil, or_false] at h
  rcases h with rfl | rfl | rfl | rfl | rfl | rfl | rfl
  · exact in_g (up_1 (List.mem_of_getElem? (i := 153) rfl)) rfl
  · exact in_g (up_1 (List.mem_of_getElem? (i := 155) rfl)) rfl
  · exact in_g (up_1 (List.mem_of_getElem? (i := 157) rfl)) rfl
  · exact in_g (up_1 (List.mem_of_getElem? (i := 159) rfl)) rfl
  · exact in_g (up_1 (List.mem_of_getElem? (i := 161) rfl)) rfl
  · exact in_g (up_1 (List.mem_of_getElem? (i := 163) rfl)) rfl
  · exact in_g (up_1 (List.mem_of_getElem? (i := 165) rfl)) rfl
theorem in_X1 : ∀ w ∈ u_ws RX1 TX1 13, w ∈ lw_g := by
  intro w h
  have e : u_ws RX1 TX1 13 = [.lays "BucketSheet$Gates" "BucketSheet$Gates" "phases" "I", .lays "BucketSheet$Gates" "BucketSheet$Gates" "landed" "I", .lays "BucketSheet$Gates" "BucketSheet$Gates" "wrong" "I", .lays "BucketSheet$Gates" "BucketSheet$Gates" "wrongAt" "I", .lays "BucketSheet$Gates" "BucketSheet$Gates" "carried" "I", .laysFinal "BucketSheet$Gates" "BucketSheet$Gates" "wordOf" "[I", .laysFinal "BucketSheet$Gates" "BucketSheet$Gates" "startIn" "[I", .lays "BucketSheet$Gates" "BucketSheet$Gates" "regions" "I", .laysFinal "BucketSheet$Gates" "BucketSheet$Gates" "regionAt" "[I", .laysFinal "BucketSheet$Gates" "BucketSheet$Gates" "goesTo" "[I", .laysFinal "BucketSheet$Gates" "BucketSheet$Gates" "goesBy" "[I", .lays "BucketSheet$Gates" "BucketSheet$Gates" "ways" "[J", .lays "BucketSheet$Gates" "BucketSheet$Gates" "waysNext" "[J"] := rfl
  rw [e] at h
  simp only [List.mem_cons, List.not_mem_nil, or_false] at h
  rcases h with rfl | rfl | rfl | rfl | rfl | rfl | rfl | rfl | rfl | rfl | rfl | rfl | rfl
  · exact in_g (up_1 (List.mem_of_getElem? (i := 214) rfl)) rfl
  · exact in_g (up_1 (List.mem_of_getElem? (i := 216) rfl)) rfl
  · exact in_g (up_1 (List.mem_of_getElem? (i := 218) rfl)) rfl
  · exact in_g (up_1 (List.mem_of_getElem? (i := 220) rfl)) rfl
  · exact in_g (up_1 (List.mem_of_getElem? (i := 222) rfl)) rfl
  · exact in_g (up_1 (List.mem_of_getElem? (i := 224) rfl)) rfl
  · exact in_g (up_1 (List.mem_of_getElem? (i := 226) rfl)) rfl
  · exact in_g (up_1 (List.mem_of_getElem? (i := 228) rfl)) rfl
  · exact in_g (up_1 (List.mem_of_getElem? (i := 230) rfl)) rfl
  · exact in_g (up_1 (List.mem_of_getElem? (i := 232) rfl)) rfl
  · exact in_g (up_1 (List.mem_of_getElem? (i := 234) rfl)) rfl
  · exact in_g (up_1 (List.mem_of_getElem? (i := 236) rfl)) rfl
  · exact in_g (up_1 (List.mem_of_getElem? (i := 238) rfl)) rfl
theorem in_X2 : ∀ w ∈ u_ws RX2 TX2 4, w ∈ lw_g := by
  intro w h
  have e : u_ws RX2 TX2 4 = [.laysFinal "BucketSheet$Picture" "BucketSheet$Picture" "shadow" "LBucketSheet$Charge;", .laysFinal "BucketSheet$Picture" "BucketSheet$Picture" "values" "[I", .lays "BucketSheet$Picture" "BucketSheet$Picture" "rows" "I", .lays "BucketSheet$Picture" "BucketSheet$Picture" "columns" "I"] := rfl
  rw [e] at h
  simp only [List.mem_cons, List.not_mem_nil, or_false] at h
  rcases h with rfl | rfl | rfl | rfl
  · exact in_g (up_1 (List.mem_of_getElem? (i := 183) rfl)) rfl
  · exact in_g (up_1 (List.mem_of_getElem? (i := 185) rfl)) rfl
  · exact in_g (up_1 (List.mem_of_getElem? (i := 187) rfl)) rfl
  · exact in_g (up_1 (List.mem_of_getElem? (i := 189) rfl)) rfl
theorem in_X3 : ∀ w ∈ u_ws RX3 TX3 5, w ∈ lw_g := by
  intro w h
  have e : u_ws RX3 TX3 5 = [.laysFinal "BucketSheet$Plan" "BucketSheet$Plan" "rules" "[I", .laysFinal "BucketSheet$Plan" "BucketSheet$Plan" "hot" "[I", .laysFinal "BucketSheet$Plan" "BucketSheet$Plan" "trap" "[I", .laysFinal "BucketSheet$Plan" "BucketSheet$Plan" "round" "[I", .lays "BucketSheet$Plan" "BucketSheet$Plan" "roundLength" "I"] := rfl
  rw [e] at h
  simp only [List.mem_cons, List.not_mem_nil, or_false] at h
  rcases h with rfl | rfl | rfl | rfl | rfl
  · exact in_g (up_1 (List.mem_of_getElem? (i := 74) rfl)) rfl
  · exact in_g (up_1 (List.mem_of_getElem? (i := 76) rfl)) rfl
  · exact in_g (up_1 (List.mem_of_getElem? (i := 78) rfl)) rfl
  · exact in_g (up_1 (List.mem_of_getElem? (i := 80) rfl)) rfl
  · exact in_g (up_1 (List.mem_of_getElem? (i := 82) rfl)) rfl
theorem in_X4 : ∀ w ∈ u_ws RX4 TX4 11, w ∈ lw_g := by
  intro w h
  have e : u_ws RX4 TX4 11 = [.laysFinal "BucketSheet$Reader" "BucketSheet$Reader" "tape" "LBucketSheet$Tape;", .laysFinal "BucketSheet$Reader" "BucketSheet$Reader" "told" "LBucketSheet$Plan;", .laysFinal "BucketSheet$Reader" "BucketSheet$Reader" "toldLight" "[I", .laysFinal "BucketSheet$Reader" "BucketSheet$Reader" "seen" "[Z", .lays "BucketSheet$Reader" "BucketSheet$Reader" "at" "I", .lays "BucketSheet$Reader" "BucketSheet$Reader" "token" "I", .lays "BucketSheet$Reader" "BucketSheet$Reader" "start" "I", .lays "BucketSheet$Reader" "BucketSheet$Reader" "value" "I", .lays "BucketSheet$Reader" "BucketSheet$Reader" "rows" "I", .lays "BucketSheet$Reader" "BucketSheet$Reader" "place" "I", .lays "BucketSheet$Reader" "BucketSheet$Reader" "found" "I"] := rfl
  rw [e] at h
  simp only [List.mem_cons, List.not_mem_nil, or_false] at h
  rcases h with rfl | rfl | rfl | rfl | rfl | rfl | rfl | rfl | rfl | rfl | rfl
  · exact in_g (up_1 (List.mem_of_getElem? (i := 108) rfl)) rfl
  · exact in_g (up_1 (List.mem_of_getElem? (i := 110) rfl)) rfl
  · exact in_g (up_1 (List.mem_of_getElem? (i := 112) rfl)) rfl
  · exact in_g (up_1 (List.mem_of_getElem? (i := 114) rfl)) rfl
  · exact in_g (up_1 (List.mem_of_getElem? (i := 116) rfl)) rfl
  · exact in_g (up_1 (List.mem_of_getElem? (i := 118) rfl)) rfl
  · exact in_g (up_1 (List.mem_of_getElem? (i := 120) rfl)) rfl
  · exact in_g (up_1 (List.mem_of_getElem? (i := 122) rfl)) rfl
  · exact in_g (up_1 (List.mem_of_getElem? (i := 124) rfl)) rfl
  · exact in_g (up_1 (List.mem_of_getElem? (i := 126) rfl)) rfl
  · exact in_g (up_1 (List.mem_of_getElem? (i := 128) rfl)) rfl
theorem in_X5 : ∀ w ∈ u_ws RX5 TX5 3, w ∈ lw_g := by
  intro w h
  have e : u_ws RX5 TX5 3 = [.laysFinal "BucketSheet$Sheet" "BucketSheet$Sheet" "cells" "[I", .lays "BucketSheet$Sheet" "BucketSheet$Sheet" "lane" "I", .lays "BucketSheet$Sheet" "BucketSheet$Sheet" "length" "I"] := rfl
  rw [e] at h
  simp only [List.mem_cons, List.not_mem_nil, or_false] at h
  rcases h with rfl | rfl | rfl
  · exact in_g (up_2 (List.mem_of_getElem? (i := 15) rfl)) rfl
  · exact in_g (up_2 (List.mem_of_getElem? (i := 17) rfl)) rfl
  · exact in_g (up_2 (List.mem_of_getElem? (i := 19) rfl)) rfl
theorem in_X6 : ∀ w ∈ u_ws RX6 TX6 2, w ∈ lw_g := by
  intro w h
  have e : u_ws RX6 TX6 2 = [.laysFinal "BucketSheet$Tape" "BucketSheet$Tape" "bytes" "[B", .lays "BucketSheet$Tape" "BucketSheet$Tape" "length" "I"] := rfl
  rw [e] at h
  simp only [List.mem_cons, List.not_mem_nil, or_false] at h
  rcases h with rfl | rfl
  · exact in_g (up_1 (List.mem_of_getElem? (i := 35) rfl)) rfl
  · exact in_g (up_1 (List.mem_of_getElem? (i := 37) rfl)) rfl
theorem in_X7 : ∀ w ∈ u_ws RX7 TX7 11, w ∈ lw_g := by
  intro w h
  have e : u_ws RX7 TX7 11 = [.laysFinal "BucketSheet" "BucketSheet" "tape" "LBucketSheet$Tape;", .laysFinal "BucketSheet" "BucketSheet" "plan" "LBucketSheet$Plan;", .laysFinal "BucketSheet" "BucketSheet" "reader" "LBucketSheet$Reader;", .laysFinal "BucketSheet" "BucketSheet" "charge" "LBucketSheet$Charge;", .laysFinal "BucketSheet" "BucketSheet" "images" "[LBucketSheet$Charge;", .laysFinal "BucketSheet" "BucketSheet" "kept" "[Z", .laysFinal "BucketSheet" "BucketSheet" "asItIs" "LBucketSheet$Picture;", .laysFinal "BucketSheet" "BucketSheet" "unspoiled" "LBucketSheet$Picture;", .laysFinal "BucketSheet" "BucketSheet" "gates" "LBucketSheet$Gates;", .laysFinal "BucketSheet" "BucketSheet" "sheets" "[LBucketSheet$Sheet;", .lays "BucketSheet" "BucketSheet" "tornBy" "I"] := rfl
  rw [e] at h
  simp only [List.mem_cons, List.not_mem_nil, or_false] at h
  rcases h with rfl | rfl | rfl | rfl | rfl | rfl | rfl | rfl | rfl | rfl | rfl
  · exact in_g (up_2 (List.mem_of_getElem? (i := 33) rfl)) rfl
  · exact in_g (up_2 (List.mem_of_getElem? (i := 35) rfl)) rfl
  · exact in_g (up_2 (List.mem_of_getElem? (i := 37) rfl)) rfl
  · exact in_g (up_2 (List.mem_of_getElem? (i := 39) rfl)) rfl
  · exact in_g (up_2 (List.mem_of_getElem? (i := 41) rfl)) rfl
  · exact in_g (up_2 (List.mem_of_getElem? (i := 43) rfl)) rfl
  · exact in_g (up_2 (List.mem_of_getElem? (i := 45) rfl)) rfl
  · exact in_g (up_2 (List.mem_of_getElem? (i := 47) rfl)) rfl
  · exact in_g (up_2 (List.mem_of_getElem? (i := 49) rfl)) rfl
  · exact in_g (up_2 (List.mem_of_getElem? (i := 51) rfl)) rfl
  · exact in_g (up_2 (List.mem_of_getElem? (i := 53) rfl)) rfl
theorem in_X8 : ∀ w ∈ u_ws RX8 TX8 36, w ∈ lw_g := by
  intro w h
  have e : u_ws RX8 TX8 36 = [.laysFinal "BucketSheetModel" "BucketSheetModel" "st" "[I", .laysFinal "BucketSheetModel" "BucketSheetModel" "sums" "[J", .laysFinal "BucketSheetModel" "BucketSheetModel" "isKept" "[Z", .laysFinal "BucketSheetModel" "BucketSheetModel" "rule" "[I", .laysFinal "BucketSheetModel" "BucketSheetModel" "hot" "[I", .laysFinal "BucketSheetModel" "BucketSheetModel" "trap" "[I", .lays "BucketSheetModel" "BucketSheetModel" "wordMany" "I", .laysFinal "BucketSheetModel" "BucketSheetModel" "word" "[I", .laysFinal "BucketSheetModel" "BucketSheetModel" "dRule" "[I", .laysFinal "BucketSheetModel" "BucketSheetModel" "dLight" "[I", .laysFinal "BucketSheetModel" "BucketSheetModel" "dHot" "[I", .laysFinal "BucketSheetModel" "BucketSheetModel" "dTrap" "[I", .lays "BucketSheetModel" "BucketSheetModel" "dWordMany" "I", .laysFinal "BucketSheetModel" "BucketSheetModel" "dWord" "[I", .lays "BucketSheetModel" "BucketSheetModel" "dRows" "I", .lays "BucketSheetModel" "BucketSheetModel" "toldLines" "I", .laysFinal "BucketSheetModel" "BucketSheetModel" "tape" "[I", .lays "BucketSheetModel" "BucketSheetModel" "taped" "I", .lays "BucketSheetModel" "BucketSheetModel" "pos" "I", .lays "BucketSheetModel" "BucketSheetModel" "from" "I", .lays "BucketSheetModel" "BucketSheetModel" "sort" "I", .lays "BucketSheetModel" "BucketSheetModel" "value" "I", .lays "BucketSheetModel" "BucketSheetModel" "fault" "I", .lays "BucketSheetModel" "BucketSheetModel" "wrongAt" "I", .laysFinal "BucketSheetModel" "BucketSheetModel" "shade" "[I", .laysFinal "BucketSheetModel" "BucketSheetModel" "other" "[I", .lays "BucketSheetModel" "BucketSheetModel" "high" "I", .lays "BucketSheetModel" "BucketSheetModel" "wide" "I", .lays "BucketSheetModel" "BucketSheetModel" "meets" "I", .lays "BucketSheetModel" "BucketSheetModel" "meetsAt" "I", .laysFinal "BucketSheetModel" "BucketSheetModel" "lead" "[J", .laysFinal "BucketSheetModel" "BucketSheetModel" "leadThen" "[J", .laysFinal "BucketSheetModel" "BucketSheetModel" "lanes" "[I", .laysFinal "BucketSheetModel" "BucketSheetModel" "sizes" "[I", .laysFinal "BucketSheetModel" "BucketSheetModel" "cells" "[I", .lays "BucketSheetModel" "BucketSheetModel" "torn" "I"] := rfl
  rw [e] at h
  simp only [List.mem_cons, List.not_mem_nil, or_false] at h
  rcases h with rfl | rfl | rfl | rfl | rfl | rfl | rfl | rfl | rfl | rfl | rfl | rfl | rfl | rfl | rfl | rfl | rfl | rfl | rfl | rfl | rfl | rfl | rfl | rfl | rfl | rfl | rfl | rfl | rfl | rfl | rfl | rfl | rfl | rfl | rfl | rfl
  · exact in_g (up_4 (List.mem_of_getElem? (i := 173) rfl)) rfl
  · exact in_g (up_4 (List.mem_of_getElem? (i := 175) rfl)) rfl
  · exact in_g (up_4 (List.mem_of_getElem? (i := 177) rfl)) rfl
  · exact in_g (up_4 (List.mem_of_getElem? (i := 179) rfl)) rfl
  · exact in_g (up_4 (List.mem_of_getElem? (i := 181) rfl)) rfl
  · exact in_g (up_4 (List.mem_of_getElem? (i := 183) rfl)) rfl
  · exact in_g (up_4 (List.mem_of_getElem? (i := 185) rfl)) rfl
  · exact in_g (up_4 (List.mem_of_getElem? (i := 187) rfl)) rfl
  · exact in_g (up_4 (List.mem_of_getElem? (i := 189) rfl)) rfl
  · exact in_g (up_4 (List.mem_of_getElem? (i := 191) rfl)) rfl
  · exact in_g (up_4 (List.mem_of_getElem? (i := 193) rfl)) rfl
  · exact in_g (up_4 (List.mem_of_getElem? (i := 195) rfl)) rfl
  · exact in_g (up_4 (List.mem_of_getElem? (i := 197) rfl)) rfl
  · exact in_g (up_4 (List.mem_of_getElem? (i := 199) rfl)) rfl
  · exact in_g (up_4 (List.mem_of_getElem? (i := 201) rfl)) rfl
  · exact in_g (up_4 (List.mem_of_getElem? (i := 203) rfl)) rfl
  · exact in_g (up_4 (List.mem_of_getElem? (i := 205) rfl)) rfl
  · exact in_g (up_4 (List.mem_of_getElem? (i := 207) rfl)) rfl
  · exact in_g (up_4 (List.mem_of_getElem? (i := 209) rfl)) rfl
  · exact in_g (up_4 (List.mem_of_getElem? (i := 211) rfl)) rfl
  · exact in_g (up_4 (List.mem_of_getElem? (i := 213) rfl)) rfl
  · exact in_g (up_4 (List.mem_of_getElem? (i := 215) rfl)) rfl
  · exact in_g (up_4 (List.mem_of_getElem? (i := 217) rfl)) rfl
  · exact in_g (up_4 (List.mem_of_getElem? (i := 219) rfl)) rfl
  · exact in_g (up_4 (List.mem_of_getElem? (i := 221) rfl)) rfl
  · exact in_g (up_4 (List.mem_of_getElem? (i := 223) rfl)) rfl
  · exact in_g (up_4 (List.mem_of_getElem? (i := 225) rfl)) rfl
  · exact in_g (up_4 (List.mem_of_getElem? (i := 227) rfl)) rfl
  · exact in_g (up_4 (List.mem_of_getElem? (i := 229) rfl)) rfl
  · exact in_g (up_4 (List.mem_of_getElem? (i := 231) rfl)) rfl
  · exact in_g (up_4 (List.mem_of_getElem? (i := 233) rfl)) rfl
  · exact in_g (up_4 (List.mem_of_getElem? (i := 235) rfl)) rfl
  · exact in_g (up_4 (List.mem_of_getElem? (i := 237) rfl)) rfl
  · exact in_g (up_4 (List.mem_of_getElem? (i := 239) rfl)) rfl
  · exact in_g (up_5 (List.mem_of_getElem? (i := 1) rfl)) rfl
  · exact in_g (up_5 (List.mem_of_getElem? (i := 3) rfl)) rfl
