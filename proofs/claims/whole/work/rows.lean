section
-- ===== PART A: goes FIRST, ahead of the names: the tables' words, and 'selects' of the private methods out of them =====
/-- a private method of a class that the tables say can be made, by its rows of tables_1 -/
def lw_okq (q : MethodName × Nat) : Prop := (q.1.cls ≠ "java/lang/invoke/MethodHandle" ∧ q.1.cls ≠ "java/lang/invoke/VarHandle") ∧ Cond.instantiable q.1.cls q.2 ∈ tables_1 ∧ Cond.privateMethod q.1 ∈ tables_1 ∧ Cond.instanceMethod q.1 ∈ tables_1
theorem lw_p0 : lw_okq (⟨"BucketSheet$Reader", "begin", "()V"⟩, 11) := ⟨⟨by decide +kernel, by decide +kernel⟩, List.mem_of_getElem? (i := 87) (by decide +kernel), List.mem_of_getElem? (i := 317) (by decide +kernel), List.mem_of_getElem? (i := 318) (by decide +kernel)⟩
theorem lw_p1 : lw_okq (⟨"BucketSheet$Reader", "fetch", "()V"⟩, 11) := ⟨⟨by decide +kernel, by decide +kernel⟩, List.mem_of_getElem? (i := 87) (by decide +kernel), List.mem_of_getElem? (i := 323) (by decide +kernel), List.mem_of_getElem? (i := 324) (by decide +kernel)⟩
theorem lw_p2 : lw_okq (⟨"BucketSheet$Reader", "takeAlike", "()V"⟩, 11) := ⟨⟨by decide +kernel, by decide +kernel⟩, List.mem_of_getElem? (i := 87) (by decide +kernel), List.mem_of_getElem? (i := 334) (by decide +kernel), List.mem_of_getElem? (i := 335) (by decide +kernel)⟩
theorem lw_p3 : lw_okq (⟨"BucketSheet$Reader", "fail", "(II)V"⟩, 11) := ⟨⟨by decide +kernel, by decide +kernel⟩, List.mem_of_getElem? (i := 87) (by decide +kernel), List.mem_of_getElem? (i := 338) (by decide +kernel), List.mem_of_getElem? (i := 339) (by decide +kernel)⟩
theorem lw_p4 : lw_okq (⟨"BucketSheet$Reader", "readLine", "()V"⟩, 11) := ⟨⟨by decide +kernel, by decide +kernel⟩, List.mem_of_getElem? (i := 87) (by decide +kernel), List.mem_of_getElem? (i := 342) (by decide +kernel), List.mem_of_getElem? (i := 343) (by decide +kernel)⟩
theorem lw_p5 : lw_okq (⟨"BucketSheet$Reader", "kindHere", "()I"⟩, 11) := ⟨⟨by decide +kernel, by decide +kernel⟩, List.mem_of_getElem? (i := 87) (by decide +kernel), List.mem_of_getElem? (i := 346) (by decide +kernel), List.mem_of_getElem? (i := 347) (by decide +kernel)⟩
theorem lw_p6 : lw_okq (⟨"BucketSheet$Reader", "spells", "(Ljava/lang/String;)Z"⟩, 11) := ⟨⟨by decide +kernel, by decide +kernel⟩, List.mem_of_getElem? (i := 87) (by decide +kernel), List.mem_of_getElem? (i := 363) (by decide +kernel), List.mem_of_getElem? (i := 364) (by decide +kernel)⟩
theorem lw_p7 : lw_okq (⟨"BucketSheet$Reader", "mayBegin", "(I)Z"⟩, 11) := ⟨⟨by decide +kernel, by decide +kernel⟩, List.mem_of_getElem? (i := 87) (by decide +kernel), List.mem_of_getElem? (i := 415) (by decide +kernel), List.mem_of_getElem? (i := 416) (by decide +kernel)⟩
theorem lw_p8 : lw_okq (⟨"BucketSheet$Reader", "readRow", "()V"⟩, 11) := ⟨⟨by decide +kernel, by decide +kernel⟩, List.mem_of_getElem? (i := 87) (by decide +kernel), List.mem_of_getElem? (i := 419) (by decide +kernel), List.mem_of_getElem? (i := 420) (by decide +kernel)⟩
theorem lw_p9 : lw_okq (⟨"BucketSheet$Reader", "number", "(II)I"⟩, 11) := ⟨⟨by decide +kernel, by decide +kernel⟩, List.mem_of_getElem? (i := 87) (by decide +kernel), List.mem_of_getElem? (i := 423) (by decide +kernel), List.mem_of_getElem? (i := 424) (by decide +kernel)⟩
theorem lw_p10 : lw_okq (⟨"BucketSheet$Reader", "numberHere", "(II)I"⟩, 11) := ⟨⟨by decide +kernel, by decide +kernel⟩, List.mem_of_getElem? (i := 87) (by decide +kernel), List.mem_of_getElem? (i := 427) (by decide +kernel), List.mem_of_getElem? (i := 428) (by decide +kernel)⟩
theorem lw_p11 : lw_okq (⟨"BucketSheet$Reader", "readPart", "([II)V"⟩, 11) := ⟨⟨by decide +kernel, by decide +kernel⟩, List.mem_of_getElem? (i := 87) (by decide +kernel), List.mem_of_getElem? (i := 431) (by decide +kernel), List.mem_of_getElem? (i := 432) (by decide +kernel)⟩
theorem lw_p12 : lw_okq (⟨"BucketSheet$Reader", "readRound", "()V"⟩, 11) := ⟨⟨by decide +kernel, by decide +kernel⟩, List.mem_of_getElem? (i := 87) (by decide +kernel), List.mem_of_getElem? (i := 435) (by decide +kernel), List.mem_of_getElem? (i := 436) (by decide +kernel)⟩
theorem lw_p13 : lw_okq (⟨"BucketSheet$Reader", "lookAtWords", "()V"⟩, 11) := ⟨⟨by decide +kernel, by decide +kernel⟩, List.mem_of_getElem? (i := 87) (by decide +kernel), List.mem_of_getElem? (i := 439) (by decide +kernel), List.mem_of_getElem? (i := 440) (by decide +kernel)⟩
theorem lw_p14 : lw_okq (⟨"BucketSheet", "tellAll", "()V"⟩, 11) := ⟨⟨by decide +kernel, by decide +kernel⟩, List.mem_of_getElem? (i := 18) (by decide +kernel), List.mem_of_getElem? (i := 443) (by decide +kernel), List.mem_of_getElem? (i := 444) (by decide +kernel)⟩
theorem lw_p15 : lw_okq (⟨"BucketSheet$Charge", "bring", "(II)V"⟩, 7) := ⟨⟨by decide +kernel, by decide +kernel⟩, List.mem_of_getElem? (i := 133) (by decide +kernel), List.mem_of_getElem? (i := 493) (by decide +kernel), List.mem_of_getElem? (i := 494) (by decide +kernel)⟩
def lw_privs_1 : List (MethodName × Nat) := [(⟨"BucketSheet$Reader", "begin", "()V"⟩, 11), (⟨"BucketSheet$Reader", "fetch", "()V"⟩, 11), (⟨"BucketSheet$Reader", "takeAlike", "()V"⟩, 11), (⟨"BucketSheet$Reader", "fail", "(II)V"⟩, 11), (⟨"BucketSheet$Reader", "readLine", "()V"⟩, 11), (⟨"BucketSheet$Reader", "kindHere", "()I"⟩, 11), (⟨"BucketSheet$Reader", "spells", "(Ljava/lang/String;)Z"⟩, 11), (⟨"BucketSheet$Reader", "mayBegin", "(I)Z"⟩, 11), (⟨"BucketSheet$Reader", "readRow", "()V"⟩, 11), (⟨"BucketSheet$Reader", "number", "(II)I"⟩, 11), (⟨"BucketSheet$Reader", "numberHere", "(II)I"⟩, 11), (⟨"BucketSheet$Reader", "readPart", "([II)V"⟩, 11), (⟨"BucketSheet$Reader", "readRound", "()V"⟩, 11), (⟨"BucketSheet$Reader", "lookAtWords", "()V"⟩, 11), (⟨"BucketSheet", "tellAll", "()V"⟩, 11), (⟨"BucketSheet$Charge", "bring", "(II)V"⟩, 7)]
theorem lw_r1 : ∀ q ∈ lw_privs_1, lw_okq q := List.forall_mem_cons.mpr ⟨lw_p0, List.forall_mem_cons.mpr ⟨lw_p1, List.forall_mem_cons.mpr ⟨lw_p2, List.forall_mem_cons.mpr ⟨lw_p3, List.forall_mem_cons.mpr ⟨lw_p4, List.forall_mem_cons.mpr ⟨lw_p5, List.forall_mem_cons.mpr ⟨lw_p6, List.forall_mem_cons.mpr ⟨lw_p7, List.forall_mem_cons.mpr ⟨lw_p8, List.forall_mem_cons.mpr ⟨lw_p9, List.forall_mem_cons.mpr ⟨lw_p10, List.forall_mem_cons.mpr ⟨lw_p11, List.forall_mem_cons.mpr ⟨lw_p12, List.forall_mem_cons.mpr ⟨lw_p13, List.forall_mem_cons.mpr ⟨lw_p14, List.forall_mem_cons.mpr ⟨lw_p15, fun _ h => absurd h List.not_mem_nil⟩⟩⟩⟩⟩⟩⟩⟩⟩⟩⟩⟩⟩⟩⟩⟩
theorem lw_p16 : lw_okq (⟨"BucketSheet$Charge", "runOver", "(LBucketSheet$Plan;)V"⟩, 7) := ⟨⟨by decide +kernel, by decide +kernel⟩, List.mem_of_getElem? (i := 133) (by decide +kernel), List.mem_of_getElem? (i := 497) (by decide +kernel), List.mem_of_getElem? (i := 498) (by decide +kernel)⟩
theorem lw_p17 : lw_okq (⟨"BucketSheet$Charge", "spread", "(III)I"⟩, 7) := ⟨⟨by decide +kernel, by decide +kernel⟩, List.mem_of_getElem? (i := 133) (by decide +kernel), List.mem_of_getElem? (i := 501) (by decide +kernel), List.mem_of_getElem? (i := 502) (by decide +kernel)⟩
theorem lw_p18 : lw_okq (⟨"BucketSheet$Charge", "pourInto", "(III)I"⟩, 7) := ⟨⟨by decide +kernel, by decide +kernel⟩, List.mem_of_getElem? (i := 133) (by decide +kernel), List.mem_of_getElem? (i := 505) (by decide +kernel), List.mem_of_getElem? (i := 506) (by decide +kernel)⟩
theorem lw_p19 : lw_okq (⟨"BucketSheet$Charge", "rowsDown", "(I)V"⟩, 7) := ⟨⟨by decide +kernel, by decide +kernel⟩, List.mem_of_getElem? (i := 133) (by decide +kernel), List.mem_of_getElem? (i := 524) (by decide +kernel), List.mem_of_getElem? (i := 525) (by decide +kernel)⟩
theorem lw_p20 : lw_okq (⟨"BucketSheet$Charge", "trapAll", "(LBucketSheet$Plan;)V"⟩, 7) := ⟨⟨by decide +kernel, by decide +kernel⟩, List.mem_of_getElem? (i := 133) (by decide +kernel), List.mem_of_getElem? (i := 528) (by decide +kernel), List.mem_of_getElem? (i := 529) (by decide +kernel)⟩
theorem lw_p21 : lw_okq (⟨"BucketSheet", "fullWells", "()I"⟩, 11) := ⟨⟨by decide +kernel, by decide +kernel⟩, List.mem_of_getElem? (i := 18) (by decide +kernel), List.mem_of_getElem? (i := 558) (by decide +kernel), List.mem_of_getElem? (i := 559) (by decide +kernel)⟩
theorem lw_p22 : lw_okq (⟨"BucketSheet$Picture", "readRowOf", "(LBucketSheet$Plan;II)V"⟩, 4) := ⟨⟨by decide +kernel, by decide +kernel⟩, List.mem_of_getElem? (i := 170) (by decide +kernel), List.mem_of_getElem? (i := 590) (by decide +kernel), List.mem_of_getElem? (i := 591) (by decide +kernel)⟩
theorem lw_p23 : lw_okq (⟨"BucketSheet$Picture", "valueIn", "(I)I"⟩, 4) := ⟨⟨by decide +kernel, by decide +kernel⟩, List.mem_of_getElem? (i := 170) (by decide +kernel), List.mem_of_getElem? (i := 604) (by decide +kernel), List.mem_of_getElem? (i := 605) (by decide +kernel)⟩
theorem lw_p24 : lw_okq (⟨"BucketSheet", "comesInTick", "(I)I"⟩, 11) := ⟨⟨by decide +kernel, by decide +kernel⟩, List.mem_of_getElem? (i := 18) (by decide +kernel), List.mem_of_getElem? (i := 640) (by decide +kernel), List.mem_of_getElem? (i := 641) (by decide +kernel)⟩
theorem lw_p25 : lw_okq (⟨"BucketSheet", "isWord", "(I)Z"⟩, 11) := ⟨⟨by decide +kernel, by decide +kernel⟩, List.mem_of_getElem? (i := 18) (by decide +kernel), List.mem_of_getElem? (i := 668) (by decide +kernel), List.mem_of_getElem? (i := 669) (by decide +kernel)⟩
theorem lw_p26 : lw_okq (⟨"BucketSheet", "mostWord", "()I"⟩, 11) := ⟨⟨by decide +kernel, by decide +kernel⟩, List.mem_of_getElem? (i := 18) (by decide +kernel), List.mem_of_getElem? (i := 672) (by decide +kernel), List.mem_of_getElem? (i := 673) (by decide +kernel)⟩
theorem lw_p27 : lw_okq (⟨"BucketSheet$Gates", "listRegions", "()V"⟩, 13) := ⟨⟨by decide +kernel, by decide +kernel⟩, List.mem_of_getElem? (i := 193) (by decide +kernel), List.mem_of_getElem? (i := 692) (by decide +kernel), List.mem_of_getElem? (i := 693) (by decide +kernel)⟩
theorem lw_p28 : lw_okq (⟨"BucketSheet$Gates", "allHigh", "()I"⟩, 13) := ⟨⟨by decide +kernel, by decide +kernel⟩, List.mem_of_getElem? (i := 193) (by decide +kernel), List.mem_of_getElem? (i := 696) (by decide +kernel), List.mem_of_getElem? (i := 697) (by decide +kernel)⟩
theorem lw_p29 : lw_okq (⟨"BucketSheet$Gates", "beginsAt", "(II)Z"⟩, 13) := ⟨⟨by decide +kernel, by decide +kernel⟩, List.mem_of_getElem? (i := 193) (by decide +kernel), List.mem_of_getElem? (i := 700) (by decide +kernel), List.mem_of_getElem? (i := 701) (by decide +kernel)⟩
theorem lw_p30 : lw_okq (⟨"BucketSheet$Gates", "isHigh", "(II)Z"⟩, 13) := ⟨⟨by decide +kernel, by decide +kernel⟩, List.mem_of_getElem? (i := 193) (by decide +kernel), List.mem_of_getElem? (i := 704) (by decide +kernel), List.mem_of_getElem? (i := 705) (by decide +kernel)⟩
theorem lw_p31 : lw_okq (⟨"BucketSheet$Gates", "listGoing", "()V"⟩, 13) := ⟨⟨by decide +kernel, by decide +kernel⟩, List.mem_of_getElem? (i := 193) (by decide +kernel), List.mem_of_getElem? (i := 711) (by decide +kernel), List.mem_of_getElem? (i := 712) (by decide +kernel)⟩
def lw_privs_2 : List (MethodName × Nat) := [(⟨"BucketSheet$Charge", "runOver", "(LBucketSheet$Plan;)V"⟩, 7), (⟨"BucketSheet$Charge", "spread", "(III)I"⟩, 7), (⟨"BucketSheet$Charge", "pourInto", "(III)I"⟩, 7), (⟨"BucketSheet$Charge", "rowsDown", "(I)V"⟩, 7), (⟨"BucketSheet$Charge", "trapAll", "(LBucketSheet$Plan;)V"⟩, 7), (⟨"BucketSheet", "fullWells", "()I"⟩, 11), (⟨"BucketSheet$Picture", "readRowOf", "(LBucketSheet$Plan;II)V"⟩, 4), (⟨"BucketSheet$Picture", "valueIn", "(I)I"⟩, 4), (⟨"BucketSheet", "comesInTick", "(I)I"⟩, 11), (⟨"BucketSheet", "isWord", "(I)Z"⟩, 11), (⟨"BucketSheet", "mostWord", "()I"⟩, 11), (⟨"BucketSheet$Gates", "listRegions", "()V"⟩, 13), (⟨"BucketSheet$Gates", "allHigh", "()I"⟩, 13), (⟨"BucketSheet$Gates", "beginsAt", "(II)Z"⟩, 13), (⟨"BucketSheet$Gates", "isHigh", "(II)Z"⟩, 13), (⟨"BucketSheet$Gates", "listGoing", "()V"⟩, 13)]
theorem lw_r2 : ∀ q ∈ lw_privs_2, lw_okq q := List.forall_mem_cons.mpr ⟨lw_p16, List.forall_mem_cons.mpr ⟨lw_p17, List.forall_mem_cons.mpr ⟨lw_p18, List.forall_mem_cons.mpr ⟨lw_p19, List.forall_mem_cons.mpr ⟨lw_p20, List.forall_mem_cons.mpr ⟨lw_p21, List.forall_mem_cons.mpr ⟨lw_p22, List.forall_mem_cons.mpr ⟨lw_p23, List.forall_mem_cons.mpr ⟨lw_p24, List.forall_mem_cons.mpr ⟨lw_p25, List.forall_mem_cons.mpr ⟨lw_p26, List.forall_mem_cons.mpr ⟨lw_p27, List.forall_mem_cons.mpr ⟨lw_p28, List.forall_mem_cons.mpr ⟨lw_p29, List.forall_mem_cons.mpr ⟨lw_p30, List.forall_mem_cons.mpr ⟨lw_p31, fun _ h => absurd h List.not_mem_nil⟩⟩⟩⟩⟩⟩⟩⟩⟩⟩⟩⟩⟩⟩⟩⟩
theorem lw_p32 : lw_okq (⟨"BucketSheet$Gates", "lastOfRegion", "(II)I"⟩, 13) := ⟨⟨by decide +kernel, by decide +kernel⟩, List.mem_of_getElem? (i := 193) (by decide +kernel), List.mem_of_getElem? (i := 720) (by decide +kernel), List.mem_of_getElem? (i := 721) (by decide +kernel)⟩
theorem lw_p33 : lw_okq (⟨"BucketSheet$Gates", "firstOfRegion", "(II)I"⟩, 13) := ⟨⟨by decide +kernel, by decide +kernel⟩, List.mem_of_getElem? (i := 193) (by decide +kernel), List.mem_of_getElem? (i := 724) (by decide +kernel), List.mem_of_getElem? (i := 725) (by decide +kernel)⟩
theorem lw_p34 : lw_okq (⟨"BucketSheet$Gates", "wellsIn", "(I)I"⟩, 13) := ⟨⟨by decide +kernel, by decide +kernel⟩, List.mem_of_getElem? (i := 193) (by decide +kernel), List.mem_of_getElem? (i := 728) (by decide +kernel), List.mem_of_getElem? (i := 729) (by decide +kernel)⟩
theorem lw_p35 : lw_okq (⟨"BucketSheet$Gates", "goOnByAWord", "()V"⟩, 13) := ⟨⟨by decide +kernel, by decide +kernel⟩, List.mem_of_getElem? (i := 193) (by decide +kernel), List.mem_of_getElem? (i := 766) (by decide +kernel), List.mem_of_getElem? (i := 767) (by decide +kernel)⟩
theorem lw_p36 : lw_okq (⟨"BucketSheet$Gates", "addWays", "(III)V"⟩, 13) := ⟨⟨by decide +kernel, by decide +kernel⟩, List.mem_of_getElem? (i := 193) (by decide +kernel), List.mem_of_getElem? (i := 770) (by decide +kernel), List.mem_of_getElem? (i := 771) (by decide +kernel)⟩
theorem lw_p37 : lw_okq (⟨"BucketSheetModel", "firstDraft", "()V"⟩, 36) := ⟨⟨by decide +kernel, by decide +kernel⟩, List.mem_of_getElem? (i := 835) (by decide +kernel), List.mem_of_getElem? (i := 841) (by decide +kernel), List.mem_of_getElem? (i := 842) (by decide +kernel)⟩
theorem lw_p38 : lw_okq (⟨"BucketSheetModel", "keepDraft", "()V"⟩, 36) := ⟨⟨by decide +kernel, by decide +kernel⟩, List.mem_of_getElem? (i := 835) (by decide +kernel), List.mem_of_getElem? (i := 845) (by decide +kernel), List.mem_of_getElem? (i := 846) (by decide +kernel)⟩
theorem lw_p39 : lw_okq (⟨"BucketSheetModel", "clearSums", "()V"⟩, 36) := ⟨⟨by decide +kernel, by decide +kernel⟩, List.mem_of_getElem? (i := 835) (by decide +kernel), List.mem_of_getElem? (i := 854) (by decide +kernel), List.mem_of_getElem? (i := 855) (by decide +kernel)⟩
theorem lw_p40 : lw_okq (⟨"BucketSheetModel", "next", "()V"⟩, 36) := ⟨⟨by decide +kernel, by decide +kernel⟩, List.mem_of_getElem? (i := 835) (by decide +kernel), List.mem_of_getElem? (i := 980) (by decide +kernel), List.mem_of_getElem? (i := 981) (by decide +kernel)⟩
theorem lw_p41 : lw_okq (⟨"BucketSheetModel", "look", "(I)I"⟩, 36) := ⟨⟨by decide +kernel, by decide +kernel⟩, List.mem_of_getElem? (i := 835) (by decide +kernel), List.mem_of_getElem? (i := 984) (by decide +kernel), List.mem_of_getElem? (i := 985) (by decide +kernel)⟩
theorem lw_p42 : lw_okq (⟨"BucketSheetModel", "needs", "(ZI)V"⟩, 36) := ⟨⟨by decide +kernel, by decide +kernel⟩, List.mem_of_getElem? (i := 835) (by decide +kernel), List.mem_of_getElem? (i := 992) (by decide +kernel), List.mem_of_getElem? (i := 993) (by decide +kernel)⟩
theorem lw_p43 : lw_okq (⟨"BucketSheetModel", "readLine", "()V"⟩, 36) := ⟨⟨by decide +kernel, by decide +kernel⟩, List.mem_of_getElem? (i := 835) (by decide +kernel), List.mem_of_getElem? (i := 996) (by decide +kernel), List.mem_of_getElem? (i := 997) (by decide +kernel)⟩
theorem lw_p44 : lw_okq (⟨"BucketSheetModel", "nameNow", "()I"⟩, 36) := ⟨⟨by decide +kernel, by decide +kernel⟩, List.mem_of_getElem? (i := 835) (by decide +kernel), List.mem_of_getElem? (i := 1000) (by decide +kernel), List.mem_of_getElem? (i := 1001) (by decide +kernel)⟩
theorem lw_p45 : lw_okq (⟨"BucketSheetModel", "is", "(IIIII)Z"⟩, 36) := ⟨⟨by decide +kernel, by decide +kernel⟩, List.mem_of_getElem? (i := 835) (by decide +kernel), List.mem_of_getElem? (i := 1004) (by decide +kernel), List.mem_of_getElem? (i := 1005) (by decide +kernel)⟩
theorem lw_p46 : lw_okq (⟨"BucketSheetModel", "readRow", "()V"⟩, 36) := ⟨⟨by decide +kernel, by decide +kernel⟩, List.mem_of_getElem? (i := 835) (by decide +kernel), List.mem_of_getElem? (i := 1009) (by decide +kernel), List.mem_of_getElem? (i := 1010) (by decide +kernel)⟩
theorem lw_p47 : lw_okq (⟨"BucketSheetModel", "readNumber", "(II)I"⟩, 36) := ⟨⟨by decide +kernel, by decide +kernel⟩, List.mem_of_getElem? (i := 835) (by decide +kernel), List.mem_of_getElem? (i := 1013) (by decide +kernel), List.mem_of_getElem? (i := 1014) (by decide +kernel)⟩
def lw_privs_3 : List (MethodName × Nat) := [(⟨"BucketSheet$Gates", "lastOfRegion", "(II)I"⟩, 13), (⟨"BucketSheet$Gates", "firstOfRegion", "(II)I"⟩, 13), (⟨"BucketSheet$Gates", "wellsIn", "(I)I"⟩, 13), (⟨"BucketSheet$Gates", "goOnByAWord", "()V"⟩, 13), (⟨"BucketSheet$Gates", "addWays", "(III)V"⟩, 13), (⟨"BucketSheetModel", "firstDraft", "()V"⟩, 36), (⟨"BucketSheetModel", "keepDraft", "()V"⟩, 36), (⟨"BucketSheetModel", "clearSums", "()V"⟩, 36), (⟨"BucketSheetModel", "next", "()V"⟩, 36), (⟨"BucketSheetModel", "look", "(I)I"⟩, 36), (⟨"BucketSheetModel", "needs", "(ZI)V"⟩, 36), (⟨"BucketSheetModel", "readLine", "()V"⟩, 36), (⟨"BucketSheetModel", "nameNow", "()I"⟩, 36), (⟨"BucketSheetModel", "is", "(IIIII)Z"⟩, 36), (⟨"BucketSheetModel", "readRow", "()V"⟩, 36), (⟨"BucketSheetModel", "readNumber", "(II)I"⟩, 36)]
theorem lw_r3 : ∀ q ∈ lw_privs_3, lw_okq q := List.forall_mem_cons.mpr ⟨lw_p32, List.forall_mem_cons.mpr ⟨lw_p33, List.forall_mem_cons.mpr ⟨lw_p34, List.forall_mem_cons.mpr ⟨lw_p35, List.forall_mem_cons.mpr ⟨lw_p36, List.forall_mem_cons.mpr ⟨lw_p37, List.forall_mem_cons.mpr ⟨lw_p38, List.forall_mem_cons.mpr ⟨lw_p39, List.forall_mem_cons.mpr ⟨lw_p40, List.forall_mem_cons.mpr ⟨lw_p41, List.forall_mem_cons.mpr ⟨lw_p42, List.forall_mem_cons.mpr ⟨lw_p43, List.forall_mem_cons.mpr ⟨lw_p44, List.forall_mem_cons.mpr ⟨lw_p45, List.forall_mem_cons.mpr ⟨lw_p46, List.forall_mem_cons.mpr ⟨lw_p47, fun _ h => absurd h List.not_mem_nil⟩⟩⟩⟩⟩⟩⟩⟩⟩⟩⟩⟩⟩⟩⟩⟩
theorem lw_p48 : lw_okq (⟨"BucketSheetModel", "isNumber", "(II)V"⟩, 36) := ⟨⟨by decide +kernel, by decide +kernel⟩, List.mem_of_getElem? (i := 835) (by decide +kernel), List.mem_of_getElem? (i := 1017) (by decide +kernel), List.mem_of_getElem? (i := 1018) (by decide +kernel)⟩
theorem lw_p49 : lw_okq (⟨"BucketSheetModel", "readWell", "(Z)V"⟩, 36) := ⟨⟨by decide +kernel, by decide +kernel⟩, List.mem_of_getElem? (i := 835) (by decide +kernel), List.mem_of_getElem? (i := 1021) (by decide +kernel), List.mem_of_getElem? (i := 1022) (by decide +kernel)⟩
theorem lw_p50 : lw_okq (⟨"BucketSheetModel", "readRule", "(I)V"⟩, 36) := ⟨⟨by decide +kernel, by decide +kernel⟩, List.mem_of_getElem? (i := 835) (by decide +kernel), List.mem_of_getElem? (i := 1025) (by decide +kernel), List.mem_of_getElem? (i := 1026) (by decide +kernel)⟩
theorem lw_p51 : lw_okq (⟨"BucketSheetModel", "readClock", "()V"⟩, 36) := ⟨⟨by decide +kernel, by decide +kernel⟩, List.mem_of_getElem? (i := 835) (by decide +kernel), List.mem_of_getElem? (i := 1029) (by decide +kernel), List.mem_of_getElem? (i := 1030) (by decide +kernel)⟩
theorem lw_p52 : lw_okq (⟨"BucketSheetModel", "rateOf", "(I)I"⟩, 36) := ⟨⟨by decide +kernel, by decide +kernel⟩, List.mem_of_getElem? (i := 835) (by decide +kernel), List.mem_of_getElem? (i := 1061) (by decide +kernel), List.mem_of_getElem? (i := 1062) (by decide +kernel)⟩
theorem lw_p53 : lw_okq (⟨"BucketSheetModel", "comes", "(III)V"⟩, 36) := ⟨⟨by decide +kernel, by decide +kernel⟩, List.mem_of_getElem? (i := 835) (by decide +kernel), List.mem_of_getElem? (i := 1065) (by decide +kernel), List.mem_of_getElem? (i := 1066) (by decide +kernel)⟩
theorem lw_p54 : lw_okq (⟨"BucketSheetModel", "adds", "(III)V"⟩, 36) := ⟨⟨by decide +kernel, by decide +kernel⟩, List.mem_of_getElem? (i := 835) (by decide +kernel), List.mem_of_getElem? (i := 1069) (by decide +kernel), List.mem_of_getElem? (i := 1070) (by decide +kernel)⟩
theorem lw_p55 : lw_okq (⟨"BucketSheetModel", "runsOver", "(I)V"⟩, 36) := ⟨⟨by decide +kernel, by decide +kernel⟩, List.mem_of_getElem? (i := 835) (by decide +kernel), List.mem_of_getElem? (i := 1073) (by decide +kernel), List.mem_of_getElem? (i := 1074) (by decide +kernel)⟩
theorem lw_p56 : lw_okq (⟨"BucketSheetModel", "flows", "(III)I"⟩, 36) := ⟨⟨by decide +kernel, by decide +kernel⟩, List.mem_of_getElem? (i := 835) (by decide +kernel), List.mem_of_getElem? (i := 1077) (by decide +kernel), List.mem_of_getElem? (i := 1078) (by decide +kernel)⟩
theorem lw_p57 : lw_okq (⟨"BucketSheetModel", "sumOf", "(II)I"⟩, 36) := ⟨⟨by decide +kernel, by decide +kernel⟩, List.mem_of_getElem? (i := 835) (by decide +kernel), List.mem_of_getElem? (i := 1084) (by decide +kernel), List.mem_of_getElem? (i := 1085) (by decide +kernel)⟩
theorem lw_p58 : lw_okq (⟨"BucketSheetModel", "handsDown", "(IZI)V"⟩, 36) := ⟨⟨by decide +kernel, by decide +kernel⟩, List.mem_of_getElem? (i := 835) (by decide +kernel), List.mem_of_getElem? (i := 1092) (by decide +kernel), List.mem_of_getElem? (i := 1093) (by decide +kernel)⟩
theorem lw_p59 : lw_okq (⟨"BucketSheetModel", "toLine", "(III)V"⟩, 36) := ⟨⟨by decide +kernel, by decide +kernel⟩, List.mem_of_getElem? (i := 835) (by decide +kernel), List.mem_of_getElem? (i := 1096) (by decide +kernel), List.mem_of_getElem? (i := 1097) (by decide +kernel)⟩
theorem lw_p60 : lw_okq (⟨"BucketSheetModel", "traps", "(II)V"⟩, 36) := ⟨⟨by decide +kernel, by decide +kernel⟩, List.mem_of_getElem? (i := 835) (by decide +kernel), List.mem_of_getElem? (i := 1100) (by decide +kernel), List.mem_of_getElem? (i := 1101) (by decide +kernel)⟩
theorem lw_p61 : lw_okq (⟨"BucketSheetModel", "lineSum", "(I)I"⟩, 36) := ⟨⟨by decide +kernel, by decide +kernel⟩, List.mem_of_getElem? (i := 835) (by decide +kernel), List.mem_of_getElem? (i := 1104) (by decide +kernel), List.mem_of_getElem? (i := 1105) (by decide +kernel)⟩
theorem lw_p62 : lw_okq (⟨"BucketSheetModel", "takes", "(I)I"⟩, 36) := ⟨⟨by decide +kernel, by decide +kernel⟩, List.mem_of_getElem? (i := 835) (by decide +kernel), List.mem_of_getElem? (i := 1112) (by decide +kernel), List.mem_of_getElem? (i := 1113) (by decide +kernel)⟩
theorem lw_p63 : lw_okq (⟨"BucketSheetModel", "shadeOf", "(I)I"⟩, 36) := ⟨⟨by decide +kernel, by decide +kernel⟩, List.mem_of_getElem? (i := 835) (by decide +kernel), List.mem_of_getElem? (i := 1116) (by decide +kernel), List.mem_of_getElem? (i := 1117) (by decide +kernel)⟩
def lw_privs_4 : List (MethodName × Nat) := [(⟨"BucketSheetModel", "isNumber", "(II)V"⟩, 36), (⟨"BucketSheetModel", "readWell", "(Z)V"⟩, 36), (⟨"BucketSheetModel", "readRule", "(I)V"⟩, 36), (⟨"BucketSheetModel", "readClock", "()V"⟩, 36), (⟨"BucketSheetModel", "rateOf", "(I)I"⟩, 36), (⟨"BucketSheetModel", "comes", "(III)V"⟩, 36), (⟨"BucketSheetModel", "adds", "(III)V"⟩, 36), (⟨"BucketSheetModel", "runsOver", "(I)V"⟩, 36), (⟨"BucketSheetModel", "flows", "(III)I"⟩, 36), (⟨"BucketSheetModel", "sumOf", "(II)I"⟩, 36), (⟨"BucketSheetModel", "handsDown", "(IZI)V"⟩, 36), (⟨"BucketSheetModel", "toLine", "(III)V"⟩, 36), (⟨"BucketSheetModel", "traps", "(II)V"⟩, 36), (⟨"BucketSheetModel", "lineSum", "(I)I"⟩, 36), (⟨"BucketSheetModel", "takes", "(I)I"⟩, 36), (⟨"BucketSheetModel", "shadeOf", "(I)I"⟩, 36)]
theorem lw_r4 : ∀ q ∈ lw_privs_4, lw_okq q := List.forall_mem_cons.mpr ⟨lw_p48, List.forall_mem_cons.mpr ⟨lw_p49, List.forall_mem_cons.mpr ⟨lw_p50, List.forall_mem_cons.mpr ⟨lw_p51, List.forall_mem_cons.mpr ⟨lw_p52, List.forall_mem_cons.mpr ⟨lw_p53, List.forall_mem_cons.mpr ⟨lw_p54, List.forall_mem_cons.mpr ⟨lw_p55, List.forall_mem_cons.mpr ⟨lw_p56, List.forall_mem_cons.mpr ⟨lw_p57, List.forall_mem_cons.mpr ⟨lw_p58, List.forall_mem_cons.mpr ⟨lw_p59, List.forall_mem_cons.mpr ⟨lw_p60, List.forall_mem_cons.mpr ⟨lw_p61, List.forall_mem_cons.mpr ⟨lw_p62, List.forall_mem_cons.mpr ⟨lw_p63, fun _ h => absurd h List.not_mem_nil⟩⟩⟩⟩⟩⟩⟩⟩⟩⟩⟩⟩⟩⟩⟩⟩
theorem lw_p64 : lw_okq (⟨"BucketSheetModel", "shoots", "(IIZI)V"⟩, 36) := ⟨⟨by decide +kernel, by decide +kernel⟩, List.mem_of_getElem? (i := 835) (by decide +kernel), List.mem_of_getElem? (i := 1145) (by decide +kernel), List.mem_of_getElem? (i := 1146) (by decide +kernel)⟩
theorem lw_p65 : lw_okq (⟨"BucketSheetModel", "copies", "(II)V"⟩, 36) := ⟨⟨by decide +kernel, by decide +kernel⟩, List.mem_of_getElem? (i := 835) (by decide +kernel), List.mem_of_getElem? (i := 1149) (by decide +kernel), List.mem_of_getElem? (i := 1150) (by decide +kernel)⟩
theorem lw_p66 : lw_okq (⟨"BucketSheetModel", "isWord", "(I)Z"⟩, 36) := ⟨⟨by decide +kernel, by decide +kernel⟩, List.mem_of_getElem? (i := 835) (by decide +kernel), List.mem_of_getElem? (i := 1195) (by decide +kernel), List.mem_of_getElem? (i := 1196) (by decide +kernel)⟩
theorem lw_p67 : lw_okq (⟨"BucketSheetModel", "full", "()I"⟩, 36) := ⟨⟨by decide +kernel, by decide +kernel⟩, List.mem_of_getElem? (i := 835) (by decide +kernel), List.mem_of_getElem? (i := 1199) (by decide +kernel), List.mem_of_getElem? (i := 1200) (by decide +kernel)⟩
theorem lw_p68 : lw_okq (⟨"BucketSheetModel", "isGood", "(I)Z"⟩, 36) := ⟨⟨by decide +kernel, by decide +kernel⟩, List.mem_of_getElem? (i := 835) (by decide +kernel), List.mem_of_getElem? (i := 1216) (by decide +kernel), List.mem_of_getElem? (i := 1217) (by decide +kernel)⟩
theorem lw_p69 : lw_okq (⟨"BucketSheetModel", "isHigh", "(II)Z"⟩, 36) := ⟨⟨by decide +kernel, by decide +kernel⟩, List.mem_of_getElem? (i := 835) (by decide +kernel), List.mem_of_getElem? (i := 1220) (by decide +kernel), List.mem_of_getElem? (i := 1221) (by decide +kernel)⟩
theorem lw_p70 : lw_okq (⟨"BucketSheetModel", "firstBegin", "(I)I"⟩, 36) := ⟨⟨by decide +kernel, by decide +kernel⟩, List.mem_of_getElem? (i := 835) (by decide +kernel), List.mem_of_getElem? (i := 1224) (by decide +kernel), List.mem_of_getElem? (i := 1225) (by decide +kernel)⟩
theorem lw_p71 : lw_okq (⟨"BucketSheetModel", "wrong", "(III)I"⟩, 36) := ⟨⟨by decide +kernel, by decide +kernel⟩, List.mem_of_getElem? (i := 835) (by decide +kernel), List.mem_of_getElem? (i := 1228) (by decide +kernel), List.mem_of_getElem? (i := 1229) (by decide +kernel)⟩
theorem lw_p72 : lw_okq (⟨"BucketSheetModel", "findMeets", "(III)V"⟩, 36) := ⟨⟨by decide +kernel, by decide +kernel⟩, List.mem_of_getElem? (i := 835) (by decide +kernel), List.mem_of_getElem? (i := 1232) (by decide +kernel), List.mem_of_getElem? (i := 1233) (by decide +kernel)⟩
theorem lw_p73 : lw_okq (⟨"BucketSheetModel", "beginOf", "(II)I"⟩, 36) := ⟨⟨by decide +kernel, by decide +kernel⟩, List.mem_of_getElem? (i := 835) (by decide +kernel), List.mem_of_getElem? (i := 1236) (by decide +kernel), List.mem_of_getElem? (i := 1237) (by decide +kernel)⟩
theorem lw_p74 : lw_okq (⟨"BucketSheetModel", "goesTo", "(III)I"⟩, 36) := ⟨⟨by decide +kernel, by decide +kernel⟩, List.mem_of_getElem? (i := 835) (by decide +kernel), List.mem_of_getElem? (i := 1240) (by decide +kernel), List.mem_of_getElem? (i := 1241) (by decide +kernel)⟩
theorem lw_p75 : lw_okq (⟨"BucketSheetModel", "wells", "(I)I"⟩, 36) := ⟨⟨by decide +kernel, by decide +kernel⟩, List.mem_of_getElem? (i := 835) (by decide +kernel), List.mem_of_getElem? (i := 1244) (by decide +kernel), List.mem_of_getElem? (i := 1245) (by decide +kernel)⟩
theorem lw_p76 : lw_okq (⟨"BucketSheetModel", "roundsOf", "(III)J"⟩, 36) := ⟨⟨by decide +kernel, by decide +kernel⟩, List.mem_of_getElem? (i := 835) (by decide +kernel), List.mem_of_getElem? (i := 1256) (by decide +kernel), List.mem_of_getElem? (i := 1257) (by decide +kernel)⟩
theorem lw_p77 : lw_okq (⟨"BucketSheetModel", "leads", "(I)V"⟩, 36) := ⟨⟨by decide +kernel, by decide +kernel⟩, List.mem_of_getElem? (i := 835) (by decide +kernel), List.mem_of_getElem? (i := 1260) (by decide +kernel), List.mem_of_getElem? (i := 1261) (by decide +kernel)⟩
def lw_privs_5 : List (MethodName × Nat) := [(⟨"BucketSheetModel", "shoots", "(IIZI)V"⟩, 36), (⟨"BucketSheetModel", "copies", "(II)V"⟩, 36), (⟨"BucketSheetModel", "isWord", "(I)Z"⟩, 36), (⟨"BucketSheetModel", "full", "()I"⟩, 36), (⟨"BucketSheetModel", "isGood", "(I)Z"⟩, 36), (⟨"BucketSheetModel", "isHigh", "(II)Z"⟩, 36), (⟨"BucketSheetModel", "firstBegin", "(I)I"⟩, 36), (⟨"BucketSheetModel", "wrong", "(III)I"⟩, 36), (⟨"BucketSheetModel", "findMeets", "(III)V"⟩, 36), (⟨"BucketSheetModel", "beginOf", "(II)I"⟩, 36), (⟨"BucketSheetModel", "goesTo", "(III)I"⟩, 36), (⟨"BucketSheetModel", "wells", "(I)I"⟩, 36), (⟨"BucketSheetModel", "roundsOf", "(III)J"⟩, 36), (⟨"BucketSheetModel", "leads", "(I)V"⟩, 36)]
theorem lw_r5 : ∀ q ∈ lw_privs_5, lw_okq q := List.forall_mem_cons.mpr ⟨lw_p64, List.forall_mem_cons.mpr ⟨lw_p65, List.forall_mem_cons.mpr ⟨lw_p66, List.forall_mem_cons.mpr ⟨lw_p67, List.forall_mem_cons.mpr ⟨lw_p68, List.forall_mem_cons.mpr ⟨lw_p69, List.forall_mem_cons.mpr ⟨lw_p70, List.forall_mem_cons.mpr ⟨lw_p71, List.forall_mem_cons.mpr ⟨lw_p72, List.forall_mem_cons.mpr ⟨lw_p73, List.forall_mem_cons.mpr ⟨lw_p74, List.forall_mem_cons.mpr ⟨lw_p75, List.forall_mem_cons.mpr ⟨lw_p76, List.forall_mem_cons.mpr ⟨lw_p77, fun _ h => absurd h List.not_mem_nil⟩⟩⟩⟩⟩⟩⟩⟩⟩⟩⟩⟩⟩⟩
def lw_privs : List (MethodName × Nat) := lw_privs_1 ++ (lw_privs_2 ++ (lw_privs_3 ++ (lw_privs_4 ++ (lw_privs_5))))
def lw_tbl : List Cond := k2_sels lw_privs ++ tables_1
theorem lw_privs_ok : ∀ q ∈ lw_privs, lw_okq q := by
  show ∀ q ∈ lw_privs_1 ++ (lw_privs_2 ++ (lw_privs_3 ++ (lw_privs_4 ++ (lw_privs_5)))), lw_okq q
  exact List.forall_mem_append.mpr ⟨lw_r1, List.forall_mem_append.mpr ⟨lw_r2, List.forall_mem_append.mpr ⟨lw_r3, List.forall_mem_append.mpr ⟨lw_r4, lw_r5⟩⟩⟩⟩

def RX0 : String := "BucketSheet$Charge"
def TX0 : u_T := fun k => match k with
  | 0 => ("BucketSheet$Charge", "light", "[I", true)
  | 1 => ("BucketSheet$Charge", "wells", "[I", true)
  | 2 => ("BucketSheet$Charge", "held", "[I", true)
  | 3 => ("BucketSheet$Charge", "line", "[I", true)
  | 4 => ("BucketSheet$Charge", "lost", "J", false)
  | 5 => ("BucketSheet$Charge", "readOut", "J", false)
  | _ => ("BucketSheet$Charge", "came", "J", false)
def tyX0 : Nat → FieldType := fun k => match k with
  | 0 => .array .int
  | 1 => .array .int
  | 2 => .array .int
  | 3 => .array .int
  | 4 => .long
  | 5 => .long
  | _ => .long
abbrev wsX00 : List Cond := u_ws RX0 TX0 7
theorem nmX0 : ∀ a, a < 7 → ∀ b, b < 7 → a ≠ b → (TX0 a).2.1 ≠ (TX0 b).2.1 := by decide +kernel
theorem tyX0_ok : ∀ k, k < 7 → parseFieldDescriptor (TX0 k).2.2.1 = some (tyX0 k) := by decide +kernel
abbrev cX0_init : ByteArray := prog_2_method_1_code
def yX0_init : MethodName := ⟨RX0, "<init>", "()V"⟩
abbrev cX0_takeFrom : ByteArray := prog_2_method_2_code
def yX0_takeFrom : MethodName := ⟨RX0, "takeFrom", "(LBucketSheet$Charge;)V"⟩
abbrev cX0_drainAll : ByteArray := prog_2_method_3_code
def yX0_drainAll : MethodName := ⟨RX0, "drainAll", "()V"⟩
abbrev cX0_fillFor : ByteArray := prog_2_method_4_code
def yX0_fillFor : MethodName := ⟨RX0, "fillFor", "(ILBucketSheet$Plan;)V"⟩
abbrev cX0_bring : ByteArray := prog_2_method_5_code
def yX0_bring : MethodName := ⟨RX0, "bring", "(II)V"⟩
abbrev cX0_runOver : ByteArray := prog_2_method_6_code
def yX0_runOver : MethodName := ⟨RX0, "runOver", "(LBucketSheet$Plan;)V"⟩
abbrev cX0_spread : ByteArray := prog_2_method_7_code
def yX0_spread : MethodName := ⟨RX0, "spread", "(III)I"⟩
abbrev cX0_pourInto : ByteArray := prog_2_method_8_code
def yX0_pourInto : MethodName := ⟨RX0, "pourInto", "(III)I"⟩
abbrev cX0_handDown : ByteArray := prog_2_method_9_code
def yX0_handDown : MethodName := ⟨RX0, "handDown", "(LBucketSheet$Plan;Z)V"⟩
abbrev cX0_rowsDown : ByteArray := prog_2_method_10_code
def yX0_rowsDown : MethodName := ⟨RX0, "rowsDown", "(I)V"⟩
abbrev cX0_trapAll : ByteArray := prog_2_method_11_code
def yX0_trapAll : MethodName := ⟨RX0, "trapAll", "(LBucketSheet$Plan;)V"⟩
abbrev cX0_readOne : ByteArray := prog_2_method_12_code
def yX0_readOne : MethodName := ⟨RX0, "readOne", "()I"⟩
def RX1 : String := "BucketSheet$Gates"
def TX1 : u_T := fun k => match k with
  | 0 => ("BucketSheet$Gates", "phases", "I", false)
  | 1 => ("BucketSheet$Gates", "landed", "I", false)
  | 2 => ("BucketSheet$Gates", "wrong", "I", false)
  | 3 => ("BucketSheet$Gates", "wrongAt", "I", false)
  | 4 => ("BucketSheet$Gates", "carried", "I", false)
  | 5 => ("BucketSheet$Gates", "wordOf", "[I", true)
  | 6 => ("BucketSheet$Gates", "startIn", "[I", true)
  | 7 => ("BucketSheet$Gates", "regions", "I", false)
  | 8 => ("BucketSheet$Gates", "regionAt", "[I", true)
  | 9 => ("BucketSheet$Gates", "goesTo", "[I", true)
  | 10 => ("BucketSheet$Gates", "goesBy", "[I", true)
  | 11 => ("BucketSheet$Gates", "ways", "[J", false)
  | _ => ("BucketSheet$Gates", "waysNext", "[J", false)
def tyX1 : Nat → FieldType := fun k => match k with
  | 0 => .int
  | 1 => .int
  | 2 => .int
  | 3 => .int
  | 4 => .int
  | 5 => .array .int
  | 6 => .array .int
  | 7 => .int
  | 8 => .array .int
  | 9 => .array .int
  | 10 => .array .int
  | 11 => .array .long
  | _ => .array .long
abbrev wsX10 : List Cond := u_ws RX1 TX1 13
theorem nmX1 : ∀ a, a < 13 → ∀ b, b < 13 → a ≠ b → (TX1 a).2.1 ≠ (TX1 b).2.1 := by decide +kernel
theorem tyX1_ok : ∀ k, k < 13 → parseFieldDescriptor (TX1 k).2.2.1 = some (tyX1 k) := by decide +kernel
abbrev cX1_init : ByteArray := prog_3_method_1_code
def yX1_init : MethodName := ⟨RX1, "<init>", "()V"⟩
abbrev cX1_bePhases : ByteArray := prog_3_method_2_code
def yX1_bePhases : MethodName := ⟨RX1, "bePhases", "(I)V"⟩
abbrev cX1_allHigh : ByteArray := prog_3_method_3_code
def yX1_allHigh : MethodName := ⟨RX1, "allHigh", "()I"⟩
abbrev cX1_isHigh : ByteArray := prog_3_method_4_code
def yX1_isHigh : MethodName := ⟨RX1, "isHigh", "(II)Z"⟩
abbrev cX1_beginsAt : ByteArray := prog_3_method_5_code
def yX1_beginsAt : MethodName := ⟨RX1, "beginsAt", "(II)Z"⟩
abbrev cX1_isGood : ByteArray := prog_3_method_6_code
def yX1_isGood : MethodName := ⟨RX1, "isGood", "(I)Z"⟩
abbrev cX1_startOf : ByteArray := prog_3_method_7_code
def yX1_startOf : MethodName := ⟨RX1, "startOf", "(I)I"⟩
abbrev cX1_firstOfRegion : ByteArray := prog_3_method_8_code
def yX1_firstOfRegion : MethodName := ⟨RX1, "firstOfRegion", "(II)I"⟩
abbrev cX1_lastOfRegion : ByteArray := prog_3_method_9_code
def yX1_lastOfRegion : MethodName := ⟨RX1, "lastOfRegion", "(II)I"⟩
abbrev cX1_fare : ByteArray := prog_3_method_10_code
def yX1_fare : MethodName := ⟨RX1, "fare", "(III)I"⟩
abbrev cX1_goRound : ByteArray := prog_3_method_11_code
def yX1_goRound : MethodName := ⟨RX1, "goRound", "(LBucketSheet$Plan;)V"⟩
abbrev cX1_wellsIn : ByteArray := prog_3_method_12_code
def yX1_wellsIn : MethodName := ⟨RX1, "wellsIn", "(I)I"⟩
abbrev cX1_listRegions : ByteArray := prog_3_method_13_code
def yX1_listRegions : MethodName := ⟨RX1, "listRegions", "()V"⟩
abbrev cX1_listGoing : ByteArray := prog_3_method_14_code
def yX1_listGoing : MethodName := ⟨RX1, "listGoing", "()V"⟩
abbrev cX1_waysRound : ByteArray := prog_3_method_15_code
def yX1_waysRound : MethodName := ⟨RX1, "waysRound", "(III)J"⟩
abbrev cX1_goOnByAWord : ByteArray := prog_3_method_16_code
def yX1_goOnByAWord : MethodName := ⟨RX1, "goOnByAWord", "()V"⟩
abbrev cX1_addWays : ByteArray := prog_3_method_17_code
def yX1_addWays : MethodName := ⟨RX1, "addWays", "(III)V"⟩
def RX2 : String := "BucketSheet$Picture"
def TX2 : u_T := fun k => match k with
  | 0 => ("BucketSheet$Picture", "shadow", "LBucketSheet$Charge;", true)
  | 1 => ("BucketSheet$Picture", "values", "[I", true)
  | 2 => ("BucketSheet$Picture", "rows", "I", false)
  | _ => ("BucketSheet$Picture", "columns", "I", false)
def tyX2 : Nat → FieldType := fun k => match k with
  | 0 => .object "BucketSheet$Charge"
  | 1 => .array .int
  | 2 => .int
  | _ => .int
abbrev wsX20 : List Cond := u_ws RX2 TX2 4
theorem nmX2 : ∀ a, a < 4 → ∀ b, b < 4 → a ≠ b → (TX2 a).2.1 ≠ (TX2 b).2.1 := by decide +kernel
theorem tyX2_ok : ∀ k, k < 4 → parseFieldDescriptor (TX2 k).2.2.1 = some (tyX2 k) := by decide +kernel
abbrev cX2_init : ByteArray := prog_4_method_1_code
def yX2_init : MethodName := ⟨RX2, "<init>", "()V"⟩
abbrev cX2_make : ByteArray := prog_4_method_2_code
def yX2_make : MethodName := ⟨RX2, "make", "(LBucketSheet$Charge;LBucketSheet$Plan;IIZ)V"⟩
abbrev cX2_readRowOf : ByteArray := prog_4_method_3_code
def yX2_readRowOf : MethodName := ⟨RX2, "readRowOf", "(LBucketSheet$Plan;II)V"⟩
abbrev cX2_greatest : ByteArray := prog_4_method_4_code
def yX2_greatest : MethodName := ⟨RX2, "greatest", "()I"⟩
abbrev cX2_least : ByteArray := prog_4_method_5_code
def yX2_least : MethodName := ⟨RX2, "least", "()I"⟩
abbrev cX2_summed : ByteArray := prog_4_method_6_code
def yX2_summed : MethodName := ⟨RX2, "summed", "()I"⟩
abbrev cX2_brightest : ByteArray := prog_4_method_7_code
def yX2_brightest : MethodName := ⟨RX2, "brightest", "()I"⟩
abbrev cX2_valueIn : ByteArray := prog_4_method_8_code
def yX2_valueIn : MethodName := ⟨RX2, "valueIn", "(I)I"⟩
def RX3 : String := "BucketSheet$Plan"
def TX3 : u_T := fun k => match k with
  | 0 => ("BucketSheet$Plan", "rules", "[I", true)
  | 1 => ("BucketSheet$Plan", "hot", "[I", true)
  | 2 => ("BucketSheet$Plan", "trap", "[I", true)
  | 3 => ("BucketSheet$Plan", "round", "[I", true)
  | _ => ("BucketSheet$Plan", "roundLength", "I", false)
def tyX3 : Nat → FieldType := fun k => match k with
  | 0 => .array .int
  | 1 => .array .int
  | 2 => .array .int
  | 3 => .array .int
  | _ => .int
abbrev wsX30 : List Cond := u_ws RX3 TX3 5
theorem nmX3 : ∀ a, a < 5 → ∀ b, b < 5 → a ≠ b → (TX3 a).2.1 ≠ (TX3 b).2.1 := by decide +kernel
theorem tyX3_ok : ∀ k, k < 5 → parseFieldDescriptor (TX3 k).2.2.1 = some (tyX3 k) := by decide +kernel
abbrev cX3_init : ByteArray := prog_5_method_1_code
def yX3_init : MethodName := ⟨RX3, "<init>", "()V"⟩
abbrev cX3_beAsAtFirst : ByteArray := prog_5_method_2_code
def yX3_beAsAtFirst : MethodName := ⟨RX3, "beAsAtFirst", "()V"⟩
abbrev cX3_takeFrom : ByteArray := prog_5_method_3_code
def yX3_takeFrom : MethodName := ⟨RX3, "takeFrom", "(LBucketSheet$Plan;)V"⟩
def RX4 : String := "BucketSheet$Reader"
def TX4 : u_T := fun k => match k with
  | 0 => ("BucketSheet$Reader", "tape", "LBucketSheet$Tape;", true)
  | 1 => ("BucketSheet$Reader", "told", "LBucketSheet$Plan;", true)
  | 2 => ("BucketSheet$Reader", "toldLight", "[I", true)
  | 3 => ("BucketSheet$Reader", "seen", "[Z", true)
  | 4 => ("BucketSheet$Reader", "at", "I", false)
  | 5 => ("BucketSheet$Reader", "token", "I", false)
  | 6 => ("BucketSheet$Reader", "start", "I", false)
  | 7 => ("BucketSheet$Reader", "value", "I", false)
  | 8 => ("BucketSheet$Reader", "rows", "I", false)
  | 9 => ("BucketSheet$Reader", "place", "I", false)
  | _ => ("BucketSheet$Reader", "found", "I", false)
def tyX4 : Nat → FieldType := fun k => match k with
  | 0 => .object "BucketSheet$Tape"
  | 1 => .object "BucketSheet$Plan"
  | 2 => .array .int
  | 3 => .array .boolean
  | 4 => .int
  | 5 => .int
  | 6 => .int
  | 7 => .int
  | 8 => .int
  | 9 => .int
  | _ => .int
abbrev wsX40 : List Cond := u_ws RX4 TX4 11
theorem nmX4 : ∀ a, a < 11 → ∀ b, b < 11 → a ≠ b → (TX4 a).2.1 ≠ (TX4 b).2.1 := by decide +kernel
theorem tyX4_ok : ∀ k, k < 11 → parseFieldDescriptor (TX4 k).2.2.1 = some (tyX4 k) := by decide +kernel
abbrev cX4_init : ByteArray := prog_6_method_1_code
def yX4_init : MethodName := ⟨RX4, "<init>", "(LBucketSheet$Tape;)V"⟩
abbrev cX4_readAll : ByteArray := prog_6_method_2_code
def yX4_readAll : MethodName := ⟨RX4, "readAll", "()I"⟩
abbrev cX4_begin : ByteArray := prog_6_method_3_code
def yX4_begin : MethodName := ⟨RX4, "begin", "()V"⟩
abbrev cX4_fail : ByteArray := prog_6_method_4_code
def yX4_fail : MethodName := ⟨RX4, "fail", "(II)V"⟩
abbrev cX4_fetch : ByteArray := prog_6_method_5_code
def yX4_fetch : MethodName := ⟨RX4, "fetch", "()V"⟩
abbrev cX4_takeAlike : ByteArray := prog_6_method_6_code
def yX4_takeAlike : MethodName := ⟨RX4, "takeAlike", "()V"⟩
abbrev cX4_tokenOf : ByteArray := prog_6_method_7_code
def yX4_tokenOf : MethodName := ⟨RX4, "tokenOf", "(I)I"⟩
abbrev cX4_readLine : ByteArray := prog_6_method_8_code
def yX4_readLine : MethodName := ⟨RX4, "readLine", "()V"⟩
abbrev cX4_mayBegin : ByteArray := prog_6_method_9_code
def yX4_mayBegin : MethodName := ⟨RX4, "mayBegin", "(I)Z"⟩
abbrev cX4_kindHere : ByteArray := prog_6_method_10_code
def yX4_kindHere : MethodName := ⟨RX4, "kindHere", "()I"⟩
abbrev cX4_nameOf : ByteArray := prog_6_method_11_code
def yX4_nameOf : MethodName := ⟨RX4, "nameOf", "(I)Ljava/lang/String;"⟩
abbrev cX4_spells : ByteArray := prog_6_method_12_code
def yX4_spells : MethodName := ⟨RX4, "spells", "(Ljava/lang/String;)Z"⟩
abbrev cX4_readRow : ByteArray := prog_6_method_13_code
def yX4_readRow : MethodName := ⟨RX4, "readRow", "()V"⟩
abbrev cX4_readPart : ByteArray := prog_6_method_14_code
def yX4_readPart : MethodName := ⟨RX4, "readPart", "([II)V"⟩
abbrev cX4_readRound : ByteArray := prog_6_method_15_code
def yX4_readRound : MethodName := ⟨RX4, "readRound", "()V"⟩
abbrev cX4_number : ByteArray := prog_6_method_16_code
def yX4_number : MethodName := ⟨RX4, "number", "(II)I"⟩
abbrev cX4_numberHere : ByteArray := prog_6_method_17_code
def yX4_numberHere : MethodName := ⟨RX4, "numberHere", "(II)I"⟩
abbrev cX4_lookAtWords : ByteArray := prog_6_method_18_code
def yX4_lookAtWords : MethodName := ⟨RX4, "lookAtWords", "()V"⟩
def RX5 : String := "BucketSheet$Sheet"
def TX5 : u_T := fun k => match k with
  | 0 => ("BucketSheet$Sheet", "cells", "[I", true)
  | 1 => ("BucketSheet$Sheet", "lane", "I", false)
  | _ => ("BucketSheet$Sheet", "length", "I", false)
def tyX5 : Nat → FieldType := fun k => match k with
  | 0 => .array .int
  | 1 => .int
  | _ => .int
abbrev wsX50 : List Cond := u_ws RX5 TX5 3
theorem nmX5 : ∀ a, a < 3 → ∀ b, b < 3 → a ≠ b → (TX5 a).2.1 ≠ (TX5 b).2.1 := by decide +kernel
theorem tyX5_ok : ∀ k, k < 3 → parseFieldDescriptor (TX5 k).2.2.1 = some (tyX5 k) := by decide +kernel
abbrev cX5_init : ByteArray := prog_7_method_1_code
def yX5_init : MethodName := ⟨RX5, "<init>", "()V"⟩
abbrev cX5_renew : ByteArray := prog_7_method_2_code
def yX5_renew : MethodName := ⟨RX5, "renew", "(II)V"⟩
abbrev cX5_faultAt : ByteArray := prog_7_method_3_code
def yX5_faultAt : MethodName := ⟨RX5, "faultAt", "(II)I"⟩
abbrev cX5_pairFaultAt : ByteArray := prog_7_method_4_code
def yX5_pairFaultAt : MethodName := ⟨RX5, "pairFaultAt", "(II)I"⟩
abbrev cX5_put : ByteArray := prog_7_method_5_code
def yX5_put : MethodName := ⟨RX5, "put", "(II)V"⟩
def RX6 : String := "BucketSheet$Tape"
def TX6 : u_T := fun k => match k with
  | 0 => ("BucketSheet$Tape", "bytes", "[B", true)
  | _ => ("BucketSheet$Tape", "length", "I", false)
def tyX6 : Nat → FieldType := fun k => match k with
  | 0 => .array .byte
  | _ => .int
abbrev wsX60 : List Cond := u_ws RX6 TX6 2
theorem nmX6 : ∀ a, a < 2 → ∀ b, b < 2 → a ≠ b → (TX6 a).2.1 ≠ (TX6 b).2.1 := by decide +kernel
theorem tyX6_ok : ∀ k, k < 2 → parseFieldDescriptor (TX6 k).2.2.1 = some (tyX6 k) := by decide +kernel
abbrev cX6_init : ByteArray := prog_8_method_1_code
def yX6_init : MethodName := ⟨RX6, "<init>", "()V"⟩
abbrev cX6_append : ByteArray := prog_8_method_2_code
def yX6_append : MethodName := ⟨RX6, "append", "(J)I"⟩
abbrev cX6_byteAt : ByteArray := prog_8_method_3_code
def yX6_byteAt : MethodName := ⟨RX6, "byteAt", "(I)I"⟩
def RX7 : String := "BucketSheet"
def TX7 : u_T := fun k => match k with
  | 0 => ("BucketSheet", "tape", "LBucketSheet$Tape;", true)
  | 1 => ("BucketSheet", "plan", "LBucketSheet$Plan;", true)
  | 2 => ("BucketSheet", "reader", "LBucketSheet$Reader;", true)
  | 3 => ("BucketSheet", "charge", "LBucketSheet$Charge;", true)
  | 4 => ("BucketSheet", "images", "[LBucketSheet$Charge;", true)
  | 5 => ("BucketSheet", "kept", "[Z", true)
  | 6 => ("BucketSheet", "asItIs", "LBucketSheet$Picture;", true)
  | 7 => ("BucketSheet", "unspoiled", "LBucketSheet$Picture;", true)
  | 8 => ("BucketSheet", "gates", "LBucketSheet$Gates;", true)
  | 9 => ("BucketSheet", "sheets", "[LBucketSheet$Sheet;", true)
  | _ => ("BucketSheet", "tornBy", "I", false)
def tyX7 : Nat → FieldType := fun k => match k with
  | 0 => .object "BucketSheet$Tape"
  | 1 => .object "BucketSheet$Plan"
  | 2 => .object "BucketSheet$Reader"
  | 3 => .object "BucketSheet$Charge"
  | 4 => .array (.object "BucketSheet$Charge")
  | 5 => .array .boolean
  | 6 => .object "BucketSheet$Picture"
  | 7 => .object "BucketSheet$Picture"
  | 8 => .object "BucketSheet$Gates"
  | 9 => .array (.object "BucketSheet$Sheet")
  | _ => .int
abbrev wsX70 : List Cond := u_ws RX7 TX7 11
theorem nmX7 : ∀ a, a < 11 → ∀ b, b < 11 → a ≠ b → (TX7 a).2.1 ≠ (TX7 b).2.1 := by decide +kernel
theorem tyX7_ok : ∀ k, k < 11 → parseFieldDescriptor (TX7 k).2.2.1 = some (tyX7 k) := by decide +kernel
abbrev cX7_init : ByteArray := prog_1_method_1_code
def yX7_init : MethodName := ⟨RX7, "<init>", "()V"⟩
abbrev cX7_feed : ByteArray := prog_1_method_2_code
def yX7_feed : MethodName := ⟨RX7, "feed", "(J)I"⟩
abbrev cX7_end : ByteArray := prog_1_method_3_code
def yX7_end : MethodName := ⟨RX7, "end", "(I)I"⟩
abbrev cX7_text : ByteArray := prog_1_method_4_code
def yX7_text : MethodName := ⟨RX7, "text", "()I"⟩
abbrev cX7_fault : ByteArray := prog_1_method_5_code
def yX7_fault : MethodName := ⟨RX7, "fault", "()I"⟩
abbrev cX7_rule : ByteArray := prog_1_method_6_code
def yX7_rule : MethodName := ⟨RX7, "rule", "(I)I"⟩
abbrev cX7_well : ByteArray := prog_1_method_7_code
def yX7_well : MethodName := ⟨RX7, "well", "(II)I"⟩
abbrev cX7_light : ByteArray := prog_1_method_8_code
def yX7_light : MethodName := ⟨RX7, "light", "(II)I"⟩
abbrev cX7_expose : ByteArray := prog_1_method_9_code
def yX7_expose : MethodName := ⟨RX7, "expose", "(I)I"⟩
abbrev cX7_down : ByteArray := prog_1_method_10_code
def yX7_down : MethodName := ⟨RX7, "down", "()I"⟩
abbrev cX7_read : ByteArray := prog_1_method_11_code
def yX7_read : MethodName := ⟨RX7, "read", "()I"⟩
abbrev cX7_line : ByteArray := prog_1_method_12_code
def yX7_line : MethodName := ⟨RX7, "line", "(I)I"⟩
abbrev cX7_now : ByteArray := prog_1_method_13_code
def yX7_now : MethodName := ⟨RX7, "now", "(I)J"⟩
abbrev cX7_clear : ByteArray := prog_1_method_14_code
def yX7_clear : MethodName := ⟨RX7, "clear", "()I"⟩
abbrev cX7_picture : ByteArray := prog_1_method_15_code
def yX7_picture : MethodName := ⟨RX7, "picture", "(IIII)I"⟩
abbrev cX7_shades : ByteArray := prog_1_method_16_code
def yX7_shades : MethodName := ⟨RX7, "shades", "(III)I"⟩
abbrev cX7_late : ByteArray := prog_1_method_17_code
def yX7_late : MethodName := ⟨RX7, "late", "(I)I"⟩
abbrev cX7_smear : ByteArray := prog_1_method_18_code
def yX7_smear : MethodName := ⟨RX7, "smear", "(I)I"⟩
abbrev cX7_spoiled : ByteArray := prog_1_method_19_code
def yX7_spoiled : MethodName := ⟨RX7, "spoiled", "(I)I"⟩
abbrev cX7_full : ByteArray := prog_1_method_20_code
def yX7_full : MethodName := ⟨RX7, "full", "(I)I"⟩
abbrev cX7_longest : ByteArray := prog_1_method_21_code
def yX7_longest : MethodName := ⟨RX7, "longest", "()I"⟩
abbrev cX7_enough : ByteArray := prog_1_method_22_code
def yX7_enough : MethodName := ⟨RX7, "enough", "(I)I"⟩
abbrev cX7_hots : ByteArray := prog_1_method_23_code
def yX7_hots : MethodName := ⟨RX7, "hots", "(II)J"⟩
abbrev cX7_mended : ByteArray := prog_1_method_24_code
def yX7_mended : MethodName := ⟨RX7, "mended", "(I)I"⟩
abbrev cX7_word : ByteArray := prog_1_method_25_code
def yX7_word : MethodName := ⟨RX7, "word", "(I)I"⟩
abbrev cX7_still : ByteArray := prog_1_method_26_code
def yX7_still : MethodName := ⟨RX7, "still", "()I"⟩
abbrev cX7_words : ByteArray := prog_1_method_27_code
def yX7_words : MethodName := ⟨RX7, "words", "(I)I"⟩
abbrev cX7_clock : ByteArray := prog_1_method_28_code
def yX7_clock : MethodName := ⟨RX7, "clock", "(I)I"⟩
abbrev cX7_goes : ByteArray := prog_1_method_29_code
def yX7_goes : MethodName := ⟨RX7, "goes", "(II)I"⟩
abbrev cX7_fewest : ByteArray := prog_1_method_30_code
def yX7_fewest : MethodName := ⟨RX7, "fewest", "(I)I"⟩
abbrev cX7_rounds : ByteArray := prog_1_method_31_code
def yX7_rounds : MethodName := ⟨RX7, "rounds", "(III)J"⟩
abbrev cX7_keep : ByteArray := prog_1_method_32_code
def yX7_keep : MethodName := ⟨RX7, "keep", "(I)I"⟩
abbrev cX7_back : ByteArray := prog_1_method_33_code
def yX7_back : MethodName := ⟨RX7, "back", "(I)I"⟩
abbrev cX7_sheet : ByteArray := prog_1_method_34_code
def yX7_sheet : MethodName := ⟨RX7, "sheet", "(III)I"⟩
abbrev cX7_lay : ByteArray := prog_1_method_35_code
def yX7_lay : MethodName := ⟨RX7, "lay", "(III)I"⟩
abbrev cX7_reads : ByteArray := prog_1_method_36_code
def yX7_reads : MethodName := ⟨RX7, "reads", "(IIII)I"⟩
abbrev cX7_torn : ByteArray := prog_1_method_37_code
def yX7_torn : MethodName := ⟨RX7, "torn", "()I"⟩
abbrev cX7_count : ByteArray := prog_1_method_38_code
def yX7_count : MethodName := ⟨RX7, "count", "(I)I"⟩
abbrev cX7_isWell : ByteArray := prog_1_method_39_code
def yX7_isWell : MethodName := ⟨RX7, "isWell", "(I)Z"⟩
abbrev cX7_isColumn : ByteArray := prog_1_method_40_code
def yX7_isColumn : MethodName := ⟨RX7, "isColumn", "(I)Z"⟩
abbrev cX7_isLighting : ByteArray := prog_1_method_41_code
def yX7_isLighting : MethodName := ⟨RX7, "isLighting", "(II)Z"⟩
abbrev cX7_isTicks : ByteArray := prog_1_method_42_code
def yX7_isTicks : MethodName := ⟨RX7, "isTicks", "(I)Z"⟩
abbrev cX7_isBin : ByteArray := prog_1_method_43_code
def yX7_isBin : MethodName := ⟨RX7, "isBin", "(I)Z"⟩
abbrev cX7_isSheet : ByteArray := prog_1_method_44_code
def yX7_isSheet : MethodName := ⟨RX7, "isSheet", "(I)Z"⟩
abbrev cX7_isLane : ByteArray := prog_1_method_45_code
def yX7_isLane : MethodName := ⟨RX7, "isLane", "(I)Z"⟩
abbrev cX7_isWord : ByteArray := prog_1_method_46_code
def yX7_isWord : MethodName := ⟨RX7, "isWord", "(I)Z"⟩
abbrev cX7_mostWord : ByteArray := prog_1_method_47_code
def yX7_mostWord : MethodName := ⟨RX7, "mostWord", "()I"⟩
abbrev cX7_sumOf : ByteArray := prog_1_method_48_code
def yX7_sumOf : MethodName := ⟨RX7, "sumOf", "([I)I"⟩
abbrev cX7_howManyAbove0 : ByteArray := prog_1_method_49_code
def yX7_howManyAbove0 : MethodName := ⟨RX7, "howManyAbove0", "([I)I"⟩
abbrev cX7_fullWells : ByteArray := prog_1_method_50_code
def yX7_fullWells : MethodName := ⟨RX7, "fullWells", "()I"⟩
abbrev cX7_comesInTick : ByteArray := prog_1_method_51_code
def yX7_comesInTick : MethodName := ⟨RX7, "comesInTick", "(I)I"⟩
abbrev cX7_besideOf : ByteArray := prog_1_method_52_code
def yX7_besideOf : MethodName := ⟨RX7, "besideOf", "(III)I"⟩
abbrev cX7_binsOf : ByteArray := prog_1_method_53_code
def yX7_binsOf : MethodName := ⟨RX7, "binsOf", "(II)I"⟩
abbrev cX7_valueOf : ByteArray := prog_1_method_54_code
def yX7_valueOf : MethodName := ⟨RX7, "valueOf", "(ILBucketSheet$Plan;)I"⟩
abbrev cX7_tellAll : ByteArray := prog_1_method_55_code
def yX7_tellAll : MethodName := ⟨RX7, "tellAll", "()V"⟩
def RX8 : String := "BucketSheetModel"
def TX8 : u_T := fun k => match k with
  | 0 => ("BucketSheetModel", "st", "[I", true)
  | 1 => ("BucketSheetModel", "sums", "[J", true)
  | 2 => ("BucketSheetModel", "isKept", "[Z", true)
  | 3 => ("BucketSheetModel", "rule", "[I", true)
  | 4 => ("BucketSheetModel", "hot", "[I", true)
  | 5 => ("BucketSheetModel", "trap", "[I", true)
  | 6 => ("BucketSheetModel", "wordMany", "I", false)
  | 7 => ("BucketSheetModel", "word", "[I", true)
  | 8 => ("BucketSheetModel", "dRule", "[I", true)
  | 9 => ("BucketSheetModel", "dLight", "[I", true)
  | 10 => ("BucketSheetModel", "dHot", "[I", true)
  | 11 => ("BucketSheetModel", "dTrap", "[I", true)
  | 12 => ("BucketSheetModel", "dWordMany", "I", false)
  | 13 => ("BucketSheetModel", "dWord", "[I", true)
  | 14 => ("BucketSheetModel", "dRows", "I", false)
  | 15 => ("BucketSheetModel", "toldLines", "I", false)
  | 16 => ("BucketSheetModel", "tape", "[I", true)
  | 17 => ("BucketSheetModel", "taped", "I", false)
  | 18 => ("BucketSheetModel", "pos", "I", false)
  | 19 => ("BucketSheetModel", "from", "I", false)
  | 20 => ("BucketSheetModel", "sort", "I", false)
  | 21 => ("BucketSheetModel", "value", "I", false)
  | 22 => ("BucketSheetModel", "fault", "I", false)
  | 23 => ("BucketSheetModel", "wrongAt", "I", false)
  | 24 => ("BucketSheetModel", "shade", "[I", true)
  | 25 => ("BucketSheetModel", "other", "[I", true)
  | 26 => ("BucketSheetModel", "high", "I", false)
  | 27 => ("BucketSheetModel", "wide", "I", false)
  | 28 => ("BucketSheetModel", "meets", "I", false)
  | 29 => ("BucketSheetModel", "meetsAt", "I", false)
  | 30 => ("BucketSheetModel", "lead", "[J", true)
  | 31 => ("BucketSheetModel", "leadThen", "[J", true)
  | 32 => ("BucketSheetModel", "lanes", "[I", true)
  | 33 => ("BucketSheetModel", "sizes", "[I", true)
  | 34 => ("BucketSheetModel", "cells", "[I", true)
  | _ => ("BucketSheetModel", "torn", "I", false)
def tyX8 : Nat → FieldType := fun k => match k with
  | 0 => .array .int
  | 1 => .array .long
  | 2 => .array .boolean
  | 3 => .array .int
  | 4 => .array .int
  | 5 => .array .int
  | 6 => .int
  | 7 => .array .int
  | 8 => .array .int
  | 9 => .array .int
  | 10 => .array .int
  | 11 => .array .int
  | 12 => .int
  | 13 => .array .int
  | 14 => .int
  | 15 => .int
  | 16 => .array .int
  | 17 => .int
  | 18 => .int
  | 19 => .int
  | 20 => .int
  | 21 => .int
  | 22 => .int
  | 23 => .int
  | 24 => .array .int
  | 25 => .array .int
  | 26 => .int
  | 27 => .int
  | 28 => .int
  | 29 => .int
  | 30 => .array .long
  | 31 => .array .long
  | 32 => .array .int
  | 33 => .array .int
  | 34 => .array .int
  | _ => .int
abbrev wsX80 : List Cond := u_ws RX8 TX8 36
theorem nmX8 : ∀ a, a < 36 → ∀ b, b < 36 → a ≠ b → (TX8 a).2.1 ≠ (TX8 b).2.1 := by decide +kernel
theorem tyX8_ok : ∀ k, k < 36 → parseFieldDescriptor (TX8 k).2.2.1 = some (tyX8 k) := by decide +kernel
abbrev cX8_init : ByteArray := prog_10_method_1_code
def yX8_init : MethodName := ⟨RX8, "<init>", "()V"⟩
abbrev cX8_in : ByteArray := prog_10_method_3_code
def yX8_in : MethodName := ⟨RX8, "in", "(JJJ)Z"⟩
abbrev cX8_flag : ByteArray := prog_10_method_4_code
def yX8_flag : MethodName := ⟨RX8, "flag", "(Z)I"⟩
abbrev cX8_less : ByteArray := prog_10_method_5_code
def yX8_less : MethodName := ⟨RX8, "less", "(II)I"⟩
abbrev cX8_firstDraft : ByteArray := prog_10_method_6_code
def yX8_firstDraft : MethodName := ⟨RX8, "firstDraft", "()V"⟩
abbrev cX8_keepDraft : ByteArray := prog_10_method_7_code
def yX8_keepDraft : MethodName := ⟨RX8, "keepDraft", "()V"⟩
abbrev cX8_feed : ByteArray := prog_10_method_8_code
def yX8_feed : MethodName := ⟨RX8, "feed", "(J)I"⟩
abbrev cX8_end : ByteArray := prog_10_method_9_code
def yX8_end : MethodName := ⟨RX8, "end", "(I)I"⟩
abbrev cX8_needs : ByteArray := prog_10_method_10_code
def yX8_needs : MethodName := ⟨RX8, "needs", "(ZI)V"⟩
abbrev cX8_look : ByteArray := prog_10_method_11_code
def yX8_look : MethodName := ⟨RX8, "look", "(I)I"⟩
abbrev cX8_is : ByteArray := prog_10_method_12_code
def yX8_is : MethodName := ⟨RX8, "is", "(IIIII)Z"⟩
abbrev cX8_nameNow : ByteArray := prog_10_method_13_code
def yX8_nameNow : MethodName := ⟨RX8, "nameNow", "()I"⟩
abbrev cX8_next : ByteArray := prog_10_method_14_code
def yX8_next : MethodName := ⟨RX8, "next", "()V"⟩
abbrev cX8_isNumber : ByteArray := prog_10_method_15_code
def yX8_isNumber : MethodName := ⟨RX8, "isNumber", "(II)V"⟩
abbrev cX8_readNumber : ByteArray := prog_10_method_16_code
def yX8_readNumber : MethodName := ⟨RX8, "readNumber", "(II)I"⟩
abbrev cX8_readRow : ByteArray := prog_10_method_17_code
def yX8_readRow : MethodName := ⟨RX8, "readRow", "()V"⟩
abbrev cX8_readWell : ByteArray := prog_10_method_18_code
def yX8_readWell : MethodName := ⟨RX8, "readWell", "(Z)V"⟩
abbrev cX8_readClock : ByteArray := prog_10_method_19_code
def yX8_readClock : MethodName := ⟨RX8, "readClock", "()V"⟩
abbrev cX8_readRule : ByteArray := prog_10_method_20_code
def yX8_readRule : MethodName := ⟨RX8, "readRule", "(I)V"⟩
abbrev cX8_readLine : ByteArray := prog_10_method_21_code
def yX8_readLine : MethodName := ⟨RX8, "readLine", "()V"⟩
abbrev cX8_text : ByteArray := prog_10_method_22_code
def yX8_text : MethodName := ⟨RX8, "text", "()I"⟩
abbrev cX8_fault : ByteArray := prog_10_method_23_code
def yX8_fault : MethodName := ⟨RX8, "fault", "()I"⟩
abbrev cX8_rule : ByteArray := prog_10_method_24_code
def yX8_rule : MethodName := ⟨RX8, "rule", "(I)I"⟩
abbrev cX8_isWell : ByteArray := prog_10_method_25_code
def yX8_isWell : MethodName := ⟨RX8, "isWell", "(I)Z"⟩
abbrev cX8_well : ByteArray := prog_10_method_26_code
def yX8_well : MethodName := ⟨RX8, "well", "(II)I"⟩
abbrev cX8_light : ByteArray := prog_10_method_27_code
def yX8_light : MethodName := ⟨RX8, "light", "(II)I"⟩
abbrev cX8_adds : ByteArray := prog_10_method_28_code
def yX8_adds : MethodName := ⟨RX8, "adds", "(III)V"⟩
abbrev cX8_clearSums : ByteArray := prog_10_method_29_code
def yX8_clearSums : MethodName := ⟨RX8, "clearSums", "()V"⟩
abbrev cX8_sumOf : ByteArray := prog_10_method_30_code
def yX8_sumOf : MethodName := ⟨RX8, "sumOf", "(II)I"⟩
abbrev cX8_flows : ByteArray := prog_10_method_31_code
def yX8_flows : MethodName := ⟨RX8, "flows", "(III)I"⟩
abbrev cX8_runsOver : ByteArray := prog_10_method_32_code
def yX8_runsOver : MethodName := ⟨RX8, "runsOver", "(I)V"⟩
abbrev cX8_rateOf : ByteArray := prog_10_method_33_code
def yX8_rateOf : MethodName := ⟨RX8, "rateOf", "(I)I"⟩
abbrev cX8_comes : ByteArray := prog_10_method_34_code
def yX8_comes : MethodName := ⟨RX8, "comes", "(III)V"⟩
abbrev cX8_expose : ByteArray := prog_10_method_35_code
def yX8_expose : MethodName := ⟨RX8, "expose", "(I)I"⟩
abbrev cX8_toLine : ByteArray := prog_10_method_36_code
def yX8_toLine : MethodName := ⟨RX8, "toLine", "(III)V"⟩
abbrev cX8_traps : ByteArray := prog_10_method_37_code
def yX8_traps : MethodName := ⟨RX8, "traps", "(II)V"⟩
abbrev cX8_handsDown : ByteArray := prog_10_method_38_code
def yX8_handsDown : MethodName := ⟨RX8, "handsDown", "(IZI)V"⟩
abbrev cX8_lineSum : ByteArray := prog_10_method_39_code
def yX8_lineSum : MethodName := ⟨RX8, "lineSum", "(I)I"⟩
abbrev cX8_down : ByteArray := prog_10_method_40_code
def yX8_down : MethodName := ⟨RX8, "down", "()I"⟩
abbrev cX8_takes : ByteArray := prog_10_method_41_code
def yX8_takes : MethodName := ⟨RX8, "takes", "(I)I"⟩
abbrev cX8_shadeOf : ByteArray := prog_10_method_42_code
def yX8_shadeOf : MethodName := ⟨RX8, "shadeOf", "(I)I"⟩
abbrev cX8_read : ByteArray := prog_10_method_43_code
def yX8_read : MethodName := ⟨RX8, "read", "()I"⟩
abbrev cX8_line : ByteArray := prog_10_method_44_code
def yX8_line : MethodName := ⟨RX8, "line", "(I)I"⟩
abbrev cX8_now : ByteArray := prog_10_method_45_code
def yX8_now : MethodName := ⟨RX8, "now", "(I)J"⟩
abbrev cX8_clear : ByteArray := prog_10_method_46_code
def yX8_clear : MethodName := ⟨RX8, "clear", "()I"⟩
abbrev cX8_copies : ByteArray := prog_10_method_47_code
def yX8_copies : MethodName := ⟨RX8, "copies", "(II)V"⟩
abbrev cX8_shoots : ByteArray := prog_10_method_48_code
def yX8_shoots : MethodName := ⟨RX8, "shoots", "(IIZI)V"⟩
abbrev cX8_isPicture : ByteArray := prog_10_method_49_code
def yX8_isPicture : MethodName := ⟨RX8, "isPicture", "(II)Z"⟩
abbrev cX8_picture : ByteArray := prog_10_method_50_code
def yX8_picture : MethodName := ⟨RX8, "picture", "(IIII)I"⟩
abbrev cX8_shades : ByteArray := prog_10_method_51_code
def yX8_shades : MethodName := ⟨RX8, "shades", "(III)I"⟩
abbrev cX8_late : ByteArray := prog_10_method_52_code
def yX8_late : MethodName := ⟨RX8, "late", "(I)I"⟩
abbrev cX8_smear : ByteArray := prog_10_method_53_code
def yX8_smear : MethodName := ⟨RX8, "smear", "(I)I"⟩
abbrev cX8_spoiled : ByteArray := prog_10_method_54_code
def yX8_spoiled : MethodName := ⟨RX8, "spoiled", "(I)I"⟩
abbrev cX8_full : ByteArray := prog_10_method_55_code
def yX8_full : MethodName := ⟨RX8, "full", "(I)I"⟩
abbrev cX8_longest : ByteArray := prog_10_method_56_code
def yX8_longest : MethodName := ⟨RX8, "longest", "()I"⟩
abbrev cX8_enough : ByteArray := prog_10_method_57_code
def yX8_enough : MethodName := ⟨RX8, "enough", "(I)I"⟩
abbrev cX8_hots : ByteArray := prog_10_method_58_code
def yX8_hots : MethodName := ⟨RX8, "hots", "(II)J"⟩
abbrev cX8_mended : ByteArray := prog_10_method_59_code
def yX8_mended : MethodName := ⟨RX8, "mended", "(I)I"⟩
abbrev cX8_full_ : ByteArray := prog_10_method_60_code
def yX8_full_ : MethodName := ⟨RX8, "full", "()I"⟩
abbrev cX8_isWord : ByteArray := prog_10_method_61_code
def yX8_isWord : MethodName := ⟨RX8, "isWord", "(I)Z"⟩
abbrev cX8_isHigh : ByteArray := prog_10_method_62_code
def yX8_isHigh : MethodName := ⟨RX8, "isHigh", "(II)Z"⟩
abbrev cX8_isGood : ByteArray := prog_10_method_63_code
def yX8_isGood : MethodName := ⟨RX8, "isGood", "(I)Z"⟩
abbrev cX8_beginOf : ByteArray := prog_10_method_64_code
def yX8_beginOf : MethodName := ⟨RX8, "beginOf", "(II)I"⟩
abbrev cX8_findMeets : ByteArray := prog_10_method_65_code
def yX8_findMeets : MethodName := ⟨RX8, "findMeets", "(III)V"⟩
abbrev cX8_wrong : ByteArray := prog_10_method_66_code
def yX8_wrong : MethodName := ⟨RX8, "wrong", "(III)I"⟩
abbrev cX8_goesTo : ByteArray := prog_10_method_67_code
def yX8_goesTo : MethodName := ⟨RX8, "goesTo", "(III)I"⟩
abbrev cX8_word : ByteArray := prog_10_method_68_code
def yX8_word : MethodName := ⟨RX8, "word", "(I)I"⟩
abbrev cX8_still : ByteArray := prog_10_method_69_code
def yX8_still : MethodName := ⟨RX8, "still", "()I"⟩
abbrev cX8_words : ByteArray := prog_10_method_70_code
def yX8_words : MethodName := ⟨RX8, "words", "(I)I"⟩
abbrev cX8_firstBegin : ByteArray := prog_10_method_71_code
def yX8_firstBegin : MethodName := ⟨RX8, "firstBegin", "(I)I"⟩
abbrev cX8_wells : ByteArray := prog_10_method_72_code
def yX8_wells : MethodName := ⟨RX8, "wells", "(I)I"⟩
abbrev cX8_clock : ByteArray := prog_10_method_73_code
def yX8_clock : MethodName := ⟨RX8, "clock", "(I)I"⟩
abbrev cX8_goes : ByteArray := prog_10_method_74_code
def yX8_goes : MethodName := ⟨RX8, "goes", "(II)I"⟩
abbrev cX8_leads : ByteArray := prog_10_method_75_code
def yX8_leads : MethodName := ⟨RX8, "leads", "(I)V"⟩
abbrev cX8_roundsOf : ByteArray := prog_10_method_76_code
def yX8_roundsOf : MethodName := ⟨RX8, "roundsOf", "(III)J"⟩
abbrev cX8_fewest : ByteArray := prog_10_method_77_code
def yX8_fewest : MethodName := ⟨RX8, "fewest", "(I)I"⟩
abbrev cX8_rounds : ByteArray := prog_10_method_78_code
def yX8_rounds : MethodName := ⟨RX8, "rounds", "(III)J"⟩
abbrev cX8_keep : ByteArray := prog_10_method_79_code
def yX8_keep : MethodName := ⟨RX8, "keep", "(I)I"⟩
abbrev cX8_back : ByteArray := prog_10_method_80_code
def yX8_back : MethodName := ⟨RX8, "back", "(I)I"⟩
abbrev cX8_isSheet : ByteArray := prog_10_method_81_code
def yX8_isSheet : MethodName := ⟨RX8, "isSheet", "(II)Z"⟩
abbrev cX8_sheet : ByteArray := prog_10_method_82_code
def yX8_sheet : MethodName := ⟨RX8, "sheet", "(III)I"⟩
abbrev cX8_lay : ByteArray := prog_10_method_83_code
def yX8_lay : MethodName := ⟨RX8, "lay", "(III)I"⟩
abbrev cX8_reads : ByteArray := prog_10_method_84_code
def yX8_reads : MethodName := ⟨RX8, "reads", "(IIII)I"⟩
abbrev cX8_torn : ByteArray := prog_10_method_85_code
def yX8_torn : MethodName := ⟨RX8, "torn", "()I"⟩
abbrev cX8_count : ByteArray := prog_10_method_86_code
def yX8_count : MethodName := ⟨RX8, "count", "(I)I"⟩
def RJx145de : String := "java/io/Serializable"
def TJx145de : u_T := fun k => match k with
  | _ => ("", "", "", false)
def tyJx145de : Nat → FieldType := fun k => match k with
  | _ => .int
abbrev wsJx145de0 : List Cond := u_ws RJx145de TJx145de 0
theorem nmJx145de : ∀ a, a < 0 → ∀ b, b < 0 → a ≠ b → (TJx145de a).2.1 ≠ (TJx145de b).2.1 := by decide +kernel
theorem tyJx145de_ok : ∀ k, k < 0 → parseFieldDescriptor (TJx145de k).2.2.1 = some (tyJx145de k) := by decide +kernel
def RJx9f9b0 : String := "java/lang/CharSequence"
def TJx9f9b0 : u_T := fun k => match k with
  | _ => ("", "", "", false)
def tyJx9f9b0 : Nat → FieldType := fun k => match k with
  | _ => .int
abbrev wsJx9f9b00 : List Cond := u_ws RJx9f9b0 TJx9f9b0 0
theorem nmJx9f9b0 : ∀ a, a < 0 → ∀ b, b < 0 → a ≠ b → (TJx9f9b0 a).2.1 ≠ (TJx9f9b0 b).2.1 := by decide +kernel
theorem tyJx9f9b0_ok : ∀ k, k < 0 → parseFieldDescriptor (TJx9f9b0 k).2.2.1 = some (tyJx9f9b0 k) := by decide +kernel
def RJxb160c : String := "java/lang/Comparable"
def TJxb160c : u_T := fun k => match k with
  | _ => ("", "", "", false)
def tyJxb160c : Nat → FieldType := fun k => match k with
  | _ => .int
abbrev wsJxb160c0 : List Cond := u_ws RJxb160c TJxb160c 0
theorem nmJxb160c : ∀ a, a < 0 → ∀ b, b < 0 → a ≠ b → (TJxb160c a).2.1 ≠ (TJxb160c b).2.1 := by decide +kernel
theorem tyJxb160c_ok : ∀ k, k < 0 → parseFieldDescriptor (TJxb160c k).2.2.1 = some (tyJxb160c k) := by decide +kernel
def RJ9 : String := "java/lang/Math"
def TJ9 : u_T := fun k => match k with
  | _ => ("", "", "", false)
def tyJ9 : Nat → FieldType := fun k => match k with
  | _ => .int
abbrev wsJ90 : List Cond := u_ws RJ9 TJ9 0
theorem nmJ9 : ∀ a, a < 0 → ∀ b, b < 0 → a ≠ b → (TJ9 a).2.1 ≠ (TJ9 b).2.1 := by decide +kernel
theorem tyJ9_ok : ∀ k, k < 0 → parseFieldDescriptor (TJ9 k).2.2.1 = some (tyJ9 k) := by decide +kernel
abbrev cJ9_floorDiv_7cf53 : ByteArray := prog_11_method_47_code
def yJ9_floorDiv_7cf53 : MethodName := ⟨RJ9, "floorDiv", "(II)I"⟩
abbrev cJ9_floorMod_7cf53 : ByteArray := prog_11_method_50_code
def yJ9_floorMod_7cf53 : MethodName := ⟨RJ9, "floorMod", "(II)I"⟩
abbrev cJ9_abs_0f7a4 : ByteArray := prog_11_method_59_code
def yJ9_abs_0f7a4 : MethodName := ⟨RJ9, "abs", "(I)I"⟩
abbrev cJ9_max_7cf53 : ByteArray := prog_11_method_65_code
def yJ9_max_7cf53 : MethodName := ⟨RJ9, "max", "(II)I"⟩
abbrev cJ9_min_7cf53 : ByteArray := prog_11_method_69_code
def yJ9_min_7cf53 : MethodName := ⟨RJ9, "min", "(II)I"⟩
def RJ0 : String := "java/lang/String"
def TJ0 : u_T := fun k => match k with
  | _ => ("", "", "", false)
def tyJ0 : Nat → FieldType := fun k => match k with
  | _ => .int
abbrev wsJ00 : List Cond := u_ws RJ0 TJ0 0
theorem nmJ0 : ∀ a, a < 0 → ∀ b, b < 0 → a ≠ b → (TJ0 a).2.1 ≠ (TJ0 b).2.1 := by decide +kernel
theorem tyJ0_ok : ∀ k, k < 0 → parseFieldDescriptor (TJ0 k).2.2.1 = some (tyJ0 k) := by decide +kernel
abbrev cJ0_length_8abf5 : ByteArray := prog_12_method_54_code
def yJ0_length_8abf5 : MethodName := ⟨RJ0, "length", "()I"⟩
abbrev cJ0_charAt_5068e : ByteArray := prog_12_method_56_code
def yJ0_charAt_5068e : MethodName := ⟨RJ0, "charAt", "(I)C"⟩
abbrev cJ0_coder_7d493 : ByteArray := prog_12_method_152_code
def yJ0_coder_7d493 : MethodName := ⟨RJ0, "coder", "()B"⟩
abbrev cJ0_isLatin1_aae02 : ByteArray := prog_12_method_154_code
def yJ0_isLatin1_aae02 : MethodName := ⟨RJ0, "isLatin1", "()Z"⟩
abbrev cJ0_checkIndex_df160 : ByteArray := prog_12_method_155_code
def yJ0_checkIndex_df160 : MethodName := ⟨RJ0, "checkIndex", "(II)V"⟩
def RJ1 : String := "java/lang/StringLatin1"
def TJ1 : u_T := fun k => match k with
  | _ => ("", "", "", false)
def tyJ1 : Nat → FieldType := fun k => match k with
  | _ => .int
abbrev wsJ10 : List Cond := u_ws RJ1 TJ1 0
theorem nmJ1 : ∀ a, a < 0 → ∀ b, b < 0 → a ≠ b → (TJ1 a).2.1 ≠ (TJ1 b).2.1 := by decide +kernel
theorem tyJ1_ok : ∀ k, k < 0 → parseFieldDescriptor (TJ1 k).2.2.1 = some (tyJ1 k) := by decide +kernel
abbrev cJ1_charAt_3b067 : ByteArray := prog_13_method_2_code
def yJ1_charAt_3b067 : MethodName := ⟨RJ1, "charAt", "([BI)C"⟩
def RJ2 : String := "java/lang/StringUTF16"
def TJ2 : u_T := fun k => match k with
  | _ => ("", "", "", false)
def tyJ2 : Nat → FieldType := fun k => match k with
  | _ => .int
abbrev wsJ20 : List Cond := u_ws RJ2 TJ2 0
theorem nmJ2 : ∀ a, a < 0 → ∀ b, b < 0 → a ≠ b → (TJ2 a).2.1 ≠ (TJ2 b).2.1 := by decide +kernel
theorem tyJ2_ok : ∀ k, k < 0 → parseFieldDescriptor (TJ2 k).2.2.1 = some (tyJ2 k) := by decide +kernel
abbrev cJ2_getChar_3b067 : ByteArray := prog_14_method_5_code
def yJ2_getChar_3b067 : MethodName := ⟨RJ2, "getChar", "([BI)C"⟩
abbrev cJ2_length_9d52b : ByteArray := prog_14_method_6_code
def yJ2_length_9d52b : MethodName := ⟨RJ2, "length", "([B)I"⟩
abbrev cJ2_charAt_3b067 : ByteArray := prog_14_method_83_code
def yJ2_charAt_3b067 : MethodName := ⟨RJ2, "charAt", "([BI)C"⟩
abbrev cJ2_checkIndex_2214a : ByteArray := prog_14_method_91_code
def yJ2_checkIndex_2214a : MethodName := ⟨RJ2, "checkIndex", "(I[B)V"⟩
def RJ10 : String := "java/lang/System"
def TJ10 : u_T := fun k => match k with
  | _ => ("", "", "", false)
def tyJ10 : Nat → FieldType := fun k => match k with
  | _ => .int
abbrev wsJ100 : List Cond := u_ws RJ10 TJ10 0
theorem nmJ10 : ∀ a, a < 0 → ∀ b, b < 0 → a ≠ b → (TJ10 a).2.1 ≠ (TJ10 b).2.1 := by decide +kernel
theorem tyJ10_ok : ∀ k, k < 0 → parseFieldDescriptor (TJ10 k).2.2.1 = some (tyJ10 k) := by decide +kernel
def RJxfd54e : String := "java/lang/constant/Constable"
def TJxfd54e : u_T := fun k => match k with
  | _ => ("", "", "", false)
def tyJxfd54e : Nat → FieldType := fun k => match k with
  | _ => .int
abbrev wsJxfd54e0 : List Cond := u_ws RJxfd54e TJxfd54e 0
theorem nmJxfd54e : ∀ a, a < 0 → ∀ b, b < 0 → a ≠ b → (TJxfd54e a).2.1 ≠ (TJxfd54e b).2.1 := by decide +kernel
theorem tyJxfd54e_ok : ∀ k, k < 0 → parseFieldDescriptor (TJxfd54e k).2.2.1 = some (tyJxfd54e k) := by decide +kernel
def RJx3cf43 : String := "java/lang/constant/ConstantDesc"
def TJx3cf43 : u_T := fun k => match k with
  | _ => ("", "", "", false)
def tyJx3cf43 : Nat → FieldType := fun k => match k with
  | _ => .int
abbrev wsJx3cf430 : List Cond := u_ws RJx3cf43 TJx3cf43 0
theorem nmJx3cf43 : ∀ a, a < 0 → ∀ b, b < 0 → a ≠ b → (TJx3cf43 a).2.1 ≠ (TJx3cf43 b).2.1 := by decide +kernel
theorem tyJx3cf43_ok : ∀ k, k < 0 → parseFieldDescriptor (TJx3cf43 k).2.2.1 = some (tyJx3cf43 k) := by decide +kernel
def RJ7 : String := "java/util/Arrays"
def TJ7 : u_T := fun k => match k with
  | _ => ("", "", "", false)
def tyJ7 : Nat → FieldType := fun k => match k with
  | _ => .int
abbrev wsJ70 : List Cond := u_ws RJ7 TJ7 0
theorem nmJ7 : ∀ a, a < 0 → ∀ b, b < 0 → a ≠ b → (TJ7 a).2.1 ≠ (TJ7 b).2.1 := by decide +kernel
theorem tyJ7_ok : ∀ k, k < 0 → parseFieldDescriptor (TJ7 k).2.2.1 = some (tyJ7 k) := by decide +kernel
abbrev cJ7_fill_d0a16 : ByteArray := prog_16_method_101_code
def yJ7_fill_d0a16 : MethodName := ⟨RJ7, "fill", "([JJ)V"⟩
abbrev cJ7_fill_53178 : ByteArray := prog_16_method_103_code
def yJ7_fill_53178 : MethodName := ⟨RJ7, "fill", "([II)V"⟩
def RJ3 : String := "jdk/internal/util/Preconditions"
def TJ3 : u_T := fun k => match k with
  | _ => ("", "", "", false)
def tyJ3 : Nat → FieldType := fun k => match k with
  | _ => .int
abbrev wsJ30 : List Cond := u_ws RJ3 TJ3 0
theorem nmJ3 : ∀ a, a < 0 → ∀ b, b < 0 → a ≠ b → (TJ3 a).2.1 ≠ (TJ3 b).2.1 := by decide +kernel
theorem tyJ3_ok : ∀ k, k < 0 → parseFieldDescriptor (TJ3 k).2.2.1 = some (tyJ3 k) := by decide +kernel
abbrev cJ3_checkIndex_8e157 : ByteArray := prog_17_method_11_code
def yJ3_checkIndex_8e157 : MethodName := ⟨RJ3, "checkIndex", "(IILjava/util/function/BiFunction;)I"⟩
def RL : String := "BucketSheetLaw"
abbrev cL_law : ByteArray := code
def yL_law : MethodName := ⟨RL, "law", "([I)Z"⟩
abbrev vwCl : List vw_C := [(RX0, TX0, 7), (RX1, TX1, 13), (RX2, TX2, 4), (RX3, TX3, 5), (RX4, TX4, 11), (RX5, TX5, 3), (RX6, TX6, 2), (RX7, TX7, 11), (RX8, TX8, 36)]
theorem up_1 {w : Cond} (h : w ∈ tables_1_1) : w ∈ lw_tbl := List.mem_append_right _ (show w ∈ tables_1_1 ++ (tables_1_2 ++ (tables_1_3 ++ (tables_1_4 ++ (tables_1_5 ++ tables_1_6)))) from List.mem_append_left _ h)
theorem up_2 {w : Cond} (h : w ∈ tables_1_2) : w ∈ lw_tbl := List.mem_append_right _ (show w ∈ tables_1_1 ++ (tables_1_2 ++ (tables_1_3 ++ (tables_1_4 ++ (tables_1_5 ++ tables_1_6)))) from List.mem_append_right _ (List.mem_append_left _ h))
theorem up_3 {w : Cond} (h : w ∈ tables_1_3) : w ∈ lw_tbl := List.mem_append_right _ (show w ∈ tables_1_1 ++ (tables_1_2 ++ (tables_1_3 ++ (tables_1_4 ++ (tables_1_5 ++ tables_1_6)))) from List.mem_append_right _ (List.mem_append_right _ (List.mem_append_left _ h)))
theorem up_4 {w : Cond} (h : w ∈ tables_1_4) : w ∈ lw_tbl := List.mem_append_right _ (show w ∈ tables_1_1 ++ (tables_1_2 ++ (tables_1_3 ++ (tables_1_4 ++ (tables_1_5 ++ tables_1_6)))) from List.mem_append_right _ (List.mem_append_right _ (List.mem_append_right _ (List.mem_append_left _ h))))
theorem up_5 {w : Cond} (h : w ∈ tables_1_5) : w ∈ lw_tbl := List.mem_append_right _ (show w ∈ tables_1_1 ++ (tables_1_2 ++ (tables_1_3 ++ (tables_1_4 ++ (tables_1_5 ++ tables_1_6)))) from List.mem_append_right _ (List.mem_append_right _ (List.mem_append_right _ (List.mem_append_right _ (List.mem_append_left _ h)))))
theorem up_6 {w : Cond} (h : w ∈ tables_1_6) : w ∈ lw_tbl := List.mem_append_right _ (show w ∈ tables_1_1 ++ (tables_1_2 ++ (tables_1_3 ++ (tables_1_4 ++ (tables_1_5 ++ tables_1_6)))) from List.mem_append_right _ (List.mem_append_right _ (List.mem_append_right _ (List.mem_append_right _ (List.mem_append_right _ (h))))))
def lw_g : List Cond := lw_tbl.filter goodWord
theorem in_g {w : Cond} (h : w ∈ lw_tbl) (hg : goodWord w = true) : w ∈ lw_g := List.mem_filter.mpr ⟨h, hg⟩
theorem in_X0 : ∀ w ∈ u_ws RX0 TX0 7, w ∈ lw_g := by
  intro w h
  have e : u_ws RX0 TX0 7 = [.laysFinal "BucketSheet$Charge" "BucketSheet$Charge" "light" "[I", .laysFinal "BucketSheet$Charge" "BucketSheet$Charge" "wells" "[I", .laysFinal "BucketSheet$Charge" "BucketSheet$Charge" "held" "[I", .laysFinal "BucketSheet$Charge" "BucketSheet$Charge" "line" "[I", .lays "BucketSheet$Charge" "BucketSheet$Charge" "lost" "J", .lays "BucketSheet$Charge" "BucketSheet$Charge" "readOut" "J", .lays "BucketSheet$Charge" "BucketSheet$Charge" "came" "J"] := rfl
  rw [e] at h
  simp only [List.mem_cons, List.not_mem_nil, or_false] at h
  rcases h with rfl | rfl | rfl | rfl | rfl | rfl | rfl
  · exact in_g (up_1 (List.mem_of_getElem? (i := 153) rfl)) rfl
  · exact in_g (up_1 (List.mem_of_getElem? (i := 155) rfl)) rfl
  · exact in_g (up_1 (List.mem_of_getElem? (i := 157) rfl)) rfl
  · exact in_g (up_1 (List.mem_of_getElem? (i := 159) rfl)) rfl
  · exact in_g (up_1 (List.mem_of_getElem? (i := 161) rfl)) rfl
  · exact in_g (up_1 (List.mem_of_getElem? (i := 163) rfl)) rfl
  · exact in_g (up_1 (List.mem_of_getElem? (i := 165) rfl)) rfl
theorem in_X1 : ∀ w ∈ u_ws RX1 TX1 13, w ∈ lw_g := by
  intro w h
  have e : u_ws RX1 TX1 13 = [.lays "BucketSheet$Gates" "BucketSheet$Gates" "phases" "I", .lays "BucketSheet$Gates" "BucketSheet$Gates" "landed" "I", .lays "BucketSheet$Gates" "BucketSheet$Gates" "wrong" "I", .lays "BucketSheet$Gates" "BucketSheet$Gates" "wrongAt" "I", .lays "BucketSheet$Gates" "BucketSheet$Gates" "carried" "I", .laysFinal "BucketSheet$Gates" "BucketSheet$Gates" "wordOf" "[I", .laysFinal "BucketSheet$Gates" "BucketSheet$Gates" "startIn" "[I", .lays "BucketSheet$Gates" "BucketSheet$Gates" "regions" "I", .laysFinal "BucketSheet$Gates" "BucketSheet$Gates" "regionAt" "[I", .laysFinal "BucketSheet$Gates" "BucketSheet$Gates" "goesTo" "[I", .laysFinal "BucketSheet$Gates" "BucketSheet$Gates" "goesBy" "[I", .lays "BucketSheet$Gates" "BucketSheet$Gates" "ways" "[J", .lays "BucketSheet$Gates" "BucketSheet$Gates" "waysNext" "[J"] := rfl
  rw [e] at h
  simp only [List.mem_cons, List.not_mem_nil, or_false] at h
  rcases h with rfl | rfl | rfl | rfl | rfl | rfl | rfl | rfl | rfl | rfl | rfl | rfl | rfl
  · exact in_g (up_1 (List.mem_of_getElem? (i := 214) rfl)) rfl
  · exact in_g (up_1 (List.mem_of_getElem? (i := 216) rfl)) rfl
  · exact in_g (up_1 (List.mem_of_getElem? (i := 218) rfl)) rfl
  · exact in_g (up_1 (List.mem_of_getElem? (i := 220) rfl)) rfl
  · exact in_g (up_1 (List.mem_of_getElem? (i := 222) rfl)) rfl
  · exact in_g (up_1 (List.mem_of_getElem? (i := 224) rfl)) rfl
  · exact in_g (up_1 (List.mem_of_getElem? (i := 226) rfl)) rfl
  · exact in_g (up_1 (List.mem_of_getElem? (i := 228) rfl)) rfl
  · exact in_g (up_1 (List.mem_of_getElem? (i := 230) rfl)) rfl
  · exact in_g (up_1 (List.mem_of_getElem? (i := 232) rfl)) rfl
  · exact in_g (up_1 (List.mem_of_getElem? (i := 234) rfl)) rfl
  · exact in_g (up_1 (List.mem_of_getElem? (i := 236) rfl)) rfl
  · exact in_g (up_1 (List.mem_of_getElem? (i := 238) rfl)) rfl
theorem in_X2 : ∀ w ∈ u_ws RX2 TX2 4, w ∈ lw_g := by
  intro w h
  have e : u_ws RX2 TX2 4 = [.laysFinal "BucketSheet$Picture" "BucketSheet$Picture" "shadow" "LBucketSheet$Charge;", .laysFinal "BucketSheet$Picture" "BucketSheet$Picture" "values" "[I", .lays "BucketSheet$Picture" "BucketSheet$Picture" "rows" "I", .lays "BucketSheet$Picture" "BucketSheet$Picture" "columns" "I"] := rfl
  rw [e] at h
  simp only [List.mem_cons, List.not_mem_nil, or_false] at h
  rcases h with rfl | rfl | rfl | rfl
  · exact in_g (up_1 (List.mem_of_getElem? (i := 183) rfl)) rfl
  · exact in_g (up_1 (List.mem_of_getElem? (i := 185) rfl)) rfl
  · exact in_g (up_1 (List.mem_of_getElem? (i := 187) rfl)) rfl
  · exact in_g (up_1 (List.mem_of_getElem? (i := 189) rfl)) rfl
theorem in_X3 : ∀ w ∈ u_ws RX3 TX3 5, w ∈ lw_g := by
  intro w h
  have e : u_ws RX3 TX3 5 = [.laysFinal "BucketSheet$Plan" "BucketSheet$Plan" "rules" "[I", .laysFinal "BucketSheet$Plan" "BucketSheet$Plan" "hot" "[I", .laysFinal "BucketSheet$Plan" "BucketSheet$Plan" "trap" "[I", .laysFinal "BucketSheet$Plan" "BucketSheet$Plan" "round" "[I", .lays "BucketSheet$Plan" "BucketSheet$Plan" "roundLength" "I"] := rfl
  rw [e] at h
  simp only [List.mem_cons, List.not_mem_nil, or_false] at h
  rcases h with rfl | rfl | rfl | rfl | rfl
  · exact in_g (up_1 (List.mem_of_getElem? (i := 74) rfl)) rfl
  · exact in_g (up_1 (List.mem_of_getElem? (i := 76) rfl)) rfl
  · exact in_g (up_1 (List.mem_of_getElem? (i := 78) rfl)) rfl
  · exact in_g (up_1 (List.mem_of_getElem? (i := 80) rfl)) rfl
  · exact in_g (up_1 (List.mem_of_getElem? (i := 82) rfl)) rfl
theorem in_X4 : ∀ w ∈ u_ws RX4 TX4 11, w ∈ lw_g := by
  intro w h
  have e : u_ws RX4 TX4 11 = [.laysFinal "BucketSheet$Reader" "BucketSheet$Reader" "tape" "LBucketSheet$Tape;", .laysFinal "BucketSheet$Reader" "BucketSheet$Reader" "told" "LBucketSheet$Plan;", .laysFinal "BucketSheet$Reader" "BucketSheet$Reader" "toldLight" "[I", .laysFinal "BucketSheet$Reader" "BucketSheet$Reader" "seen" "[Z", .lays "BucketSheet$Reader" "BucketSheet$Reader" "at" "I", .lays "BucketSheet$Reader" "BucketSheet$Reader" "token" "I", .lays "BucketSheet$Reader" "BucketSheet$Reader" "start" "I", .lays "BucketSheet$Reader" "BucketSheet$Reader" "value" "I", .lays "BucketSheet$Reader" "BucketSheet$Reader" "rows" "I", .lays "BucketSheet$Reader" "BucketSheet$Reader" "place" "I", .lays "BucketSheet$Reader" "BucketSheet$Reader" "found" "I"] := rfl
  rw [e] at h
  simp only [List.mem_cons, List.not_mem_nil, or_false] at h
  rcases h with rfl | rfl | rfl | rfl | rfl | rfl | rfl | rfl | rfl | rfl | rfl
  · exact in_g (up_1 (List.mem_of_getElem? (i := 108) rfl)) rfl
  · exact in_g (up_1 (List.mem_of_getElem? (i := 110) rfl)) rfl
  · exact in_g (up_1 (List.mem_of_getElem? (i := 112) rfl)) rfl
  · exact in_g (up_1 (List.mem_of_getElem? (i := 114) rfl)) rfl
  · exact in_g (up_1 (List.mem_of_getElem? (i := 116) rfl)) rfl
  · exact in_g (up_1 (List.mem_of_getElem? (i := 118) rfl)) rfl
  · exact in_g (up_1 (List.mem_of_getElem? (i := 120) rfl)) rfl
  · exact in_g (up_1 (List.mem_of_getElem? (i := 122) rfl)) rfl
  · exact in_g (up_1 (List.mem_of_getElem? (i := 124) rfl)) rfl
  · exact in_g (up_1 (List.mem_of_getElem? (i := 126) rfl)) rfl
  · exact in_g (up_1 (List.mem_of_getElem? (i := 128) rfl)) rfl
theorem in_X5 : ∀ w ∈ u_ws RX5 TX5 3, w ∈ lw_g := by
  intro w h
  have e : u_ws RX5 TX5 3 = [.laysFinal "BucketSheet$Sheet" "BucketSheet$Sheet" "cells" "[I", .lays "BucketSheet$Sheet" "BucketSheet$Sheet" "lane" "I", .lays "BucketSheet$Sheet" "BucketSheet$Sheet" "length" "I"] := rfl
  rw [e] at h
  simp only [List.mem_cons, List.not_mem_nil, or_false] at h
  rcases h with rfl | rfl | rfl
  · exact in_g (up_2 (List.mem_of_getElem? (i := 15) rfl)) rfl
  · exact in_g (up_2 (List.mem_of_getElem? (i := 17) rfl)) rfl
  · exact in_g (up_2 (List.mem_of_getElem? (i := 19) rfl)) rfl
theorem in_X6 : ∀ w ∈ u_ws RX6 TX6 2, w ∈ lw_g := by
  intro w h
  have e : u_ws RX6 TX6 2 = [.laysFinal "BucketSheet$Tape" "BucketSheet$Tape" "bytes" "[B", .lays "BucketSheet$Tape" "BucketSheet$Tape" "length" "I"] := rfl
  rw [e] at h
  simp only [List.mem_cons, List.not_mem_nil, or_false] at h
  rcases h with rfl | rfl
  · exact in_g (up_1 (List.mem_of_getElem? (i := 35) rfl)) rfl
  · exact in_g (up_1 (List.mem_of_getElem? (i := 37) rfl)) rfl
theorem in_X7 : ∀ w ∈ u_ws RX7 TX7 11, w ∈ lw_g := by
  intro w h
  have e : u_ws RX7 TX7 11 = [.laysFinal "BucketSheet" "BucketSheet" "tape" "LBucketSheet$Tape;", .laysFinal "BucketSheet" "BucketSheet" "plan" "LBucketSheet$Plan;", .laysFinal "BucketSheet" "BucketSheet" "reader" "LBucketSheet$Reader;", .laysFinal "BucketSheet" "BucketSheet" "charge" "LBucketSheet$Charge;", .laysFinal "BucketSheet" "BucketSheet" "images" "[LBucketSheet$Charge;", .laysFinal "BucketSheet" "BucketSheet" "kept" "[Z", .laysFinal "BucketSheet" "BucketSheet" "asItIs" "LBucketSheet$Picture;", .laysFinal "BucketSheet" "BucketSheet" "unspoiled" "LBucketSheet$Picture;", .laysFinal "BucketSheet" "BucketSheet" "gates" "LBucketSheet$Gates;", .laysFinal "BucketSheet" "BucketSheet" "sheets" "[LBucketSheet$Sheet;", .lays "BucketSheet" "BucketSheet" "tornBy" "I"] := rfl
  rw [e] at h
  simp only [List.mem_cons, List.not_mem_nil, or_false] at h
  rcases h with rfl | rfl | rfl | rfl | rfl | rfl | rfl | rfl | rfl | rfl | rfl
  · exact in_g (up_2 (List.mem_of_getElem? (i := 33) rfl)) rfl
  · exact in_g (up_2 (List.mem_of_getElem? (i := 35) rfl)) rfl
  · exact in_g (up_2 (List.mem_of_getElem? (i := 37) rfl)) rfl
  · exact in_g (up_2 (List.mem_of_getElem? (i := 39) rfl)) rfl
  · exact in_g (up_2 (List.mem_of_getElem? (i := 41) rfl)) rfl
  · exact in_g (up_2 (List.mem_of_getElem? (i := 43) rfl)) rfl
  · exact in_g (up_2 (List.mem_of_getElem? (i := 45) rfl)) rfl
  · exact in_g (up_2 (List.mem_of_getElem? (i := 47) rfl)) rfl
  · exact in_g (up_2 (List.mem_of_getElem? (i := 49) rfl)) rfl
  · exact in_g (up_2 (List.mem_of_getElem? (i := 51) rfl)) rfl
  · exact in_g (up_2 (List.mem_of_getElem? (i := 53) rfl)) rfl
theorem in_X8 : ∀ w ∈ u_ws RX8 TX8 36, w ∈ lw_g := by
  intro w h
  have e : u_ws RX8 TX8 36 = [.laysFinal "BucketSheetModel" "BucketSheetModel" "st" "[I", .laysFinal "BucketSheetModel" "BucketSheetModel" "sums" "[J", .laysFinal "BucketSheetModel" "BucketSheetModel" "isKept" "[Z", .laysFinal "BucketSheetModel" "BucketSheetModel" "rule" "[I", .laysFinal "BucketSheetModel" "BucketSheetModel" "hot" "[I", .laysFinal "BucketSheetModel" "BucketSheetModel" "trap" "[I", .lays "BucketSheetModel" "BucketSheetModel" "wordMany" "I", .laysFinal "BucketSheetModel" "BucketSheetModel" "word" "[I", .laysFinal "BucketSheetModel" "BucketSheetModel" "dRule" "[I", .laysFinal "BucketSheetModel" "BucketSheetModel" "dLight" "[I", .laysFinal "BucketSheetModel" "BucketSheetModel" "dHot" "[I", .laysFinal "BucketSheetModel" "BucketSheetModel" "dTrap" "[I", .lays "BucketSheetModel" "BucketSheetModel" "dWordMany" "I", .laysFinal "BucketSheetModel" "BucketSheetModel" "dWord" "[I", .lays "BucketSheetModel" "BucketSheetModel" "dRows" "I", .lays "BucketSheetModel" "BucketSheetModel" "toldLines" "I", .laysFinal "BucketSheetModel" "BucketSheetModel" "tape" "[I", .lays "BucketSheetModel" "BucketSheetModel" "taped" "I", .lays "BucketSheetModel" "BucketSheetModel" "pos" "I", .lays "BucketSheetModel" "BucketSheetModel" "from" "I", .lays "BucketSheetModel" "BucketSheetModel" "sort" "I", .lays "BucketSheetModel" "BucketSheetModel" "value" "I", .lays "BucketSheetModel" "BucketSheetModel" "fault" "I", .lays "BucketSheetModel" "BucketSheetModel" "wrongAt" "I", .laysFinal "BucketSheetModel" "BucketSheetModel" "shade" "[I", .laysFinal "BucketSheetModel" "BucketSheetModel" "other" "[I", .lays "BucketSheetModel" "BucketSheetModel" "high" "I", .lays "BucketSheetModel" "BucketSheetModel" "wide" "I", .lays "BucketSheetModel" "BucketSheetModel" "meets" "I", .lays "BucketSheetModel" "BucketSheetModel" "meetsAt" "I", .laysFinal "BucketSheetModel" "BucketSheetModel" "lead" "[J", .laysFinal "BucketSheetModel" "BucketSheetModel" "leadThen" "[J", .laysFinal "BucketSheetModel" "BucketSheetModel" "lanes" "[I", .laysFinal "BucketSheetModel" "BucketSheetModel" "sizes" "[I", .laysFinal "BucketSheetModel" "BucketSheetModel" "cells" "[I", .lays "BucketSheetModel" "BucketSheetModel" "torn" "I"] := rfl
  rw [e] at h
  simp only [List.mem_cons, List.not_mem_nil, or_false] at h
  rcases h with rfl | rfl | rfl | rfl | rfl | rfl | rfl | rfl | rfl | rfl | rfl | rfl | rfl | rfl | rfl | rfl | rfl | rfl | rfl | rfl | rfl | rfl | rfl | rfl | rfl | rfl | rfl | rfl | rfl | rfl | rfl | rfl | rfl | rfl | rfl | rfl
  · exact in_g (up_4 (List.mem_of_getElem? (i := 173) rfl)) rfl
  · exact in_g (up_4 (List.mem_of_getElem? (i := 175) rfl)) rfl
  · exact in_g (up_4 (List.mem_of_getElem? (i := 177) rfl)) rfl
  · exact in_g (up_4 (List.mem_of_getElem? (i := 179) rfl)) rfl
  · exact in_g (up_4 (List.mem_of_getElem? (i := 181) rfl)) rfl
  · exact in_g (up_4 (List.mem_of_getElem? (i := 183) rfl)) rfl
  · exact in_g (up_4 (List.mem_of_getElem? (i := 185) rfl)) rfl
  · exact in_g (up_4 (List.mem_of_getElem? (i := 187) rfl)) rfl
  · exact in_g (up_4 (List.mem_of_getElem? (i := 189) rfl)) rfl
  · exact in_g (up_4 (List.mem_of_getElem? (i := 191) rfl)) rfl
  · exact in_g (up_4 (List.mem_of_getElem? (i := 193) rfl)) rfl
  · exact in_g (up_4 (List.mem_of_getElem? (i := 195) rfl)) rfl
  · exact in_g (up_4 (List.mem_of_getElem? (i := 197) rfl)) rfl
  · exact in_g (up_4 (List.mem_of_getElem? (i := 199) rfl)) rfl
  · exact in_g (up_4 (List.mem_of_getElem? (i := 201) rfl)) rfl
  · exact in_g (up_4 (List.mem_of_getElem? (i := 203) rfl)) rfl
  · exact in_g (up_4 (List.mem_of_getElem? (i := 205) rfl)) rfl
  · exact in_g (up_4 (List.mem_of_getElem? (i := 207) rfl)) rfl
  · exact in_g (up_4 (List.mem_of_getElem? (i := 209) rfl)) rfl
  · exact in_g (up_4 (List.mem_of_getElem? (i := 211) rfl)) rfl
  · exact in_g (up_4 (List.mem_of_getElem? (i := 213) rfl)) rfl
  · exact in_g (up_4 (List.mem_of_getElem? (i := 215) rfl)) rfl
  · exact in_g (up_4 (List.mem_of_getElem? (i := 217) rfl)) rfl
  · exact in_g (up_4 (List.mem_of_getElem? (i := 219) rfl)) rfl
  · exact in_g (up_4 (List.mem_of_getElem? (i := 221) rfl)) rfl
  · exact in_g (up_4 (List.mem_of_getElem? (i := 223) rfl)) rfl
  · exact in_g (up_4 (List.mem_of_getElem? (i := 225) rfl)) rfl
  · exact in_g (up_4 (List.mem_of_getElem? (i := 227) rfl)) rfl
  · exact in_g (up_4 (List.mem_of_getElem? (i := 229) rfl)) rfl
  · exact in_g (up_4 (List.mem_of_getElem? (i := 231) rfl)) rfl
  · exact in_g (up_4 (List.mem_of_getElem? (i := 233) rfl)) rfl
  · exact in_g (up_4 (List.mem_of_getElem? (i := 235) rfl)) rfl
  · exact in_g (up_4 (List.mem_of_getElem? (i := 237) rfl)) rfl
  · exact in_g (up_4 (List.mem_of_getElem? (i := 239) rfl)) rfl
  · exact in_g (up_5 (List.mem_of_getElem? (i := 1) rfl)) rfl
  · exact in_g (up_5 (List.mem_of_getElem? (i := 3) rfl)) rfl
end
section
/-! THE LITTLE MACHINE: a world is a list of shapes (position k is the cell at base + k), and what its cells hold: ints, longs, references by position. -/
abbrev zE : Type := Launch × Nat × (Nat → Nat) × (Nat → Nat) × (Nat → ClassId) × (Nat → Nat → Nat) × (Nat → ClassId)
abbrev zMD : Type := MethodName × ByteArray × Nat × Option FieldType × Room × Nat × Nat
abbrev zX : Type := Program × Env × State × MethodId × Array Value × List Frame × Method × Code
abbrev zI : Type := Nat → Nat → Int32
abbrev zL : Type := Nat → Nat → Int64
abbrev zR : Type := Nat → Nat → Option Nat
abbrev zSh : Type := List (Nat × Nat)
abbrev eL (E : zE) : Launch := E.1
abbrev eB (E : zE) : Nat := E.2.1
abbrev eF (E : zE) : Nat → Nat := E.2.2.1
abbrev eV (E : zE) : Nat → Nat := E.2.2.2.1
abbrev eD (E : zE) : va_G := (E.2.2.2.2.1, E.2.2.2.2.2.1)
abbrev eY (E : zE) : Nat → ClassId := E.2.2.2.2.2.2
abbrev zA (E : zE) : Nat → Prop := fun q => eB E ≤ q
def zad (E : zE) (k : Nat) : Nat := if k < 1000000 then eB E + k else eF E (k - 1000000)
def ztr (E : zE) (v : Value) : Value := match v with
  | .ref k => .ref (zad E k)
  | w => w
theorem ztr_cat (E : zE) (v : Value) : (ztr E v).category = v.category := by cases v <;> rfl
def zft (ci : Nat) : List Nat := match ci with
  | 0 => [2, 2, 2, 2, 1, 1, 1]
  | 1 => [0, 0, 0, 0, 0, 2, 2, 0, 2, 2, 2, 2, 2]
  | 2 => [2, 2, 0, 0]
  | 3 => [2, 2, 2, 2, 0]
  | 4 => [2, 2, 2, 2, 0, 0, 0, 0, 0, 0, 0]
  | 5 => [2, 0, 0]
  | 6 => [2, 0]
  | 7 => [2, 2, 2, 2, 2, 2, 2, 2, 2, 2, 0]
  | 8 => [2, 2, 2, 2, 2, 2, 0, 2, 2, 2, 2, 2, 0, 2, 0, 0, 2, 0, 0, 0, 0, 0, 0, 0, 2, 2, 0, 0, 0, 0, 2, 2, 2, 2, 2, 0]
  | _ => []
def zfv (E : zE) (I : zI) (L : zL) (R : zR) (k j t : Nat) : Value := match t with
  | 0 => .int (I k j)
  | 1 => .long (L k j)
  | _ => va_rf ((R k j).map (zad E))
def zfs (E : zE) (I : zI) (L : zL) (R : zR) (k ci : Nat) : List Value := (zft ci).mapIdx (fun j t => zfv E I L R k j t)
def ze (E : zE) (I : zI) (L : zL) (R : zR) (k : Nat) (t : Nat × Nat) : va_E := match t.1 with
  | 0 => .inr (t.2, zfs E I L R k t.2)
  | 3 => .inl (eY E 3, t.2, .inr (.inl (L k)))
  | 5 => .inl (eY E 5, t.2, .inr (.inr (.inr (.inr (fun j => (R k j).map (zad E))))))
  | 6 => .inl (eY E 6, t.2, .inr (.inr (.inr (.inr (fun j => (R k j).map (zad E))))))
  | q => .inl (eY E q, t.2, .inl (I k))
def zw (E : zE) (Sh : zSh) (I : zI) (L : zL) (R : zR) : va_W := Sh.mapIdx (fun k t => (eB E + k, ze E I L R k t))
theorem zw_at {E : zE} {Sh : zSh} {I : zI} {L : zL} {R : zR} {k : Nat} {t : Nat × Nat} (h : Sh[k]? = some t) : (zw E Sh I L R)[k]? = some (eB E + k, ze E I L R k t) := by
  simp [zw, List.getElem?_mapIdx, h]
theorem zad_lt {E : zE} {k : Nat} (h : k < 1000000) : zad E k = eB E + k := if_pos h
/-- the fields' kinds are those of the class tables -/
def zTy (E : zE) : List (ClassId × FieldType) := [(eY E 1, .byte), (eY E 2, .int), (eY E 3, .long), (eY E 4, .boolean), (eY E 5, .object RX0), (eY E 6, .object RX5)]
def zNest : List (String × Nat × MethodName × String) := [("BucketSheet", 11, ⟨"BucketSheet$Tape", "<init>", "()V"⟩, "BucketSheet"), ("BucketSheet", 34, ⟨"BucketSheet$Charge", "<init>", "()V"⟩, "BucketSheet"), ("BucketSheet", 49, ⟨"BucketSheet$Picture", "<init>", "()V"⟩, "BucketSheet"), ("BucketSheet$Picture", 11, ⟨"BucketSheet$Charge", "<init>", "()V"⟩, "BucketSheet"), ("BucketSheet", 59, ⟨"BucketSheet$Gates", "<init>", "()V"⟩, "BucketSheet"), ("BucketSheet", 70, ⟨"BucketSheet$Sheet", "<init>", "()V"⟩, "BucketSheet"), ("BucketSheet$Charge", 69, ⟨"BucketSheet", "isWell", "(I)Z"⟩, "BucketSheet"), ("BucketSheet$Picture", 35, ⟨"BucketSheet", "binsOf", "(II)I"⟩, "BucketSheet"), ("BucketSheet$Picture", 63, ⟨"BucketSheet", "valueOf", "(ILBucketSheet$Plan;)I"⟩, "BucketSheet")]
def zStrs : List (Nat × String) := [(127, "row"), (129, "hot"), (130, "trap"), (131, "cap"), (133, "dark"), (135, "drain"), (137, "smear"), (139, "gain"), (141, "phases"), (143, "clock")]
def zSlen : List Nat := [3, 3, 4, 3, 4, 5, 5, 4, 6, 5]
def zSbyt : List (List Int32) := [[114, 111, 119], [104, 111, 116], [116, 114, 97, 112], [99, 97, 112], [100, 97, 114, 107], [100, 114, 97, 105, 110], [115, 109, 101, 97, 114], [103, 97, 105, 110], [112, 104, 97, 115, 101, 115], [99, 108, 111, 99, 107]]
/-- what holds of the tables, wherever the run is -/
def zKK (E : zE) (U : State) : Prop := va_K (eD E) vwCl (zTy E) U ∧ (∀ q ∈ zNest, va_Nw (.methodLinkNest q.1 q.2.1 q.2.2.1 q.2.2.2) U) ∧ (va_AO RX0 U ∧ va_AO RX5 U) ∧ ∀ (i : Nat) (q : Nat × String), zStrs[i]? = some q → vk_R RX4 q.1 q.2 (eF E (i + 1)) U
/-- what holds of old cells, wherever the run is -/
def zFo (E : zE) (U : State) (H : Heap) : Prop := vk_S 10 zSlen zSbyt (fun i => eF E (i + 1)) (eV E) (zA E) U H ∧ va_Z "java/lang/String" "COMPACT_STRINGS" "Z" (.int 1) (zA E) U H ∧ va_Zq "jdk/internal/util/Preconditions" "SIOOBE_FORMATTER" "Ljava/util/function/BiFunction;" (zA E) U H
theorem zKK.warm {E : zE} {s U : State} (hW : s.WarmedH U.vm) (h : zKK E s) : zKK E U :=
  ⟨va_K.moved hW.alike h.1, fun q hq => va_Nw.warmM hW (h.2.1 q hq), ⟨va_AO.moved hW.alike h.2.2.1.1, va_AO.moved hW.alike h.2.2.1.2⟩, fun i q hq => vk_R.warm hW (h.2.2.2 i q hq)⟩
theorem zKK.same {E : zE} {s U : State} (hv : U.vm = s.vm) (h : zKK E s) : zKK E U :=
  ⟨va_K.moved (u := s) (U := U) (by rw [hv]; exact Vm.Alike.refl s.vm) h.1, fun q hq => va_Nw.same rfl hv.symm (h.2.1 q hq), ⟨va_AO.moved (u := s) (by rw [hv]; exact Vm.Alike.refl s.vm) h.2.2.1.1, va_AO.moved (u := s) (by rw [hv]; exact Vm.Alike.refl s.vm) h.2.2.1.2⟩, fun i q hq => vk_R.same hv (h.2.2.2 i q hq)⟩
theorem zFo.moved {E : zE} {u U : State} {H : Heap} (hvm : u.vm.Alike U.vm) (h : zFo E u H) : zFo E U H :=
  ⟨vk_S.moved hvm h.1, va_Z.moved hvm h.2.1, va_Zq.moved hvm h.2.2⟩
theorem zFo.kept {E : zE} {U : State} {H H1 : Heap} (h : zFo E U H) (hq : ∀ a : Nat, a < H.size → ¬ zA E a → H1[a]? = H[a]?) : zFo E U H1 :=
  ⟨vk_S.kept h.1 hq, h.2.1.kept hq, h.2.2.kept hq⟩
/-- the world in the heap -/
def zWd (E : zE) (Sh : zSh) (I : zI) (L : zL) (R : zR) (H : Heap) : Prop := Sh.length ≤ 1000000 ∧ va_P (eD E) vwCl (zw E Sh I L R) H
theorem zw_D (E : zE) (Sh : zSh) (I : zI) (L : zL) (R : zR) : va_D (zA E) (zw E Sh I L R) := by
  have key : ∀ (k : Nat) (q : Nat × va_E), (zw E Sh I L R)[k]? = some q → q.1 = eB E + k := by
    intro k q h
    simp only [zw, List.getElem?_mapIdx, Option.map_eq_some_iff] at h
    obtain ⟨t, -, rfl⟩ := h
    rfl
  refine ⟨fun i j p q hi hj e => ?_, fun k q hk => ?_⟩
  · rw [key i p hi, key j q hj] at e
    omega
  · show eB E ≤ q.1
    rw [key k q hk]
    omega
/-- locals: what is known of each slot -/
def zas (E : zE) : Nat → List (Option Value) → List (Nat × Value)
  | _, [] => []
  | i, none :: t => zas E (i + 1) t
  | i, some v :: t => (i, ztr E v) :: zas E (i + 1) t
def zl (E : zE) (la : Array Slot) (n : Nat) (ls : List (Option Value)) : Prop := ls.length = n ∧ lv_has la n (zas E 0 ls)
theorem zas_mem {E : zE} : ∀ {ls : List (Option Value)} {j : Nat} {q : Nat × Value}, q ∈ zas E j ls ↔ ∃ (i : Nat) (v : Value), ls[i]? = some (some v) ∧ q = (j + i, ztr E v)
  | [], j, q => by simp [zas]
  | none :: t, j, q => by
    rw [show zas E j (none :: t) = zas E (j + 1) t from rfl, zas_mem]
    constructor
    · rintro ⟨i, v, h, rfl⟩
      exact ⟨i + 1, v, by simpa using h, by rw [show j + 1 + i = j + (i + 1) by omega]⟩
    · rintro ⟨i, v, h, rfl⟩
      cases i with
      | zero => simp at h
      | succ i => exact ⟨i, v, by simpa using h, by rw [show j + 1 + i = j + (i + 1) by omega]⟩
  | some w :: t, j, q => by
    rw [show zas E j (some w :: t) = (j, ztr E w) :: zas E (j + 1) t from rfl, List.mem_cons, zas_mem]
    constructor
    · rintro (rfl | ⟨i, v, h, rfl⟩)
      · exact ⟨0, w, rfl, rfl⟩
      · exact ⟨i + 1, v, by simpa using h, by rw [show j + 1 + i = j + (i + 1) by omega]⟩
    · rintro ⟨i, v, h, rfl⟩
      cases i with
      | zero => simp at h; subst h; exact Or.inl rfl
      | succ i => exact Or.inr ⟨i, v, by simpa using h, by rw [show j + 1 + i = j + (i + 1) by omega]⟩
theorem zl_at {E : zE} {la : Array Slot} {n : Nat} {ls : List (Option Value)} (h : zl E la n ls) {i : Nat} {v : Value} (hi : ls[i]? = some (some v)) : la[i]? = some (.val (ztr E v)) := by
  have := h.2.2.2 (i, ztr E v) (zas_mem.mpr ⟨i, v, hi, by simp⟩)
  exact this
def zc1 (v : Option Value) : Bool := match v with
  | some (.long _) => false
  | some (.double _) => false
  | _ => true
theorem zc1_cat {E : zE} {w : Value} (h : zc1 (some w) = true) : (ztr E w).category = 1 := by cases w <;> simp_all [zc1, ztr, Value.category]
theorem zl_set1 {E : zE} {la la' : Array Slot} {n i : Nat} {ls : List (Option Value)} {v : Value} (h : zl E la n ls) (hp : ∀ j, i = j + 1 → zc1 (ls[j]?.getD none) = true)
    (h' : lv_has la' n ((i, ztr E v) :: (zas E 0 ls).filter (fun q => !(q.1 == i) && !(q.1 + 1 == i && q.2.category == 2)))) : zl E la' n (ls.set i (some v)) := by
  refine ⟨by rw [List.length_set]; exact h.1, h'.1, h'.2.1, fun q hq => h'.2.2 q ?_⟩
  obtain ⟨j, w, hj, rfl⟩ := zas_mem.mp hq
  simp only [Nat.zero_add]
  by_cases e : j = i
  · subst e
    rw [List.getElem?_set_self' ] at hj
    cases hls : ls[j]? with
    | none => rw [hls] at hj; simp at hj
    | some y => rw [hls] at hj; simp at hj; subst hj; exact List.mem_cons_self
  · rw [List.getElem?_set_ne (fun z => e z.symm)] at hj
    refine List.mem_cons_of_mem _ (List.mem_filter.mpr ⟨zas_mem.mpr ⟨j, w, hj, by simp⟩, ?_⟩)
    by_cases e2 : j + 1 = i
    · have hz := hp j e2.symm
      rw [hj] at hz
      simp [e, zc1_cat (E := E) hz]
    · simp [e, e2]
theorem zl_set2 {E : zE} {la la' : Array Slot} {n i : Nat} {ls : List (Option Value)} {v : Value} (h : zl E la n ls) (hp : ∀ j, i = j + 1 → zc1 (ls[j]?.getD none) = true)
    (h' : lv_has la' n ((i, ztr E v) :: (zas E 0 ls).filter (fun q => !(q.1 == i) && (!(q.1 == i + 1) && !(q.1 + 1 == i && q.2.category == 2))))) : zl E la' n ((ls.set i (some v)).set (i + 1) none) := by
  refine ⟨by rw [List.length_set, List.length_set]; exact h.1, h'.1, h'.2.1, fun q hq => h'.2.2 q ?_⟩
  obtain ⟨j, w, hj, rfl⟩ := zas_mem.mp hq
  simp only [Nat.zero_add]
  by_cases e1 : j = i + 1
  · subst e1
    rw [List.getElem?_set_self'] at hj
    cases hls : (ls.set i (some v))[i + 1]? with
    | none => rw [hls] at hj; simp at hj
    | some y => rw [hls] at hj; simp at hj
  rw [List.getElem?_set_ne (fun z => e1 z.symm)] at hj
  by_cases e : j = i
  · subst e
    rw [List.getElem?_set_self' ] at hj
    cases hls : ls[j]? with
    | none => rw [hls] at hj; simp at hj
    | some y => rw [hls] at hj; simp at hj; subst hj; exact List.mem_cons_self
  · rw [List.getElem?_set_ne (fun z => e z.symm)] at hj
    refine List.mem_cons_of_mem _ (List.mem_filter.mpr ⟨zas_mem.mpr ⟨j, w, hj, by simp⟩, ?_⟩)
    by_cases e2 : j + 1 = i
    · have hz := hp j e2.symm
      rw [hj] at hz
      simp [e, e1, zc1_cat (E := E) hz]
    · simp [e, e1, e2]
end
section
/-! THE LITTLE MACHINE, ITS STEPS: zZ at an instruction out of zZ at the next -/
abbrev zcc (md : zMD) : ByteArray := md.2.1
abbrev zmL (md : zMD) : Nat := md.2.2.1
abbrev zret (md : zMD) : Option FieldType := md.2.2.2.1
abbrev zrm (md : zMD) : Room := md.2.2.2.2.1
abbrev zmc (md : zMD) : Nat := md.2.2.2.2.2.1
abbrev zms (md : zMD) : Nat := md.2.2.2.2.2.2
abbrev xP (X : zX) : Program := X.1
abbrev xE (X : zX) : Env := X.2.1
abbrev xS (X : zX) : State := X.2.2.1
abbrev xM (X : zX) : MethodId := X.2.2.2.1
abbrev xA (X : zX) : Array Value := X.2.2.2.2.1
abbrev xB (X : zX) : List Frame := X.2.2.2.2.2.1
abbrev xT (X : zX) : Method := X.2.2.2.2.2.2.1
abbrev xC (X : zX) : Code := X.2.2.2.2.2.2.2
def zCtx (E : zE) (md : zMD) (X : zX) : Prop := (xP X).tables.exec = Jvm.exec ∧ (xC X).code = zcc md ∧ (xC X).maxLocals = zmL md ∧ (xS X).vm.findClass md.1.cls = some (xM X).cls ∧ (∀ w ∈ lw_g, w.before (xA X) (xS X) = true) ∧ (xT X).sig.returnType = zret md ∧ (xT X).locks = false ∧ (xT X).name = md.1.name ∧ zKK E (xS X) ∧ zFo E (xS X) (xS X).heap ∧ eB E ≤ (xS X).heap.size
/-- from the frame at pc with these locals, this operand stack, this world, the machine comes to Qs -/
def zZ (E : zE) (md : zMD) (X : zX) (Qs : State → Prop) (Sh : zSh) (kc ks pc : Nat) (ls : List (Option Value)) (st : List Value) (I : zI) (L : zL) (R : zR) : Prop :=
  zCtx E md X → (xS X).heap.size + kc = eB E + Sh.length → ∀ (H : Heap) (locs : List Loc) (la : Array Slot), zWd E Sh I L R H → va_S (zA E) (xS X).heap H locs → zl E la (zmL md) ls →
    W (xP X) (eL E) (xE X) (zrm md) (xS X) (xM X) (xA X) (xB X) (xT X) (xC X) H locs kc ks Qs (F0 (xM X) pc la (st.map (ztr E)))
def zD (md : zMD) (pc : Nat) (i : Instr) (len pc' : Nat) : Prop := decode (zcc md) pc = .ok (i, len) ∧ pc' = pc + len
def zDj (md : zMD) (pc : Nat) (i : Int → Instr) (pc' tgt : Nat) : Prop := ∃ off : Int, decode (zcc md) pc = .ok (i off, 3) ∧ pc' = pc + 3 ∧ (pc : Int) + off = (tgt : Int)
/-- an int that is the place j in a row of n -/
def zix (i : Int32) (n j : Nat) : Prop := j < n ∧ i.toNatClampNeg = j ∧ ¬ i < 0
theorem zix.inn {i : Int32} {n j : Nat} (h : zix i n j) : vp_in i n := fun q => q.elim h.2.2 (fun q => by rw [h.2.1] at q; exact absurd h.1 (Nat.not_lt.mpr q))
theorem zix.of {i : Int32} {n : Nat} (h : vp_in i n) : zix i n i.toNatClampNeg := ⟨Nat.not_le.mp (fun q => h (Or.inr q)), rfl, fun q => h (Or.inl q)⟩
theorem zix.nI {n j : Nat} (h : j < n) (hn : n < 2 ^ 31) : zix (nI j) n j := ⟨h, nI_clamp (Nat.lt_trans h hn), nI_pos (Nat.lt_trans h hn)⟩
/-- one place of the ints, longs, references -/
def zi (I : zI) (k j : Nat) (x : Int32) : zI := va_up I k (va_up (I k) j x)
def zj (L : zL) (k j : Nat) (x : Int64) : zL := va_up L k (va_up (L k) j x)
def zr (R : zR) (k j : Nat) (x : Option Nat) : zR := va_up R k (va_up (R k) j x)
theorem ze_congr {E : zE} {I I' : zI} {L L' : zL} {R R' : zR} {k : Nat} {t : Nat × Nat} (h1 : I' k = I k) (h2 : L' k = L k) (h3 : R' k = R k) : ze E I' L' R' k t = ze E I L R k t := by
  have hf : ∀ j q, zfv E I' L' R' k j q = zfv E I L R k j q := by
    intro j q
    unfold zfv
    split <;> simp [h1, h2, h3]
  have hs : ∀ ci, zfs E I' L' R' k ci = zfs E I L R k ci := by
    intro ci
    unfold zfs
    simp [hf]
  unfold ze
  split <;> simp [h1, h2, h3, hs]
theorem zw_set {E : zE} {Sh : zSh} {I I' : zI} {L L' : zL} {R R' : zR} {k : Nat} {t : Nat × Nat} {e : va_E} (h : Sh[k]? = some t) (h1 : ∀ q, q ≠ k → I' q = I q) (h2 : ∀ q, q ≠ k → L' q = L q) (h3 : ∀ q, q ≠ k → R' q = R q) (he : e = ze E I' L' R' k t) :
    (zw E Sh I L R).set k (eB E + k, e) = zw E Sh I' L' R' := by
  subst he
  apply List.ext_getElem?
  intro i
  by_cases hi : i = k
  · subst hi
    rw [List.getElem?_set_self', zw_at h, zw_at h]
    rfl
  · rw [List.getElem?_set_ne (fun z => hi z.symm)]
    simp only [zw, List.getElem?_mapIdx]
    cases Sh[i]? with
    | none => rfl
    | some q => simp [ze_congr (h1 i hi) (h2 i hi) (h3 i hi)]
theorem zi_ne {I : zI} {k j q : Nat} {x : Int32} (h : q ≠ k) : zi I k j x q = I q := if_neg h
theorem zj_ne {I : zL} {k j q : Nat} {x : Int64} (h : q ≠ k) : zj I k j x q = I q := if_neg h
theorem zr_ne {I : zR} {k j q : Nat} {x : Option Nat} (h : q ≠ k) : zr I k j x q = I q := if_neg h
theorem zi_eq {I : zI} {k j : Nat} {x : Int32} : zi I k j x k = va_up (I k) j x := if_pos rfl
theorem zj_eq {I : zL} {k j : Nat} {x : Int64} : zj I k j x k = va_up (I k) j x := if_pos rfl
theorem zr_eq {I : zR} {k j : Nat} {x : Option Nat} : zr I k j x k = va_up (I k) j x := if_pos rfl
theorem zfs_at {E : zE} {I : zI} {L : zL} {R : zR} {k ci j t : Nat} (h : (zft ci)[j]? = some t) : (zfs E I L R k ci)[j]? = some (zfv E I L R k j t) := by simp [zfs, List.getElem?_mapIdx, h]
theorem zfs_set {E : zE} {I I' : zI} {L L' : zL} {R R' : zR} {k ci j t : Nat} {v : Value} (h : (zft ci)[j]? = some t) (hv : v = zfv E I' L' R' k j t) (ho : ∀ j' t', j' ≠ j → zfv E I' L' R' k j' t' = zfv E I L R k j' t') : (zfs E I L R k ci).set j v = zfs E I' L' R' k ci := by
  subst hv
  apply List.ext_getElem?
  intro i
  by_cases hi : i = j
  · subst hi
    rw [List.getElem?_set_self', zfs_at h, zfs_at h]
    rfl
  · rw [List.getElem?_set_ne (fun z => hi z.symm)]
    simp only [zfs, List.getElem?_mapIdx]
    cases (zft ci)[i]? with
    | none => rfl
    | some q => simp [ho i q hi]
theorem zfs_len {E : zE} {I : zI} {L : zL} {R : zR} {k ci : Nat} : (zfs E I L R k ci).length = (zft ci).length := by simp [zfs]
section ZROWS
variable {E : zE} {md : zMD} {X : zX} {Qs : State → Prop} {Sh : zSh} {kc ks pc pc' : Nat} {ls : List (Option Value)} {st : List Value} {I : zI} {L : zL} {R : zR}
theorem z_iconst {n : Int} {v : Int32} (hd : zD md pc (.iconst n) 1 pc') (hv : Int32.ofInt n = v) (k : zZ E md X Qs Sh kc ks pc' ls (.int v :: st) I L R) : zZ E md X Qs Sh kc ks pc ls st I L R := by
  obtain ⟨hd, rfl⟩ := hd
  intro C hz H locs la hW hS hl
  exact lv_iconst C.1 C.2.1 hd hv (k C hz H locs la hW hS hl)
theorem z_bipush {n : Int} {v : Int32} (hd : zD md pc (.bipush n) 2 pc') (hv : (Int8.ofInt n).toInt32 = v) (k : zZ E md X Qs Sh kc ks pc' ls (.int v :: st) I L R) : zZ E md X Qs Sh kc ks pc ls st I L R := by
  obtain ⟨hd, rfl⟩ := hd
  intro C hz H locs la hW hS hl
  exact lv_bipush C.1 C.2.1 hd hv (k C hz H locs la hW hS hl)
theorem z_sipush {n : Int} {v : Int32} (hd : zD md pc (.sipush n) 3 pc') (hv : (Int16.ofInt n).toInt32 = v) (k : zZ E md X Qs Sh kc ks pc' ls (.int v :: st) I L R) : zZ E md X Qs Sh kc ks pc ls st I L R := by
  obtain ⟨hd, rfl⟩ := hd
  intro C hz H locs la hW hS hl
  exact lv_sipush C.1 C.2.1 hd hv (k C hz H locs la hW hS hl)
theorem z_lconst {n : Fin 2} {v : Int64} (hd : zD md pc (.lconst n) 1 pc') (hv : Int64.ofNat (n : Nat) = v) (k : zZ E md X Qs Sh kc ks pc' ls (.long v :: st) I L R) : zZ E md X Qs Sh kc ks pc ls st I L R := by
  obtain ⟨hd, rfl⟩ := hd
  intro C hz H locs la hW hS hl
  exact lv_lconst C.1 C.2.1 hd hv (k C hz H locs la hW hS hl)
theorem z_iload_n {n : Fin 4} {x : Int32} (hd : zD md pc (.iload_n n) 1 pc') (hx : ls[(n : Nat)]? = some (some (.int x))) (k : zZ E md X Qs Sh kc ks pc' ls (.int x :: st) I L R) : zZ E md X Qs Sh kc ks pc ls st I L R := by
  obtain ⟨hd, rfl⟩ := hd
  intro C hz H locs la hW hS hl
  exact lv_iload_n C.1 C.2.1 hd rfl (zl_at hl hx) (k C hz H locs la hW hS hl)
theorem z_iload {n : Nat} {x : Int32} (hd : zD md pc (.iload n) 2 pc') (hx : ls[n]? = some (some (.int x))) (k : zZ E md X Qs Sh kc ks pc' ls (.int x :: st) I L R) : zZ E md X Qs Sh kc ks pc ls st I L R := by
  obtain ⟨hd, rfl⟩ := hd
  intro C hz H locs la hW hS hl
  exact lv_iload C.1 C.2.1 hd (zl_at hl hx) (k C hz H locs la hW hS hl)
theorem z_lload_n {n : Fin 4} {x : Int64} (hd : zD md pc (.lload_n n) 1 pc') (hx : ls[(n : Nat)]? = some (some (.long x))) (k : zZ E md X Qs Sh kc ks pc' ls (.long x :: st) I L R) : zZ E md X Qs Sh kc ks pc ls st I L R := by
  obtain ⟨hd, rfl⟩ := hd
  intro C hz H locs la hW hS hl
  exact lv_lload_n C.1 C.2.1 hd rfl (zl_at hl hx) (k C hz H locs la hW hS hl)
theorem z_lload {n : Nat} {x : Int64} (hd : zD md pc (.lload n) 2 pc') (hx : ls[n]? = some (some (.long x))) (k : zZ E md X Qs Sh kc ks pc' ls (.long x :: st) I L R) : zZ E md X Qs Sh kc ks pc ls st I L R := by
  obtain ⟨hd, rfl⟩ := hd
  intro C hz H locs la hW hS hl
  exact lv_lload C.1 C.2.1 hd (zl_at hl hx) (k C hz H locs la hW hS hl)
theorem z_aload_n {n : Fin 4} {x : Nat} (hd : zD md pc (.aload_n n) 1 pc') (hx : ls[(n : Nat)]? = some (some (.ref x))) (k : zZ E md X Qs Sh kc ks pc' ls (.ref x :: st) I L R) : zZ E md X Qs Sh kc ks pc ls st I L R := by
  obtain ⟨hd, rfl⟩ := hd
  intro C hz H locs la hW hS hl
  exact lv_aload_n C.1 C.2.1 hd rfl (zl_at hl hx) (k C hz H locs la hW hS hl)
theorem z_aload {n : Nat} {x : Nat} (hd : zD md pc (.aload n) 2 pc') (hx : ls[n]? = some (some (.ref x))) (k : zZ E md X Qs Sh kc ks pc' ls (.ref x :: st) I L R) : zZ E md X Qs Sh kc ks pc ls st I L R := by
  obtain ⟨hd, rfl⟩ := hd
  intro C hz H locs la hW hS hl
  exact lv_aload C.1 C.2.1 hd (zl_at hl hx) (k C hz H locs la hW hS hl)
theorem z_istore_n {n : Fin 4} {x : Int32} (hd : zD md pc (.istore_n n) 1 pc') (hn : (n : Nat) < zmL md) (hp : ∀ j, (n : Nat) = j + 1 → zc1 (ls[j]?.getD none) = true) (k : zZ E md X Qs Sh kc ks pc' (ls.set (n : Nat) (some (.int x))) st I L R) : zZ E md X Qs Sh kc ks pc ls (.int x :: st) I L R := by
  obtain ⟨hd, rfl⟩ := hd
  intro C hz H locs la hW hS hl
  exact lv_istore_n C.1 C.2.1 hd rfl hl.2 hn rfl (fun la2 h2 => k C hz H locs la2 hW hS (zl_set1 (v := .int x) hl hp h2))
theorem z_istore {n : Nat} {x : Int32} (hd : zD md pc (.istore n) 2 pc') (hn : n < zmL md) (hp : ∀ j, n = j + 1 → zc1 (ls[j]?.getD none) = true) (k : zZ E md X Qs Sh kc ks pc' (ls.set n (some (.int x))) st I L R) : zZ E md X Qs Sh kc ks pc ls (.int x :: st) I L R := by
  obtain ⟨hd, rfl⟩ := hd
  intro C hz H locs la hW hS hl
  exact lv_istore C.1 C.2.1 hd hl.2 hn rfl (fun la2 h2 => k C hz H locs la2 hW hS (zl_set1 (v := .int x) hl hp h2))
theorem z_lstore_n {n : Fin 4} {x : Int64} (hd : zD md pc (.lstore_n n) 1 pc') (hn : (n : Nat) + 1 < zmL md) (hp : ∀ j, (n : Nat) = j + 1 → zc1 (ls[j]?.getD none) = true) (k : zZ E md X Qs Sh kc ks pc' ((ls.set (n : Nat) (some (.long x))).set ((n : Nat) + 1) none) st I L R) : zZ E md X Qs Sh kc ks pc ls (.long x :: st) I L R := by
  obtain ⟨hd, rfl⟩ := hd
  intro C hz H locs la hW hS hl
  exact lv_lstore_n C.1 C.2.1 hd rfl hl.2 hn rfl (fun la2 h2 => k C hz H locs la2 hW hS (zl_set2 (v := .long x) hl hp h2))
theorem z_lstore {n : Nat} {x : Int64} (hd : zD md pc (.lstore n) 2 pc') (hn : n + 1 < zmL md) (hp : ∀ j, n = j + 1 → zc1 (ls[j]?.getD none) = true) (k : zZ E md X Qs Sh kc ks pc' ((ls.set n (some (.long x))).set (n + 1) none) st I L R) : zZ E md X Qs Sh kc ks pc ls (.long x :: st) I L R := by
  obtain ⟨hd, rfl⟩ := hd
  intro C hz H locs la hW hS hl
  exact lv_lstore C.1 C.2.1 hd hl.2 hn rfl (fun la2 h2 => k C hz H locs la2 hW hS (zl_set2 (v := .long x) hl hp h2))
theorem z_astore_n {n : Fin 4} {x : Nat} (hd : zD md pc (.astore_n n) 1 pc') (hn : (n : Nat) < zmL md) (hp : ∀ j, (n : Nat) = j + 1 → zc1 (ls[j]?.getD none) = true) (k : zZ E md X Qs Sh kc ks pc' (ls.set (n : Nat) (some (.ref x))) st I L R) : zZ E md X Qs Sh kc ks pc ls (.ref x :: st) I L R := by
  obtain ⟨hd, rfl⟩ := hd
  intro C hz H locs la hW hS hl
  exact lv_astore_n C.1 C.2.1 hd rfl hl.2 hn rfl (fun la2 h2 => k C hz H locs la2 hW hS (zl_set1 (v := .ref x) hl hp h2))
theorem z_astore {n : Nat} {x : Nat} (hd : zD md pc (.astore n) 2 pc') (hn : n < zmL md) (hp : ∀ j, n = j + 1 → zc1 (ls[j]?.getD none) = true) (k : zZ E md X Qs Sh kc ks pc' (ls.set n (some (.ref x))) st I L R) : zZ E md X Qs Sh kc ks pc ls (.ref x :: st) I L R := by
  obtain ⟨hd, rfl⟩ := hd
  intro C hz H locs la hW hS hl
  exact lv_astore C.1 C.2.1 hd hl.2 hn rfl (fun la2 h2 => k C hz H locs la2 hW hS (zl_set1 (v := .ref x) hl hp h2))
theorem z_istore0 {o : Option Value} {t : List (Option Value)} {x : Int32} (hd : zD md pc (.istore_n 0) 1 pc') (k : zZ E md X Qs Sh kc ks pc' (some (.int x) :: t) st I L R) : zZ E md X Qs Sh kc ks pc (o :: t) (.int x :: st) I L R := by
  intro C hz H locs la hW hS hl
  have hn : 0 < zmL md := by have h := hl.1; simp at h; omega
  exact z_istore_n (n := 0) hd hn (fun j e => by cases e) k C hz H locs la hW hS hl
theorem z_istore1 {a0 o : Option Value} {t : List (Option Value)} {x : Int32} (hd : zD md pc (.istore_n 1) 1 pc') (hp : zc1 a0 = true) (k : zZ E md X Qs Sh kc ks pc' (a0 :: some (.int x) :: t) st I L R) : zZ E md X Qs Sh kc ks pc (a0 :: o :: t) (.int x :: st) I L R := by
  intro C hz H locs la hW hS hl
  have hn : 1 < zmL md := by have h := hl.1; simp at h; omega
  exact z_istore_n (n := 1) hd hn (fun j e => by cases e; exact hp) k C hz H locs la hW hS hl
theorem z_istore2 {a0 a1 o : Option Value} {t : List (Option Value)} {x : Int32} (hd : zD md pc (.istore_n 2) 1 pc') (hp : zc1 a1 = true) (k : zZ E md X Qs Sh kc ks pc' (a0 :: a1 :: some (.int x) :: t) st I L R) : zZ E md X Qs Sh kc ks pc (a0 :: a1 :: o :: t) (.int x :: st) I L R := by
  intro C hz H locs la hW hS hl
  have hn : 2 < zmL md := by have h := hl.1; simp at h; omega
  exact z_istore_n (n := 2) hd hn (fun j e => by cases e; exact hp) k C hz H locs la hW hS hl
theorem z_istore3 {a0 a1 a2 o : Option Value} {t : List (Option Value)} {x : Int32} (hd : zD md pc (.istore_n 3) 1 pc') (hp : zc1 a2 = true) (k : zZ E md X Qs Sh kc ks pc' (a0 :: a1 :: a2 :: some (.int x) :: t) st I L R) : zZ E md X Qs Sh kc ks pc (a0 :: a1 :: a2 :: o :: t) (.int x :: st) I L R := by
  intro C hz H locs la hW hS hl
  have hn : 3 < zmL md := by have h := hl.1; simp at h; omega
  exact z_istore_n (n := 3) hd hn (fun j e => by cases e; exact hp) k C hz H locs la hW hS hl
theorem z_istore4 {a0 a1 a2 a3 o : Option Value} {t : List (Option Value)} {x : Int32} (hd : zD md pc (.istore 4) 2 pc') (hp : zc1 a3 = true) (k : zZ E md X Qs Sh kc ks pc' (a0 :: a1 :: a2 :: a3 :: some (.int x) :: t) st I L R) : zZ E md X Qs Sh kc ks pc (a0 :: a1 :: a2 :: a3 :: o :: t) (.int x :: st) I L R := by
  intro C hz H locs la hW hS hl
  have hn : 4 < zmL md := by have h := hl.1; simp at h; omega
  exact z_istore (n := 4) hd hn (fun j e => by cases e; exact hp) k C hz H locs la hW hS hl
theorem z_istore5 {a0 a1 a2 a3 a4 o : Option Value} {t : List (Option Value)} {x : Int32} (hd : zD md pc (.istore 5) 2 pc') (hp : zc1 a4 = true) (k : zZ E md X Qs Sh kc ks pc' (a0 :: a1 :: a2 :: a3 :: a4 :: some (.int x) :: t) st I L R) : zZ E md X Qs Sh kc ks pc (a0 :: a1 :: a2 :: a3 :: a4 :: o :: t) (.int x :: st) I L R := by
  intro C hz H locs la hW hS hl
  have hn : 5 < zmL md := by have h := hl.1; simp at h; omega
  exact z_istore (n := 5) hd hn (fun j e => by cases e; exact hp) k C hz H locs la hW hS hl
theorem z_istore6 {a0 a1 a2 a3 a4 a5 o : Option Value} {t : List (Option Value)} {x : Int32} (hd : zD md pc (.istore 6) 2 pc') (hp : zc1 a5 = true) (k : zZ E md X Qs Sh kc ks pc' (a0 :: a1 :: a2 :: a3 :: a4 :: a5 :: some (.int x) :: t) st I L R) : zZ E md X Qs Sh kc ks pc (a0 :: a1 :: a2 :: a3 :: a4 :: a5 :: o :: t) (.int x :: st) I L R := by
  intro C hz H locs la hW hS hl
  have hn : 6 < zmL md := by have h := hl.1; simp at h; omega
  exact z_istore (n := 6) hd hn (fun j e => by cases e; exact hp) k C hz H locs la hW hS hl
theorem z_istore7 {a0 a1 a2 a3 a4 a5 a6 o : Option Value} {t : List (Option Value)} {x : Int32} (hd : zD md pc (.istore 7) 2 pc') (hp : zc1 a6 = true) (k : zZ E md X Qs Sh kc ks pc' (a0 :: a1 :: a2 :: a3 :: a4 :: a5 :: a6 :: some (.int x) :: t) st I L R) : zZ E md X Qs Sh kc ks pc (a0 :: a1 :: a2 :: a3 :: a4 :: a5 :: a6 :: o :: t) (.int x :: st) I L R := by
  intro C hz H locs la hW hS hl
  have hn : 7 < zmL md := by have h := hl.1; simp at h; omega
  exact z_istore (n := 7) hd hn (fun j e => by cases e; exact hp) k C hz H locs la hW hS hl
theorem z_istore8 {a0 a1 a2 a3 a4 a5 a6 a7 o : Option Value} {t : List (Option Value)} {x : Int32} (hd : zD md pc (.istore 8) 2 pc') (hp : zc1 a7 = true) (k : zZ E md X Qs Sh kc ks pc' (a0 :: a1 :: a2 :: a3 :: a4 :: a5 :: a6 :: a7 :: some (.int x) :: t) st I L R) : zZ E md X Qs Sh kc ks pc (a0 :: a1 :: a2 :: a3 :: a4 :: a5 :: a6 :: a7 :: o :: t) (.int x :: st) I L R := by
  intro C hz H locs la hW hS hl
  have hn : 8 < zmL md := by have h := hl.1; simp at h; omega
  exact z_istore (n := 8) hd hn (fun j e => by cases e; exact hp) k C hz H locs la hW hS hl
theorem z_istore9 {a0 a1 a2 a3 a4 a5 a6 a7 a8 o : Option Value} {t : List (Option Value)} {x : Int32} (hd : zD md pc (.istore 9) 2 pc') (hp : zc1 a8 = true) (k : zZ E md X Qs Sh kc ks pc' (a0 :: a1 :: a2 :: a3 :: a4 :: a5 :: a6 :: a7 :: a8 :: some (.int x) :: t) st I L R) : zZ E md X Qs Sh kc ks pc (a0 :: a1 :: a2 :: a3 :: a4 :: a5 :: a6 :: a7 :: a8 :: o :: t) (.int x :: st) I L R := by
  intro C hz H locs la hW hS hl
  have hn : 9 < zmL md := by have h := hl.1; simp at h; omega
  exact z_istore (n := 9) hd hn (fun j e => by cases e; exact hp) k C hz H locs la hW hS hl
theorem z_istore10 {a0 a1 a2 a3 a4 a5 a6 a7 a8 a9 o : Option Value} {t : List (Option Value)} {x : Int32} (hd : zD md pc (.istore 10) 2 pc') (hp : zc1 a9 = true) (k : zZ E md X Qs Sh kc ks pc' (a0 :: a1 :: a2 :: a3 :: a4 :: a5 :: a6 :: a7 :: a8 :: a9 :: some (.int x) :: t) st I L R) : zZ E md X Qs Sh kc ks pc (a0 :: a1 :: a2 :: a3 :: a4 :: a5 :: a6 :: a7 :: a8 :: a9 :: o :: t) (.int x :: st) I L R := by
  intro C hz H locs la hW hS hl
  have hn : 10 < zmL md := by have h := hl.1; simp at h; omega
  exact z_istore (n := 10) hd hn (fun j e => by cases e; exact hp) k C hz H locs la hW hS hl
theorem z_istore11 {a0 a1 a2 a3 a4 a5 a6 a7 a8 a9 a10 o : Option Value} {t : List (Option Value)} {x : Int32} (hd : zD md pc (.istore 11) 2 pc') (hp : zc1 a10 = true) (k : zZ E md X Qs Sh kc ks pc' (a0 :: a1 :: a2 :: a3 :: a4 :: a5 :: a6 :: a7 :: a8 :: a9 :: a10 :: some (.int x) :: t) st I L R) : zZ E md X Qs Sh kc ks pc (a0 :: a1 :: a2 :: a3 :: a4 :: a5 :: a6 :: a7 :: a8 :: a9 :: a10 :: o :: t) (.int x :: st) I L R := by
  intro C hz H locs la hW hS hl
  have hn : 11 < zmL md := by have h := hl.1; simp at h; omega
  exact z_istore (n := 11) hd hn (fun j e => by cases e; exact hp) k C hz H locs la hW hS hl
theorem z_istore12 {a0 a1 a2 a3 a4 a5 a6 a7 a8 a9 a10 a11 o : Option Value} {t : List (Option Value)} {x : Int32} (hd : zD md pc (.istore 12) 2 pc') (hp : zc1 a11 = true) (k : zZ E md X Qs Sh kc ks pc' (a0 :: a1 :: a2 :: a3 :: a4 :: a5 :: a6 :: a7 :: a8 :: a9 :: a10 :: a11 :: some (.int x) :: t) st I L R) : zZ E md X Qs Sh kc ks pc (a0 :: a1 :: a2 :: a3 :: a4 :: a5 :: a6 :: a7 :: a8 :: a9 :: a10 :: a11 :: o :: t) (.int x :: st) I L R := by
  intro C hz H locs la hW hS hl
  have hn : 12 < zmL md := by have h := hl.1; simp at h; omega
  exact z_istore (n := 12) hd hn (fun j e => by cases e; exact hp) k C hz H locs la hW hS hl
theorem z_istore13 {a0 a1 a2 a3 a4 a5 a6 a7 a8 a9 a10 a11 a12 o : Option Value} {t : List (Option Value)} {x : Int32} (hd : zD md pc (.istore 13) 2 pc') (hp : zc1 a12 = true) (k : zZ E md X Qs Sh kc ks pc' (a0 :: a1 :: a2 :: a3 :: a4 :: a5 :: a6 :: a7 :: a8 :: a9 :: a10 :: a11 :: a12 :: some (.int x) :: t) st I L R) : zZ E md X Qs Sh kc ks pc (a0 :: a1 :: a2 :: a3 :: a4 :: a5 :: a6 :: a7 :: a8 :: a9 :: a10 :: a11 :: a12 :: o :: t) (.int x :: st) I L R := by
  intro C hz H locs la hW hS hl
  have hn : 13 < zmL md := by have h := hl.1; simp at h; omega
  exact z_istore (n := 13) hd hn (fun j e => by cases e; exact hp) k C hz H locs la hW hS hl
theorem z_lstore0 {o o2 : Option Value} {t : List (Option Value)} {x : Int64} (hd : zD md pc (.lstore_n 0) 1 pc') (k : zZ E md X Qs Sh kc ks pc' (some (.long x) :: none :: t) st I L R) : zZ E md X Qs Sh kc ks pc (o :: o2 :: t) (.long x :: st) I L R := by
  intro C hz H locs la hW hS hl
  have hn : 1 < zmL md := by have h := hl.1; simp at h; omega
  exact z_lstore_n (n := 0) hd hn (fun j e => by cases e) k C hz H locs la hW hS hl
theorem z_lstore1 {a0 o o2 : Option Value} {t : List (Option Value)} {x : Int64} (hd : zD md pc (.lstore_n 1) 1 pc') (hp : zc1 a0 = true) (k : zZ E md X Qs Sh kc ks pc' (a0 :: some (.long x) :: none :: t) st I L R) : zZ E md X Qs Sh kc ks pc (a0 :: o :: o2 :: t) (.long x :: st) I L R := by
  intro C hz H locs la hW hS hl
  have hn : 2 < zmL md := by have h := hl.1; simp at h; omega
  exact z_lstore_n (n := 1) hd hn (fun j e => by cases e; exact hp) k C hz H locs la hW hS hl
theorem z_lstore2 {a0 a1 o o2 : Option Value} {t : List (Option Value)} {x : Int64} (hd : zD md pc (.lstore_n 2) 1 pc') (hp : zc1 a1 = true) (k : zZ E md X Qs Sh kc ks pc' (a0 :: a1 :: some (.long x) :: none :: t) st I L R) : zZ E md X Qs Sh kc ks pc (a0 :: a1 :: o :: o2 :: t) (.long x :: st) I L R := by
  intro C hz H locs la hW hS hl
  have hn : 3 < zmL md := by have h := hl.1; simp at h; omega
  exact z_lstore_n (n := 2) hd hn (fun j e => by cases e; exact hp) k C hz H locs la hW hS hl
theorem z_lstore3 {a0 a1 a2 o o2 : Option Value} {t : List (Option Value)} {x : Int64} (hd : zD md pc (.lstore_n 3) 1 pc') (hp : zc1 a2 = true) (k : zZ E md X Qs Sh kc ks pc' (a0 :: a1 :: a2 :: some (.long x) :: none :: t) st I L R) : zZ E md X Qs Sh kc ks pc (a0 :: a1 :: a2 :: o :: o2 :: t) (.long x :: st) I L R := by
  intro C hz H locs la hW hS hl
  have hn : 4 < zmL md := by have h := hl.1; simp at h; omega
  exact z_lstore_n (n := 3) hd hn (fun j e => by cases e; exact hp) k C hz H locs la hW hS hl
theorem z_lstore4 {a0 a1 a2 a3 o o2 : Option Value} {t : List (Option Value)} {x : Int64} (hd : zD md pc (.lstore 4) 2 pc') (hp : zc1 a3 = true) (k : zZ E md X Qs Sh kc ks pc' (a0 :: a1 :: a2 :: a3 :: some (.long x) :: none :: t) st I L R) : zZ E md X Qs Sh kc ks pc (a0 :: a1 :: a2 :: a3 :: o :: o2 :: t) (.long x :: st) I L R := by
  intro C hz H locs la hW hS hl
  have hn : 5 < zmL md := by have h := hl.1; simp at h; omega
  exact z_lstore (n := 4) hd hn (fun j e => by cases e; exact hp) k C hz H locs la hW hS hl
theorem z_lstore5 {a0 a1 a2 a3 a4 o o2 : Option Value} {t : List (Option Value)} {x : Int64} (hd : zD md pc (.lstore 5) 2 pc') (hp : zc1 a4 = true) (k : zZ E md X Qs Sh kc ks pc' (a0 :: a1 :: a2 :: a3 :: a4 :: some (.long x) :: none :: t) st I L R) : zZ E md X Qs Sh kc ks pc (a0 :: a1 :: a2 :: a3 :: a4 :: o :: o2 :: t) (.long x :: st) I L R := by
  intro C hz H locs la hW hS hl
  have hn : 6 < zmL md := by have h := hl.1; simp at h; omega
  exact z_lstore (n := 5) hd hn (fun j e => by cases e; exact hp) k C hz H locs la hW hS hl
theorem z_lstore6 {a0 a1 a2 a3 a4 a5 o o2 : Option Value} {t : List (Option Value)} {x : Int64} (hd : zD md pc (.lstore 6) 2 pc') (hp : zc1 a5 = true) (k : zZ E md X Qs Sh kc ks pc' (a0 :: a1 :: a2 :: a3 :: a4 :: a5 :: some (.long x) :: none :: t) st I L R) : zZ E md X Qs Sh kc ks pc (a0 :: a1 :: a2 :: a3 :: a4 :: a5 :: o :: o2 :: t) (.long x :: st) I L R := by
  intro C hz H locs la hW hS hl
  have hn : 7 < zmL md := by have h := hl.1; simp at h; omega
  exact z_lstore (n := 6) hd hn (fun j e => by cases e; exact hp) k C hz H locs la hW hS hl
theorem z_lstore7 {a0 a1 a2 a3 a4 a5 a6 o o2 : Option Value} {t : List (Option Value)} {x : Int64} (hd : zD md pc (.lstore 7) 2 pc') (hp : zc1 a6 = true) (k : zZ E md X Qs Sh kc ks pc' (a0 :: a1 :: a2 :: a3 :: a4 :: a5 :: a6 :: some (.long x) :: none :: t) st I L R) : zZ E md X Qs Sh kc ks pc (a0 :: a1 :: a2 :: a3 :: a4 :: a5 :: a6 :: o :: o2 :: t) (.long x :: st) I L R := by
  intro C hz H locs la hW hS hl
  have hn : 8 < zmL md := by have h := hl.1; simp at h; omega
  exact z_lstore (n := 7) hd hn (fun j e => by cases e; exact hp) k C hz H locs la hW hS hl
theorem z_lstore8 {a0 a1 a2 a3 a4 a5 a6 a7 o o2 : Option Value} {t : List (Option Value)} {x : Int64} (hd : zD md pc (.lstore 8) 2 pc') (hp : zc1 a7 = true) (k : zZ E md X Qs Sh kc ks pc' (a0 :: a1 :: a2 :: a3 :: a4 :: a5 :: a6 :: a7 :: some (.long x) :: none :: t) st I L R) : zZ E md X Qs Sh kc ks pc (a0 :: a1 :: a2 :: a3 :: a4 :: a5 :: a6 :: a7 :: o :: o2 :: t) (.long x :: st) I L R := by
  intro C hz H locs la hW hS hl
  have hn : 9 < zmL md := by have h := hl.1; simp at h; omega
  exact z_lstore (n := 8) hd hn (fun j e => by cases e; exact hp) k C hz H locs la hW hS hl
theorem z_lstore9 {a0 a1 a2 a3 a4 a5 a6 a7 a8 o o2 : Option Value} {t : List (Option Value)} {x : Int64} (hd : zD md pc (.lstore 9) 2 pc') (hp : zc1 a8 = true) (k : zZ E md X Qs Sh kc ks pc' (a0 :: a1 :: a2 :: a3 :: a4 :: a5 :: a6 :: a7 :: a8 :: some (.long x) :: none :: t) st I L R) : zZ E md X Qs Sh kc ks pc (a0 :: a1 :: a2 :: a3 :: a4 :: a5 :: a6 :: a7 :: a8 :: o :: o2 :: t) (.long x :: st) I L R := by
  intro C hz H locs la hW hS hl
  have hn : 10 < zmL md := by have h := hl.1; simp at h; omega
  exact z_lstore (n := 9) hd hn (fun j e => by cases e; exact hp) k C hz H locs la hW hS hl
theorem z_lstore10 {a0 a1 a2 a3 a4 a5 a6 a7 a8 a9 o o2 : Option Value} {t : List (Option Value)} {x : Int64} (hd : zD md pc (.lstore 10) 2 pc') (hp : zc1 a9 = true) (k : zZ E md X Qs Sh kc ks pc' (a0 :: a1 :: a2 :: a3 :: a4 :: a5 :: a6 :: a7 :: a8 :: a9 :: some (.long x) :: none :: t) st I L R) : zZ E md X Qs Sh kc ks pc (a0 :: a1 :: a2 :: a3 :: a4 :: a5 :: a6 :: a7 :: a8 :: a9 :: o :: o2 :: t) (.long x :: st) I L R := by
  intro C hz H locs la hW hS hl
  have hn : 11 < zmL md := by have h := hl.1; simp at h; omega
  exact z_lstore (n := 10) hd hn (fun j e => by cases e; exact hp) k C hz H locs la hW hS hl
theorem z_lstore11 {a0 a1 a2 a3 a4 a5 a6 a7 a8 a9 a10 o o2 : Option Value} {t : List (Option Value)} {x : Int64} (hd : zD md pc (.lstore 11) 2 pc') (hp : zc1 a10 = true) (k : zZ E md X Qs Sh kc ks pc' (a0 :: a1 :: a2 :: a3 :: a4 :: a5 :: a6 :: a7 :: a8 :: a9 :: a10 :: some (.long x) :: none :: t) st I L R) : zZ E md X Qs Sh kc ks pc (a0 :: a1 :: a2 :: a3 :: a4 :: a5 :: a6 :: a7 :: a8 :: a9 :: a10 :: o :: o2 :: t) (.long x :: st) I L R := by
  intro C hz H locs la hW hS hl
  have hn : 12 < zmL md := by have h := hl.1; simp at h; omega
  exact z_lstore (n := 11) hd hn (fun j e => by cases e; exact hp) k C hz H locs la hW hS hl
theorem z_lstore12 {a0 a1 a2 a3 a4 a5 a6 a7 a8 a9 a10 a11 o o2 : Option Value} {t : List (Option Value)} {x : Int64} (hd : zD md pc (.lstore 12) 2 pc') (hp : zc1 a11 = true) (k : zZ E md X Qs Sh kc ks pc' (a0 :: a1 :: a2 :: a3 :: a4 :: a5 :: a6 :: a7 :: a8 :: a9 :: a10 :: a11 :: some (.long x) :: none :: t) st I L R) : zZ E md X Qs Sh kc ks pc (a0 :: a1 :: a2 :: a3 :: a4 :: a5 :: a6 :: a7 :: a8 :: a9 :: a10 :: a11 :: o :: o2 :: t) (.long x :: st) I L R := by
  intro C hz H locs la hW hS hl
  have hn : 13 < zmL md := by have h := hl.1; simp at h; omega
  exact z_lstore (n := 12) hd hn (fun j e => by cases e; exact hp) k C hz H locs la hW hS hl
theorem z_lstore13 {a0 a1 a2 a3 a4 a5 a6 a7 a8 a9 a10 a11 a12 o o2 : Option Value} {t : List (Option Value)} {x : Int64} (hd : zD md pc (.lstore 13) 2 pc') (hp : zc1 a12 = true) (k : zZ E md X Qs Sh kc ks pc' (a0 :: a1 :: a2 :: a3 :: a4 :: a5 :: a6 :: a7 :: a8 :: a9 :: a10 :: a11 :: a12 :: some (.long x) :: none :: t) st I L R) : zZ E md X Qs Sh kc ks pc (a0 :: a1 :: a2 :: a3 :: a4 :: a5 :: a6 :: a7 :: a8 :: a9 :: a10 :: a11 :: a12 :: o :: o2 :: t) (.long x :: st) I L R := by
  intro C hz H locs la hW hS hl
  have hn : 14 < zmL md := by have h := hl.1; simp at h; omega
  exact z_lstore (n := 13) hd hn (fun j e => by cases e; exact hp) k C hz H locs la hW hS hl
theorem z_astore0 {o : Option Value} {t : List (Option Value)} {x : Nat} (hd : zD md pc (.astore_n 0) 1 pc') (k : zZ E md X Qs Sh kc ks pc' (some (.ref x) :: t) st I L R) : zZ E md X Qs Sh kc ks pc (o :: t) (.ref x :: st) I L R := by
  intro C hz H locs la hW hS hl
  have hn : 0 < zmL md := by have h := hl.1; simp at h; omega
  exact z_astore_n (n := 0) hd hn (fun j e => by cases e) k C hz H locs la hW hS hl
theorem z_astore1 {a0 o : Option Value} {t : List (Option Value)} {x : Nat} (hd : zD md pc (.astore_n 1) 1 pc') (hp : zc1 a0 = true) (k : zZ E md X Qs Sh kc ks pc' (a0 :: some (.ref x) :: t) st I L R) : zZ E md X Qs Sh kc ks pc (a0 :: o :: t) (.ref x :: st) I L R := by
  intro C hz H locs la hW hS hl
  have hn : 1 < zmL md := by have h := hl.1; simp at h; omega
  exact z_astore_n (n := 1) hd hn (fun j e => by cases e; exact hp) k C hz H locs la hW hS hl
theorem z_astore2 {a0 a1 o : Option Value} {t : List (Option Value)} {x : Nat} (hd : zD md pc (.astore_n 2) 1 pc') (hp : zc1 a1 = true) (k : zZ E md X Qs Sh kc ks pc' (a0 :: a1 :: some (.ref x) :: t) st I L R) : zZ E md X Qs Sh kc ks pc (a0 :: a1 :: o :: t) (.ref x :: st) I L R := by
  intro C hz H locs la hW hS hl
  have hn : 2 < zmL md := by have h := hl.1; simp at h; omega
  exact z_astore_n (n := 2) hd hn (fun j e => by cases e; exact hp) k C hz H locs la hW hS hl
theorem z_astore3 {a0 a1 a2 o : Option Value} {t : List (Option Value)} {x : Nat} (hd : zD md pc (.astore_n 3) 1 pc') (hp : zc1 a2 = true) (k : zZ E md X Qs Sh kc ks pc' (a0 :: a1 :: a2 :: some (.ref x) :: t) st I L R) : zZ E md X Qs Sh kc ks pc (a0 :: a1 :: a2 :: o :: t) (.ref x :: st) I L R := by
  intro C hz H locs la hW hS hl
  have hn : 3 < zmL md := by have h := hl.1; simp at h; omega
  exact z_astore_n (n := 3) hd hn (fun j e => by cases e; exact hp) k C hz H locs la hW hS hl
theorem z_astore4 {a0 a1 a2 a3 o : Option Value} {t : List (Option Value)} {x : Nat} (hd : zD md pc (.astore 4) 2 pc') (hp : zc1 a3 = true) (k : zZ E md X Qs Sh kc ks pc' (a0 :: a1 :: a2 :: a3 :: some (.ref x) :: t) st I L R) : zZ E md X Qs Sh kc ks pc (a0 :: a1 :: a2 :: a3 :: o :: t) (.ref x :: st) I L R := by
  intro C hz H locs la hW hS hl
  have hn : 4 < zmL md := by have h := hl.1; simp at h; omega
  exact z_astore (n := 4) hd hn (fun j e => by cases e; exact hp) k C hz H locs la hW hS hl
theorem z_astore5 {a0 a1 a2 a3 a4 o : Option Value} {t : List (Option Value)} {x : Nat} (hd : zD md pc (.astore 5) 2 pc') (hp : zc1 a4 = true) (k : zZ E md X Qs Sh kc ks pc' (a0 :: a1 :: a2 :: a3 :: a4 :: some (.ref x) :: t) st I L R) : zZ E md X Qs Sh kc ks pc (a0 :: a1 :: a2 :: a3 :: a4 :: o :: t) (.ref x :: st) I L R := by
  intro C hz H locs la hW hS hl
  have hn : 5 < zmL md := by have h := hl.1; simp at h; omega
  exact z_astore (n := 5) hd hn (fun j e => by cases e; exact hp) k C hz H locs la hW hS hl
theorem z_astore6 {a0 a1 a2 a3 a4 a5 o : Option Value} {t : List (Option Value)} {x : Nat} (hd : zD md pc (.astore 6) 2 pc') (hp : zc1 a5 = true) (k : zZ E md X Qs Sh kc ks pc' (a0 :: a1 :: a2 :: a3 :: a4 :: a5 :: some (.ref x) :: t) st I L R) : zZ E md X Qs Sh kc ks pc (a0 :: a1 :: a2 :: a3 :: a4 :: a5 :: o :: t) (.ref x :: st) I L R := by
  intro C hz H locs la hW hS hl
  have hn : 6 < zmL md := by have h := hl.1; simp at h; omega
  exact z_astore (n := 6) hd hn (fun j e => by cases e; exact hp) k C hz H locs la hW hS hl
theorem z_astore7 {a0 a1 a2 a3 a4 a5 a6 o : Option Value} {t : List (Option Value)} {x : Nat} (hd : zD md pc (.astore 7) 2 pc') (hp : zc1 a6 = true) (k : zZ E md X Qs Sh kc ks pc' (a0 :: a1 :: a2 :: a3 :: a4 :: a5 :: a6 :: some (.ref x) :: t) st I L R) : zZ E md X Qs Sh kc ks pc (a0 :: a1 :: a2 :: a3 :: a4 :: a5 :: a6 :: o :: t) (.ref x :: st) I L R := by
  intro C hz H locs la hW hS hl
  have hn : 7 < zmL md := by have h := hl.1; simp at h; omega
  exact z_astore (n := 7) hd hn (fun j e => by cases e; exact hp) k C hz H locs la hW hS hl
theorem z_astore8 {a0 a1 a2 a3 a4 a5 a6 a7 o : Option Value} {t : List (Option Value)} {x : Nat} (hd : zD md pc (.astore 8) 2 pc') (hp : zc1 a7 = true) (k : zZ E md X Qs Sh kc ks pc' (a0 :: a1 :: a2 :: a3 :: a4 :: a5 :: a6 :: a7 :: some (.ref x) :: t) st I L R) : zZ E md X Qs Sh kc ks pc (a0 :: a1 :: a2 :: a3 :: a4 :: a5 :: a6 :: a7 :: o :: t) (.ref x :: st) I L R := by
  intro C hz H locs la hW hS hl
  have hn : 8 < zmL md := by have h := hl.1; simp at h; omega
  exact z_astore (n := 8) hd hn (fun j e => by cases e; exact hp) k C hz H locs la hW hS hl
theorem z_astore9 {a0 a1 a2 a3 a4 a5 a6 a7 a8 o : Option Value} {t : List (Option Value)} {x : Nat} (hd : zD md pc (.astore 9) 2 pc') (hp : zc1 a8 = true) (k : zZ E md X Qs Sh kc ks pc' (a0 :: a1 :: a2 :: a3 :: a4 :: a5 :: a6 :: a7 :: a8 :: some (.ref x) :: t) st I L R) : zZ E md X Qs Sh kc ks pc (a0 :: a1 :: a2 :: a3 :: a4 :: a5 :: a6 :: a7 :: a8 :: o :: t) (.ref x :: st) I L R := by
  intro C hz H locs la hW hS hl
  have hn : 9 < zmL md := by have h := hl.1; simp at h; omega
  exact z_astore (n := 9) hd hn (fun j e => by cases e; exact hp) k C hz H locs la hW hS hl
theorem z_iinc0  {t : List (Option Value)} {n : Int} {x v : Int32} (hd : zD md pc (.iinc 0 n) 3 pc') (hv : Int32.ofInt n = v) (k : zZ E md X Qs Sh kc ks pc' (some (.int (x + v)) :: t) st I L R) : zZ E md X Qs Sh kc ks pc (some (.int x) :: t) st I L R := by
  obtain ⟨hd, rfl⟩ := hd
  subst hv
  intro C hz H locs la hW hS hl
  have hn : 0 < zmL md := by have h := hl.1; simp at h; omega
  have hm := List.getElem?_of_mem (zas_mem.mpr ⟨0, .int x, rfl, rfl⟩ : ((0 + 0, ztr E (.int x)) : Nat × Value) ∈ zas E 0 (some (.int x) :: t))
  obtain ⟨q, hq⟩ := hm
  exact lv_iinc C.1 C.2.1 hd hl.2 (k := q) (x := x) hq rfl hn rfl (fun la2 h2 => k C hz H locs la2 hW hS (zl_set1 (i := 0) (v := .int (x + Int32.ofInt n)) hl (fun j e => by cases e) h2))
theorem z_iinc1 {a0 : Option Value} {t : List (Option Value)} {n : Int} {x v : Int32} (hd : zD md pc (.iinc 1 n) 3 pc') (hv : Int32.ofInt n = v) (hp : zc1 a0 = true) (k : zZ E md X Qs Sh kc ks pc' (a0 :: some (.int (x + v)) :: t) st I L R) : zZ E md X Qs Sh kc ks pc (a0 :: some (.int x) :: t) st I L R := by
  obtain ⟨hd, rfl⟩ := hd
  subst hv
  intro C hz H locs la hW hS hl
  have hn : 1 < zmL md := by have h := hl.1; simp at h; omega
  have hm := List.getElem?_of_mem (zas_mem.mpr ⟨1, .int x, rfl, rfl⟩ : ((0 + 1, ztr E (.int x)) : Nat × Value) ∈ zas E 0 (a0 :: some (.int x) :: t))
  obtain ⟨q, hq⟩ := hm
  exact lv_iinc C.1 C.2.1 hd hl.2 (k := q) (x := x) hq rfl hn rfl (fun la2 h2 => k C hz H locs la2 hW hS (zl_set1 (i := 1) (v := .int (x + Int32.ofInt n)) hl (fun j e => by cases e; exact hp) h2))
theorem z_iinc2 {a0 a1 : Option Value} {t : List (Option Value)} {n : Int} {x v : Int32} (hd : zD md pc (.iinc 2 n) 3 pc') (hv : Int32.ofInt n = v) (hp : zc1 a1 = true) (k : zZ E md X Qs Sh kc ks pc' (a0 :: a1 :: some (.int (x + v)) :: t) st I L R) : zZ E md X Qs Sh kc ks pc (a0 :: a1 :: some (.int x) :: t) st I L R := by
  obtain ⟨hd, rfl⟩ := hd
  subst hv
  intro C hz H locs la hW hS hl
  have hn : 2 < zmL md := by have h := hl.1; simp at h; omega
  have hm := List.getElem?_of_mem (zas_mem.mpr ⟨2, .int x, rfl, rfl⟩ : ((0 + 2, ztr E (.int x)) : Nat × Value) ∈ zas E 0 (a0 :: a1 :: some (.int x) :: t))
  obtain ⟨q, hq⟩ := hm
  exact lv_iinc C.1 C.2.1 hd hl.2 (k := q) (x := x) hq rfl hn rfl (fun la2 h2 => k C hz H locs la2 hW hS (zl_set1 (i := 2) (v := .int (x + Int32.ofInt n)) hl (fun j e => by cases e; exact hp) h2))
theorem z_iinc3 {a0 a1 a2 : Option Value} {t : List (Option Value)} {n : Int} {x v : Int32} (hd : zD md pc (.iinc 3 n) 3 pc') (hv : Int32.ofInt n = v) (hp : zc1 a2 = true) (k : zZ E md X Qs Sh kc ks pc' (a0 :: a1 :: a2 :: some (.int (x + v)) :: t) st I L R) : zZ E md X Qs Sh kc ks pc (a0 :: a1 :: a2 :: some (.int x) :: t) st I L R := by
  obtain ⟨hd, rfl⟩ := hd
  subst hv
  intro C hz H locs la hW hS hl
  have hn : 3 < zmL md := by have h := hl.1; simp at h; omega
  have hm := List.getElem?_of_mem (zas_mem.mpr ⟨3, .int x, rfl, rfl⟩ : ((0 + 3, ztr E (.int x)) : Nat × Value) ∈ zas E 0 (a0 :: a1 :: a2 :: some (.int x) :: t))
  obtain ⟨q, hq⟩ := hm
  exact lv_iinc C.1 C.2.1 hd hl.2 (k := q) (x := x) hq rfl hn rfl (fun la2 h2 => k C hz H locs la2 hW hS (zl_set1 (i := 3) (v := .int (x + Int32.ofInt n)) hl (fun j e => by cases e; exact hp) h2))
theorem z_iinc4 {a0 a1 a2 a3 : Option Value} {t : List (Option Value)} {n : Int} {x v : Int32} (hd : zD md pc (.iinc 4 n) 3 pc') (hv : Int32.ofInt n = v) (hp : zc1 a3 = true) (k : zZ E md X Qs Sh kc ks pc' (a0 :: a1 :: a2 :: a3 :: some (.int (x + v)) :: t) st I L R) : zZ E md X Qs Sh kc ks pc (a0 :: a1 :: a2 :: a3 :: some (.int x) :: t) st I L R := by
  obtain ⟨hd, rfl⟩ := hd
  subst hv
  intro C hz H locs la hW hS hl
  have hn : 4 < zmL md := by have h := hl.1; simp at h; omega
  have hm := List.getElem?_of_mem (zas_mem.mpr ⟨4, .int x, rfl, rfl⟩ : ((0 + 4, ztr E (.int x)) : Nat × Value) ∈ zas E 0 (a0 :: a1 :: a2 :: a3 :: some (.int x) :: t))
  obtain ⟨q, hq⟩ := hm
  exact lv_iinc C.1 C.2.1 hd hl.2 (k := q) (x := x) hq rfl hn rfl (fun la2 h2 => k C hz H locs la2 hW hS (zl_set1 (i := 4) (v := .int (x + Int32.ofInt n)) hl (fun j e => by cases e; exact hp) h2))
theorem z_iinc5 {a0 a1 a2 a3 a4 : Option Value} {t : List (Option Value)} {n : Int} {x v : Int32} (hd : zD md pc (.iinc 5 n) 3 pc') (hv : Int32.ofInt n = v) (hp : zc1 a4 = true) (k : zZ E md X Qs Sh kc ks pc' (a0 :: a1 :: a2 :: a3 :: a4 :: some (.int (x + v)) :: t) st I L R) : zZ E md X Qs Sh kc ks pc (a0 :: a1 :: a2 :: a3 :: a4 :: some (.int x) :: t) st I L R := by
  obtain ⟨hd, rfl⟩ := hd
  subst hv
  intro C hz H locs la hW hS hl
  have hn : 5 < zmL md := by have h := hl.1; simp at h; omega
  have hm := List.getElem?_of_mem (zas_mem.mpr ⟨5, .int x, rfl, rfl⟩ : ((0 + 5, ztr E (.int x)) : Nat × Value) ∈ zas E 0 (a0 :: a1 :: a2 :: a3 :: a4 :: some (.int x) :: t))
  obtain ⟨q, hq⟩ := hm
  exact lv_iinc C.1 C.2.1 hd hl.2 (k := q) (x := x) hq rfl hn rfl (fun la2 h2 => k C hz H locs la2 hW hS (zl_set1 (i := 5) (v := .int (x + Int32.ofInt n)) hl (fun j e => by cases e; exact hp) h2))
theorem z_iinc6 {a0 a1 a2 a3 a4 a5 : Option Value} {t : List (Option Value)} {n : Int} {x v : Int32} (hd : zD md pc (.iinc 6 n) 3 pc') (hv : Int32.ofInt n = v) (hp : zc1 a5 = true) (k : zZ E md X Qs Sh kc ks pc' (a0 :: a1 :: a2 :: a3 :: a4 :: a5 :: some (.int (x + v)) :: t) st I L R) : zZ E md X Qs Sh kc ks pc (a0 :: a1 :: a2 :: a3 :: a4 :: a5 :: some (.int x) :: t) st I L R := by
  obtain ⟨hd, rfl⟩ := hd
  subst hv
  intro C hz H locs la hW hS hl
  have hn : 6 < zmL md := by have h := hl.1; simp at h; omega
  have hm := List.getElem?_of_mem (zas_mem.mpr ⟨6, .int x, rfl, rfl⟩ : ((0 + 6, ztr E (.int x)) : Nat × Value) ∈ zas E 0 (a0 :: a1 :: a2 :: a3 :: a4 :: a5 :: some (.int x) :: t))
  obtain ⟨q, hq⟩ := hm
  exact lv_iinc C.1 C.2.1 hd hl.2 (k := q) (x := x) hq rfl hn rfl (fun la2 h2 => k C hz H locs la2 hW hS (zl_set1 (i := 6) (v := .int (x + Int32.ofInt n)) hl (fun j e => by cases e; exact hp) h2))
theorem z_iinc7 {a0 a1 a2 a3 a4 a5 a6 : Option Value} {t : List (Option Value)} {n : Int} {x v : Int32} (hd : zD md pc (.iinc 7 n) 3 pc') (hv : Int32.ofInt n = v) (hp : zc1 a6 = true) (k : zZ E md X Qs Sh kc ks pc' (a0 :: a1 :: a2 :: a3 :: a4 :: a5 :: a6 :: some (.int (x + v)) :: t) st I L R) : zZ E md X Qs Sh kc ks pc (a0 :: a1 :: a2 :: a3 :: a4 :: a5 :: a6 :: some (.int x) :: t) st I L R := by
  obtain ⟨hd, rfl⟩ := hd
  subst hv
  intro C hz H locs la hW hS hl
  have hn : 7 < zmL md := by have h := hl.1; simp at h; omega
  have hm := List.getElem?_of_mem (zas_mem.mpr ⟨7, .int x, rfl, rfl⟩ : ((0 + 7, ztr E (.int x)) : Nat × Value) ∈ zas E 0 (a0 :: a1 :: a2 :: a3 :: a4 :: a5 :: a6 :: some (.int x) :: t))
  obtain ⟨q, hq⟩ := hm
  exact lv_iinc C.1 C.2.1 hd hl.2 (k := q) (x := x) hq rfl hn rfl (fun la2 h2 => k C hz H locs la2 hW hS (zl_set1 (i := 7) (v := .int (x + Int32.ofInt n)) hl (fun j e => by cases e; exact hp) h2))
theorem z_iinc8 {a0 a1 a2 a3 a4 a5 a6 a7 : Option Value} {t : List (Option Value)} {n : Int} {x v : Int32} (hd : zD md pc (.iinc 8 n) 3 pc') (hv : Int32.ofInt n = v) (hp : zc1 a7 = true) (k : zZ E md X Qs Sh kc ks pc' (a0 :: a1 :: a2 :: a3 :: a4 :: a5 :: a6 :: a7 :: some (.int (x + v)) :: t) st I L R) : zZ E md X Qs Sh kc ks pc (a0 :: a1 :: a2 :: a3 :: a4 :: a5 :: a6 :: a7 :: some (.int x) :: t) st I L R := by
  obtain ⟨hd, rfl⟩ := hd
  subst hv
  intro C hz H locs la hW hS hl
  have hn : 8 < zmL md := by have h := hl.1; simp at h; omega
  have hm := List.getElem?_of_mem (zas_mem.mpr ⟨8, .int x, rfl, rfl⟩ : ((0 + 8, ztr E (.int x)) : Nat × Value) ∈ zas E 0 (a0 :: a1 :: a2 :: a3 :: a4 :: a5 :: a6 :: a7 :: some (.int x) :: t))
  obtain ⟨q, hq⟩ := hm
  exact lv_iinc C.1 C.2.1 hd hl.2 (k := q) (x := x) hq rfl hn rfl (fun la2 h2 => k C hz H locs la2 hW hS (zl_set1 (i := 8) (v := .int (x + Int32.ofInt n)) hl (fun j e => by cases e; exact hp) h2))
theorem z_iinc9 {a0 a1 a2 a3 a4 a5 a6 a7 a8 : Option Value} {t : List (Option Value)} {n : Int} {x v : Int32} (hd : zD md pc (.iinc 9 n) 3 pc') (hv : Int32.ofInt n = v) (hp : zc1 a8 = true) (k : zZ E md X Qs Sh kc ks pc' (a0 :: a1 :: a2 :: a3 :: a4 :: a5 :: a6 :: a7 :: a8 :: some (.int (x + v)) :: t) st I L R) : zZ E md X Qs Sh kc ks pc (a0 :: a1 :: a2 :: a3 :: a4 :: a5 :: a6 :: a7 :: a8 :: some (.int x) :: t) st I L R := by
  obtain ⟨hd, rfl⟩ := hd
  subst hv
  intro C hz H locs la hW hS hl
  have hn : 9 < zmL md := by have h := hl.1; simp at h; omega
  have hm := List.getElem?_of_mem (zas_mem.mpr ⟨9, .int x, rfl, rfl⟩ : ((0 + 9, ztr E (.int x)) : Nat × Value) ∈ zas E 0 (a0 :: a1 :: a2 :: a3 :: a4 :: a5 :: a6 :: a7 :: a8 :: some (.int x) :: t))
  obtain ⟨q, hq⟩ := hm
  exact lv_iinc C.1 C.2.1 hd hl.2 (k := q) (x := x) hq rfl hn rfl (fun la2 h2 => k C hz H locs la2 hW hS (zl_set1 (i := 9) (v := .int (x + Int32.ofInt n)) hl (fun j e => by cases e; exact hp) h2))
theorem z_iinc10 {a0 a1 a2 a3 a4 a5 a6 a7 a8 a9 : Option Value} {t : List (Option Value)} {n : Int} {x v : Int32} (hd : zD md pc (.iinc 10 n) 3 pc') (hv : Int32.ofInt n = v) (hp : zc1 a9 = true) (k : zZ E md X Qs Sh kc ks pc' (a0 :: a1 :: a2 :: a3 :: a4 :: a5 :: a6 :: a7 :: a8 :: a9 :: some (.int (x + v)) :: t) st I L R) : zZ E md X Qs Sh kc ks pc (a0 :: a1 :: a2 :: a3 :: a4 :: a5 :: a6 :: a7 :: a8 :: a9 :: some (.int x) :: t) st I L R := by
  obtain ⟨hd, rfl⟩ := hd
  subst hv
  intro C hz H locs la hW hS hl
  have hn : 10 < zmL md := by have h := hl.1; simp at h; omega
  have hm := List.getElem?_of_mem (zas_mem.mpr ⟨10, .int x, rfl, rfl⟩ : ((0 + 10, ztr E (.int x)) : Nat × Value) ∈ zas E 0 (a0 :: a1 :: a2 :: a3 :: a4 :: a5 :: a6 :: a7 :: a8 :: a9 :: some (.int x) :: t))
  obtain ⟨q, hq⟩ := hm
  exact lv_iinc C.1 C.2.1 hd hl.2 (k := q) (x := x) hq rfl hn rfl (fun la2 h2 => k C hz H locs la2 hW hS (zl_set1 (i := 10) (v := .int (x + Int32.ofInt n)) hl (fun j e => by cases e; exact hp) h2))
theorem z_iinc11 {a0 a1 a2 a3 a4 a5 a6 a7 a8 a9 a10 : Option Value} {t : List (Option Value)} {n : Int} {x v : Int32} (hd : zD md pc (.iinc 11 n) 3 pc') (hv : Int32.ofInt n = v) (hp : zc1 a10 = true) (k : zZ E md X Qs Sh kc ks pc' (a0 :: a1 :: a2 :: a3 :: a4 :: a5 :: a6 :: a7 :: a8 :: a9 :: a10 :: some (.int (x + v)) :: t) st I L R) : zZ E md X Qs Sh kc ks pc (a0 :: a1 :: a2 :: a3 :: a4 :: a5 :: a6 :: a7 :: a8 :: a9 :: a10 :: some (.int x) :: t) st I L R := by
  obtain ⟨hd, rfl⟩ := hd
  subst hv
  intro C hz H locs la hW hS hl
  have hn : 11 < zmL md := by have h := hl.1; simp at h; omega
  have hm := List.getElem?_of_mem (zas_mem.mpr ⟨11, .int x, rfl, rfl⟩ : ((0 + 11, ztr E (.int x)) : Nat × Value) ∈ zas E 0 (a0 :: a1 :: a2 :: a3 :: a4 :: a5 :: a6 :: a7 :: a8 :: a9 :: a10 :: some (.int x) :: t))
  obtain ⟨q, hq⟩ := hm
  exact lv_iinc C.1 C.2.1 hd hl.2 (k := q) (x := x) hq rfl hn rfl (fun la2 h2 => k C hz H locs la2 hW hS (zl_set1 (i := 11) (v := .int (x + Int32.ofInt n)) hl (fun j e => by cases e; exact hp) h2))
theorem z_iinc12 {a0 a1 a2 a3 a4 a5 a6 a7 a8 a9 a10 a11 : Option Value} {t : List (Option Value)} {n : Int} {x v : Int32} (hd : zD md pc (.iinc 12 n) 3 pc') (hv : Int32.ofInt n = v) (hp : zc1 a11 = true) (k : zZ E md X Qs Sh kc ks pc' (a0 :: a1 :: a2 :: a3 :: a4 :: a5 :: a6 :: a7 :: a8 :: a9 :: a10 :: a11 :: some (.int (x + v)) :: t) st I L R) : zZ E md X Qs Sh kc ks pc (a0 :: a1 :: a2 :: a3 :: a4 :: a5 :: a6 :: a7 :: a8 :: a9 :: a10 :: a11 :: some (.int x) :: t) st I L R := by
  obtain ⟨hd, rfl⟩ := hd
  subst hv
  intro C hz H locs la hW hS hl
  have hn : 12 < zmL md := by have h := hl.1; simp at h; omega
  have hm := List.getElem?_of_mem (zas_mem.mpr ⟨12, .int x, rfl, rfl⟩ : ((0 + 12, ztr E (.int x)) : Nat × Value) ∈ zas E 0 (a0 :: a1 :: a2 :: a3 :: a4 :: a5 :: a6 :: a7 :: a8 :: a9 :: a10 :: a11 :: some (.int x) :: t))
  obtain ⟨q, hq⟩ := hm
  exact lv_iinc C.1 C.2.1 hd hl.2 (k := q) (x := x) hq rfl hn rfl (fun la2 h2 => k C hz H locs la2 hW hS (zl_set1 (i := 12) (v := .int (x + Int32.ofInt n)) hl (fun j e => by cases e; exact hp) h2))
theorem z_iinc13 {a0 a1 a2 a3 a4 a5 a6 a7 a8 a9 a10 a11 a12 : Option Value} {t : List (Option Value)} {n : Int} {x v : Int32} (hd : zD md pc (.iinc 13 n) 3 pc') (hv : Int32.ofInt n = v) (hp : zc1 a12 = true) (k : zZ E md X Qs Sh kc ks pc' (a0 :: a1 :: a2 :: a3 :: a4 :: a5 :: a6 :: a7 :: a8 :: a9 :: a10 :: a11 :: a12 :: some (.int (x + v)) :: t) st I L R) : zZ E md X Qs Sh kc ks pc (a0 :: a1 :: a2 :: a3 :: a4 :: a5 :: a6 :: a7 :: a8 :: a9 :: a10 :: a11 :: a12 :: some (.int x) :: t) st I L R := by
  obtain ⟨hd, rfl⟩ := hd
  subst hv
  intro C hz H locs la hW hS hl
  have hn : 13 < zmL md := by have h := hl.1; simp at h; omega
  have hm := List.getElem?_of_mem (zas_mem.mpr ⟨13, .int x, rfl, rfl⟩ : ((0 + 13, ztr E (.int x)) : Nat × Value) ∈ zas E 0 (a0 :: a1 :: a2 :: a3 :: a4 :: a5 :: a6 :: a7 :: a8 :: a9 :: a10 :: a11 :: a12 :: some (.int x) :: t))
  obtain ⟨q, hq⟩ := hm
  exact lv_iinc C.1 C.2.1 hd hl.2 (k := q) (x := x) hq rfl hn rfl (fun la2 h2 => k C hz H locs la2 hW hS (zl_set1 (i := 13) (v := .int (x + Int32.ofInt n)) hl (fun j e => by cases e; exact hp) h2))
theorem z_iadd {x y : Int32} (hd : zD md pc .iadd 1 pc') (k : zZ E md X Qs Sh kc ks pc' ls (.int (x + y) :: st) I L R) : zZ E md X Qs Sh kc ks pc ls (.int y :: .int x :: st) I L R := by
  obtain ⟨hd, rfl⟩ := hd
  intro C hz H locs la hW hS hl
  exact lv_iadd C.1 C.2.1 hd (k C hz H locs la hW hS hl)
theorem z_isub {x y : Int32} (hd : zD md pc .isub 1 pc') (k : zZ E md X Qs Sh kc ks pc' ls (.int (x - y) :: st) I L R) : zZ E md X Qs Sh kc ks pc ls (.int y :: .int x :: st) I L R := by
  obtain ⟨hd, rfl⟩ := hd
  intro C hz H locs la hW hS hl
  exact lv_isub C.1 C.2.1 hd (k C hz H locs la hW hS hl)
theorem z_imul {x y : Int32} (hd : zD md pc .imul 1 pc') (k : zZ E md X Qs Sh kc ks pc' ls (.int (x * y) :: st) I L R) : zZ E md X Qs Sh kc ks pc ls (.int y :: .int x :: st) I L R := by
  obtain ⟨hd, rfl⟩ := hd
  intro C hz H locs la hW hS hl
  exact lv_imul C.1 C.2.1 hd (k C hz H locs la hW hS hl)
theorem z_iand {x y : Int32} (hd : zD md pc .iand 1 pc') (k : zZ E md X Qs Sh kc ks pc' ls (.int (x &&& y) :: st) I L R) : zZ E md X Qs Sh kc ks pc ls (.int y :: .int x :: st) I L R := by
  obtain ⟨hd, rfl⟩ := hd
  intro C hz H locs la hW hS hl
  exact lv_iand C.1 C.2.1 hd (k C hz H locs la hW hS hl)
theorem z_ior {x y : Int32} (hd : zD md pc .ior 1 pc') (k : zZ E md X Qs Sh kc ks pc' ls (.int (x ||| y) :: st) I L R) : zZ E md X Qs Sh kc ks pc ls (.int y :: .int x :: st) I L R := by
  obtain ⟨hd, rfl⟩ := hd
  intro C hz H locs la hW hS hl
  exact lv_ior C.1 C.2.1 hd (k C hz H locs la hW hS hl)
theorem z_ixor {x y : Int32} (hd : zD md pc .ixor 1 pc') (k : zZ E md X Qs Sh kc ks pc' ls (.int (x ^^^ y) :: st) I L R) : zZ E md X Qs Sh kc ks pc ls (.int y :: .int x :: st) I L R := by
  obtain ⟨hd, rfl⟩ := hd
  intro C hz H locs la hW hS hl
  exact lv_ixor C.1 C.2.1 hd (k C hz H locs la hW hS hl)
theorem z_ishl {x y : Int32} (hd : zD md pc .ishl 1 pc') (k : zZ E md X Qs Sh kc ks pc' ls (.int (x <<< (y &&& 31)) :: st) I L R) : zZ E md X Qs Sh kc ks pc ls (.int y :: .int x :: st) I L R := by
  obtain ⟨hd, rfl⟩ := hd
  intro C hz H locs la hW hS hl
  exact lv_ishl C.1 C.2.1 hd (k C hz H locs la hW hS hl)
theorem z_ishr {x y : Int32} (hd : zD md pc .ishr 1 pc') (k : zZ E md X Qs Sh kc ks pc' ls (.int (x >>> (y &&& 31)) :: st) I L R) : zZ E md X Qs Sh kc ks pc ls (.int y :: .int x :: st) I L R := by
  obtain ⟨hd, rfl⟩ := hd
  intro C hz H locs la hW hS hl
  exact lv_ishr C.1 C.2.1 hd (k C hz H locs la hW hS hl)
theorem z_ladd {x y : Int64} (hd : zD md pc .ladd 1 pc') (k : zZ E md X Qs Sh kc ks pc' ls (.long (x + y) :: st) I L R) : zZ E md X Qs Sh kc ks pc ls (.long y :: .long x :: st) I L R := by
  obtain ⟨hd, rfl⟩ := hd
  intro C hz H locs la hW hS hl
  exact lv_ladd C.1 C.2.1 hd (k C hz H locs la hW hS hl)
theorem z_lsub {x y : Int64} (hd : zD md pc .lsub 1 pc') (k : zZ E md X Qs Sh kc ks pc' ls (.long (x - y) :: st) I L R) : zZ E md X Qs Sh kc ks pc ls (.long y :: .long x :: st) I L R := by
  obtain ⟨hd, rfl⟩ := hd
  intro C hz H locs la hW hS hl
  exact lv_lsub C.1 C.2.1 hd (k C hz H locs la hW hS hl)
theorem z_lmul {x y : Int64} (hd : zD md pc .lmul 1 pc') (k : zZ E md X Qs Sh kc ks pc' ls (.long (x * y) :: st) I L R) : zZ E md X Qs Sh kc ks pc ls (.long y :: .long x :: st) I L R := by
  obtain ⟨hd, rfl⟩ := hd
  intro C hz H locs la hW hS hl
  exact lv_lmul C.1 C.2.1 hd (k C hz H locs la hW hS hl)
theorem z_land {x y : Int64} (hd : zD md pc .land 1 pc') (k : zZ E md X Qs Sh kc ks pc' ls (.long (x &&& y) :: st) I L R) : zZ E md X Qs Sh kc ks pc ls (.long y :: .long x :: st) I L R := by
  obtain ⟨hd, rfl⟩ := hd
  intro C hz H locs la hW hS hl
  exact lv_land C.1 C.2.1 hd (k C hz H locs la hW hS hl)
theorem z_lor {x y : Int64} (hd : zD md pc .lor 1 pc') (k : zZ E md X Qs Sh kc ks pc' ls (.long (x ||| y) :: st) I L R) : zZ E md X Qs Sh kc ks pc ls (.long y :: .long x :: st) I L R := by
  obtain ⟨hd, rfl⟩ := hd
  intro C hz H locs la hW hS hl
  exact lv_lor C.1 C.2.1 hd (k C hz H locs la hW hS hl)
theorem z_idiv {x y : Int32} (hd : zD md pc .idiv 1 pc') (hne : ¬ y = 0) (k : zZ E md X Qs Sh kc ks pc' ls (.int (x / y) :: st) I L R) : zZ E md X Qs Sh kc ks pc ls (.int y :: .int x :: st) I L R := by
  obtain ⟨hd, rfl⟩ := hd
  intro C hz H locs la hW hS hl
  exact lv_idiv C.1 C.2.1 hd hne (k C hz H locs la hW hS hl)
theorem z_irem {x y : Int32} (hd : zD md pc .irem 1 pc') (hne : ¬ y = 0) (k : zZ E md X Qs Sh kc ks pc' ls (.int (x - x / y * y) :: st) I L R) : zZ E md X Qs Sh kc ks pc ls (.int y :: .int x :: st) I L R := by
  obtain ⟨hd, rfl⟩ := hd
  intro C hz H locs la hW hS hl
  exact lv_irem C.1 C.2.1 hd hne (k C hz H locs la hW hS hl)
theorem z_ineg {x : Int32} (hd : zD md pc .ineg 1 pc') (k : zZ E md X Qs Sh kc ks pc' ls (.int (-x) :: st) I L R) : zZ E md X Qs Sh kc ks pc ls (.int x :: st) I L R := by
  obtain ⟨hd, rfl⟩ := hd
  intro C hz H locs la hW hS hl
  exact lv_ineg C.1 C.2.1 hd (k C hz H locs la hW hS hl)
theorem z_i2l {x : Int32} (hd : zD md pc .i2l 1 pc') (k : zZ E md X Qs Sh kc ks pc' ls (.long x.toInt64 :: st) I L R) : zZ E md X Qs Sh kc ks pc ls (.int x :: st) I L R := by
  obtain ⟨hd, rfl⟩ := hd
  intro C hz H locs la hW hS hl
  exact lv_i2l C.1 C.2.1 hd rfl (k C hz H locs la hW hS hl)
theorem z_l2i {x : Int64} (hd : zD md pc .l2i 1 pc') (k : zZ E md X Qs Sh kc ks pc' ls (.int x.toInt32 :: st) I L R) : zZ E md X Qs Sh kc ks pc ls (.long x :: st) I L R := by
  obtain ⟨hd, rfl⟩ := hd
  intro C hz H locs la hW hS hl
  exact lv_l2i C.1 C.2.1 hd rfl (k C hz H locs la hW hS hl)
theorem z_i2b {x : Int32} (hd : zD md pc .i2b 1 pc') (k : zZ E md X Qs Sh kc ks pc' ls (.int x.toInt8.toInt32 :: st) I L R) : zZ E md X Qs Sh kc ks pc ls (.int x :: st) I L R := by
  obtain ⟨hd, rfl⟩ := hd
  intro C hz H locs la hW hS hl
  exact lv_i2b C.1 C.2.1 hd rfl (k C hz H locs la hW hS hl)
theorem z_i2s {x : Int32} (hd : zD md pc .i2s 1 pc') (k : zZ E md X Qs Sh kc ks pc' ls (.int x.toInt16.toInt32 :: st) I L R) : zZ E md X Qs Sh kc ks pc ls (.int x :: st) I L R := by
  obtain ⟨hd, rfl⟩ := hd
  intro C hz H locs la hW hS hl
  exact lv_i2s C.1 C.2.1 hd rfl (k C hz H locs la hW hS hl)
theorem z_i2c {x : Int32} (hd : zD md pc .i2c 1 pc') (k : zZ E md X Qs Sh kc ks pc' ls (.int (x.toUInt32 % 65536).toInt32 :: st) I L R) : zZ E md X Qs Sh kc ks pc ls (.int x :: st) I L R := by
  obtain ⟨hd, rfl⟩ := hd
  intro C hz H locs la hW hS hl
  exact lv_i2c C.1 C.2.1 hd rfl (k C hz H locs la hW hS hl)
theorem z_lshl {x : Int64} {y : Int32} (hd : zD md pc .lshl 1 pc') (k : zZ E md X Qs Sh kc ks pc' ls (.long (x <<< (y.toInt64 &&& 63)) :: st) I L R) : zZ E md X Qs Sh kc ks pc ls (.int y :: .long x :: st) I L R := by
  obtain ⟨hd, rfl⟩ := hd
  intro C hz H locs la hW hS hl
  exact lv_lshl C.1 C.2.1 hd rfl (k C hz H locs la hW hS hl)
theorem z_lshr {x : Int64} {y : Int32} (hd : zD md pc .lshr 1 pc') (k : zZ E md X Qs Sh kc ks pc' ls (.long (x >>> (y.toInt64 &&& 63)) :: st) I L R) : zZ E md X Qs Sh kc ks pc ls (.int y :: .long x :: st) I L R := by
  obtain ⟨hd, rfl⟩ := hd
  intro C hz H locs la hW hS hl
  exact lv_lshr C.1 C.2.1 hd rfl (k C hz H locs la hW hS hl)
theorem z_lcmp {x y : Int64} (hd : zD md pc .lcmp 1 pc') (k : zZ E md X Qs Sh kc ks pc' ls (.int (lg_cmp x y) :: st) I L R) : zZ E md X Qs Sh kc ks pc ls (.long y :: .long x :: st) I L R := by
  obtain ⟨hd, rfl⟩ := hd
  intro C hz H locs la hW hS hl
  exact W.lcmp C.1 C.2.1 hd (k C hz H locs la hW hS hl)
theorem z_dup {v : Value} (hd : zD md pc .dup 1 pc') (hv : v.category = 1) (k : zZ E md X Qs Sh kc ks pc' ls (v :: v :: st) I L R) : zZ E md X Qs Sh kc ks pc ls (v :: st) I L R := by
  obtain ⟨hd, rfl⟩ := hd
  intro C hz H locs la hW hS hl
  exact lv_dup C.1 C.2.1 hd (by rw [ztr_cat]; exact hv) (k C hz H locs la hW hS hl)
theorem z_pop {v : Value} (hd : zD md pc .pop 1 pc') (hv : v.category = 1) (k : zZ E md X Qs Sh kc ks pc' ls st I L R) : zZ E md X Qs Sh kc ks pc ls (v :: st) I L R := by
  obtain ⟨hd, rfl⟩ := hd
  intro C hz H locs la hW hS hl
  exact lv_pop C.1 C.2.1 hd (by rw [ztr_cat]; exact hv) (k C hz H locs la hW hS hl)
theorem z_dup2 {v w : Value} (hd : zD md pc .dup2 1 pc') (hv : v.category = 1) (hw : w.category = 1) (k : zZ E md X Qs Sh kc ks pc' ls (v :: w :: v :: w :: st) I L R) : zZ E md X Qs Sh kc ks pc ls (v :: w :: st) I L R := by
  obtain ⟨hd, rfl⟩ := hd
  intro C hz H locs la hW hS hl
  exact lv_dup2_11 C.1 C.2.1 hd (by rw [ztr_cat]; exact hv) (by rw [ztr_cat]; exact hw) (k C hz H locs la hW hS hl)
theorem z_dup_x1 {v w : Value} (hd : zD md pc .dup_x1 1 pc') (hv : v.category = 1) (hw : w.category = 1) (k : zZ E md X Qs Sh kc ks pc' ls (v :: w :: v :: st) I L R) : zZ E md X Qs Sh kc ks pc ls (v :: w :: st) I L R := by
  obtain ⟨hd, rfl⟩ := hd
  intro C hz H locs la hW hS hl
  exact lv_dup_x1 C.1 C.2.1 hd (by rw [ztr_cat]; exact hv) (by rw [ztr_cat]; exact hw) (k C hz H locs la hW hS hl)
theorem z_if_eq {tgt : Nat} {x : Int32} (hd : zDj md pc (.ifCond .eq) pc' tgt) (kt : x = 0 → zZ E md X Qs Sh kc ks tgt ls st I L R) (kf : ¬ (x = 0) → zZ E md X Qs Sh kc ks pc' ls st I L R) : zZ E md X Qs Sh kc ks pc ls (.int x :: st) I L R := by
  obtain ⟨off, hd, rfl, ht⟩ := hd
  intro C hz H locs la hW hS hl
  exact lv_if_eq C.1 C.2.1 hd ht (fun h => kt h C hz H locs la hW hS hl) (fun h => kf h C hz H locs la hW hS hl)
theorem z_icmp_eq {tgt : Nat} {x y : Int32} (hd : zDj md pc (.if_icmp .eq) pc' tgt) (kt : x = y → zZ E md X Qs Sh kc ks tgt ls st I L R) (kf : ¬ (x = y) → zZ E md X Qs Sh kc ks pc' ls st I L R) : zZ E md X Qs Sh kc ks pc ls (.int y :: .int x :: st) I L R := by
  obtain ⟨off, hd, rfl, ht⟩ := hd
  intro C hz H locs la hW hS hl
  exact lv_icmp_eq C.1 C.2.1 hd ht (fun h => kt h C hz H locs la hW hS hl) (fun h => kf h C hz H locs la hW hS hl)
theorem z_if_ne {tgt : Nat} {x : Int32} (hd : zDj md pc (.ifCond .ne) pc' tgt) (kt : ¬ x = 0 → zZ E md X Qs Sh kc ks tgt ls st I L R) (kf : x = 0 → zZ E md X Qs Sh kc ks pc' ls st I L R) : zZ E md X Qs Sh kc ks pc ls (.int x :: st) I L R := by
  obtain ⟨off, hd, rfl, ht⟩ := hd
  intro C hz H locs la hW hS hl
  exact lv_if_ne C.1 C.2.1 hd ht (fun h => kt h C hz H locs la hW hS hl) (fun h => kf h C hz H locs la hW hS hl)
theorem z_icmp_ne {tgt : Nat} {x y : Int32} (hd : zDj md pc (.if_icmp .ne) pc' tgt) (kt : ¬ x = y → zZ E md X Qs Sh kc ks tgt ls st I L R) (kf : x = y → zZ E md X Qs Sh kc ks pc' ls st I L R) : zZ E md X Qs Sh kc ks pc ls (.int y :: .int x :: st) I L R := by
  obtain ⟨off, hd, rfl, ht⟩ := hd
  intro C hz H locs la hW hS hl
  exact lv_icmp_ne C.1 C.2.1 hd ht (fun h => kt h C hz H locs la hW hS hl) (fun h => kf h C hz H locs la hW hS hl)
theorem z_if_lt {tgt : Nat} {x : Int32} (hd : zDj md pc (.ifCond .lt) pc' tgt) (kt : x < 0 → zZ E md X Qs Sh kc ks tgt ls st I L R) (kf : ¬ (x < 0) → zZ E md X Qs Sh kc ks pc' ls st I L R) : zZ E md X Qs Sh kc ks pc ls (.int x :: st) I L R := by
  obtain ⟨off, hd, rfl, ht⟩ := hd
  intro C hz H locs la hW hS hl
  exact lv_if_lt C.1 C.2.1 hd ht (fun h => kt h C hz H locs la hW hS hl) (fun h => kf h C hz H locs la hW hS hl)
theorem z_icmp_lt {tgt : Nat} {x y : Int32} (hd : zDj md pc (.if_icmp .lt) pc' tgt) (kt : x < y → zZ E md X Qs Sh kc ks tgt ls st I L R) (kf : ¬ (x < y) → zZ E md X Qs Sh kc ks pc' ls st I L R) : zZ E md X Qs Sh kc ks pc ls (.int y :: .int x :: st) I L R := by
  obtain ⟨off, hd, rfl, ht⟩ := hd
  intro C hz H locs la hW hS hl
  exact lv_icmp_lt C.1 C.2.1 hd ht (fun h => kt h C hz H locs la hW hS hl) (fun h => kf h C hz H locs la hW hS hl)
theorem z_if_ge {tgt : Nat} {x : Int32} (hd : zDj md pc (.ifCond .ge) pc' tgt) (kt : 0 ≤ x → zZ E md X Qs Sh kc ks tgt ls st I L R) (kf : ¬ (0 ≤ x) → zZ E md X Qs Sh kc ks pc' ls st I L R) : zZ E md X Qs Sh kc ks pc ls (.int x :: st) I L R := by
  obtain ⟨off, hd, rfl, ht⟩ := hd
  intro C hz H locs la hW hS hl
  exact lv_if_ge C.1 C.2.1 hd ht (fun h => kt h C hz H locs la hW hS hl) (fun h => kf h C hz H locs la hW hS hl)
theorem z_icmp_ge {tgt : Nat} {x y : Int32} (hd : zDj md pc (.if_icmp .ge) pc' tgt) (kt : y ≤ x → zZ E md X Qs Sh kc ks tgt ls st I L R) (kf : ¬ (y ≤ x) → zZ E md X Qs Sh kc ks pc' ls st I L R) : zZ E md X Qs Sh kc ks pc ls (.int y :: .int x :: st) I L R := by
  obtain ⟨off, hd, rfl, ht⟩ := hd
  intro C hz H locs la hW hS hl
  exact lv_icmp_ge C.1 C.2.1 hd ht (fun h => kt h C hz H locs la hW hS hl) (fun h => kf h C hz H locs la hW hS hl)
theorem z_if_gt {tgt : Nat} {x : Int32} (hd : zDj md pc (.ifCond .gt) pc' tgt) (kt : 0 < x → zZ E md X Qs Sh kc ks tgt ls st I L R) (kf : ¬ (0 < x) → zZ E md X Qs Sh kc ks pc' ls st I L R) : zZ E md X Qs Sh kc ks pc ls (.int x :: st) I L R := by
  obtain ⟨off, hd, rfl, ht⟩ := hd
  intro C hz H locs la hW hS hl
  exact lv_if_gt C.1 C.2.1 hd ht (fun h => kt h C hz H locs la hW hS hl) (fun h => kf h C hz H locs la hW hS hl)
theorem z_icmp_gt {tgt : Nat} {x y : Int32} (hd : zDj md pc (.if_icmp .gt) pc' tgt) (kt : y < x → zZ E md X Qs Sh kc ks tgt ls st I L R) (kf : ¬ (y < x) → zZ E md X Qs Sh kc ks pc' ls st I L R) : zZ E md X Qs Sh kc ks pc ls (.int y :: .int x :: st) I L R := by
  obtain ⟨off, hd, rfl, ht⟩ := hd
  intro C hz H locs la hW hS hl
  exact lv_icmp_gt C.1 C.2.1 hd ht (fun h => kt h C hz H locs la hW hS hl) (fun h => kf h C hz H locs la hW hS hl)
theorem z_if_le {tgt : Nat} {x : Int32} (hd : zDj md pc (.ifCond .le) pc' tgt) (kt : x ≤ 0 → zZ E md X Qs Sh kc ks tgt ls st I L R) (kf : ¬ (x ≤ 0) → zZ E md X Qs Sh kc ks pc' ls st I L R) : zZ E md X Qs Sh kc ks pc ls (.int x :: st) I L R := by
  obtain ⟨off, hd, rfl, ht⟩ := hd
  intro C hz H locs la hW hS hl
  exact lv_if_le C.1 C.2.1 hd ht (fun h => kt h C hz H locs la hW hS hl) (fun h => kf h C hz H locs la hW hS hl)
theorem z_icmp_le {tgt : Nat} {x y : Int32} (hd : zDj md pc (.if_icmp .le) pc' tgt) (kt : x ≤ y → zZ E md X Qs Sh kc ks tgt ls st I L R) (kf : ¬ (x ≤ y) → zZ E md X Qs Sh kc ks pc' ls st I L R) : zZ E md X Qs Sh kc ks pc ls (.int y :: .int x :: st) I L R := by
  obtain ⟨off, hd, rfl, ht⟩ := hd
  intro C hz H locs la hW hS hl
  exact lv_icmp_le C.1 C.2.1 hd ht (fun h => kt h C hz H locs la hW hS hl) (fun h => kf h C hz H locs la hW hS hl)
theorem z_goto {tgt : Nat} (hd : zDj md pc .goto pc' tgt) (k : zZ E md X Qs Sh kc ks tgt ls st I L R) : zZ E md X Qs Sh kc ks pc ls st I L R := by
  obtain ⟨off, hd, -, ht⟩ := hd
  intro C hz H locs la hW hS hl
  exact lv_goto C.1 C.2.1 hd ht (k C hz H locs la hW hS hl)
/-- a field's link: own class's entry idx is the slot j (kind t) of class ci -/
def zFd (own : String) (idx ci j t : Nat) : Prop := ∃ (C : String) (T : u_T) (N : Nat) (ty0 : Nat → FieldType), vwCl[ci]? = some (C, T, N) ∧ (∀ w ∈ u_ws C T N, w ∈ lw_g) ∧ (∀ k, k < N → parseFieldDescriptor (T k).2.2.1 = some (ty0 k)) ∧ (∀ a, a < N → ∀ b, b < N → a ≠ b → (T a).2.1 ≠ (T b).2.1) ∧ j < N ∧ (T j).1 = C ∧ Cond.fieldLink own idx C (T j).2.1 (T j).2.2.1 ∈ lw_g ∧ (zft ci)[j]? = some t ∧ N = (zft ci).length
/-- a field that may be written: it isn't final, its type -/
def zPt (ci j : Nat) (fin : Bool) (ty : FieldType) : Prop := ∀ (C : String) (T : u_T) (N : Nat), vwCl[ci]? = some (C, T, N) → (T j).2.2.2 = fin ∧ parseFieldDescriptor (T j).2.2.1 = some ty
theorem z_get {idx ci j t q : Nat} (hd : zD md pc (.getfield idx) 3 pc') (hf : zFd md.1.cls idx ci j t) (hs : Sh[q]? = some (0, ci)) {v : Value} (hv : zfv E I L R q j t = ztr E v) (hq : q < 1000000)
    (k : zZ E md X Qs Sh kc ks pc' ls (v :: st) I L R) : zZ E md X Qs Sh kc ks pc ls (.ref q :: st) I L R := by
  obtain ⟨hd, rfl⟩ := hd
  obtain ⟨Cn, T, N, ty0, hc, hcl, -, -, hj, hT, hlk, hft, -⟩ := hf
  intro C hz H locs la hW hS hl
  have hk := k C hz H locs la hW hS hl
  have he : (zw E Sh I L R)[q]? = some (zad E q, .inr (ci, zfs E I L R q ci)) := by rw [zw_at hs, zad_lt hq]; rfl
  refine va_get (D := eD E) (cl := vwCl) (tys := zTy E) (C := Cn) (T := T) (N := N) (own := md.1.cls) (ref := Cn) (a := zad E q) C.1 C.2.1 C.2.2.2.2.1 hcl C.2.2.2.1 C.2.2.2.2.2.2.2.2.1.1 hW.2 q he hc j hj (C.2.2.2.2.1 _ hlk) (fun x h => by rw [← hT]; exact h) (zfs_at hft) hd ?_
  rw [hv]
  exact hk
theorem z_getI {idx ci j q : Nat} (hd : zD md pc (.getfield idx) 3 pc') (hf : zFd md.1.cls idx ci j 0) (hs : Sh[q]? = some (0, ci)) (hq : q < 1000000)
    (k : zZ E md X Qs Sh kc ks pc' ls (.int (I q j) :: st) I L R) : zZ E md X Qs Sh kc ks pc ls (.ref q :: st) I L R := z_get hd hf hs rfl hq k
theorem z_getL {idx ci j q : Nat} (hd : zD md pc (.getfield idx) 3 pc') (hf : zFd md.1.cls idx ci j 1) (hs : Sh[q]? = some (0, ci)) (hq : q < 1000000)
    (k : zZ E md X Qs Sh kc ks pc' ls (.long (L q j) :: st) I L R) : zZ E md X Qs Sh kc ks pc ls (.ref q :: st) I L R := z_get hd hf hs rfl hq k
theorem z_getR {idx ci j q a : Nat} (hd : zD md pc (.getfield idx) 3 pc') (hf : zFd md.1.cls idx ci j 2) (hs : Sh[q]? = some (0, ci)) (hq : q < 1000000) (hr : R q j = some a)
    (k : zZ E md X Qs Sh kc ks pc' ls (.ref a :: st) I L R) : zZ E md X Qs Sh kc ks pc ls (.ref q :: st) I L R := z_get hd hf hs (by simp [zfv, hr, va_rf, ztr]) hq k
theorem z_put {idx ci j t q : Nat} {ty : FieldType} {v : Value} {I' : zI} {L' : zL} {R' : zR} (hd : zD md pc (.putfield idx) 3 pc') (hf : zFd md.1.cls idx ci j t) (hp : zPt ci j false ty) (hn : narrow ty (ztr E v) = ztr E v) (hfit : fits ty (ztr E v) = true) (hs : Sh[q]? = some (0, ci)) (hq : q < 1000000)
    (h1 : ∀ p, p ≠ q → I' p = I p) (h2 : ∀ p, p ≠ q → L' p = L p) (h3 : ∀ p, p ≠ q → R' p = R p) (hv : ztr E v = zfv E I' L' R' q j t) (ho : ∀ j' t', j' ≠ j → zfv E I' L' R' q j' t' = zfv E I L R q j' t')
    (k : zZ E md X Qs Sh kc ks pc' ls st I' L' R') : zZ E md X Qs Sh kc ks pc ls (v :: .ref q :: st) I L R := by
  obtain ⟨hd, rfl⟩ := hd
  obtain ⟨Cn, T, N, ty0, hc, hcl, hty, hnm, hj, hT, hlk, hft, hN⟩ := hf
  obtain ⟨hfin, hpt⟩ := hp Cn T N hc
  intro C hz H locs la hW hS hl
  have he : (zw E Sh I L R)[q]? = some (zad E q, .inr (ci, zfs E I L R q ci)) := by rw [zw_at hs, zad_lt hq]; rfl
  refine va_put (D := eD E) (cl := vwCl) (tys := zTy E) (C := Cn) (T := T) (N := N) (own := md.1.cls) (ref := Cn) (a := zad E q) (v := ztr E v) C.1 C.2.1 C.2.2.2.2.1 hcl ty0 hty hnm C.2.2.2.1 C.2.2.2.2.2.2.2.2.1.1 hW.2 (zw_D E Sh I L R) hS q he hc j hj (C.2.2.2.2.1 _ hlk) (fun x h => by rw [← hT]; exact h) hfin hpt hn hfit (by rw [zfs_len, ← hN]; exact hj) hd (fun H1 locs1 hP1 _ hS1 => k C hz H1 locs1 la ⟨hW.1, ?_⟩ hS1 hl)
  rw [zad_lt hq, zw_set hs h1 h2 h3 (show _ = ze E I' L' R' q (0, ci) from by
    show Sum.inr (ci, _) = Sum.inr (ci, _)
    rw [zfs_set hft hv ho])] at hP1
  exact hP1
theorem z_putF {idx ci j t q : Nat} {ty : FieldType} {v : Value} {I' : zI} {L' : zL} {R' : zR} (hd : zD md pc (.putfield idx) 3 pc') (hf : zFd md.1.cls idx ci j t) (hp : zPt ci j true ty) (hin2 : md.1.name = "<init>") (hcd : ∀ (C : String) (T : u_T) (N : Nat), vwCl[ci]? = some (C, T, N) → C = md.1.cls) (hn : narrow ty (ztr E v) = ztr E v) (hfit : fits ty (ztr E v) = true) (hs : Sh[q]? = some (0, ci)) (hq : q < 1000000)
    (h1 : ∀ p, p ≠ q → I' p = I p) (h2 : ∀ p, p ≠ q → L' p = L p) (h3 : ∀ p, p ≠ q → R' p = R p) (hv : ztr E v = zfv E I' L' R' q j t) (ho : ∀ j' t', j' ≠ j → zfv E I' L' R' q j' t' = zfv E I L R q j' t')
    (k : zZ E md X Qs Sh kc ks pc' ls st I' L' R') : zZ E md X Qs Sh kc ks pc ls (v :: .ref q :: st) I L R := by
  obtain ⟨hd, rfl⟩ := hd
  obtain ⟨Cn, T, N, ty0, hc, hcl, hty, hnm, hj, hT, hlk, hft, hN⟩ := hf
  obtain ⟨hfin, hpt⟩ := hp Cn T N hc
  intro C hz H locs la hW hS hl
  have he : (zw E Sh I L R)[q]? = some (zad E q, .inr (ci, zfs E I L R q ci)) := by rw [zw_at hs, zad_lt hq]; rfl
  refine va_putF (D := eD E) (cl := vwCl) (tys := zTy E) (C := Cn) (T := T) (N := N) (own := md.1.cls) (ref := Cn) (a := zad E q) (v := ztr E v) C.1 C.2.1 C.2.2.2.2.1 hcl ty0 hty hnm C.2.2.2.1 C.2.2.2.2.2.2.2.2.1.1 hW.2 (zw_D E Sh I L R) hS q he hc j hj (C.2.2.2.2.1 _ hlk) (fun x h => by rw [← hT]; exact h) hfin (C.2.2.2.2.2.2.2.1.trans hin2) (hT.trans (hcd Cn T N hc)) hpt hn hfit (by rw [zfs_len, ← hN]; exact hj) hd (fun H1 locs1 hP1 _ hS1 => k C hz H1 locs1 la ⟨hW.1, ?_⟩ hS1 hl)
  rw [zad_lt hq, zw_set hs h1 h2 h3 (show _ = ze E I' L' R' q (0, ci) from by
    show Sum.inr (ci, _) = Sum.inr (ci, _)
    rw [zfs_set hft hv ho])] at hP1
  exact hP1
theorem z_oI {q j : Nat} {x : Int32} : ∀ j' t', j' ≠ j → zfv E (zi I q j x) L R q j' t' = zfv E I L R q j' t' := by
  intro j' t' h
  unfold zfv
  split <;> simp [zi_eq, va_up, h]
theorem z_oL {q j : Nat} {x : Int64} : ∀ j' t', j' ≠ j → zfv E I (zj L q j x) R q j' t' = zfv E I L R q j' t' := by
  intro j' t' h
  unfold zfv
  split <;> simp [zj_eq, va_up, h]
theorem z_oR {q j : Nat} {x : Option Nat} : ∀ j' t', j' ≠ j → zfv E I L (zr R q j x) q j' t' = zfv E I L R q j' t' := by
  intro j' t' h
  unfold zfv
  split <;> simp [zr_eq, va_up, h]
theorem z_putI {idx ci j q : Nat} {x : Int32} (hd : zD md pc (.putfield idx) 3 pc') (hf : zFd md.1.cls idx ci j 0) (hp : zPt ci j false .int) (hs : Sh[q]? = some (0, ci)) (hq : q < 1000000)
    (k : zZ E md X Qs Sh kc ks pc' ls st (zi I q j x) L R) : zZ E md X Qs Sh kc ks pc ls (.int x :: .ref q :: st) I L R :=
  z_put hd hf hp rfl rfl hs hq (fun p h => zi_ne h) (fun _ _ => rfl) (fun _ _ => rfl) (by simp [zfv, zi_eq, va_up, ztr]) z_oI k
theorem z_putL {idx ci j q : Nat} {x : Int64} (hd : zD md pc (.putfield idx) 3 pc') (hf : zFd md.1.cls idx ci j 1) (hp : zPt ci j false .long) (hs : Sh[q]? = some (0, ci)) (hq : q < 1000000)
    (k : zZ E md X Qs Sh kc ks pc' ls st I (zj L q j x) R) : zZ E md X Qs Sh kc ks pc ls (.long x :: .ref q :: st) I L R :=
  z_put hd hf hp rfl rfl hs hq (fun _ _ => rfl) (fun p h => zj_ne h) (fun _ _ => rfl) (by simp [zfv, zj_eq, va_up, ztr]) z_oL k
theorem z_putR {idx ci j q a : Nat} {ty : FieldType} (hd : zD md pc (.putfield idx) 3 pc') (hf : zFd md.1.cls idx ci j 2) (hp : zPt ci j false ty) (hn : ∀ a, narrow ty (.ref a) = .ref a) (hfit : ∀ a, fits ty (.ref a) = true) (hs : Sh[q]? = some (0, ci)) (hq : q < 1000000)
    (k : zZ E md X Qs Sh kc ks pc' ls st I L (zr R q j (some a))) : zZ E md X Qs Sh kc ks pc ls (.ref a :: .ref q :: st) I L R :=
  z_put hd hf hp (hn _) (hfit _) hs hq (fun _ _ => rfl) (fun _ _ => rfl) (fun p h => zr_ne h) (by simp [zfv, zr_eq, va_up, ztr, va_rf]) z_oR k
theorem z_putFR {idx ci j q a : Nat} {ty : FieldType} (hd : zD md pc (.putfield idx) 3 pc') (hf : zFd md.1.cls idx ci j 2) (hp : zPt ci j true ty) (hin2 : md.1.name = "<init>") (hcd : ∀ (C : String) (T : u_T) (N : Nat), vwCl[ci]? = some (C, T, N) → C = md.1.cls) (hn : ∀ a, narrow ty (.ref a) = .ref a) (hfit : ∀ a, fits ty (.ref a) = true) (hs : Sh[q]? = some (0, ci)) (hq : q < 1000000)
    (k : zZ E md X Qs Sh kc ks pc' ls st I L (zr R q j (some a))) : zZ E md X Qs Sh kc ks pc ls (.ref a :: .ref q :: st) I L R :=
  z_putF hd hf hp hin2 hcd (hn _) (hfit _) hs hq (fun _ _ => rfl) (fun _ _ => rfl) (fun p h => zr_ne h) (by simp [zfv, zr_eq, va_up, ztr, va_rf]) z_oR k
theorem zA_at {q : Nat} {t : Nat × Nat} (hs : Sh[q]? = some t) (hq : q < 1000000) {e : va_E} (he : ze E I L R q t = e) : (zw E Sh I L R)[q]? = some (zad E q, e) := by rw [zw_at hs, zad_lt hq, he]
theorem z_iaload {n j q : Nat} {i : Int32} (hd : zD md pc .iaload 1 pc') (hs : Sh[q]? = some (2, n)) (hq : q < 1000000) (hx : zix i n j) (k : zZ E md X Qs Sh kc ks pc' ls (.int (I q j) :: st) I L R) : zZ E md X Qs Sh kc ks pc ls (.int i :: .ref q :: st) I L R := by
  obtain ⟨hd, rfl⟩ := hd
  intro C hz H locs la hW hS hl
  refine va_iald (D := eD E) (cl := vwCl) (tys := zTy E) (f := I q) C.1 C.2.1 C.2.2.2.2.2.2.2.2.1.1 hW.2 q 1 (zA_at hs hq rfl) rfl hx.inn hd ?_
  rw [hx.2.1]
  exact k C hz H locs la hW hS hl
theorem z_baload {n j q : Nat} {i : Int32} (hd : zD md pc .baload 1 pc') (hs : Sh[q]? = some (1, n)) (hq : q < 1000000) (hx : zix i n j) (k : zZ E md X Qs Sh kc ks pc' ls (.int (I q j) :: st) I L R) : zZ E md X Qs Sh kc ks pc ls (.int i :: .ref q :: st) I L R := by
  obtain ⟨hd, rfl⟩ := hd
  intro C hz H locs la hW hS hl
  refine va_bald (D := eD E) (cl := vwCl) (tys := zTy E) (f := I q) C.1 C.2.1 C.2.2.2.2.2.2.2.2.1.1 hW.2 q 0 (zA_at hs hq rfl) rfl hx.inn hd ?_
  rw [hx.2.1]
  exact k C hz H locs la hW hS hl
theorem z_zaload {n j q : Nat} {i : Int32} (hd : zD md pc .baload 1 pc') (hs : Sh[q]? = some (4, n)) (hq : q < 1000000) (hx : zix i n j) (k : zZ E md X Qs Sh kc ks pc' ls (.int (I q j) :: st) I L R) : zZ E md X Qs Sh kc ks pc ls (.int i :: .ref q :: st) I L R := by
  obtain ⟨hd, rfl⟩ := hd
  intro C hz H locs la hW hS hl
  refine va_zald (D := eD E) (cl := vwCl) (tys := zTy E) (f := I q) C.1 C.2.1 C.2.2.2.2.2.2.2.2.1.1 hW.2 q 3 (zA_at hs hq rfl) rfl hx.inn hd ?_
  rw [hx.2.1]
  exact k C hz H locs la hW hS hl
theorem z_laload {n j q : Nat} {i : Int32} (hd : zD md pc .laload 1 pc') (hs : Sh[q]? = some (3, n)) (hq : q < 1000000) (hx : zix i n j) (k : zZ E md X Qs Sh kc ks pc' ls (.long (L q j) :: st) I L R) : zZ E md X Qs Sh kc ks pc ls (.int i :: .ref q :: st) I L R := by
  obtain ⟨hd, rfl⟩ := hd
  intro C hz H locs la hW hS hl
  refine va_lald (D := eD E) (cl := vwCl) (tys := zTy E) (f := L q) C.1 C.2.1 C.2.2.2.2.2.2.2.2.1.1 hW.2 q 2 (zA_at hs hq rfl) rfl hx.inn hd ?_
  rw [hx.2.1]
  exact k C hz H locs la hW hS hl
theorem z_aaload5 {n j q a : Nat} {i : Int32} (hd : zD md pc .aaload 1 pc') (hs : Sh[q]? = some (5, n)) (hq : q < 1000000) (hx : zix i n j) (hr : R q j = some a) (k : zZ E md X Qs Sh kc ks pc' ls (.ref a :: st) I L R) : zZ E md X Qs Sh kc ks pc ls (.int i :: .ref q :: st) I L R := by
  obtain ⟨hd, rfl⟩ := hd
  intro C hz H locs la hW hS hl
  refine va_aldq (D := eD E) (cl := vwCl) (tys := zTy E) (f := fun j => (R q j).map (zad E)) C.1 C.2.1 C.2.2.2.2.2.2.2.2.1.1 hW.2 q 4 (zA_at hs hq rfl) rfl hx.inn hd ?_
  rw [hx.2.1, hr]
  exact k C hz H locs la hW hS hl
theorem z_aaload6 {n j q a : Nat} {i : Int32} (hd : zD md pc .aaload 1 pc') (hs : Sh[q]? = some (6, n)) (hq : q < 1000000) (hx : zix i n j) (hr : R q j = some a) (k : zZ E md X Qs Sh kc ks pc' ls (.ref a :: st) I L R) : zZ E md X Qs Sh kc ks pc ls (.int i :: .ref q :: st) I L R := by
  obtain ⟨hd, rfl⟩ := hd
  intro C hz H locs la hW hS hl
  refine va_aldq (D := eD E) (cl := vwCl) (tys := zTy E) (f := fun j => (R q j).map (zad E)) C.1 C.2.1 C.2.2.2.2.2.2.2.2.1.1 hW.2 q 5 (zA_at hs hq rfl) rfl hx.inn hd ?_
  rw [hx.2.1, hr]
  exact k C hz H locs la hW hS hl
theorem z_iastore {n j q : Nat} {i x : Int32} (hd : zD md pc .iastore 1 pc') (hs : Sh[q]? = some (2, n)) (hq : q < 1000000) (hx : zix i n j) (k : zZ E md X Qs Sh kc ks pc' ls st (zi I q j x) L R) : zZ E md X Qs Sh kc ks pc ls (.int x :: .int i :: .ref q :: st) I L R := by
  obtain ⟨hd, rfl⟩ := hd
  intro C hz H locs la hW hS hl
  refine va_iast (D := eD E) (cl := vwCl) (tys := zTy E) (f := I q) C.1 C.2.1 C.2.2.2.2.2.2.2.2.1.1 hW.2 (zw_D E Sh I L R) hS q 1 (zA_at hs hq rfl) rfl hx.inn hd (fun H1 locs1 hP1 _ hS1 => k C hz H1 locs1 la ⟨hW.1, ?_⟩ hS1 hl)
  rw [zad_lt hq, hx.2.1, zw_set (I' := zi I q j x) (L' := L) (R' := R) hs (fun p h => zi_ne h) (fun _ _ => rfl) (fun _ _ => rfl) (show _ = ze E (zi I q j x) L R q (2, n) from by
    show Sum.inl (eY E 2, n, Sum.inl (upd (I q) j x)) = Sum.inl (eY E 2, n, Sum.inl (zi I q j x q))
    rw [zi_eq]; rfl)] at hP1
  exact hP1
theorem z_bastore {n j q : Nat} {i x : Int32} (hd : zD md pc .bastore 1 pc') (hs : Sh[q]? = some (1, n)) (hq : q < 1000000) (hx : zix i n j) (k : zZ E md X Qs Sh kc ks pc' ls st (zi I q j (vp_nar .byte x)) L R) : zZ E md X Qs Sh kc ks pc ls (.int x :: .int i :: .ref q :: st) I L R := by
  obtain ⟨hd, rfl⟩ := hd
  intro C hz H locs la hW hS hl
  refine va_bast (D := eD E) (cl := vwCl) (tys := zTy E) (f := I q) C.1 C.2.1 C.2.2.2.2.2.2.2.2.1.1 hW.2 (zw_D E Sh I L R) hS q 0 (zA_at hs hq rfl) rfl hx.inn hd (fun H1 locs1 hP1 _ hS1 => k C hz H1 locs1 la ⟨hW.1, ?_⟩ hS1 hl)
  rw [zad_lt hq, hx.2.1, zw_set (I' := zi I q j (vp_nar .byte x)) (L' := L) (R' := R) hs (fun p h => zi_ne h) (fun _ _ => rfl) (fun _ _ => rfl) (show _ = ze E (zi I q j (vp_nar .byte x)) L R q (1, n) from by
    show Sum.inl (eY E 1, n, Sum.inl (upd (I q) j (vp_nar .byte x))) = Sum.inl (eY E 1, n, Sum.inl (zi I q j (vp_nar .byte x) q))
    rw [zi_eq]; rfl)] at hP1
  exact hP1
theorem z_zastore {n j q : Nat} {i x : Int32} (hd : zD md pc .bastore 1 pc') (hs : Sh[q]? = some (4, n)) (hq : q < 1000000) (hx : zix i n j) (k : zZ E md X Qs Sh kc ks pc' ls st (zi I q j (vp_nar .boolean x)) L R) : zZ E md X Qs Sh kc ks pc ls (.int x :: .int i :: .ref q :: st) I L R := by
  obtain ⟨hd, rfl⟩ := hd
  intro C hz H locs la hW hS hl
  refine va_zast (D := eD E) (cl := vwCl) (tys := zTy E) (f := I q) C.1 C.2.1 C.2.2.2.2.2.2.2.2.1.1 hW.2 (zw_D E Sh I L R) hS q 3 (zA_at hs hq rfl) rfl hx.inn hd (fun H1 locs1 hP1 _ hS1 => k C hz H1 locs1 la ⟨hW.1, ?_⟩ hS1 hl)
  rw [zad_lt hq, hx.2.1, zw_set (I' := zi I q j (vp_nar .boolean x)) (L' := L) (R' := R) hs (fun p h => zi_ne h) (fun _ _ => rfl) (fun _ _ => rfl) (show _ = ze E (zi I q j (vp_nar .boolean x)) L R q (4, n) from by
    show Sum.inl (eY E 4, n, Sum.inl (upd (I q) j (vp_nar .boolean x))) = Sum.inl (eY E 4, n, Sum.inl (zi I q j (vp_nar .boolean x) q))
    rw [zi_eq]; rfl)] at hP1
  exact hP1
theorem z_lastore {n j q : Nat} {i : Int32} {x : Int64} (hd : zD md pc .lastore 1 pc') (hs : Sh[q]? = some (3, n)) (hq : q < 1000000) (hx : zix i n j) (k : zZ E md X Qs Sh kc ks pc' ls st I (zj L q j x) R) : zZ E md X Qs Sh kc ks pc ls (.long x :: .int i :: .ref q :: st) I L R := by
  obtain ⟨hd, rfl⟩ := hd
  intro C hz H locs la hW hS hl
  refine va_last (D := eD E) (cl := vwCl) (tys := zTy E) (f := L q) C.1 C.2.1 C.2.2.2.2.2.2.2.2.1.1 hW.2 (zw_D E Sh I L R) hS q 2 (zA_at hs hq rfl) rfl hx.inn hd (fun H1 locs1 hP1 _ hS1 => k C hz H1 locs1 la ⟨hW.1, ?_⟩ hS1 hl)
  rw [zad_lt hq, hx.2.1, zw_set (I' := I) (L' := zj L q j x) (R' := R) hs (fun _ _ => rfl) (fun p h => zj_ne h) (fun _ _ => rfl) (show _ = ze E I (zj L q j x) R q (3, n) from by
    show Sum.inl (eY E 3, n, Sum.inr (Sum.inl (vp_updL (L q) j x))) = Sum.inl (eY E 3, n, Sum.inr (Sum.inl (zj L q j x q)))
    rw [zj_eq]; rfl)] at hP1
  exact hP1
theorem z_alenI {n q : Nat} (hd : zD md pc .arraylength 1 pc') (hs : Sh[q]? = some (2, n)) (hq : q < 1000000) (k : zZ E md X Qs Sh kc ks pc' ls (.int (nI n) :: st) I L R) : zZ E md X Qs Sh kc ks pc ls (.ref q :: st) I L R := by
  obtain ⟨hd, rfl⟩ := hd
  intro C hz H locs la hW hS hl
  exact va_alen (D := eD E) (cl := vwCl) (tys := zTy E) C.1 C.2.1 C.2.2.2.2.2.2.2.2.1.1 hW.2 q 1 (zA_at hs hq rfl) rfl (v := nI n) rfl hd (k C hz H locs la hW hS hl)
theorem z_alenL {n q : Nat} (hd : zD md pc .arraylength 1 pc') (hs : Sh[q]? = some (3, n)) (hq : q < 1000000) (k : zZ E md X Qs Sh kc ks pc' ls (.int (nI n) :: st) I L R) : zZ E md X Qs Sh kc ks pc ls (.ref q :: st) I L R := by
  obtain ⟨hd, rfl⟩ := hd
  intro C hz H locs la hW hS hl
  exact va_alen (D := eD E) (cl := vwCl) (tys := zTy E) C.1 C.2.1 C.2.2.2.2.2.2.2.2.1.1 hW.2 q 2 (zA_at hs hq rfl) rfl (v := nI n) rfl hd (k C hz H locs la hW hS hl)
theorem z_ldc2 {idx : Nat} {v : Int64} (hd : zD md pc (.ldc2_w idx) 3 pc') (hc : Cond.constantLong md.1.cls idx v ∈ lw_g) (k : zZ E md X Qs Sh kc ks pc' ls (.long v :: st) I L R) : zZ E md X Qs Sh kc ks pc ls st I L R := by
  obtain ⟨hd, rfl⟩ := hd
  intro C hz H locs la hW hS hl
  exact lv_ldc2 C.1 C.2.1 C.2.2.2.1 (C.2.2.2.2.1 _ hc) hd (k C hz H locs la hW hS hl)
theorem z_tabOut {dflt lo hi : Int} {offs : Array Int} {len tgt : Nat} {x : Int32} (hd : decode (zcc md) pc = .ok (.tableswitch dflt lo hi offs, len)) (h : x.toInt < lo ∨ hi < x.toInt) (ht : (pc : Int) + dflt = (tgt : Int)) (k : zZ E md X Qs Sh kc ks tgt ls st I L R) : zZ E md X Qs Sh kc ks pc ls (.int x :: st) I L R := by
  intro C hz H locs la hW hS hl
  exact lv_tableOut C.1 C.2.1 hd h ht (k C hz H locs la hW hS hl)
theorem z_tabIn {dflt lo hi off : Int} {offs : Array Int} {len tgt : Nat} {x : Int32} (hd : decode (zcc md) pc = .ok (.tableswitch dflt lo hi offs, len)) (h1 : ¬ x.toInt < lo) (h2 : ¬ hi < x.toInt) (ho : offs[(x.toInt - lo).toNat]? = some off) (ht : (pc : Int) + off = (tgt : Int)) (k : zZ E md X Qs Sh kc ks tgt ls st I L R) : zZ E md X Qs Sh kc ks pc ls (.int x :: st) I L R := by
  intro C hz H locs la hW hS hl
  exact lv_tableIn C.1 C.2.1 hd h1 h2 ho ht (k C hz H locs la hW hS hl)
theorem z_ldcS {idx i : Nat} {tx : String} (hd : zD md pc (.ldc idx) 2 pc') (hi : zStrs[i]? = some (idx, tx)) (hcls : md.1.cls = RX4) (hi2 : 1000000 + (i + 1) ≥ 1000000) (k : zZ E md X Qs Sh kc ks pc' ls (.ref (1000000 + (i + 1)) :: st) I L R) : zZ E md X Qs Sh kc ks pc ls st I L R := by
  obtain ⟨hd, rfl⟩ := hd
  intro C hz H locs la hW hS hl
  have hk := k C hz H locs la hW hS hl
  have hr := C.2.2.2.2.2.2.2.2.1.2.2.2 i _ hi
  rw [← hcls] at hr
  refine va_ldcS C.1 C.2.1 C.2.2.2.1 hr hd ?_
  have e : ztr E (.ref (1000000 + (i + 1))) = .ref (eF E (i + 1)) := by
    show Value.ref (zad E _) = _
    unfold zad
    rw [if_neg (by omega), Nat.add_sub_cancel_left]
  rw [List.map_cons, e] at hk
  exact hk
end ZROWS
end
section
/-! CONTRACTS OVER THE LITTLE MACHINE, AND CALLS -/
def zPc (E : zE) (Sh : zSh) (args : List Value) (I : zI) (L : zL) (R : zR) : Array Value → State → Prop := fun v U => v = (args.map (ztr E)).toArray ∧ U.heap.size = eB E + Sh.length ∧ zWd E Sh I L R U.heap ∧ zKK E U ∧ zFo E U U.heap
def zQc (E : zE) (md : zMD) (Q : Option Value → zSh → zI → zL → zR → Prop) : Array Value → State → Outcome → State → Prop := fun _ st oc t => ∃ (r : Option Value) (Sh : zSh) (I : zI) (L : zL) (R : zR), oc = .returned (r.map (ztr E)) ∧ Q r Sh I L R ∧ zWd E Sh I L R t.heap ∧ st.heap.size + zmc md = eB E + Sh.length ∧ va_F (zA E) st t
/-- the method, called with args in this world, returns with Q -/
def zCt (E : zE) (md : zMD) (Sh : zSh) (args : List Value) (I : zI) (L : zL) (R : zR) (Q : Option Value → zSh → zI → zL → zR → Prop) : Prop :=
  Met (eL E) md.1 (.code md.1 (zcc md) (zmL md) (zret md) :: lw_g) (zrm md) (zPc E Sh args I L R) (zQc E md Q) (zmc md) (zms md) (zA E)
abbrev zQs (E : zE) (md : zMD) (X : zX) (Q : Option Value → zSh → zI → zL → zR → Prop) : State → Prop := MQ (xB X) (zQc E md Q) (xA X) (xS X) (zmc md) (zms md) (zA E)
theorem zPc_blind {E : zE} {Sh : zSh} {args : List Value} {I : zI} {L : zL} {R : zR} : FrameBlind (zPc E Sh args I L R) := fun a U g mk h => ⟨h.1, h.2.1, h.2.2.1, zKK.same rfl h.2.2.2.1, zFo.moved (u := U) (Vm.Alike.refl U.vm) h.2.2.2.2⟩
set_option maxRecDepth 10000 in
/-- a contract out of the walk of the method's body -/
theorem z_met {E : zE} {md : zMD} {Sh : zSh} {args : List Value} {I : zI} {L : zL} {R : zR} {Q : Option Value → zSh → zI → zL → zR → Prop} (hy : plainName md.1.cls = true) (ls : List (Option Value)) (hls : zas E 0 ls = lv_args 0 (args.map (ztr E))) (hlen : ls.length = zmL md) (hfit : (lg_sl (args.map (ztr E))).length ≤ zmL md)
    (body : ∀ X : zX, zZ E md X (zQs E md X Q) Sh 0 0 0 ls [] I L R) : zCt E md Sh args I L R Q := by
  refine Met.ofW (cc := zcc md) (maxL := zmL md) (ret := zret md) hy rfl ?_
  intro p e s m a below meth c s₁ B hml hv
  obtain ⟨rfl, hsz, hW, hKK, hFo⟩ := hv
  have hts := atoms_spec (ws := .code md.1 (zcc md) (zmL md) (zret md) :: lw_g) B.pre
  have hl := lv_entry (args.map (ztr E)) (n := zmL md) hfit
  rw [lg_entry_eq]
  exact body (p, e, s, m, (args.map (ztr E)).toArray, below, meth, c) ⟨B.exec, B.bytes, hml, findClass_of_methodNamed B.named, fun w h => hts w (List.mem_cons_of_mem _ h), B.returns, B.notSynchronized, (name_of_methodNamed B.named B.method).1, hKK, hFo, by show eB E ≤ s.heap.size; omega⟩ hsz s.heap [] _ hW va_S.rf ⟨hlen, by rw [hls]; exact hl⟩
section ZCALLS
variable {E : zE} {md : zMD} {X : zX} {Qs : State → Prop} {Sh : zSh} {kc ks pc pc' : Nat} {ls : List (Option Value)} {st : List Value} {I : zI} {L : zL} {R : zR} {Q : Option Value → zSh → zI → zL → zR → Prop}
/-- what a return owes -/
theorem z_fin {H : Heap} {locs : List Loc} {r : Option Value} (hq : Q r Sh I L R) (hz : (xS X).heap.size + zmc md = eB E + Sh.length) (hW : zWd E Sh I L R H) (hS : va_S (zA E) (xS X).heap H locs) :
    ∀ t : State, t.heap = H → (xS X).WarmedH t.vm → zQc E md Q (xA X) (xS X) (.returned (r.map (ztr E))) t := fun t ht _ => ⟨r, Sh, I, L, R, rfl, hq, by rw [ht]; exact hW, hz, hS.F ht⟩
theorem z_ireturn {v : Int32} (hd : decode (zcc md) pc = .ok (.ireturn, 1)) (hr : zret md = some .int) (hq : Q (some (.int v)) Sh I L R) : zZ E md X (zQs E md X Q) Sh (zmc md) (zms md) pc ls [.int v] I L R := by
  intro C hz H locs la hW hS hl
  exact W.iret C.1 C.2.1 (C.2.2.2.2.2.1.trans hr) (z_fin hq hz hW hS) hS.2.2 hd C.2.2.2.2.2.2.1
theorem z_zreturn {v : Int32} (hd : decode (zcc md) pc = .ok (.ireturn, 1)) (hr : zret md = some .boolean) (hn : narrow .boolean (.int v) = .int v) (hq : Q (some (.int v)) Sh I L R) : zZ E md X (zQs E md X Q) Sh (zmc md) (zms md) pc ls [.int v] I L R := by
  intro C hz H locs la hW hS hl
  exact W.zret C.1 C.2.1 (C.2.2.2.2.2.1.trans hr) hn (z_fin hq hz hW hS) hS.2.2 hd C.2.2.2.2.2.2.1
theorem z_lreturn {v : Int64} (hd : decode (zcc md) pc = .ok (.lreturn, 1)) (hr : zret md = some .long) (hq : Q (some (.long v)) Sh I L R) : zZ E md X (zQs E md X Q) Sh (zmc md) (zms md) pc ls [.long v] I L R := by
  intro C hz H locs la hW hS hl
  exact W.lret C.1 C.2.1 (C.2.2.2.2.2.1.trans hr) (z_fin hq hz hW hS) hS.2.2 hd C.2.2.2.2.2.2.1
theorem z_return (hd : decode (zcc md) pc = .ok (.return_, 1)) (hr : zret md = none) (hq : Q none Sh I L R) : zZ E md X (zQs E md X Q) Sh (zmc md) (zms md) pc ls [] I L R := by
  intro C hz H locs la hW hS hl
  exact W.vret C.1 C.2.1 (C.2.2.2.2.2.1.trans hr) (z_fin hq hz hW hS) hS.2.2 hd C.2.2.2.2.2.2.1
theorem z_areturn {a : Nat} {n : String} (hd : decode (zcc md) pc = .ok (.areturn, 1)) (hr : zret md = some (.object n)) (hq : Q (some (.ref a)) Sh I L R) : zZ E md X (zQs E md X Q) Sh (zmc md) (zms md) pc ls [.ref a] I L R := by
  intro C hz H locs la hW hS hl
  exact W.aret C.1 C.2.1 (C.2.2.2.2.2.1.trans hr) (Or.inl ⟨n, rfl⟩) (Or.inr ⟨_, rfl⟩) (z_fin hq hz hW hS) hS.2.2 hd C.2.2.2.2.2.2.1
/-- the heap's size is the world's -/
theorem z_size {H : Heap} {locs : List Loc} {T : State} (hb : eB E ≤ (xS X).heap.size) (hz : (xS X).heap.size + kc = eB E + Sh.length) (hW : zWd E Sh I L R H) (hS : va_S (zA E) (xS X).heap H locs) (hT : T.heap = H) (X' : Stand (xP X) (eL E) (xE X) (zrm md) (xS X) (xM X) (xA X) (xB X) (xT X) (xC X) T locs kc ks) : H.size = eB E + Sh.length := by
  have h1 : T.heap.size ≤ (xS X).heap.size + kc := X'.same.2.2.1
  rw [hT] at h1
  have h2 := hS.1
  rcases Nat.eq_zero_or_pos Sh.length with h | h
  · omega
  · have hk : Sh.length - 1 < Sh.length := by omega
    have h3 := (hW.2 _ _ (zw_at (List.getElem?_eq_getElem hk))).lt
    have h4 : eB E + (Sh.length - 1) < H.size := h3
    omega
theorem z_run {H : Heap} {locs : List Loc} {la : Array Slot} {mdc : zMD} {st0 rest : List Value} {a : Array Value} (hb : eB E ≤ (xS X).heap.size) (hz : (xS X).heap.size + kc = eB E + Sh.length) (hW : zWd E Sh I L R H) (hS : va_S (zA E) (xS X).heap H locs)
    (hr : H.size = eB E + Sh.length → va_Run (xP X) (eL E) (xE X) (zrm md) (xS X) (xM X) (xA X) (xB X) (xT X) (xC X) H locs kc ks (zmc mdc) (zms mdc) (F0 (xM X) pc la st0) rest (zQc E mdc Q a) (zA E))
    (kk : ∀ (r : Option Value) (Sh' : zSh) (I' : zI) (L' : zL) (R' : zR) (H1 : Heap) (locs1 : List Loc), Q r Sh' I' L' R' → (xS X).heap.size + (kc + zmc mdc) = eB E + Sh'.length → zWd E Sh' I' L' R' H1 → va_S (zA E) (xS X).heap H1 locs1 →
      W (xP X) (eL E) (xE X) (zrm md) (xS X) (xM X) (xA X) (xB X) (xT X) (xC X) H1 locs1 (kc + zmc mdc) (ks + zms mdc) Qs (F0 (xM X) (pc + 3) la ((r.map (ztr E)).toList ++ rest))) :
    W (xP X) (eL E) (xE X) (zrm md) (xS X) (xM X) (xA X) (xB X) (xT X) (xC X) H locs kc ks Qs (F0 (xM X) pc la st0) := by
  intro T hT X'
  have hsz := z_size hb hz hW hS hT X'
  obtain ⟨v, st₀, t, T', L', h0, X2, hL, e1, e2, ⟨r, Sh', I', L1, R', hv, hq, hw, hm, hF1, hF2⟩, st⟩ := hr hsz T hT X'
  cases hv
  rw [h0] at hm hF1 hF2
  obtain ⟨t2, a1, b1⟩ := kk r Sh' I' L1 R' T'.heap (locs ++ L') hq (by omega) (by rw [e1]; exact hw)
    ⟨Nat.le_trans hS.1 (by rw [e1]; exact hF1), fun q h1 h2 => by rw [e1, hF2 q (Nat.lt_of_lt_of_le h1 hS.1) h2]; exact hS.2.1 q h1 h2, fun q hq => by
      rcases List.mem_append.mp hq with h | h
      · exact hS.2.2 q h
      · exact hL q h⟩ T' rfl X2
  exact ⟨t2, st t2 a1, b1⟩
theorem zgood {w : Cond} (h : w ∈ lw_g) : GoodIn lw_g (w :: lw_g) := by
  intro q hq
  have h1 : q ∈ lw_g := by
    rcases List.mem_cons.mp hq with e | e
    · rw [e]; exact h
    · exact e
  exact ⟨h1, good_of_word (List.mem_filter.mp h1).2⟩
/-- a callee's words and room, whoever calls -/
def zCb (md mdc : zMD) (n : Nat) : Prop := Cond.code mdc.1 (zcc mdc) (zmL mdc) (zret mdc) ∈ lw_g ∧ Cond.initialized mdc.1.cls ∈ lw_g ∧ (mdc.1.cls ≠ "java/lang/invoke/MethodHandle" ∧ mdc.1.cls ≠ "java/lang/invoke/VarHandle" ∧ (parseMethodDescriptor mdc.1.desc).map (fun d => d.parameters.length) = some n) ∧ ((zrm mdc).cells = zmc mdc ∧ (zrm mdc).slots = zms mdc) ∧ ((zrm mdc).frames + 1 ≤ (zrm md).frames ∧ 8 + (zmL mdc + 11) + (zrm mdc).locals ≤ (zrm md).locals)
def zCv (md : zMD) (idx : Nat) (mdc : zMD) (ci n : Nat) : Prop := zCb md mdc n ∧ Cond.methodLink md.1.cls idx mdc.1 ∈ lw_g ∧ Cond.instanceMethod mdc.1 ∈ lw_g ∧ ∃ (C : String) (T : u_T) (N : Nat), vwCl[ci]? = some (C, T, N) ∧ Cond.selects C mdc.1 mdc.1 ∈ lw_g
def zCs (md : zMD) (idx : Nat) (mdc : zMD) (n : Nat) : Prop := zCb md mdc n ∧ Cond.methodLink md.1.cls idx mdc.1 ∈ lw_g ∧ Cond.static mdc.1 ∈ lw_g
def zCsn (md : zMD) (idx : Nat) (mdc : zMD) (n : Nat) (host : String) : Prop := zCb md mdc n ∧ (md.1.cls, idx, mdc.1, host) ∈ zNest ∧ Cond.static mdc.1 ∈ lw_g
def zCi (md : zMD) (idx : Nat) (mdc : zMD) (n : Nat) : Prop := zCb md mdc n ∧ Cond.methodLink md.1.cls idx mdc.1 ∈ lw_g ∧ Cond.instanceMethod mdc.1 ∈ lw_g ∧ mdc.1.name = "<init>" ∧ zret mdc = none
def zCin (md : zMD) (idx : Nat) (mdc : zMD) (n : Nat) (host : String) : Prop := zCb md mdc n ∧ (md.1.cls, idx, mdc.1, host) ∈ zNest ∧ Cond.instanceMethod mdc.1 ∈ lw_g ∧ mdc.1.name = "<init>" ∧ zret mdc = none
def zcat (st : List Value) : Nat := (st.map fun v => v.category).sum
theorem zcat_map : ∀ st : List Value, ((st.map (ztr E)).map fun v => v.category).sum = zcat st
  | [] => rfl
  | v :: t => by
    have := zcat_map t
    simp only [zcat, List.map_cons, List.sum_cons, ztr_cat] at this ⊢
    rw [this]
theorem z_pre {H : Heap} {locs : List Loc} {args : List Value} (C : zCtx E md X) (hsz : H.size = eB E + Sh.length) (hW : zWd E Sh I L R H) (hS : va_S (zA E) (xS X).heap H locs) : ∀ U : State, U.heap = H → (xS X).WarmedH U.vm → zPc E Sh args I L R (args.map (ztr E)).toArray U := by
  intro U hU hw
  refine ⟨rfl, by rw [hU]; exact hsz, by rw [hU]; exact hW, zKK.warm hw C.2.2.2.2.2.2.2.2.1, zFo.moved hw.alike ?_⟩
  rw [hU]
  exact C.2.2.2.2.2.2.2.2.2.1.kept (fun a h1 h2 => hS.2.1 a h1 h2)
theorem z_callV {idx q n ci : Nat} {mdc : zMD} {As stk : List Value} (hd : zD md pc (.invokevirtual idx) 3 pc') (hc : zCv md idx mdc ci n) (hs : Sh[q]? = some (0, ci)) (hq : q < 1000000) (hct : zCt E mdc Sh (.ref q :: As) I L R Q) (hst : stk = As.reverse ++ .ref q :: st) (hn : As.length = n) (hw : Nat.ble (zcat st) 8 = true) (hroom : kc + zmc mdc ≤ (zrm md).cells ∧ ks + zms mdc ≤ (zrm md).slots)
    (kk : ∀ (r : Option Value) (Sh' : zSh) (I' : zI) (L' : zL) (R' : zR), Q r Sh' I' L' R' → zZ E md X Qs Sh' (kc + zmc mdc) (ks + zms mdc) pc' ls (r.toList ++ st) I' L' R') : zZ E md X Qs Sh kc ks pc ls stk I L R := by
  obtain ⟨hd, rfl⟩ := hd
  obtain ⟨⟨hcode, hini, hnm, ⟨hrc, hrs⟩, hR⟩, hlk, hin, Cn, T, N, hcl, hsel⟩ := hc
  subst hst
  intro C hz H locs la hW hS hl
  refine z_run (mdc := mdc) (Q := Q) (a := (Value.ref (zad E q) :: As.map (ztr E)).toArray) (rest := st.map (ztr E)) C.2.2.2.2.2.2.2.2.2.2 hz hW hS (fun hsz => ?_) (fun r Sh' I' L' R' H1 locs1 hq1 hz1 hW1 hS1 => ?_)
  · refine va_runV (C := Cn) (As := As.map (ztr E)) (b := zad E q) (nL := zmL md) ⟨C.1, C.2.1, C.2.2.1, C.2.2.2.1, C.2.2.2.2.1⟩ hct ⟨callB_of n C.2.2.2.2.1 (zgood hcode) rfl hrc hrs (C.2.2.2.2.1 _ hini) (C.2.2.2.2.1 _ hlk) hnm hR, C.2.2.2.2.1 _ hin, C.2.2.2.2.1 _ hsel⟩ ⟨zPc_blind, va_recv (D := eD E) (cl := vwCl) (tys := zTy E) C.2.2.2.2.2.2.2.2.1.1 hW.2 hcl (q0 := q) (zA_at hs hq rfl), z_pre C hsz hW hS⟩ rfl (by simpa using hn) hl.2.1 ?_ ?_ hd hroom
    · show ((As.reverse ++ .ref q :: st).map (ztr E)) = _
      simp [List.map_append, List.map_reverse, ztr]
    · show 2 * 0 + ((st.map (ztr E)).map fun v => v.category).sum ≤ 8
      rw [zcat_map, Nat.mul_zero, Nat.zero_add]
      exact Nat.le_of_ble_eq_true hw
  · have := kk r Sh' I' L' R' hq1 C hz1 H1 locs1 la hW1 hS1 hl
    cases r <;> exact this
theorem z_callS {idx n : Nat} {mdc : zMD} {As stk : List Value} (hd : zD md pc (.invokestatic idx) 3 pc') (hc : zCs md idx mdc n) (hct : zCt E mdc Sh As I L R Q) (hst : stk = As.reverse ++ st) (hn : As.length = n) (hw : Nat.ble (zcat st) 8 = true) (hroom : kc + zmc mdc ≤ (zrm md).cells ∧ ks + zms mdc ≤ (zrm md).slots)
    (kk : ∀ (r : Option Value) (Sh' : zSh) (I' : zI) (L' : zL) (R' : zR), Q r Sh' I' L' R' → zZ E md X Qs Sh' (kc + zmc mdc) (ks + zms mdc) pc' ls (r.toList ++ st) I' L' R') : zZ E md X Qs Sh kc ks pc ls stk I L R := by
  obtain ⟨hd, rfl⟩ := hd
  obtain ⟨⟨hcode, hini, hnm, ⟨hrc, hrs⟩, hR⟩, hlk, hstat⟩ := hc
  subst hst
  intro C hz H locs la hW hS hl
  refine z_run (mdc := mdc) (Q := Q) (a := (As.map (ztr E)).toArray) (rest := st.map (ztr E)) C.2.2.2.2.2.2.2.2.2.2 hz hW hS (fun hsz => ?_) (fun r Sh' I' L' R' H1 locs1 hq1 hz1 hW1 hS1 => ?_)
  · refine va_runS (As := As.map (ztr E)) (nL := zmL md) ⟨C.1, C.2.1, C.2.2.1, C.2.2.2.1, C.2.2.2.2.1⟩ hct ⟨callB_of n C.2.2.2.2.1 (zgood hcode) rfl hrc hrs (C.2.2.2.2.1 _ hini) (C.2.2.2.2.1 _ hlk) hnm hR, C.2.2.2.2.1 _ hstat⟩ ⟨zPc_blind, z_pre C hsz hW hS⟩ rfl (by simpa using hn) hl.2.1 ?_ ?_ hd hroom
    · show ((As.reverse ++ st).map (ztr E)) = _
      simp [List.map_append, List.map_reverse]
    · show 2 * 0 + ((st.map (ztr E)).map fun v => v.category).sum ≤ 8
      rw [zcat_map, Nat.mul_zero, Nat.zero_add]
      exact Nat.le_of_ble_eq_true hw
  · have := kk r Sh' I' L' R' hq1 C hz1 H1 locs1 la hW1 hS1 hl
    cases r <;> exact this
theorem z_callSN {idx n : Nat} {mdc : zMD} {host : String} {As stk : List Value} (hd : zD md pc (.invokestatic idx) 3 pc') (hc : zCsn md idx mdc n host) (hct : zCt E mdc Sh As I L R Q) (hst : stk = As.reverse ++ st) (hn : As.length = n) (hw : Nat.ble (zcat st) 8 = true) (hroom : kc + zmc mdc ≤ (zrm md).cells ∧ ks + zms mdc ≤ (zrm md).slots)
    (kk : ∀ (r : Option Value) (Sh' : zSh) (I' : zI) (L' : zL) (R' : zR), Q r Sh' I' L' R' → zZ E md X Qs Sh' (kc + zmc mdc) (ks + zms mdc) pc' ls (r.toList ++ st) I' L' R') : zZ E md X Qs Sh kc ks pc ls stk I L R := by
  obtain ⟨hd, rfl⟩ := hd
  obtain ⟨⟨hcode, hini, hnm, ⟨hrc, hrs⟩, hR⟩, hlk, hstat⟩ := hc
  subst hst
  intro C hz H locs la hW hS hl
  refine z_run (mdc := mdc) (Q := Q) (a := (As.map (ztr E)).toArray) (rest := st.map (ztr E)) C.2.2.2.2.2.2.2.2.2.2 hz hW hS (fun hsz => ?_) (fun r Sh' I' L' R' H1 locs1 hq1 hz1 hW1 hS1 => ?_)
  · refine va_runSN (host := host) (As := As.map (ztr E)) (nL := zmL md) ⟨C.1, C.2.1, C.2.2.1, C.2.2.2.1, C.2.2.2.2.1⟩ hct ⟨va_cnB n C.2.2.2.2.1 (zgood hcode) rfl hrc hrs (C.2.2.2.2.2.2.2.2.1.2.1 _ hlk) (C.2.2.2.2.1 _ hini) hnm hR, C.2.2.2.2.1 _ hstat, trivial⟩ ⟨zPc_blind, z_pre C hsz hW hS⟩ rfl (by simpa using hn) hl.2.1 ?_ ?_ hd hroom
    · show ((As.reverse ++ st).map (ztr E)) = _
      simp [List.map_append, List.map_reverse]
    · show 2 * 0 + ((st.map (ztr E)).map fun v => v.category).sum ≤ 8
      rw [zcat_map, Nat.mul_zero, Nat.zero_add]
      exact Nat.le_of_ble_eq_true hw
  · have := kk r Sh' I' L' R' hq1 C hz1 H1 locs1 la hW1 hS1 hl
    cases r <;> exact this
theorem z_callI {idx q n : Nat} {mdc : zMD} {As stk : List Value} (hd : zD md pc (.invokespecial idx) 3 pc') (hc : zCi md idx mdc n) (hct : zCt E mdc Sh (.ref q :: As) I L R Q) (hst : stk = As.reverse ++ .ref q :: st) (hn : As.length = n) (hw : Nat.ble (zcat st) 8 = true) (hroom : kc + zmc mdc ≤ (zrm md).cells ∧ ks + zms mdc ≤ (zrm md).slots)
    (kk : ∀ (r : Option Value) (Sh' : zSh) (I' : zI) (L' : zL) (R' : zR), Q r Sh' I' L' R' → zZ E md X Qs Sh' (kc + zmc mdc) (ks + zms mdc) pc' ls (r.toList ++ st) I' L' R') : zZ E md X Qs Sh kc ks pc ls stk I L R := by
  obtain ⟨hd, rfl⟩ := hd
  obtain ⟨⟨hcode, hini, hnm, ⟨hrc, hrs⟩, hR⟩, hlk, hin, hy1, hrt⟩ := hc
  subst hst
  intro C hz H locs la hW hS hl
  refine z_run (mdc := mdc) (Q := Q) (a := (Value.ref (zad E q) :: As.map (ztr E)).toArray) (rest := st.map (ztr E)) C.2.2.2.2.2.2.2.2.2.2 hz hW hS (fun hsz => ?_) (fun r Sh' I' L' R' H1 locs1 hq1 hz1 hW1 hS1 => ?_)
  · refine va_runI (As := As.map (ztr E)) (b := zad E q) (nL := zmL md) ⟨C.1, C.2.1, C.2.2.1, C.2.2.2.1, C.2.2.2.2.1⟩ hct ⟨callB_of n C.2.2.2.2.1 (zgood hcode) (by rw [hrt]) hrc hrs (C.2.2.2.2.1 _ hini) (C.2.2.2.2.1 _ hlk) hnm hR, hy1, C.2.2.2.2.1 _ hin⟩ ⟨zPc_blind, z_pre (args := .ref q :: As) C hsz hW hS⟩ rfl (by simpa using hn) hl.2.1 ?_ ?_ hd hroom
    · show ((As.reverse ++ .ref q :: st).map (ztr E)) = _
      simp [List.map_append, List.map_reverse, ztr]
    · show 2 * 0 + ((st.map (ztr E)).map fun v => v.category).sum ≤ 8
      rw [zcat_map, Nat.mul_zero, Nat.zero_add]
      exact Nat.le_of_ble_eq_true hw
  · have := kk r Sh' I' L' R' hq1 C hz1 H1 locs1 la hW1 hS1 hl
    cases r <;> exact this
theorem z_callIN {idx q n : Nat} {mdc : zMD} {host : String} {As stk : List Value} (hd : zD md pc (.invokespecial idx) 3 pc') (hc : zCin md idx mdc n host) (hct : zCt E mdc Sh (.ref q :: As) I L R Q) (hst : stk = As.reverse ++ .ref q :: st) (hn : As.length = n) (hw : Nat.ble (zcat st) 8 = true) (hroom : kc + zmc mdc ≤ (zrm md).cells ∧ ks + zms mdc ≤ (zrm md).slots)
    (kk : ∀ (r : Option Value) (Sh' : zSh) (I' : zI) (L' : zL) (R' : zR), Q r Sh' I' L' R' → zZ E md X Qs Sh' (kc + zmc mdc) (ks + zms mdc) pc' ls (r.toList ++ st) I' L' R') : zZ E md X Qs Sh kc ks pc ls stk I L R := by
  obtain ⟨hd, rfl⟩ := hd
  obtain ⟨⟨hcode, hini, hnm, ⟨hrc, hrs⟩, hR⟩, hlk, hin, hy1, hrt⟩ := hc
  subst hst
  intro C hz H locs la hW hS hl
  refine z_run (mdc := mdc) (Q := Q) (a := (Value.ref (zad E q) :: As.map (ztr E)).toArray) (rest := st.map (ztr E)) C.2.2.2.2.2.2.2.2.2.2 hz hW hS (fun hsz => ?_) (fun r Sh' I' L' R' H1 locs1 hq1 hz1 hW1 hS1 => ?_)
  · refine va_runIN (host := host) (As := As.map (ztr E)) (b := zad E q) (nL := zmL md) ⟨C.1, C.2.1, C.2.2.1, C.2.2.2.1, C.2.2.2.2.1⟩ hct ⟨va_cnB n C.2.2.2.2.1 (zgood hcode) (by rw [hrt]) hrc hrs (C.2.2.2.2.2.2.2.2.1.2.1 _ hlk) (C.2.2.2.2.1 _ hini) hnm hR, hy1, C.2.2.2.2.1 _ hin⟩ ⟨zPc_blind, z_pre (args := .ref q :: As) C hsz hW hS⟩ rfl (by simpa using hn) hl.2.1 ?_ ?_ hd hroom
    · show ((As.reverse ++ .ref q :: st).map (ztr E)) = _
      simp [List.map_append, List.map_reverse, ztr]
    · show 2 * 0 + ((st.map (ztr E)).map fun v => v.category).sum ≤ 8
      rw [zcat_map, Nat.mul_zero, Nat.zero_add]
      exact Nat.le_of_ble_eq_true hw
  · have := kk r Sh' I' L' R' hq1 C hz1 H1 locs1 la hW1 hS1 hl
    cases r <;> exact this
end ZCALLS
end
section
/-! CELLS THAT ARE MADE; THE LIBRARY'S OWN CALLS -/
section ZMADE
variable {E : zE} {md : zMD} {X : zX} {Qs : State → Prop} {Sh : zSh} {kc ks pc pc' : Nat} {ls : List (Option Value)} {st : List Value} {I : zI} {L : zL} {R : zR}
theorem z_sized {H : Heap} {locs : List Loc} {g : JFrame} (C : zCtx E md X) (hz : (xS X).heap.size + kc = eB E + Sh.length) (hW : zWd E Sh I L R H) (hS : va_S (zA E) (xS X).heap H locs)
    (k : H.size = eB E + Sh.length → W (xP X) (eL E) (xE X) (zrm md) (xS X) (xM X) (xA X) (xB X) (xT X) (xC X) H locs kc ks Qs g) : W (xP X) (eL E) (xE X) (zrm md) (xS X) (xM X) (xA X) (xB X) (xT X) (xC X) H locs kc ks Qs g :=
  fun T hT X1 => k (z_size C.2.2.2.2.2.2.2.2.2.2 hz hW hS hT X1) T hT X1
theorem zWd_push {I' : zI} {L' : zL} {R' : zR} {t : Nat × Nat} {H H1 : Heap} (hW : zWd E Sh I L R H) (hn : Sh.length < 1000000) (hk : ∀ q : Nat, q < H.size → H1[q]? = H[q]?) (h1 : ∀ q, q ≠ Sh.length → I' q = I q) (h2 : ∀ q, q ≠ Sh.length → L' q = L q) (h3 : ∀ q, q ≠ Sh.length → R' q = R q)
    (hat : va_at (eD E) vwCl (eB E + Sh.length, ze E I' L' R' Sh.length t) H1) : zWd E (Sh ++ [t]) I' L' R' H1 := by
  refine ⟨by simp; omega, fun k q hq => ?_⟩
  simp only [zw, List.getElem?_mapIdx, Option.map_eq_some_iff] at hq
  obtain ⟨u, hu, rfl⟩ := hq
  by_cases hl : k < Sh.length
  · rw [List.getElem?_append_left hl] at hu
    have h := hW.2 k _ (zw_at hu)
    rw [ze_congr (h1 k (by omega)) (h2 k (by omega)) (h3 k (by omega))]
    exact h.kept (hk _ h.lt)
  · rw [List.getElem?_append_right (by omega)] at hu
    have hz : k - Sh.length < 1 := (List.getElem?_eq_some_iff.mp hu).1
    have hk0 : k = Sh.length := by omega
    subst hk0
    rw [Nat.sub_self] at hu
    cases hu
    exact hat
theorem zS_push {H H1 : Heap} {locs : List Loc} (hS : va_S (zA E) (xS X).heap H locs) (hz : H1.size = H.size + 1) (hk : ∀ q : Nat, q < H.size → H1[q]? = H[q]?) : va_S (zA E) (xS X).heap H1 locs :=
  ⟨Nat.le_trans hS.1 (by omega), fun x h1 h2 => (hk x (Nat.lt_of_lt_of_le h1 hS.1)).trans (hS.2.1 x h1 h2), hS.2.2⟩
def zdef (t : Nat) : Value := match t with
  | 0 => .int 0
  | 1 => .long 0
  | _ => .null
def zNw (md : zMD) (idx ci N : Nat) : Prop := ∃ (C : String) (T : u_T) (ty0 : Nat → FieldType), vwCl[ci]? = some (C, T, N) ∧ (∀ w ∈ u_ws C T N, w ∈ lw_g) ∧ (∀ k, k < N → parseFieldDescriptor (T k).2.2.1 = some (ty0 k)) ∧ Cond.classLink md.1.cls idx C ∈ lw_g ∧ Cond.instantiable C N ∈ lw_g ∧ Cond.initialized C ∈ lw_g ∧ ∀ j, j < N → ∃ t, (zft ci)[j]? = some t ∧ defaultValue (ty0 j) = zdef t
theorem z_new {idx ci N : Nat} (hd : zD md pc (.new idx) 3 pc') (hc : zNw md idx ci N) (hn : Sh.length < 1000000) (hroom : kc + 1 ≤ (zrm md).cells ∧ ks + N ≤ (zrm md).slots)
    (k : zZ E md X Qs (Sh ++ [(0, ci)]) (kc + 1) (ks + N) pc' ls (.ref Sh.length :: st) (va_up I Sh.length (fun _ => 0)) (va_up L Sh.length (fun _ => 0)) (va_up R Sh.length (fun _ => none))) : zZ E md X Qs Sh kc ks pc ls st I L R := by
  obtain ⟨hd, rfl⟩ := hd
  obtain ⟨Cn, T, ty0, hcl, hin, hty, hlk, hins, hini, hdf⟩ := hc
  intro C hz H locs la hW hS hl
  refine z_sized C hz hW hS (fun hsz => ?_)
  have hKn := C.2.2.2.2.2.2.2.2.1.1.1 ci _ hcl
  refine W.newcK (h := eB E + Sh.length) C.1 C.2.1 C.2.2.2.1 (C.2.2.2.2.1 _ hlk) (C.2.2.2.2.1 _ hins) (C.2.2.2.2.1 _ hini) rfl hd hroom.1 hroom.2 hKn.2.1 hsz (fun H1 kC hkC e1 z1 o1 => ?_)
  have o2 : ∀ q : Nat, q < H.size → H1[q]? = H[q]? := fun q h => o1 q (by omega)
  have hk := k C (by simp; omega) H1 locs la (zWd_push hW hn o2 (fun q h => va_up_ne _ _ h) (fun q h => va_up_ne _ _ h) (fun q h => va_up_ne _ _ h) ?_) (zS_push hS (by omega) o2) hl
  · have e : ztr E (.ref Sh.length) = .ref (eB E + Sh.length) := by show Value.ref (zad E _) = _; rw [zad_lt hn]
    rw [List.map_cons, e] at hk
    exact hk
  · refine ⟨_, hcl, (u_born ty0 C.2.2.2.2.1 hin hKn hkC e1 hty).to (fun j hj => ?_)⟩
    obtain ⟨t, ht, hv⟩ := hdf j hj
    rw [hv]
    show zdef t = (zfs E _ _ _ _ ci).getD j .null
    rw [List.getD_eq_getElem?_getD, zfs_at ht]
    show zdef t = zfv E _ _ _ _ j t
    unfold zdef zfv
    split <;> simp [va_up, va_rf]
/-- rows of numbers -/
theorem z_newa {tag : Nat} {ty : FieldType} {atype : ArrayType} {n : Int32} {N : Nat} {I' : zI} {L' : zL} (hd : zD md pc (.newarray atype) 2 pc') (hat : newarray.typeOf atype = ty) (hty : (zTy E)[tag]? = some (eY E (tag + 1), ty)) (hw : Cond.arrayClass ty ∈ lw_g) (hn0 : ¬ n < 0) (hN : n.toNatClampNeg = N) (hby : N * componentBytes ty ≤ 536870912) (hn : Sh.length < 1000000) (hroom : kc + 1 ≤ (zrm md).cells ∧ ks + N ≤ (zrm md).slots)
    (h1 : ∀ q, q ≠ Sh.length → I' q = I q) (h2 : ∀ q, q ≠ Sh.length → L' q = L q) (hra : ∀ U : State, va_RA U (eY E (tag + 1)) ty → U.vm.findClass ("[" ++ ty.toString) = some (eY E (tag + 1)))
    (hcell : ∃ a0 : vp_A, ze E I' L' R Sh.length (tag + 1, N) = .inl (eY E (tag + 1), a0) ∧ vp_cell (eY E (tag + 1)) a0 = arrV (eY E (tag + 1)) N (fun _ => defaultValue ty))
    (k : zZ E md X Qs (Sh ++ [(tag + 1, N)]) (kc + 1) (ks + N) pc' ls (.ref Sh.length :: st) I' L' R) : zZ E md X Qs Sh kc ks pc ls (.int n :: st) I L R := by
  obtain ⟨hd, rfl⟩ := hd
  subst hat
  intro C hz H locs la hW hS hl
  refine z_sized C hz hW hS (fun hsz => ?_)
  have hK2 := hra _ (C.2.2.2.2.2.2.2.2.1.1.2 tag _ hty).2
  refine va_newaK (h := eB E + Sh.length) C.1 C.2.1 (C.2.2.2.2.1 _ hw) rfl hd rfl hn0 hN hby hroom.1 hroom.2 hsz (fun H1 cA e1 z1 o1 hAr hNm => ?_)
  have hcA : cA = eY E (tag + 1) := Option.some.inj (hNm.symm.trans hK2)
  subst hcA
  have o2 : ∀ q : Nat, q < H.size → H1[q]? = H[q]? := fun q h => o1 q (by omega)
  obtain ⟨a0, ha1, ha2⟩ := hcell
  have hk := k C (by simp; omega) H1 locs la (zWd_push hW hn o2 h1 h2 (fun _ _ => rfl) ?_) (zS_push hS (by omega) o2) hl
  · have e : ztr E (.ref Sh.length) = .ref (eB E + Sh.length) := by show Value.ref (zad E _) = _; rw [zad_lt hn]
    rw [List.map_cons, e] at hk
    exact hk
  · rw [ha1]
    show H1[eB E + Sh.length]? = some (vp_cell _ _)
    rw [ha2]
    exact e1
theorem z_newI {n : Int32} {N : Nat} (hd : zD md pc (.newarray .int) 2 pc') (hn0 : ¬ n < 0) (hN : n.toNatClampNeg = N) (hby : N * 4 ≤ 536870912) (hn : Sh.length < 1000000) (hroom : kc + 1 ≤ (zrm md).cells ∧ ks + N ≤ (zrm md).slots)
    (k : zZ E md X Qs (Sh ++ [(2, N)]) (kc + 1) (ks + N) pc' ls (.ref Sh.length :: st) (va_up I Sh.length (fun _ => 0)) L R) : zZ E md X Qs Sh kc ks pc ls (.int n :: st) I L R :=
  z_newa (tag := 1) (ty := .int) hd rfl rfl (in_g (up_1 (List.mem_of_getElem? (i := 85) rfl)) rfl) hn0 hN hby hn hroom (fun q h => va_up_ne _ _ h) (fun _ _ => rfl) (fun U h => h) ⟨(N, .inl (fun _ => 0)), by show Sum.inl (eY E 2, N, Sum.inl _) = _; simp [va_up], rfl⟩ k
theorem z_newB {n : Int32} {N : Nat} (hd : zD md pc (.newarray .byte) 2 pc') (hn0 : ¬ n < 0) (hN : n.toNatClampNeg = N) (hby : N * 1 ≤ 536870912) (hn : Sh.length < 1000000) (hroom : kc + 1 ≤ (zrm md).cells ∧ ks + N ≤ (zrm md).slots)
    (k : zZ E md X Qs (Sh ++ [(1, N)]) (kc + 1) (ks + N) pc' ls (.ref Sh.length :: st) (va_up I Sh.length (fun _ => 0)) L R) : zZ E md X Qs Sh kc ks pc ls (.int n :: st) I L R :=
  z_newa (tag := 0) (ty := .byte) hd rfl rfl (in_g (up_1 (List.mem_of_getElem? (i := 40) rfl)) rfl) hn0 hN hby hn hroom (fun q h => va_up_ne _ _ h) (fun _ _ => rfl) (fun U h => h) ⟨(N, .inl (fun _ => 0)), by show Sum.inl (eY E 1, N, Sum.inl _) = _; simp [va_up], rfl⟩ k
theorem z_newZ {n : Int32} {N : Nat} (hd : zD md pc (.newarray .boolean) 2 pc') (hn0 : ¬ n < 0) (hN : n.toNatClampNeg = N) (hby : N * 1 ≤ 536870912) (hn : Sh.length < 1000000) (hroom : kc + 1 ≤ (zrm md).cells ∧ ks + N ≤ (zrm md).slots)
    (k : zZ E md X Qs (Sh ++ [(4, N)]) (kc + 1) (ks + N) pc' ls (.ref Sh.length :: st) (va_up I Sh.length (fun _ => 0)) L R) : zZ E md X Qs Sh kc ks pc ls (.int n :: st) I L R :=
  z_newa (tag := 3) (ty := .boolean) hd rfl rfl (in_g (up_1 (List.mem_of_getElem? (i := 131) rfl)) rfl) hn0 hN hby hn hroom (fun q h => va_up_ne _ _ h) (fun _ _ => rfl) (fun U h => h) ⟨(N, .inl (fun _ => 0)), by show Sum.inl (eY E 4, N, Sum.inl _) = _; simp [va_up], rfl⟩ k
theorem z_newL {n : Int32} {N : Nat} (hd : zD md pc (.newarray .long) 2 pc') (hn0 : ¬ n < 0) (hN : n.toNatClampNeg = N) (hby : N * 8 ≤ 536870912) (hn : Sh.length < 1000000) (hroom : kc + 1 ≤ (zrm md).cells ∧ ks + N ≤ (zrm md).slots)
    (k : zZ E md X Qs (Sh ++ [(3, N)]) (kc + 1) (ks + N) pc' ls (.ref Sh.length :: st) I (va_up L Sh.length (fun _ => 0)) R) : zZ E md X Qs Sh kc ks pc ls (.int n :: st) I L R :=
  z_newa (tag := 2) (ty := .long) hd rfl rfl (in_g (up_2 (List.mem_of_getElem? (i := 1) rfl)) rfl) hn0 hN hby hn hroom (fun _ _ => rfl) (fun q h => va_up_ne _ _ h) (fun U h => h) ⟨(N, .inr (.inl (fun _ => 0))), by show Sum.inl (eY E 3, N, Sum.inr (Sum.inl _)) = _; simp [va_up], rfl⟩ k
/-- rows of references -/
theorem z_anew {tag idx : Nat} {Cn : String} {n : Int32} {N : Nat} (htag : (tag = 4 ∧ Cn = RX0) ∨ (tag = 5 ∧ Cn = RX5)) (hd : zD md pc (.anewarray idx) 3 pc') (hlk : Cond.classLink md.1.cls idx Cn ∈ lw_g) (hn0 : ¬ n < 0) (hN : n.toNatClampNeg = N) (hby : N * 4 ≤ 536870912) (hn : Sh.length < 1000000) (hroom : kc + 1 ≤ (zrm md).cells ∧ ks + N ≤ (zrm md).slots)
    (k : zZ E md X Qs (Sh ++ [(tag + 1, N)]) (kc + 1) (ks + N) pc' ls (.ref Sh.length :: st) I L (va_up R Sh.length (fun _ => none))) : zZ E md X Qs Sh kc ks pc ls (.int n :: st) I L R := by
  obtain ⟨hd, rfl⟩ := hd
  subst hN
  intro C hz H locs la hW hS hl
  refine z_sized C hz hW hS (fun hsz => ?_)
  have hao : va_AO Cn (xS X) := by
    rcases htag with ⟨-, rfl⟩ | ⟨-, rfl⟩
    · exact C.2.2.2.2.2.2.2.2.1.2.2.1.1
    · exact C.2.2.2.2.2.2.2.2.1.2.2.1.2
  have hty : (zTy E)[tag]? = some (eY E (tag + 1), .object Cn) := by rcases htag with ⟨rfl, rfl⟩ | ⟨rfl, rfl⟩ <;> rfl
  obtain ⟨kA, comp, k1, k2, k3, k4⟩ := (C.2.2.2.2.2.2.2.2.1.1.2 tag _ hty).2
  refine W.anew C.1 C.2.1 C.2.2.2.1 (C.2.2.2.2.1 _ hlk) (va_AO.use hao) rfl hd rfl hn0 hby hroom.1 hroom.2 (fun cA kA comp f1 f2 f3 f4 => ?_)
  have hcA : cA = eY E (tag + 1) := Option.some.inj (f1.symm.trans k4)
  subst hcA
  generalize hH1 : H.push ({ cls := eY E (tag + 1), slots := Array.replicate n.toNatClampNeg .null, vm := .none } : Cell) = H1
  have z1 : H1.size = H.size + 1 := by rw [← hH1, Array.size_push]
  have e1 : H1[H.size]? = some (arrV (eY E (tag + 1)) n.toNatClampNeg (fun _ => .null)) := by rw [← hH1, Array.getElem?_push_size, ← arrV_new]
  have o2 : ∀ q : Nat, q < H.size → H1[q]? = H[q]? := fun q hq => by rw [← hH1, Array.getElem?_push, if_neg (Nat.ne_of_lt hq)]
  have hk := k C (by simp; omega) H1 locs la (zWd_push hW hn o2 (fun _ _ => rfl) (fun _ _ => rfl) (fun q h => va_up_ne _ _ h) ?_) (zS_push hS (by omega) o2) hl
  · have e : ztr E (.ref Sh.length) = .ref H.size := by show Value.ref (zad E _) = _; rw [zad_lt hn, hsz]
    rw [List.map_cons, e] at hk
    exact hk
  · have e : ze E I L (va_up R Sh.length (fun _ => none)) Sh.length (tag + 1, n.toNatClampNeg) = .inl (eY E (tag + 1), n.toNatClampNeg, .inr (.inr (.inr (.inr (fun _ => none))))) := by
      rcases htag with ⟨rfl, rfl⟩ | ⟨rfl, rfl⟩ <;> simp [ze, va_up]
    rw [e]
    show H1[eB E + Sh.length]? = some (vp_cell _ _)
    rw [← hsz]
    exact e1
theorem z_aastore {tag n j q a ci N : Nat} {Cn : String} {T : u_T} {i : Int32} (htag : (tag = 4 ∧ Cn = RX0) ∨ (tag = 5 ∧ Cn = RX5)) (hd : zD md pc .aastore 1 pc') (hs : Sh[q]? = some (tag + 1, n)) (hq : q < 1000000) (ha : a < 1000000) (hx : zix i n j) (hsa : Sh[a]? = some (0, ci)) (hc : vwCl[ci]? = some (Cn, T, N)) (k : zZ E md X Qs Sh kc ks pc' ls st I L (zr R q j (some a))) : zZ E md X Qs Sh kc ks pc ls (.ref a :: .int i :: .ref q :: st) I L R := by
  obtain ⟨hd, rfl⟩ := hd
  intro C hz H locs la hW hS hl
  have hty : (zTy E)[tag]? = some (eY E (tag + 1), .object (Cn, T, N).1) := by rcases htag with ⟨rfl, rfl⟩ | ⟨rfl, rfl⟩ <;> rfl
  have hze : ∀ R', ze E I L R' q (tag + 1, n) = .inl (eY E (tag + 1), n, .inr (.inr (.inr (.inr (fun j => (R' q j).map (zad E)))))) := by
    intro R'
    rcases htag with ⟨rfl, rfl⟩ | ⟨rfl, rfl⟩ <;> rfl
  refine va_astq (D := eD E) (cl := vwCl) (tys := zTy E) (f := fun j => (R q j).map (zad E)) C.1 C.2.1 C.2.2.2.2.2.2.2.2.1.1 hW.2 (zw_D E Sh I L R) hS q tag a ci (zA_at hs hq (hze R)) hty (v := zad E a) (zA_at hsa ha rfl) hc hx.inn hd (fun H1 locs1 hP1 _ hS1 => k C hz H1 locs1 la ⟨hW.1, ?_⟩ hS1 hl)
  rw [zad_lt hq, hx.2.1, zw_set (I' := I) (L' := L) (R' := zr R q j (some a)) hs (fun _ _ => rfl) (fun _ _ => rfl) (fun p h => zr_ne h) (show _ = ze E I L (zr R q j (some a)) q (tag + 1, n) from by
    rw [hze, zr_eq]
    congr 7
    funext y
    by_cases hy : y = j <;> simp [va_up, hy])] at hP1
  exact hP1
theorem z_objInit {idx q : Nat} (hd : zD md pc (.invokespecial idx) 3 pc') (hlk : Cond.methodLink md.1.cls idx objectInit ∈ lw_g) (hin : Cond.instanceMethod objectInit ∈ lw_g) (hco : Cond.code objectInit ⟨#[0xb1]⟩ 1 none ∈ lw_g) (hf : 1 ≤ (zrm md).frames) (hlo : zcat st + 12 ≤ (zrm md).locals) (k : zZ E md X Qs Sh kc ks pc' ls st I L R) : zZ E md X Qs Sh kc ks pc ls (.ref q :: st) I L R := by
  obtain ⟨hd, rfl⟩ := hd
  intro C hz H locs la hW hS hl
  exact W.objInit C.1 C.2.1 C.2.2.2.1 (C.2.2.2.2.1 _ hlk) (C.2.2.2.2.1 _ hin) (C.2.2.2.2.1 _ hco) rfl (by rw [C.2.2.1]; exact hl.2.1) rfl hd hf (by
    show 2 * 0 + ((st.map (ztr E)).map fun v => v.category).sum + 12 ≤ _
    rw [zcat_map]; omega) (k C hz H locs la hW hS hl)
def zMa (md : zMD) (idx : Nat) (y : MethodName) (cc : ByteArray) (n : Nat) : Prop := Cond.methodLink md.1.cls idx y ∈ lw_g ∧ Cond.static y ∈ lw_g ∧ Cond.initialized "java/lang/Math" ∈ lw_g ∧ Cond.code y cc n (some .int) ∈ lw_g
theorem z_mmax {idx : Nat} {x y : Int32} (hd : zD md pc (.invokestatic idx) 3 pc') (hm : zMa md idx Lib.Math.max.name Lib.Math.max.code 2) (hf : 1 ≤ (zrm md).frames) (hlo : zcat st + 13 ≤ (zrm md).locals) (hc : kc ≤ (zrm md).cells ∧ ks ≤ (zrm md).slots) (k : zZ E md X Qs Sh kc ks pc' ls (.int (if x < y then y else x) :: st) I L R) : zZ E md X Qs Sh kc ks pc ls (.int y :: .int x :: st) I L R := by
  obtain ⟨hd, rfl⟩ := hd
  intro C hz H locs la hW hS hl
  exact va_mmax C.1 C.2.1 (C.2.2.1.trans hl.2.1.symm) C.2.2.2.1 (C.2.2.2.2.1 _ hm.1) (C.2.2.2.2.1 _ hm.2.1) (C.2.2.2.2.1 _ hm.2.2.1) (C.2.2.2.2.1 _ hm.2.2.2) hf (by rw [zcat_map]; exact hlo) hc.1 hc.2 hd (k C hz H locs la hW hS hl)
theorem z_mmin {idx : Nat} {x y : Int32} (hd : zD md pc (.invokestatic idx) 3 pc') (hm : zMa md idx Lib.Math.min.name Lib.Math.min.code 2) (hf : 1 ≤ (zrm md).frames) (hlo : zcat st + 13 ≤ (zrm md).locals) (hc : kc ≤ (zrm md).cells ∧ ks ≤ (zrm md).slots) (k : zZ E md X Qs Sh kc ks pc' ls (.int (if y < x then y else x) :: st) I L R) : zZ E md X Qs Sh kc ks pc ls (.int y :: .int x :: st) I L R := by
  obtain ⟨hd, rfl⟩ := hd
  intro C hz H locs la hW hS hl
  exact va_mmin C.1 C.2.1 (C.2.2.1.trans hl.2.1.symm) C.2.2.2.1 (C.2.2.2.2.1 _ hm.1) (C.2.2.2.2.1 _ hm.2.1) (C.2.2.2.2.1 _ hm.2.2.1) (C.2.2.2.2.1 _ hm.2.2.2) hf (by rw [zcat_map]; exact hlo) hc.1 hc.2 hd (k C hz H locs la hW hS hl)
theorem z_mabs {idx : Nat} {x : Int32} (hd : zD md pc (.invokestatic idx) 3 pc') (hm : zMa md idx Lib.Math.abs.name Lib.Math.abs.code 1) (hf : 1 ≤ (zrm md).frames) (hlo : zcat st + 13 ≤ (zrm md).locals) (hc : kc ≤ (zrm md).cells ∧ ks ≤ (zrm md).slots) (k : zZ E md X Qs Sh kc ks pc' ls (.int (if 0 ≤ x then x else 0 - x) :: st) I L R) : zZ E md X Qs Sh kc ks pc ls (.int x :: st) I L R := by
  obtain ⟨hd, rfl⟩ := hd
  intro C hz H locs la hW hS hl
  exact va_mabs C.1 C.2.1 (C.2.2.1.trans hl.2.1.symm) C.2.2.2.1 (C.2.2.2.2.1 _ hm.1) (C.2.2.2.2.1 _ hm.2.1) (C.2.2.2.2.1 _ hm.2.2.1) (C.2.2.2.2.1 _ hm.2.2.2) hf (by rw [zcat_map]; exact hlo) hc.1 hc.2 hd (k C hz H locs la hW hS hl)
def zcp {α : Type} (f g : Nat → α) (n : Nat) : Nat → α := fun k => if k < n then f k else g k
theorem zcp_of {α : Type} (f g : Nat → α) (n : Nat) : va_cpy f g 0 0 n = zcp f g n := by
  funext k
  simp [va_cpy, zcp]
def zAc (md : zMD) (idx : Nat) : Prop := Cond.methodLink md.1.cls idx arraycopyName ∈ lw_g
theorem z_copy {idx q0 q1 n0 n1 N : Nat} {n : Int32} (hd : zD md pc (.invokestatic idx) 3 pc') (hm : zAc md idx) (hs0 : Sh[q0]? = some (2, n0)) (hq0 : q0 < 1000000) (hs1 : Sh[q1]? = some (2, n1)) (hq1 : q1 < 1000000) (hn : ¬ n < 0) (hN : n.toNatClampNeg = N) (h0 : N ≤ n0) (h1 : N ≤ n1) (hf : 1 ≤ (zrm md).frames) (hlo : zcat st + 18 ≤ (zrm md).locals) (k : zZ E md X Qs Sh kc ks pc' ls st (va_up I q1 (zcp (I q0) (I q1) N)) L R) : zZ E md X Qs Sh kc ks pc ls (.int n :: .int 0 :: .ref q1 :: .int 0 :: .ref q0 :: st) I L R := by
  obtain ⟨hd, rfl⟩ := hd
  subst hN
  intro C hz H locs la hW hS hl
  have z0 : (0 : Int32).toNatClampNeg = 0 := by decide
  refine va_copyi (D := eD E) (cl := vwCl) (tys := zTy E) (f := I q0) (g := I q1) (ty := .int) C.1 C.2.1 (C.2.2.1.trans hl.2.1.symm) C.2.2.2.1 (C.2.2.2.2.1 _ hm) (C.2.2.2.2.1 _ (in_g (up_2 (List.mem_of_getElem? (i := 212) rfl)) rfl)) (C.2.2.2.2.1 _ (in_g (up_2 (List.mem_of_getElem? (i := 211) rfl)) rfl)) (C.2.2.2.2.1 _ (in_g (up_1 (List.mem_of_getElem? (i := 15) rfl)) rfl)) C.2.2.2.2.2.2.2.2.1.1 hW.2 (zw_D E Sh I L R) hS q0 q1 1 1 (zA_at hs0 hq0 rfl) (zA_at hs1 hq1 rfl) rfl rfl rfl (by decide) (by decide) hn (by rw [z0]; omega) (by rw [z0]; omega) (fun _ _ => rfl) hf (by rw [zcat_map]; exact hlo) hd (fun H1 locs1 hP1 _ hS1 => k C hz H1 locs1 la ⟨hW.1, ?_⟩ hS1 hl)
  rw [zad_lt hq1, z0, zcp_of, zw_set (I' := va_up I q1 (zcp (I q0) (I q1) n.toNatClampNeg)) (L' := L) (R' := R) hs1 (fun p h => va_up_ne _ _ h) (fun _ _ => rfl) (fun _ _ => rfl) (show _ = ze E (va_up I q1 (zcp (I q0) (I q1) n.toNatClampNeg)) L R q1 (2, n1) from by
    show Sum.inl (eY E 2, n1, Sum.inl _) = Sum.inl (eY E 2, n1, Sum.inl _)
    simp [va_up])] at hP1
  exact hP1
/-- a contract that says all: the answer, the world behind it (nothing is made) -/
def zCf (E : zE) (md : zMD) (Sh : zSh) (args : List Value) (I : zI) (L : zL) (R : zR) (rv : Option Value) (I' : zI) (L' : zL) (R' : zR) : Prop := zCt E md Sh args I L R (fun r Sh1 I1 L1 R1 => r = rv ∧ Sh1 = Sh ∧ I1 = I' ∧ L1 = L' ∧ R1 = R')
theorem z_cVv {idx q n ci : Nat} {mdc : zMD} {As stk : List Value} {I' : zI} {L' : zL} {R' : zR} (hd : zD md pc (.invokevirtual idx) 3 pc') (hc : zCv md idx mdc ci n) (hs : Sh[q]? = some (0, ci)) (hq : q < 1000000) (h0 : zmc mdc = 0 ∧ zms mdc = 0) (hct : zCf E mdc Sh (.ref q :: As) I L R none I' L' R') (hst : stk = As.reverse ++ .ref q :: st) (hn : As.length = n) (hw : Nat.ble (zcat st) 8 = true) (hroom : kc ≤ (zrm md).cells ∧ ks ≤ (zrm md).slots)
    (k : zZ E md X Qs Sh kc ks pc' ls st I' L' R') : zZ E md X Qs Sh kc ks pc ls stk I L R :=
  z_callV hd hc hs hq hct hst hn hw (by rw [h0.1, h0.2]; exact hroom) (fun r Sh1 I1 L1 R1 h => by obtain ⟨rfl, rfl, rfl, rfl, rfl⟩ := h; rw [h0.1, h0.2]; exact k)
theorem z_cVi {idx q n ci : Nat} {mdc : zMD} {As stk : List Value} {I' : zI} {L' : zL} {R' : zR} {x : Int32} (hd : zD md pc (.invokevirtual idx) 3 pc') (hc : zCv md idx mdc ci n) (hs : Sh[q]? = some (0, ci)) (hq : q < 1000000) (h0 : zmc mdc = 0 ∧ zms mdc = 0) (hct : zCf E mdc Sh (.ref q :: As) I L R (some (.int x)) I' L' R') (hst : stk = As.reverse ++ .ref q :: st) (hn : As.length = n) (hw : Nat.ble (zcat st) 8 = true) (hroom : kc ≤ (zrm md).cells ∧ ks ≤ (zrm md).slots)
    (k : zZ E md X Qs Sh kc ks pc' ls (.int x :: st) I' L' R') : zZ E md X Qs Sh kc ks pc ls stk I L R :=
  z_callV hd hc hs hq hct hst hn hw (by rw [h0.1, h0.2]; exact hroom) (fun r Sh1 I1 L1 R1 h => by obtain ⟨rfl, rfl, rfl, rfl, rfl⟩ := h; rw [h0.1, h0.2]; exact k)
theorem z_cVl {idx q n ci : Nat} {mdc : zMD} {As stk : List Value} {I' : zI} {L' : zL} {R' : zR} {x : Int64} (hd : zD md pc (.invokevirtual idx) 3 pc') (hc : zCv md idx mdc ci n) (hs : Sh[q]? = some (0, ci)) (hq : q < 1000000) (h0 : zmc mdc = 0 ∧ zms mdc = 0) (hct : zCf E mdc Sh (.ref q :: As) I L R (some (.long x)) I' L' R') (hst : stk = As.reverse ++ .ref q :: st) (hn : As.length = n) (hw : Nat.ble (zcat st) 8 = true) (hroom : kc ≤ (zrm md).cells ∧ ks ≤ (zrm md).slots)
    (k : zZ E md X Qs Sh kc ks pc' ls (.long x :: st) I' L' R') : zZ E md X Qs Sh kc ks pc ls stk I L R :=
  z_callV hd hc hs hq hct hst hn hw (by rw [h0.1, h0.2]; exact hroom) (fun r Sh1 I1 L1 R1 h => by obtain ⟨rfl, rfl, rfl, rfl, rfl⟩ := h; rw [h0.1, h0.2]; exact k)
theorem z_cVr {idx q n ci : Nat} {mdc : zMD} {As stk : List Value} {I' : zI} {L' : zL} {R' : zR} {x : Nat} (hd : zD md pc (.invokevirtual idx) 3 pc') (hc : zCv md idx mdc ci n) (hs : Sh[q]? = some (0, ci)) (hq : q < 1000000) (h0 : zmc mdc = 0 ∧ zms mdc = 0) (hct : zCf E mdc Sh (.ref q :: As) I L R (some (.ref x)) I' L' R') (hst : stk = As.reverse ++ .ref q :: st) (hn : As.length = n) (hw : Nat.ble (zcat st) 8 = true) (hroom : kc ≤ (zrm md).cells ∧ ks ≤ (zrm md).slots)
    (k : zZ E md X Qs Sh kc ks pc' ls (.ref x :: st) I' L' R') : zZ E md X Qs Sh kc ks pc ls stk I L R :=
  z_callV hd hc hs hq hct hst hn hw (by rw [h0.1, h0.2]; exact hroom) (fun r Sh1 I1 L1 R1 h => by obtain ⟨rfl, rfl, rfl, rfl, rfl⟩ := h; rw [h0.1, h0.2]; exact k)
theorem z_cSv {idx n : Nat} {mdc : zMD} {As stk : List Value} {I' : zI} {L' : zL} {R' : zR} (hd : zD md pc (.invokestatic idx) 3 pc') (hc : zCs md idx mdc n) (h0 : zmc mdc = 0 ∧ zms mdc = 0) (hct : zCf E mdc Sh As I L R none I' L' R') (hst : stk = As.reverse ++ st) (hn : As.length = n) (hw : Nat.ble (zcat st) 8 = true) (hroom : kc ≤ (zrm md).cells ∧ ks ≤ (zrm md).slots)
    (k : zZ E md X Qs Sh kc ks pc' ls st I' L' R') : zZ E md X Qs Sh kc ks pc ls stk I L R :=
  z_callS hd hc hct hst hn hw (by rw [h0.1, h0.2]; exact hroom) (fun r Sh1 I1 L1 R1 h => by obtain ⟨rfl, rfl, rfl, rfl, rfl⟩ := h; rw [h0.1, h0.2]; exact k)
theorem z_cSi {idx n : Nat} {mdc : zMD} {As stk : List Value} {I' : zI} {L' : zL} {R' : zR} {x : Int32} (hd : zD md pc (.invokestatic idx) 3 pc') (hc : zCs md idx mdc n) (h0 : zmc mdc = 0 ∧ zms mdc = 0) (hct : zCf E mdc Sh As I L R (some (.int x)) I' L' R') (hst : stk = As.reverse ++ st) (hn : As.length = n) (hw : Nat.ble (zcat st) 8 = true) (hroom : kc ≤ (zrm md).cells ∧ ks ≤ (zrm md).slots)
    (k : zZ E md X Qs Sh kc ks pc' ls (.int x :: st) I' L' R') : zZ E md X Qs Sh kc ks pc ls stk I L R :=
  z_callS hd hc hct hst hn hw (by rw [h0.1, h0.2]; exact hroom) (fun r Sh1 I1 L1 R1 h => by obtain ⟨rfl, rfl, rfl, rfl, rfl⟩ := h; rw [h0.1, h0.2]; exact k)
theorem z_cSl {idx n : Nat} {mdc : zMD} {As stk : List Value} {I' : zI} {L' : zL} {R' : zR} {x : Int64} (hd : zD md pc (.invokestatic idx) 3 pc') (hc : zCs md idx mdc n) (h0 : zmc mdc = 0 ∧ zms mdc = 0) (hct : zCf E mdc Sh As I L R (some (.long x)) I' L' R') (hst : stk = As.reverse ++ st) (hn : As.length = n) (hw : Nat.ble (zcat st) 8 = true) (hroom : kc ≤ (zrm md).cells ∧ ks ≤ (zrm md).slots)
    (k : zZ E md X Qs Sh kc ks pc' ls (.long x :: st) I' L' R') : zZ E md X Qs Sh kc ks pc ls stk I L R :=
  z_callS hd hc hct hst hn hw (by rw [h0.1, h0.2]; exact hroom) (fun r Sh1 I1 L1 R1 h => by obtain ⟨rfl, rfl, rfl, rfl, rfl⟩ := h; rw [h0.1, h0.2]; exact k)
theorem z_cSr {idx n : Nat} {mdc : zMD} {As stk : List Value} {I' : zI} {L' : zL} {R' : zR} {x : Nat} (hd : zD md pc (.invokestatic idx) 3 pc') (hc : zCs md idx mdc n) (h0 : zmc mdc = 0 ∧ zms mdc = 0) (hct : zCf E mdc Sh As I L R (some (.ref x)) I' L' R') (hst : stk = As.reverse ++ st) (hn : As.length = n) (hw : Nat.ble (zcat st) 8 = true) (hroom : kc ≤ (zrm md).cells ∧ ks ≤ (zrm md).slots)
    (k : zZ E md X Qs Sh kc ks pc' ls (.ref x :: st) I' L' R') : zZ E md X Qs Sh kc ks pc ls stk I L R :=
  z_callS hd hc hct hst hn hw (by rw [h0.1, h0.2]; exact hroom) (fun r Sh1 I1 L1 R1 h => by obtain ⟨rfl, rfl, rfl, rfl, rfl⟩ := h; rw [h0.1, h0.2]; exact k)
theorem z_cSNv {idx n : Nat} {mdc : zMD} {host : String} {As stk : List Value} {I' : zI} {L' : zL} {R' : zR} (hd : zD md pc (.invokestatic idx) 3 pc') (hc : zCsn md idx mdc n host) (h0 : zmc mdc = 0 ∧ zms mdc = 0) (hct : zCf E mdc Sh As I L R none I' L' R') (hst : stk = As.reverse ++ st) (hn : As.length = n) (hw : Nat.ble (zcat st) 8 = true) (hroom : kc ≤ (zrm md).cells ∧ ks ≤ (zrm md).slots)
    (k : zZ E md X Qs Sh kc ks pc' ls st I' L' R') : zZ E md X Qs Sh kc ks pc ls stk I L R :=
  z_callSN hd hc hct hst hn hw (by rw [h0.1, h0.2]; exact hroom) (fun r Sh1 I1 L1 R1 h => by obtain ⟨rfl, rfl, rfl, rfl, rfl⟩ := h; rw [h0.1, h0.2]; exact k)
theorem z_cSNi {idx n : Nat} {mdc : zMD} {host : String} {As stk : List Value} {I' : zI} {L' : zL} {R' : zR} {x : Int32} (hd : zD md pc (.invokestatic idx) 3 pc') (hc : zCsn md idx mdc n host) (h0 : zmc mdc = 0 ∧ zms mdc = 0) (hct : zCf E mdc Sh As I L R (some (.int x)) I' L' R') (hst : stk = As.reverse ++ st) (hn : As.length = n) (hw : Nat.ble (zcat st) 8 = true) (hroom : kc ≤ (zrm md).cells ∧ ks ≤ (zrm md).slots)
    (k : zZ E md X Qs Sh kc ks pc' ls (.int x :: st) I' L' R') : zZ E md X Qs Sh kc ks pc ls stk I L R :=
  z_callSN hd hc hct hst hn hw (by rw [h0.1, h0.2]; exact hroom) (fun r Sh1 I1 L1 R1 h => by obtain ⟨rfl, rfl, rfl, rfl, rfl⟩ := h; rw [h0.1, h0.2]; exact k)
theorem z_cSNl {idx n : Nat} {mdc : zMD} {host : String} {As stk : List Value} {I' : zI} {L' : zL} {R' : zR} {x : Int64} (hd : zD md pc (.invokestatic idx) 3 pc') (hc : zCsn md idx mdc n host) (h0 : zmc mdc = 0 ∧ zms mdc = 0) (hct : zCf E mdc Sh As I L R (some (.long x)) I' L' R') (hst : stk = As.reverse ++ st) (hn : As.length = n) (hw : Nat.ble (zcat st) 8 = true) (hroom : kc ≤ (zrm md).cells ∧ ks ≤ (zrm md).slots)
    (k : zZ E md X Qs Sh kc ks pc' ls (.long x :: st) I' L' R') : zZ E md X Qs Sh kc ks pc ls stk I L R :=
  z_callSN hd hc hct hst hn hw (by rw [h0.1, h0.2]; exact hroom) (fun r Sh1 I1 L1 R1 h => by obtain ⟨rfl, rfl, rfl, rfl, rfl⟩ := h; rw [h0.1, h0.2]; exact k)
theorem z_cSNr {idx n : Nat} {mdc : zMD} {host : String} {As stk : List Value} {I' : zI} {L' : zL} {R' : zR} {x : Nat} (hd : zD md pc (.invokestatic idx) 3 pc') (hc : zCsn md idx mdc n host) (h0 : zmc mdc = 0 ∧ zms mdc = 0) (hct : zCf E mdc Sh As I L R (some (.ref x)) I' L' R') (hst : stk = As.reverse ++ st) (hn : As.length = n) (hw : Nat.ble (zcat st) 8 = true) (hroom : kc ≤ (zrm md).cells ∧ ks ≤ (zrm md).slots)
    (k : zZ E md X Qs Sh kc ks pc' ls (.ref x :: st) I' L' R') : zZ E md X Qs Sh kc ks pc ls stk I L R :=
  z_callSN hd hc hct hst hn hw (by rw [h0.1, h0.2]; exact hroom) (fun r Sh1 I1 L1 R1 h => by obtain ⟨rfl, rfl, rfl, rfl, rfl⟩ := h; rw [h0.1, h0.2]; exact k)
end ZMADE
end
