-- ===== PART A: goes FIRST, ahead of the names: the tables' words, and 'selects' of the private methods out of them =====
/-- a private method of a class that the tables say can be made, by its rows of tables_1 -/
def lw_okq (q : MethodName × Nat) : Prop := (q.1.cls ≠ "java/lang/invoke/MethodHandle" ∧ q.1.cls ≠ "java/lang/invoke/VarHandle") ∧ Cond.instantiable q.1.cls q.2 ∈ tables_1 ∧ Cond.privateMethod q.1 ∈ tables_1 ∧ Cond.instanceMethod q.1 ∈ tables_1
theorem lw_p0 : lw_okq (⟨"java/lang/Throwable", "fillInStackTrace", "(I)Ljava/lang/Throwable;"⟩, 6) := ⟨⟨by decide +kernel, by decide +kernel⟩, List.mem_of_getElem? (i := 310) (by decide +kernel), List.mem_of_getElem? (i := 308) (by decide +kernel), List.mem_of_getElem? (i := 309) (by decide +kernel)⟩
theorem lw_p1 : lw_okq (⟨"BlobHarbor", "regionOf", "(I)LBlobHarbor$Region;"⟩, 10) := ⟨⟨by decide +kernel, by decide +kernel⟩, List.mem_of_getElem? (i := 37) (by decide +kernel), List.mem_of_getElem? (i := 370) (by decide +kernel), List.mem_of_getElem? (i := 371) (by decide +kernel)⟩
theorem lw_p2 : lw_okq (⟨"BlobHarbor", "store", "(LBlobHarbor$Region;ILBlobHarbor$Bytes;)I"⟩, 10) := ⟨⟨by decide +kernel, by decide +kernel⟩, List.mem_of_getElem? (i := 37) (by decide +kernel), List.mem_of_getElem? (i := 402) (by decide +kernel), List.mem_of_getElem? (i := 403) (by decide +kernel)⟩
theorem lw_p3 : lw_okq (⟨"BlobHarbor$Cut", "addPart", "(II)V"⟩, 3) := ⟨⟨by decide +kernel, by decide +kernel⟩, List.mem_of_getElem? (i := 84) (by decide +kernel), List.mem_of_getElem? (i := 430) (by decide +kernel), List.mem_of_getElem? (i := 431) (by decide +kernel)⟩
theorem lw_p4 : lw_okq (⟨"BlobHarbor$Store", "find", "(LBlobHarbor$Bytes;II)LBlobHarbor$Part;"⟩, 5) := ⟨⟨by decide +kernel, by decide +kernel⟩, List.mem_of_getElem? (i := 51) (by decide +kernel), List.mem_of_getElem? (i := 443) (by decide +kernel), List.mem_of_getElem? (i := 444) (by decide +kernel)⟩
theorem lw_p5 : lw_okq (⟨"BlobHarbor$Store", "isFirstInCut", "(LBlobHarbor$Bytes;I)Z"⟩, 5) := ⟨⟨by decide +kernel, by decide +kernel⟩, List.mem_of_getElem? (i := 51) (by decide +kernel), List.mem_of_getElem? (i := 454) (by decide +kernel), List.mem_of_getElem? (i := 455) (by decide +kernel)⟩
theorem lw_p6 : lw_okq (⟨"BlobHarbor$Store", "areSame", "(LBlobHarbor$Bytes;II)Z"⟩, 5) := ⟨⟨by decide +kernel, by decide +kernel⟩, List.mem_of_getElem? (i := 51) (by decide +kernel), List.mem_of_getElem? (i := 458) (by decide +kernel), List.mem_of_getElem? (i := 459) (by decide +kernel)⟩
theorem lw_p7 : lw_okq (⟨"BlobHarbor$Store", "findOrAdd", "(LBlobHarbor$Bytes;II)LBlobHarbor$Part;"⟩, 5) := ⟨⟨by decide +kernel, by decide +kernel⟩, List.mem_of_getElem? (i := 51) (by decide +kernel), List.mem_of_getElem? (i := 510) (by decide +kernel), List.mem_of_getElem? (i := 511) (by decide +kernel)⟩
theorem lw_p8 : lw_okq (⟨"java/util/ArrayList", "add", "(Ljava/lang/Object;[Ljava/lang/Object;I)V"⟩, 3) := ⟨⟨by decide +kernel, by decide +kernel⟩, List.mem_of_getElem? (i := 57) (by decide +kernel), List.mem_of_getElem? (i := 556) (by decide +kernel), List.mem_of_getElem? (i := 557) (by decide +kernel)⟩
theorem lw_p9 : lw_okq (⟨"java/util/ArrayList", "grow", "()[Ljava/lang/Object;"⟩, 3) := ⟨⟨by decide +kernel, by decide +kernel⟩, List.mem_of_getElem? (i := 57) (by decide +kernel), List.mem_of_getElem? (i := 560) (by decide +kernel), List.mem_of_getElem? (i := 561) (by decide +kernel)⟩
theorem lw_p10 : lw_okq (⟨"java/util/ArrayList", "grow", "(I)[Ljava/lang/Object;"⟩, 3) := ⟨⟨by decide +kernel, by decide +kernel⟩, List.mem_of_getElem? (i := 57) (by decide +kernel), List.mem_of_getElem? (i := 564) (by decide +kernel), List.mem_of_getElem? (i := 565) (by decide +kernel)⟩
theorem lw_p11 : lw_okq (⟨"BlobHarbor$Store", "spread", "(LBlobHarbor$Part;)V"⟩, 5) := ⟨⟨by decide +kernel, by decide +kernel⟩, List.mem_of_getElem? (i := 51) (by decide +kernel), List.mem_of_getElem? (i := 631) (by decide +kernel), List.mem_of_getElem? (i := 632) (by decide +kernel)⟩
theorem lw_p12 : lw_okq (⟨"BlobHarbor$Store", "freeNode", "(LBlobHarbor$Part;)I"⟩, 5) := ⟨⟨by decide +kernel, by decide +kernel⟩, List.mem_of_getElem? (i := 51) (by decide +kernel), List.mem_of_getElem? (i := 659) (by decide +kernel), List.mem_of_getElem? (i := 660) (by decide +kernel)⟩
theorem lw_p13 : lw_okq (⟨"BlobHarbor$Part", "setShardByte", "(III)V"⟩, 8) := ⟨⟨by decide +kernel, by decide +kernel⟩, List.mem_of_getElem? (i := 513) (by decide +kernel), List.mem_of_getElem? (i := 675) (by decide +kernel), List.mem_of_getElem? (i := 676) (by decide +kernel)⟩
theorem lw_p14 : lw_okq (⟨"java/util/ArrayList", "rangeCheckForAdd", "(I)V"⟩, 3) := ⟨⟨by decide +kernel, by decide +kernel⟩, List.mem_of_getElem? (i := 57) (by decide +kernel), List.mem_of_getElem? (i := 713) (by decide +kernel), List.mem_of_getElem? (i := 714) (by decide +kernel)⟩
theorem lw_p15 : lw_okq (⟨"java/util/ArrayList", "outOfBoundsMsg", "(I)Ljava/lang/String;"⟩, 3) := ⟨⟨by decide +kernel, by decide +kernel⟩, List.mem_of_getElem? (i := 57) (by decide +kernel), List.mem_of_getElem? (i := 718) (by decide +kernel), List.mem_of_getElem? (i := 719) (by decide +kernel)⟩
def lw_privs_1 : List (MethodName × Nat) := [(⟨"java/lang/Throwable", "fillInStackTrace", "(I)Ljava/lang/Throwable;"⟩, 6), (⟨"BlobHarbor", "regionOf", "(I)LBlobHarbor$Region;"⟩, 10), (⟨"BlobHarbor", "store", "(LBlobHarbor$Region;ILBlobHarbor$Bytes;)I"⟩, 10), (⟨"BlobHarbor$Cut", "addPart", "(II)V"⟩, 3), (⟨"BlobHarbor$Store", "find", "(LBlobHarbor$Bytes;II)LBlobHarbor$Part;"⟩, 5), (⟨"BlobHarbor$Store", "isFirstInCut", "(LBlobHarbor$Bytes;I)Z"⟩, 5), (⟨"BlobHarbor$Store", "areSame", "(LBlobHarbor$Bytes;II)Z"⟩, 5), (⟨"BlobHarbor$Store", "findOrAdd", "(LBlobHarbor$Bytes;II)LBlobHarbor$Part;"⟩, 5), (⟨"java/util/ArrayList", "add", "(Ljava/lang/Object;[Ljava/lang/Object;I)V"⟩, 3), (⟨"java/util/ArrayList", "grow", "()[Ljava/lang/Object;"⟩, 3), (⟨"java/util/ArrayList", "grow", "(I)[Ljava/lang/Object;"⟩, 3), (⟨"BlobHarbor$Store", "spread", "(LBlobHarbor$Part;)V"⟩, 5), (⟨"BlobHarbor$Store", "freeNode", "(LBlobHarbor$Part;)I"⟩, 5), (⟨"BlobHarbor$Part", "setShardByte", "(III)V"⟩, 8), (⟨"java/util/ArrayList", "rangeCheckForAdd", "(I)V"⟩, 3), (⟨"java/util/ArrayList", "outOfBoundsMsg", "(I)Ljava/lang/String;"⟩, 3)]
theorem lw_r1 : ∀ q ∈ lw_privs_1, lw_okq q := List.forall_mem_cons.mpr ⟨lw_p0, List.forall_mem_cons.mpr ⟨lw_p1, List.forall_mem_cons.mpr ⟨lw_p2, List.forall_mem_cons.mpr ⟨lw_p3, List.forall_mem_cons.mpr ⟨lw_p4, List.forall_mem_cons.mpr ⟨lw_p5, List.forall_mem_cons.mpr ⟨lw_p6, List.forall_mem_cons.mpr ⟨lw_p7, List.forall_mem_cons.mpr ⟨lw_p8, List.forall_mem_cons.mpr ⟨lw_p9, List.forall_mem_cons.mpr ⟨lw_p10, List.forall_mem_cons.mpr ⟨lw_p11, List.forall_mem_cons.mpr ⟨lw_p12, List.forall_mem_cons.mpr ⟨lw_p13, List.forall_mem_cons.mpr ⟨lw_p14, List.forall_mem_cons.mpr ⟨lw_p15, fun _ h => absurd h List.not_mem_nil⟩⟩⟩⟩⟩⟩⟩⟩⟩⟩⟩⟩⟩⟩⟩⟩
theorem lw_p16 : lw_okq (⟨"java/util/ArrayList", "fastRemove", "([Ljava/lang/Object;I)V"⟩, 3) := ⟨⟨by decide +kernel, by decide +kernel⟩, List.mem_of_getElem? (i := 57) (by decide +kernel), List.mem_of_getElem? (i := 998) (by decide +kernel), List.mem_of_getElem? (i := 999) (by decide +kernel)⟩
theorem lw_p17 : lw_okq (⟨"BlobHarbor", "byteOf", "(LBlobHarbor$Region;LBlobHarbor$Version;I)I"⟩, 10) := ⟨⟨by decide +kernel, by decide +kernel⟩, List.mem_of_getElem? (i := 37) (by decide +kernel), List.mem_of_getElem? (i := 1020) (by decide +kernel), List.mem_of_getElem? (i := 1021) (by decide +kernel)⟩
theorem lw_p18 : lw_okq (⟨"BlobHarbor$Code", "findLowest", "(LBlobHarbor$Part;)Z"⟩, 4) := ⟨⟨by decide +kernel, by decide +kernel⟩, List.mem_of_getElem? (i := 102) (by decide +kernel), List.mem_of_getElem? (i := 1048) (by decide +kernel), List.mem_of_getElem? (i := 1049) (by decide +kernel)⟩
theorem lw_p19 : lw_okq (⟨"BlobHarbor$Code", "solve", "(LBlobHarbor$Part;II)I"⟩, 4) := ⟨⟨by decide +kernel, by decide +kernel⟩, List.mem_of_getElem? (i := 102) (by decide +kernel), List.mem_of_getElem? (i := 1057) (by decide +kernel), List.mem_of_getElem? (i := 1058) (by decide +kernel)⟩
theorem lw_p20 : lw_okq (⟨"BlobHarbor$Code", "determinant", "(I)I"⟩, 4) := ⟨⟨by decide +kernel, by decide +kernel⟩, List.mem_of_getElem? (i := 102) (by decide +kernel), List.mem_of_getElem? (i := 1061) (by decide +kernel), List.mem_of_getElem? (i := 1062) (by decide +kernel)⟩
theorem lw_p21 : lw_okq (⟨"BlobHarbor$Code", "cell", "(III)I"⟩, 4) := ⟨⟨by decide +kernel, by decide +kernel⟩, List.mem_of_getElem? (i := 102) (by decide +kernel), List.mem_of_getElem? (i := 1065) (by decide +kernel), List.mem_of_getElem? (i := 1066) (by decide +kernel)⟩
theorem lw_p22 : lw_okq (⟨"BlobHarbor", "openUpload", "(I)LBlobHarbor$Upload;"⟩, 10) := ⟨⟨by decide +kernel, by decide +kernel⟩, List.mem_of_getElem? (i := 37) (by decide +kernel), List.mem_of_getElem? (i := 1121) (by decide +kernel), List.mem_of_getElem? (i := 1122) (by decide +kernel)⟩
theorem lw_p23 : lw_okq (⟨"BlobHarbor$Store", "mendShard", "(LBlobHarbor$Part;)Z"⟩, 5) := ⟨⟨by decide +kernel, by decide +kernel⟩, List.mem_of_getElem? (i := 51) (by decide +kernel), List.mem_of_getElem? (i := 1261) (by decide +kernel), List.mem_of_getElem? (i := 1262) (by decide +kernel)⟩
theorem lw_p24 : lw_okq (⟨"BlobHarbor", "beginDay", "()V"⟩, 10) := ⟨⟨by decide +kernel, by decide +kernel⟩, List.mem_of_getElem? (i := 37) (by decide +kernel), List.mem_of_getElem? (i := 1313) (by decide +kernel), List.mem_of_getElem? (i := 1314) (by decide +kernel)⟩
theorem lw_p25 : lw_okq (⟨"BlobHarbor$Region", "ageOne", "(LBlobHarbor$Version;II)V"⟩, 4) := ⟨⟨by decide +kernel, by decide +kernel⟩, List.mem_of_getElem? (i := 45) (by decide +kernel), List.mem_of_getElem? (i := 1326) (by decide +kernel), List.mem_of_getElem? (i := 1327) (by decide +kernel)⟩
theorem lw_p26 : lw_okq (⟨"BlobHarbor", "takeFirst", "(LBlobHarbor$Region;LBlobHarbor$Region;)Z"⟩, 10) := ⟨⟨by decide +kernel, by decide +kernel⟩, List.mem_of_getElem? (i := 37) (by decide +kernel), List.mem_of_getElem? (i := 1349) (by decide +kernel), List.mem_of_getElem? (i := 1350) (by decide +kernel)⟩
theorem lw_p27 : lw_okq (⟨"BlobHarborModel", "holds", "(I)Z"⟩, 47) := ⟨⟨by decide +kernel, by decide +kernel⟩, List.mem_of_getElem? (i := 1407) (by decide +kernel), List.mem_of_getElem? (i := 1566) (by decide +kernel), List.mem_of_getElem? (i := 1567) (by decide +kernel)⟩
theorem lw_p28 : lw_okq (⟨"BlobHarborModel", "latest", "(II)I"⟩, 47) := ⟨⟨by decide +kernel, by decide +kernel⟩, List.mem_of_getElem? (i := 1407) (by decide +kernel), List.mem_of_getElem? (i := 1587) (by decide +kernel), List.mem_of_getElem? (i := 1588) (by decide +kernel)⟩
theorem lw_p29 : lw_okq (⟨"BlobHarborModel", "endOf", "(I)I"⟩, 47) := ⟨⟨by decide +kernel, by decide +kernel⟩, List.mem_of_getElem? (i := 1407) (by decide +kernel), List.mem_of_getElem? (i := 1591) (by decide +kernel), List.mem_of_getElem? (i := 1592) (by decide +kernel)⟩
theorem lw_p30 : lw_okq (⟨"BlobHarborModel", "isMark", "(I)Z"⟩, 47) := ⟨⟨by decide +kernel, by decide +kernel⟩, List.mem_of_getElem? (i := 1407) (by decide +kernel), List.mem_of_getElem? (i := 1595) (by decide +kernel), List.mem_of_getElem? (i := 1596) (by decide +kernel)⟩
theorem lw_p31 : lw_okq (⟨"BlobHarborModel", "atHand", "()V"⟩, 47) := ⟨⟨by decide +kernel, by decide +kernel⟩, List.mem_of_getElem? (i := 1407) (by decide +kernel), List.mem_of_getElem? (i := 1599) (by decide +kernel), List.mem_of_getElem? (i := 1600) (by decide +kernel)⟩
def lw_privs_2 : List (MethodName × Nat) := [(⟨"java/util/ArrayList", "fastRemove", "([Ljava/lang/Object;I)V"⟩, 3), (⟨"BlobHarbor", "byteOf", "(LBlobHarbor$Region;LBlobHarbor$Version;I)I"⟩, 10), (⟨"BlobHarbor$Code", "findLowest", "(LBlobHarbor$Part;)Z"⟩, 4), (⟨"BlobHarbor$Code", "solve", "(LBlobHarbor$Part;II)I"⟩, 4), (⟨"BlobHarbor$Code", "determinant", "(I)I"⟩, 4), (⟨"BlobHarbor$Code", "cell", "(III)I"⟩, 4), (⟨"BlobHarbor", "openUpload", "(I)LBlobHarbor$Upload;"⟩, 10), (⟨"BlobHarbor$Store", "mendShard", "(LBlobHarbor$Part;)Z"⟩, 5), (⟨"BlobHarbor", "beginDay", "()V"⟩, 10), (⟨"BlobHarbor$Region", "ageOne", "(LBlobHarbor$Version;II)V"⟩, 4), (⟨"BlobHarbor", "takeFirst", "(LBlobHarbor$Region;LBlobHarbor$Region;)Z"⟩, 10), (⟨"BlobHarborModel", "holds", "(I)Z"⟩, 47), (⟨"BlobHarborModel", "latest", "(II)I"⟩, 47), (⟨"BlobHarborModel", "endOf", "(I)I"⟩, 47), (⟨"BlobHarborModel", "isMark", "(I)Z"⟩, 47), (⟨"BlobHarborModel", "atHand", "()V"⟩, 47)]
theorem lw_r2 : ∀ q ∈ lw_privs_2, lw_okq q := List.forall_mem_cons.mpr ⟨lw_p16, List.forall_mem_cons.mpr ⟨lw_p17, List.forall_mem_cons.mpr ⟨lw_p18, List.forall_mem_cons.mpr ⟨lw_p19, List.forall_mem_cons.mpr ⟨lw_p20, List.forall_mem_cons.mpr ⟨lw_p21, List.forall_mem_cons.mpr ⟨lw_p22, List.forall_mem_cons.mpr ⟨lw_p23, List.forall_mem_cons.mpr ⟨lw_p24, List.forall_mem_cons.mpr ⟨lw_p25, List.forall_mem_cons.mpr ⟨lw_p26, List.forall_mem_cons.mpr ⟨lw_p27, List.forall_mem_cons.mpr ⟨lw_p28, List.forall_mem_cons.mpr ⟨lw_p29, List.forall_mem_cons.mpr ⟨lw_p30, List.forall_mem_cons.mpr ⟨lw_p31, fun _ h => absurd h List.not_mem_nil⟩⟩⟩⟩⟩⟩⟩⟩⟩⟩⟩⟩⟩⟩⟩⟩
theorem lw_p32 : lw_okq (⟨"BlobHarborModel", "cuts", "()V"⟩, 47) := ⟨⟨by decide +kernel, by decide +kernel⟩, List.mem_of_getElem? (i := 1407) (by decide +kernel), List.mem_of_getElem? (i := 1603) (by decide +kernel), List.mem_of_getElem? (i := 1604) (by decide +kernel)⟩
theorem lw_p33 : lw_okq (⟨"BlobHarborModel", "isFull", "(I)Z"⟩, 47) := ⟨⟨by decide +kernel, by decide +kernel⟩, List.mem_of_getElem? (i := 1407) (by decide +kernel), List.mem_of_getElem? (i := 1607) (by decide +kernel), List.mem_of_getElem? (i := 1608) (by decide +kernel)⟩
theorem lw_p34 : lw_okq (⟨"BlobHarborModel", "hasRoom", "(I)Z"⟩, 47) := ⟨⟨by decide +kernel, by decide +kernel⟩, List.mem_of_getElem? (i := 1407) (by decide +kernel), List.mem_of_getElem? (i := 1611) (by decide +kernel), List.mem_of_getElem? (i := 1612) (by decide +kernel)⟩
theorem lw_p35 : lw_okq (⟨"BlobHarborModel", "upMany", "(I)I"⟩, 47) := ⟨⟨by decide +kernel, by decide +kernel⟩, List.mem_of_getElem? (i := 1407) (by decide +kernel), List.mem_of_getElem? (i := 1615) (by decide +kernel), List.mem_of_getElem? (i := 1616) (by decide +kernel)⟩
theorem lw_p36 : lw_okq (⟨"BlobHarborModel", "newMany", "(I)I"⟩, 47) := ⟨⟨by decide +kernel, by decide +kernel⟩, List.mem_of_getElem? (i := 1407) (by decide +kernel), List.mem_of_getElem? (i := 1619) (by decide +kernel), List.mem_of_getElem? (i := 1620) (by decide +kernel)⟩
theorem lw_p37 : lw_okq (⟨"BlobHarborModel", "found", "(II)I"⟩, 47) := ⟨⟨by decide +kernel, by decide +kernel⟩, List.mem_of_getElem? (i := 1407) (by decide +kernel), List.mem_of_getElem? (i := 1623) (by decide +kernel), List.mem_of_getElem? (i := 1624) (by decide +kernel)⟩
theorem lw_p38 : lw_okq (⟨"BlobHarborModel", "isSame", "(II)Z"⟩, 47) := ⟨⟨by decide +kernel, by decide +kernel⟩, List.mem_of_getElem? (i := 1407) (by decide +kernel), List.mem_of_getElem? (i := 1627) (by decide +kernel), List.mem_of_getElem? (i := 1628) (by decide +kernel)⟩
theorem lw_p39 : lw_okq (⟨"BlobHarborModel", "puts", "(II)I"⟩, 47) := ⟨⟨by decide +kernel, by decide +kernel⟩, List.mem_of_getElem? (i := 1407) (by decide +kernel), List.mem_of_getElem? (i := 1631) (by decide +kernel), List.mem_of_getElem? (i := 1632) (by decide +kernel)⟩
theorem lw_p40 : lw_okq (⟨"BlobHarborModel", "numbers", "(III)I"⟩, 47) := ⟨⟨by decide +kernel, by decide +kernel⟩, List.mem_of_getElem? (i := 1407) (by decide +kernel), List.mem_of_getElem? (i := 1635) (by decide +kernel), List.mem_of_getElem? (i := 1636) (by decide +kernel)⟩
theorem lw_p41 : lw_okq (⟨"BlobHarborModel", "enters", "(IIZ)V"⟩, 47) := ⟨⟨by decide +kernel, by decide +kernel⟩, List.mem_of_getElem? (i := 1407) (by decide +kernel), List.mem_of_getElem? (i := 1639) (by decide +kernel), List.mem_of_getElem? (i := 1640) (by decide +kernel)⟩
theorem lw_p42 : lw_okq (⟨"BlobHarborModel", "moves", "(II)V"⟩, 47) := ⟨⟨by decide +kernel, by decide +kernel⟩, List.mem_of_getElem? (i := 1407) (by decide +kernel), List.mem_of_getElem? (i := 1643) (by decide +kernel), List.mem_of_getElem? (i := 1644) (by decide +kernel)⟩
theorem lw_p43 : lw_okq (⟨"BlobHarborModel", "stores", "(II)I"⟩, 47) := ⟨⟨by decide +kernel, by decide +kernel⟩, List.mem_of_getElem? (i := 1407) (by decide +kernel), List.mem_of_getElem? (i := 1647) (by decide +kernel), List.mem_of_getElem? (i := 1648) (by decide +kernel)⟩
theorem lw_p44 : lw_okq (⟨"BlobHarborModel", "goodMany", "(I)I"⟩, 47) := ⟨⟨by decide +kernel, by decide +kernel⟩, List.mem_of_getElem? (i := 1407) (by decide +kernel), List.mem_of_getElem? (i := 1651) (by decide +kernel), List.mem_of_getElem? (i := 1652) (by decide +kernel)⟩
theorem lw_p45 : lw_okq (⟨"BlobHarborModel", "isGood", "(II)Z"⟩, 47) := ⟨⟨by decide +kernel, by decide +kernel⟩, List.mem_of_getElem? (i := 1407) (by decide +kernel), List.mem_of_getElem? (i := 1655) (by decide +kernel), List.mem_of_getElem? (i := 1656) (by decide +kernel)⟩
theorem lw_p46 : lw_okq (⟨"BlobHarborModel", "comes", "(II)V"⟩, 47) := ⟨⟨by decide +kernel, by decide +kernel⟩, List.mem_of_getElem? (i := 1407) (by decide +kernel), List.mem_of_getElem? (i := 1659) (by decide +kernel), List.mem_of_getElem? (i := 1660) (by decide +kernel)⟩
theorem lw_p47 : lw_okq (⟨"BlobHarborModel", "lays", "(III)V"⟩, 47) := ⟨⟨by decide +kernel, by decide +kernel⟩, List.mem_of_getElem? (i := 1407) (by decide +kernel), List.mem_of_getElem? (i := 1669) (by decide +kernel), List.mem_of_getElem? (i := 1670) (by decide +kernel)⟩
def lw_privs_3 : List (MethodName × Nat) := [(⟨"BlobHarborModel", "cuts", "()V"⟩, 47), (⟨"BlobHarborModel", "isFull", "(I)Z"⟩, 47), (⟨"BlobHarborModel", "hasRoom", "(I)Z"⟩, 47), (⟨"BlobHarborModel", "upMany", "(I)I"⟩, 47), (⟨"BlobHarborModel", "newMany", "(I)I"⟩, 47), (⟨"BlobHarborModel", "found", "(II)I"⟩, 47), (⟨"BlobHarborModel", "isSame", "(II)Z"⟩, 47), (⟨"BlobHarborModel", "puts", "(II)I"⟩, 47), (⟨"BlobHarborModel", "numbers", "(III)I"⟩, 47), (⟨"BlobHarborModel", "enters", "(IIZ)V"⟩, 47), (⟨"BlobHarborModel", "moves", "(II)V"⟩, 47), (⟨"BlobHarborModel", "stores", "(II)I"⟩, 47), (⟨"BlobHarborModel", "goodMany", "(I)I"⟩, 47), (⟨"BlobHarborModel", "isGood", "(II)Z"⟩, 47), (⟨"BlobHarborModel", "comes", "(II)V"⟩, 47), (⟨"BlobHarborModel", "lays", "(III)V"⟩, 47)]
theorem lw_r3 : ∀ q ∈ lw_privs_3, lw_okq q := List.forall_mem_cons.mpr ⟨lw_p32, List.forall_mem_cons.mpr ⟨lw_p33, List.forall_mem_cons.mpr ⟨lw_p34, List.forall_mem_cons.mpr ⟨lw_p35, List.forall_mem_cons.mpr ⟨lw_p36, List.forall_mem_cons.mpr ⟨lw_p37, List.forall_mem_cons.mpr ⟨lw_p38, List.forall_mem_cons.mpr ⟨lw_p39, List.forall_mem_cons.mpr ⟨lw_p40, List.forall_mem_cons.mpr ⟨lw_p41, List.forall_mem_cons.mpr ⟨lw_p42, List.forall_mem_cons.mpr ⟨lw_p43, List.forall_mem_cons.mpr ⟨lw_p44, List.forall_mem_cons.mpr ⟨lw_p45, List.forall_mem_cons.mpr ⟨lw_p46, List.forall_mem_cons.mpr ⟨lw_p47, fun _ h => absurd h List.not_mem_nil⟩⟩⟩⟩⟩⟩⟩⟩⟩⟩⟩⟩⟩⟩⟩⟩
theorem lw_p48 : lw_okq (⟨"BlobHarborModel", "made", "(III)I"⟩, 47) := ⟨⟨by decide +kernel, by decide +kernel⟩, List.mem_of_getElem? (i := 1407) (by decide +kernel), List.mem_of_getElem? (i := 1673) (by decide +kernel), List.mem_of_getElem? (i := 1674) (by decide +kernel)⟩
theorem lw_p49 : lw_okq (⟨"BlobHarborModel", "dataAt", "(III)I"⟩, 47) := ⟨⟨by decide +kernel, by decide +kernel⟩, List.mem_of_getElem? (i := 1407) (by decide +kernel), List.mem_of_getElem? (i := 1680) (by decide +kernel), List.mem_of_getElem? (i := 1681) (by decide +kernel)⟩
theorem lw_p50 : lw_okq (⟨"BlobHarborModel", "isVersion", "(III)Z"⟩, 47) := ⟨⟨by decide +kernel, by decide +kernel⟩, List.mem_of_getElem? (i := 1407) (by decide +kernel), List.mem_of_getElem? (i := 1695) (by decide +kernel), List.mem_of_getElem? (i := 1696) (by decide +kernel)⟩
theorem lw_p51 : lw_okq (⟨"BlobHarborModel", "versionAt", "(III)I"⟩, 47) := ⟨⟨by decide +kernel, by decide +kernel⟩, List.mem_of_getElem? (i := 1407) (by decide +kernel), List.mem_of_getElem? (i := 1699) (by decide +kernel), List.mem_of_getElem? (i := 1700) (by decide +kernel)⟩
theorem lw_p52 : lw_okq (⟨"BlobHarborModel", "isLocked", "(I)Z"⟩, 47) := ⟨⟨by decide +kernel, by decide +kernel⟩, List.mem_of_getElem? (i := 1407) (by decide +kernel), List.mem_of_getElem? (i := 1703) (by decide +kernel), List.mem_of_getElem? (i := 1704) (by decide +kernel)⟩
theorem lw_p53 : lw_okq (⟨"BlobHarborModel", "goes", "(II)V"⟩, 47) := ⟨⟨by decide +kernel, by decide +kernel⟩, List.mem_of_getElem? (i := 1407) (by decide +kernel), List.mem_of_getElem? (i := 1707) (by decide +kernel), List.mem_of_getElem? (i := 1708) (by decide +kernel)⟩
theorem lw_p54 : lw_okq (⟨"BlobHarborModel", "manyOf", "(II)I"⟩, 47) := ⟨⟨by decide +kernel, by decide +kernel⟩, List.mem_of_getElem? (i := 1407) (by decide +kernel), List.mem_of_getElem? (i := 1711) (by decide +kernel), List.mem_of_getElem? (i := 1712) (by decide +kernel)⟩
theorem lw_p55 : lw_okq (⟨"BlobHarborModel", "isWarm", "(I)Z"⟩, 47) := ⟨⟨by decide +kernel, by decide +kernel⟩, List.mem_of_getElem? (i := 1407) (by decide +kernel), List.mem_of_getElem? (i := 1723) (by decide +kernel), List.mem_of_getElem? (i := 1724) (by decide +kernel)⟩
theorem lw_p56 : lw_okq (⟨"BlobHarborModel", "byteOf", "(III)I"⟩, 47) := ⟨⟨by decide +kernel, by decide +kernel⟩, List.mem_of_getElem? (i := 1407) (by decide +kernel), List.mem_of_getElem? (i := 1727) (by decide +kernel), List.mem_of_getElem? (i := 1728) (by decide +kernel)⟩
theorem lw_p57 : lw_okq (⟨"BlobHarborModel", "readAt", "(II)I"⟩, 47) := ⟨⟨by decide +kernel, by decide +kernel⟩, List.mem_of_getElem? (i := 1407) (by decide +kernel), List.mem_of_getElem? (i := 1731) (by decide +kernel), List.mem_of_getElem? (i := 1732) (by decide +kernel)⟩
theorem lw_p58 : lw_okq (⟨"BlobHarborModel", "turns", "(I)V"⟩, 47) := ⟨⟨by decide +kernel, by decide +kernel⟩, List.mem_of_getElem? (i := 1407) (by decide +kernel), List.mem_of_getElem? (i := 1735) (by decide +kernel), List.mem_of_getElem? (i := 1736) (by decide +kernel)⟩
theorem lw_p59 : lw_okq (⟨"BlobHarborModel", "isUpload", "(I)Z"⟩, 47) := ⟨⟨by decide +kernel, by decide +kernel⟩, List.mem_of_getElem? (i := 1407) (by decide +kernel), List.mem_of_getElem? (i := 1754) (by decide +kernel), List.mem_of_getElem? (i := 1755) (by decide +kernel)⟩
theorem lw_p60 : lw_okq (⟨"BlobHarborModel", "pieced", "(I)I"⟩, 47) := ⟨⟨by decide +kernel, by decide +kernel⟩, List.mem_of_getElem? (i := 1407) (by decide +kernel), List.mem_of_getElem? (i := 1758) (by decide +kernel), List.mem_of_getElem? (i := 1759) (by decide +kernel)⟩
theorem lw_p61 : lw_okq (⟨"BlobHarborModel", "joins", "(I)V"⟩, 47) := ⟨⟨by decide +kernel, by decide +kernel⟩, List.mem_of_getElem? (i := 1407) (by decide +kernel), List.mem_of_getElem? (i := 1766) (by decide +kernel), List.mem_of_getElem? (i := 1767) (by decide +kernel)⟩
theorem lw_p62 : lw_okq (⟨"BlobHarborModel", "isObject", "(II)Z"⟩, 47) := ⟨⟨by decide +kernel, by decide +kernel⟩, List.mem_of_getElem? (i := 1407) (by decide +kernel), List.mem_of_getElem? (i := 1780) (by decide +kernel), List.mem_of_getElem? (i := 1781) (by decide +kernel)⟩
theorem lw_p63 : lw_okq (⟨"BlobHarborModel", "isPart", "(II)Z"⟩, 47) := ⟨⟨by decide +kernel, by decide +kernel⟩, List.mem_of_getElem? (i := 1407) (by decide +kernel), List.mem_of_getElem? (i := 1803) (by decide +kernel), List.mem_of_getElem? (i := 1804) (by decide +kernel)⟩
def lw_privs_4 : List (MethodName × Nat) := [(⟨"BlobHarborModel", "made", "(III)I"⟩, 47), (⟨"BlobHarborModel", "dataAt", "(III)I"⟩, 47), (⟨"BlobHarborModel", "isVersion", "(III)Z"⟩, 47), (⟨"BlobHarborModel", "versionAt", "(III)I"⟩, 47), (⟨"BlobHarborModel", "isLocked", "(I)Z"⟩, 47), (⟨"BlobHarborModel", "goes", "(II)V"⟩, 47), (⟨"BlobHarborModel", "manyOf", "(II)I"⟩, 47), (⟨"BlobHarborModel", "isWarm", "(I)Z"⟩, 47), (⟨"BlobHarborModel", "byteOf", "(III)I"⟩, 47), (⟨"BlobHarborModel", "readAt", "(II)I"⟩, 47), (⟨"BlobHarborModel", "turns", "(I)V"⟩, 47), (⟨"BlobHarborModel", "isUpload", "(I)Z"⟩, 47), (⟨"BlobHarborModel", "pieced", "(I)I"⟩, 47), (⟨"BlobHarborModel", "joins", "(I)V"⟩, 47), (⟨"BlobHarborModel", "isObject", "(II)Z"⟩, 47), (⟨"BlobHarborModel", "isPart", "(II)Z"⟩, 47)]
theorem lw_r4 : ∀ q ∈ lw_privs_4, lw_okq q := List.forall_mem_cons.mpr ⟨lw_p48, List.forall_mem_cons.mpr ⟨lw_p49, List.forall_mem_cons.mpr ⟨lw_p50, List.forall_mem_cons.mpr ⟨lw_p51, List.forall_mem_cons.mpr ⟨lw_p52, List.forall_mem_cons.mpr ⟨lw_p53, List.forall_mem_cons.mpr ⟨lw_p54, List.forall_mem_cons.mpr ⟨lw_p55, List.forall_mem_cons.mpr ⟨lw_p56, List.forall_mem_cons.mpr ⟨lw_p57, List.forall_mem_cons.mpr ⟨lw_p58, List.forall_mem_cons.mpr ⟨lw_p59, List.forall_mem_cons.mpr ⟨lw_p60, List.forall_mem_cons.mpr ⟨lw_p61, List.forall_mem_cons.mpr ⟨lw_p62, List.forall_mem_cons.mpr ⟨lw_p63, fun _ h => absurd h List.not_mem_nil⟩⟩⟩⟩⟩⟩⟩⟩⟩⟩⟩⟩⟩⟩⟩⟩
theorem lw_p64 : lw_okq (⟨"BlobHarborModel", "mends", "(I)Z"⟩, 47) := ⟨⟨by decide +kernel, by decide +kernel⟩, List.mem_of_getElem? (i := 1407) (by decide +kernel), List.mem_of_getElem? (i := 1819) (by decide +kernel), List.mem_of_getElem? (i := 1820) (by decide +kernel)⟩
theorem lw_p65 : lw_okq (⟨"BlobHarborModel", "mendable", "(II)I"⟩, 47) := ⟨⟨by decide +kernel, by decide +kernel⟩, List.mem_of_getElem? (i := 1407) (by decide +kernel), List.mem_of_getElem? (i := 1823) (by decide +kernel), List.mem_of_getElem? (i := 1824) (by decide +kernel)⟩
theorem lw_p66 : lw_okq (⟨"BlobHarborModel", "freeNode", "(II)I"⟩, 47) := ⟨⟨by decide +kernel, by decide +kernel⟩, List.mem_of_getElem? (i := 1407) (by decide +kernel), List.mem_of_getElem? (i := 1827) (by decide +kernel), List.mem_of_getElem? (i := 1828) (by decide +kernel)⟩
theorem lw_p67 : lw_okq (⟨"BlobHarborModel", "ages", "(II)V"⟩, 47) := ⟨⟨by decide +kernel, by decide +kernel⟩, List.mem_of_getElem? (i := 1407) (by decide +kernel), List.mem_of_getElem? (i := 1843) (by decide +kernel), List.mem_of_getElem? (i := 1844) (by decide +kernel)⟩
theorem lw_p68 : lw_okq (⟨"BlobHarborModel", "follows", "(I)Z"⟩, 47) := ⟨⟨by decide +kernel, by decide +kernel⟩, List.mem_of_getElem? (i := 1407) (by decide +kernel), List.mem_of_getElem? (i := 1855) (by decide +kernel), List.mem_of_getElem? (i := 1856) (by decide +kernel)⟩
theorem lw_p69 : lw_okq (⟨"BlobHarborModel", "takes", "(I)V"⟩, 47) := ⟨⟨by decide +kernel, by decide +kernel⟩, List.mem_of_getElem? (i := 1407) (by decide +kernel), List.mem_of_getElem? (i := 1859) (by decide +kernel), List.mem_of_getElem? (i := 1860) (by decide +kernel)⟩
theorem lw_p70 : lw_okq (⟨"BlobHarborModel", "isWithin", "(I)Z"⟩, 47) := ⟨⟨by decide +kernel, by decide +kernel⟩, List.mem_of_getElem? (i := 1407) (by decide +kernel), List.mem_of_getElem? (i := 1871) (by decide +kernel), List.mem_of_getElem? (i := 1872) (by decide +kernel)⟩
theorem lw_p71 : lw_okq (⟨"BlobHarborModel", "areSameBytes", "(II)Z"⟩, 47) := ⟨⟨by decide +kernel, by decide +kernel⟩, List.mem_of_getElem? (i := 1407) (by decide +kernel), List.mem_of_getElem? (i := 1875) (by decide +kernel), List.mem_of_getElem? (i := 1876) (by decide +kernel)⟩
def lw_privs_5 : List (MethodName × Nat) := [(⟨"BlobHarborModel", "mends", "(I)Z"⟩, 47), (⟨"BlobHarborModel", "mendable", "(II)I"⟩, 47), (⟨"BlobHarborModel", "freeNode", "(II)I"⟩, 47), (⟨"BlobHarborModel", "ages", "(II)V"⟩, 47), (⟨"BlobHarborModel", "follows", "(I)Z"⟩, 47), (⟨"BlobHarborModel", "takes", "(I)V"⟩, 47), (⟨"BlobHarborModel", "isWithin", "(I)Z"⟩, 47), (⟨"BlobHarborModel", "areSameBytes", "(II)Z"⟩, 47)]
theorem lw_r5 : ∀ q ∈ lw_privs_5, lw_okq q := List.forall_mem_cons.mpr ⟨lw_p64, List.forall_mem_cons.mpr ⟨lw_p65, List.forall_mem_cons.mpr ⟨lw_p66, List.forall_mem_cons.mpr ⟨lw_p67, List.forall_mem_cons.mpr ⟨lw_p68, List.forall_mem_cons.mpr ⟨lw_p69, List.forall_mem_cons.mpr ⟨lw_p70, List.forall_mem_cons.mpr ⟨lw_p71, fun _ h => absurd h List.not_mem_nil⟩⟩⟩⟩⟩⟩⟩⟩
def lw_privs : List (MethodName × Nat) := lw_privs_1 ++ (lw_privs_2 ++ (lw_privs_3 ++ (lw_privs_4 ++ (lw_privs_5))))
def lw_tbl : List Cond := k2_sels lw_privs ++ tables_1
theorem lw_privs_ok : ∀ q ∈ lw_privs, lw_okq q := by
  show ∀ q ∈ lw_privs_1 ++ (lw_privs_2 ++ (lw_privs_3 ++ (lw_privs_4 ++ (lw_privs_5)))), lw_okq q
  exact List.forall_mem_append.mpr ⟨lw_r1, List.forall_mem_append.mpr ⟨lw_r2, List.forall_mem_append.mpr ⟨lw_r3, List.forall_mem_append.mpr ⟨lw_r4, lw_r5⟩⟩⟩⟩
def RX0 : String := "BlobHarbor$Bytes"
def TX0 : u_T := fun k => match k with
  | 0 => ("BlobHarbor$Bytes", "row", "[B", true)
  | _ => ("BlobHarbor$Bytes", "many", "I", false)
def tyX0 : Nat → FieldType := fun k => match k with
  | 0 => .array .byte
  | _ => .int
abbrev wsX00 : List Cond := u_ws RX0 TX0 2
theorem nmX0 : ∀ a, a < 2 → ∀ b, b < 2 → a ≠ b → (TX0 a).2.1 ≠ (TX0 b).2.1 := by decide +kernel
theorem tyX0_ok : ∀ k, k < 2 → parseFieldDescriptor (TX0 k).2.2.1 = some (tyX0 k) := by decide +kernel
abbrev cX0_init : ByteArray := prog_2_method_1_code
def yX0_init : MethodName := ⟨RX0, "<init>", "()V"⟩
abbrev cX0_at : ByteArray := prog_2_method_2_code
def yX0_at : MethodName := ⟨RX0, "at", "(I)I"⟩
abbrev cX0_append : ByteArray := prog_2_method_3_code
def yX0_append : MethodName := ⟨RX0, "append", "(I)V"⟩
abbrev cX0_appendAll : ByteArray := prog_2_method_4_code
def yX0_appendAll : MethodName := ⟨RX0, "appendAll", "(LBlobHarbor$Bytes;)V"⟩
abbrev cX0_makeEmpty : ByteArray := prog_2_method_5_code
def yX0_makeEmpty : MethodName := ⟨RX0, "makeEmpty", "()V"⟩
abbrev cX0_isSame : ByteArray := prog_2_method_6_code
def yX0_isSame : MethodName := ⟨RX0, "isSame", "(LBlobHarbor$Bytes;)Z"⟩
def RX1 : String := "BlobHarbor$Code"
def TX1 : u_T := fun k => match k with
  | 0 => ("BlobHarbor$Code", "plain", "[B", true)
  | 1 => ("BlobHarbor$Code", "coded", "[B", true)
  | 2 => ("BlobHarbor$Code", "lowest", "[I", true)
  | _ => ("BlobHarbor$Code", "values", "[I", true)
def tyX1 : Nat → FieldType := fun k => match k with
  | 0 => .array .byte
  | 1 => .array .byte
  | 2 => .array .int
  | _ => .array .int
abbrev wsX10 : List Cond := u_ws RX1 TX1 4
theorem nmX1 : ∀ a, a < 4 → ∀ b, b < 4 → a ≠ b → (TX1 a).2.1 ≠ (TX1 b).2.1 := by decide +kernel
theorem tyX1_ok : ∀ k, k < 4 → parseFieldDescriptor (TX1 k).2.2.1 = some (tyX1 k) := by decide +kernel
abbrev cX1_init : ByteArray := prog_3_method_1_code
def yX1_init : MethodName := ⟨RX1, "<init>", "()V"⟩
abbrev cX1_times : ByteArray := prog_3_method_2_code
def yX1_times : MethodName := ⟨RX1, "times", "(II)I"⟩
abbrev cX1_inverse : ByteArray := prog_3_method_3_code
def yX1_inverse : MethodName := ⟨RX1, "inverse", "(I)I"⟩
abbrev cX1_factor : ByteArray := prog_3_method_4_code
def yX1_factor : MethodName := ⟨RX1, "factor", "(II)I"⟩
abbrev cX1_plainByte : ByteArray := prog_3_method_5_code
def yX1_plainByte : MethodName := ⟨RX1, "plainByte", "(I)I"⟩
abbrev cX1_codedByte : ByteArray := prog_3_method_6_code
def yX1_codedByte : MethodName := ⟨RX1, "codedByte", "(II)I"⟩
abbrev cX1_takePlain : ByteArray := prog_3_method_7_code
def yX1_takePlain : MethodName := ⟨RX1, "takePlain", "(LBlobHarbor$Part;)V"⟩
abbrev cX1_encodePlain : ByteArray := prog_3_method_8_code
def yX1_encodePlain : MethodName := ⟨RX1, "encodePlain", "()V"⟩
abbrev cX1_decode : ByteArray := prog_3_method_9_code
def yX1_decode : MethodName := ⟨RX1, "decode", "(LBlobHarbor$Part;)Z"⟩
abbrev cX1_findLowest : ByteArray := prog_3_method_10_code
def yX1_findLowest : MethodName := ⟨RX1, "findLowest", "(LBlobHarbor$Part;)Z"⟩
abbrev cX1_solve : ByteArray := prog_3_method_11_code
def yX1_solve : MethodName := ⟨RX1, "solve", "(LBlobHarbor$Part;II)I"⟩
abbrev cX1_determinant : ByteArray := prog_3_method_12_code
def yX1_determinant : MethodName := ⟨RX1, "determinant", "(I)I"⟩
abbrev cX1_cell : ByteArray := prog_3_method_13_code
def yX1_cell : MethodName := ⟨RX1, "cell", "(III)I"⟩
def RX2 : String := "BlobHarbor$Cut"
def TX2 : u_T := fun k => match k with
  | 0 => ("BlobHarbor$Cut", "starts", "[I", true)
  | 1 => ("BlobHarbor$Cut", "ends", "[I", true)
  | _ => ("BlobHarbor$Cut", "many", "I", false)
def tyX2 : Nat → FieldType := fun k => match k with
  | 0 => .array .int
  | 1 => .array .int
  | _ => .int
abbrev wsX20 : List Cond := u_ws RX2 TX2 3
theorem nmX2 : ∀ a, a < 3 → ∀ b, b < 3 → a ≠ b → (TX2 a).2.1 ≠ (TX2 b).2.1 := by decide +kernel
theorem tyX2_ok : ∀ k, k < 3 → parseFieldDescriptor (TX2 k).2.2.1 = some (tyX2 k) := by decide +kernel
abbrev cX2_init : ByteArray := prog_4_method_1_code
def yX2_init : MethodName := ⟨RX2, "<init>", "()V"⟩
abbrev cX2_cut : ByteArray := prog_4_method_2_code
def yX2_cut : MethodName := ⟨RX2, "cut", "(LBlobHarbor$Bytes;)V"⟩
abbrev cX2_endsPart : ByteArray := prog_4_method_3_code
def yX2_endsPart : MethodName := ⟨RX2, "endsPart", "(LBlobHarbor$Bytes;II)Z"⟩
abbrev cX2_addPart : ByteArray := prog_4_method_4_code
def yX2_addPart : MethodName := ⟨RX2, "addPart", "(II)V"⟩
abbrev cX2_endOf : ByteArray := prog_4_method_5_code
def yX2_endOf : MethodName := ⟨RX2, "endOf", "(I)I"⟩
abbrev cX2_startOf : ByteArray := prog_4_method_6_code
def yX2_startOf : MethodName := ⟨RX2, "startOf", "(I)I"⟩
def RX3 : String := "BlobHarbor$Entry"
def TX3 : u_T := fun k => match k with
  | 0 => ("BlobHarbor$Entry", "key", "I", true)
  | 1 => ("BlobHarbor$Entry", "number", "I", true)
  | 2 => ("BlobHarbor$Entry", "day", "I", true)
  | _ => ("BlobHarbor$Entry", "bytes", "LBlobHarbor$Bytes;", true)
def tyX3 : Nat → FieldType := fun k => match k with
  | 0 => .int
  | 1 => .int
  | 2 => .int
  | _ => .object "BlobHarbor$Bytes"
abbrev wsX30 : List Cond := u_ws RX3 TX3 4
theorem nmX3 : ∀ a, a < 4 → ∀ b, b < 4 → a ≠ b → (TX3 a).2.1 ≠ (TX3 b).2.1 := by decide +kernel
theorem tyX3_ok : ∀ k, k < 4 → parseFieldDescriptor (TX3 k).2.2.1 = some (tyX3 k) := by decide +kernel
abbrev cX3_init : ByteArray := prog_5_method_1_code
def yX3_init : MethodName := ⟨RX3, "<init>", "(III)V"⟩
abbrev cX3_isMark : ByteArray := prog_5_method_2_code
def yX3_isMark : MethodName := ⟨RX3, "isMark", "()Z"⟩
def RX4 : String := "BlobHarbor$Keys"
def TX4 : u_T := fun k => match k with
  | _ => ("", "", "", false)
def tyX4 : Nat → FieldType := fun k => match k with
  | _ => .int
abbrev wsX40 : List Cond := u_ws RX4 TX4 0
theorem nmX4 : ∀ a, a < 0 → ∀ b, b < 0 → a ≠ b → (TX4 a).2.1 ≠ (TX4 b).2.1 := by decide +kernel
theorem tyX4_ok : ∀ k, k < 0 → parseFieldDescriptor (TX4 k).2.2.1 = some (tyX4 k) := by decide +kernel
abbrev cX4_isKey : ByteArray := prog_6_method_2_code
def yX4_isKey : MethodName := ⟨RX4, "isKey", "(I)Z"⟩
abbrev cX4_lettersOf : ByteArray := prog_6_method_3_code
def yX4_lettersOf : MethodName := ⟨RX4, "lettersOf", "(I)I"⟩
abbrev cX4_asWord : ByteArray := prog_6_method_4_code
def yX4_asWord : MethodName := ⟨RX4, "asWord", "(I)I"⟩
abbrev cX4_wordBehind : ByteArray := prog_6_method_5_code
def yX4_wordBehind : MethodName := ⟨RX4, "wordBehind", "(I)I"⟩
abbrev cX4_ofWord : ByteArray := prog_6_method_6_code
def yX4_ofWord : MethodName := ⟨RX4, "ofWord", "(I)I"⟩
abbrev cX4_begins : ByteArray := prog_6_method_7_code
def yX4_begins : MethodName := ⟨RX4, "begins", "(II)Z"⟩
abbrev cX4_digit : ByteArray := prog_6_method_8_code
def yX4_digit : MethodName := ⟨RX4, "digit", "(II)I"⟩
def RX5 : String := "BlobHarbor$Part"
def TX5 : u_T := fun k => match k with
  | 0 => ("BlobHarbor$Part", "number", "I", true)
  | 1 => ("BlobHarbor$Part", "many", "I", true)
  | 2 => ("BlobHarbor$Part", "bytes", "[B", true)
  | 3 => ("BlobHarbor$Part", "shardBytes", "[B", true)
  | 4 => ("BlobHarbor$Part", "nodes", "[I", true)
  | 5 => ("BlobHarbor$Part", "rotten", "[Z", true)
  | 6 => ("BlobHarbor$Part", "count", "I", false)
  | _ => ("BlobHarbor$Part", "isSwept", "Z", false)
def tyX5 : Nat → FieldType := fun k => match k with
  | 0 => .int
  | 1 => .int
  | 2 => .array .byte
  | 3 => .array .byte
  | 4 => .array .int
  | 5 => .array .boolean
  | 6 => .int
  | _ => .boolean
abbrev wsX50 : List Cond := u_ws RX5 TX5 8
theorem nmX5 : ∀ a, a < 8 → ∀ b, b < 8 → a ≠ b → (TX5 a).2.1 ≠ (TX5 b).2.1 := by decide +kernel
theorem tyX5_ok : ∀ k, k < 8 → parseFieldDescriptor (TX5 k).2.2.1 = some (tyX5 k) := by decide +kernel
abbrev cX5_init : ByteArray := prog_7_method_1_code
def yX5_init : MethodName := ⟨RX5, "<init>", "(ILBlobHarbor$Bytes;II)V"⟩
abbrev cX5_isSame : ByteArray := prog_7_method_2_code
def yX5_isSame : MethodName := ⟨RX5, "isSame", "(LBlobHarbor$Bytes;II)Z"⟩
abbrev cX5_nodeOf : ByteArray := prog_7_method_3_code
def yX5_nodeOf : MethodName := ⟨RX5, "nodeOf", "(I)I"⟩
abbrev cX5_isGood : ByteArray := prog_7_method_4_code
def yX5_isGood : MethodName := ⟨RX5, "isGood", "(I)Z"⟩
abbrev cX5_manyGood : ByteArray := prog_7_method_5_code
def yX5_manyGood : MethodName := ⟨RX5, "manyGood", "()I"⟩
abbrev cX5_canBeRead : ByteArray := prog_7_method_6_code
def yX5_canBeRead : MethodName := ⟨RX5, "canBeRead", "()Z"⟩
abbrev cX5_isOn : ByteArray := prog_7_method_7_code
def yX5_isOn : MethodName := ⟨RX5, "isOn", "(I)Z"⟩
abbrev cX5_shardByte : ByteArray := prog_7_method_8_code
def yX5_shardByte : MethodName := ⟨RX5, "shardByte", "(II)I"⟩
abbrev cX5_setShardByte : ByteArray := prog_7_method_9_code
def yX5_setShardByte : MethodName := ⟨RX5, "setShardByte", "(III)V"⟩
abbrev cX5_place : ByteArray := prog_7_method_10_code
def yX5_place : MethodName := ⟨RX5, "place", "(IILBlobHarbor$Code;)V"⟩
abbrev cX5_spoil : ByteArray := prog_7_method_11_code
def yX5_spoil : MethodName := ⟨RX5, "spoil", "(I)V"⟩
abbrev cX5_loseOn : ByteArray := prog_7_method_12_code
def yX5_loseOn : MethodName := ⟨RX5, "loseOn", "(I)I"⟩
abbrev cX5_loseAll : ByteArray := prog_7_method_13_code
def yX5_loseAll : MethodName := ⟨RX5, "loseAll", "()V"⟩
def RX6 : String := "BlobHarbor$Region"
def TX6 : u_T := fun k => match k with
  | 0 => ("BlobHarbor$Region", "store", "LBlobHarbor$Store;", true)
  | 1 => ("BlobHarbor$Region", "versions", "Ljava/util/ArrayList;", true)
  | 2 => ("BlobHarbor$Region", "kept", "Ljava/util/ArrayList;", true)
  | _ => ("BlobHarbor$Region", "had", "[Z", true)
def tyX6 : Nat → FieldType := fun k => match k with
  | 0 => .object "BlobHarbor$Store"
  | 1 => .object "java/util/ArrayList"
  | 2 => .object "java/util/ArrayList"
  | _ => .array .boolean
abbrev wsX60 : List Cond := u_ws RX6 TX6 4
theorem nmX6 : ∀ a, a < 4 → ∀ b, b < 4 → a ≠ b → (TX6 a).2.1 ≠ (TX6 b).2.1 := by decide +kernel
theorem tyX6_ok : ∀ k, k < 4 → parseFieldDescriptor (TX6 k).2.2.1 = some (tyX6 k) := by decide +kernel
abbrev cX6_init : ByteArray := prog_8_method_1_code
def yX6_init : MethodName := ⟨RX6, "<init>", "()V"⟩
abbrev cX6_latest : ByteArray := prog_8_method_2_code
def yX6_latest : MethodName := ⟨RX6, "latest", "(I)LBlobHarbor$Version;"⟩
abbrev cX6_find : ByteArray := prog_8_method_3_code
def yX6_find : MethodName := ⟨RX6, "find", "(II)LBlobHarbor$Version;"⟩
abbrev cX6_manyOf : ByteArray := prog_8_method_4_code
def yX6_manyOf : MethodName := ⟨RX6, "manyOf", "(I)I"⟩
abbrev cX6_numberAt : ByteArray := prog_8_method_5_code
def yX6_numberAt : MethodName := ⟨RX6, "numberAt", "(II)I"⟩
abbrev cX6_hadNumber : ByteArray := prog_8_method_6_code
def yX6_hadNumber : MethodName := ⟨RX6, "hadNumber", "(I)Z"⟩
abbrev cX6_hasRoom : ByteArray := prog_8_method_7_code
def yX6_hasRoom : MethodName := ⟨RX6, "hasRoom", "(LBlobHarbor$Bytes;)Z"⟩
abbrev cX6_take : ByteArray := prog_8_method_8_code
def yX6_take : MethodName := ⟨RX6, "take", "(LBlobHarbor$Entry;)V"⟩
abbrev cX6_takeOut : ByteArray := prog_8_method_9_code
def yX6_takeOut : MethodName := ⟨RX6, "takeOut", "(LBlobHarbor$Version;)V"⟩
abbrev cX6_age : ByteArray := prog_8_method_10_code
def yX6_age : MethodName := ⟨RX6, "age", "(LBlobHarbor$Rule;I)V"⟩
abbrev cX6_ageOne : ByteArray := prog_8_method_11_code
def yX6_ageOne : MethodName := ⟨RX6, "ageOne", "(LBlobHarbor$Version;II)V"⟩
abbrev cX6_charge : ByteArray := prog_8_method_12_code
def yX6_charge : MethodName := ⟨RX6, "charge", "([I)V"⟩
abbrev cX6_isSound : ByteArray := prog_8_method_13_code
def yX6_isSound : MethodName := ⟨RX6, "isSound", "()Z"⟩
def RX7 : String := "BlobHarbor$Rule"
def TX7 : u_T := fun k => match k with
  | 0 => ("BlobHarbor$Rule", "beginning", "I", true)
  | 1 => ("BlobHarbor$Rule", "days", "I", true)
  | _ => ("BlobHarbor$Rule", "to", "I", true)
def tyX7 : Nat → FieldType := fun k => match k with
  | 0 => .int
  | 1 => .int
  | _ => .int
abbrev wsX70 : List Cond := u_ws RX7 TX7 3
theorem nmX7 : ∀ a, a < 3 → ∀ b, b < 3 → a ≠ b → (TX7 a).2.1 ≠ (TX7 b).2.1 := by decide +kernel
theorem tyX7_ok : ∀ k, k < 3 → parseFieldDescriptor (TX7 k).2.2.1 = some (tyX7 k) := by decide +kernel
abbrev cX7_init : ByteArray := prog_9_method_1_code
def yX7_init : MethodName := ⟨RX7, "<init>", "(III)V"⟩
abbrev cX7_isFor : ByteArray := prog_9_method_2_code
def yX7_isFor : MethodName := ⟨RX7, "isFor", "(LBlobHarbor$Entry;I)Z"⟩
def RX8 : String := "BlobHarbor$Store"
def TX8 : u_T := fun k => match k with
  | 0 => ("BlobHarbor$Store", "up", "[Z", true)
  | 1 => ("BlobHarbor$Store", "parts", "Ljava/util/ArrayList;", true)
  | 2 => ("BlobHarbor$Store", "cut", "LBlobHarbor$Cut;", true)
  | 3 => ("BlobHarbor$Store", "code", "LBlobHarbor$Code;", true)
  | _ => ("BlobHarbor$Store", "tally", "[I", true)
def tyX8 : Nat → FieldType := fun k => match k with
  | 0 => .array .boolean
  | 1 => .object "java/util/ArrayList"
  | 2 => .object "BlobHarbor$Cut"
  | 3 => .object "BlobHarbor$Code"
  | _ => .array .int
abbrev wsX80 : List Cond := u_ws RX8 TX8 5
theorem nmX8 : ∀ a, a < 5 → ∀ b, b < 5 → a ≠ b → (TX8 a).2.1 ≠ (TX8 b).2.1 := by decide +kernel
theorem tyX8_ok : ∀ k, k < 5 → parseFieldDescriptor (TX8 k).2.2.1 = some (tyX8 k) := by decide +kernel
abbrev cX8_init : ByteArray := prog_10_method_1_code
def yX8_init : MethodName := ⟨RX8, "<init>", "()V"⟩
abbrev cX8_isUp : ByteArray := prog_10_method_2_code
def yX8_isUp : MethodName := ⟨RX8, "isUp", "(I)Z"⟩
abbrev cX8_turn : ByteArray := prog_10_method_3_code
def yX8_turn : MethodName := ⟨RX8, "turn", "(IZ)V"⟩
abbrev cX8_loseShardsOn : ByteArray := prog_10_method_4_code
def yX8_loseShardsOn : MethodName := ⟨RX8, "loseShardsOn", "(I)I"⟩
abbrev cX8_partAt : ByteArray := prog_10_method_5_code
def yX8_partAt : MethodName := ⟨RX8, "partAt", "(I)LBlobHarbor$Part;"⟩
abbrev cX8_manyUp : ByteArray := prog_10_method_6_code
def yX8_manyUp : MethodName := ⟨RX8, "manyUp", "()I"⟩
abbrev cX8_manyEverWith : ByteArray := prog_10_method_7_code
def yX8_manyEverWith : MethodName := ⟨RX8, "manyEverWith", "(LBlobHarbor$Bytes;)I"⟩
abbrev cX8_isFirstInCut : ByteArray := prog_10_method_8_code
def yX8_isFirstInCut : MethodName := ⟨RX8, "isFirstInCut", "(LBlobHarbor$Bytes;I)Z"⟩
abbrev cX8_areSame : ByteArray := prog_10_method_9_code
def yX8_areSame : MethodName := ⟨RX8, "areSame", "(LBlobHarbor$Bytes;II)Z"⟩
abbrev cX8_find : ByteArray := prog_10_method_10_code
def yX8_find : MethodName := ⟨RX8, "find", "(LBlobHarbor$Bytes;II)LBlobHarbor$Part;"⟩
abbrev cX8_takeIn : ByteArray := prog_10_method_11_code
def yX8_takeIn : MethodName := ⟨RX8, "takeIn", "(LBlobHarbor$Bytes;)[I"⟩
abbrev cX8_findOrAdd : ByteArray := prog_10_method_12_code
def yX8_findOrAdd : MethodName := ⟨RX8, "findOrAdd", "(LBlobHarbor$Bytes;II)LBlobHarbor$Part;"⟩
abbrev cX8_spread : ByteArray := prog_10_method_13_code
def yX8_spread : MethodName := ⟨RX8, "spread", "(LBlobHarbor$Part;)V"⟩
abbrev cX8_freeNode : ByteArray := prog_10_method_14_code
def yX8_freeNode : MethodName := ⟨RX8, "freeNode", "(LBlobHarbor$Part;)I"⟩
abbrev cX8_letGo : ByteArray := prog_10_method_15_code
def yX8_letGo : MethodName := ⟨RX8, "letGo", "([I)V"⟩
abbrev cX8_byteAt : ByteArray := prog_10_method_16_code
def yX8_byteAt : MethodName := ⟨RX8, "byteAt", "([II)I"⟩
abbrev cX8_mendOne : ByteArray := prog_10_method_17_code
def yX8_mendOne : MethodName := ⟨RX8, "mendOne", "()Z"⟩
abbrev cX8_mendShard : ByteArray := prog_10_method_18_code
def yX8_mendShard : MethodName := ⟨RX8, "mendShard", "(LBlobHarbor$Part;)Z"⟩
abbrev cX8_sweepUnused : ByteArray := prog_10_method_19_code
def yX8_sweepUnused : MethodName := ⟨RX8, "sweepUnused", "(I)I"⟩
abbrev cX8_isAsPut : ByteArray := prog_10_method_20_code
def yX8_isAsPut : MethodName := ⟨RX8, "isAsPut", "(LBlobHarbor$Version;)Z"⟩
abbrev cX8_beginTally : ByteArray := prog_10_method_21_code
def yX8_beginTally : MethodName := ⟨RX8, "beginTally", "()V"⟩
abbrev cX8_tallyUp : ByteArray := prog_10_method_22_code
def yX8_tallyUp : MethodName := ⟨RX8, "tallyUp", "([I)V"⟩
abbrev cX8_isTallied : ByteArray := prog_10_method_23_code
def yX8_isTallied : MethodName := ⟨RX8, "isTallied", "()Z"⟩
def RX9 : String := "BlobHarbor$Upload"
def TX9 : u_T := fun k => match k with
  | 0 => ("BlobHarbor$Upload", "region", "LBlobHarbor$Region;", true)
  | 1 => ("BlobHarbor$Upload", "key", "I", true)
  | 2 => ("BlobHarbor$Upload", "pieces", "[LBlobHarbor$Bytes;", true)
  | _ => ("BlobHarbor$Upload", "isOver", "Z", false)
def tyX9 : Nat → FieldType := fun k => match k with
  | 0 => .object "BlobHarbor$Region"
  | 1 => .int
  | 2 => .array (.object "BlobHarbor$Bytes")
  | _ => .boolean
abbrev wsX90 : List Cond := u_ws RX9 TX9 4
theorem nmX9 : ∀ a, a < 4 → ∀ b, b < 4 → a ≠ b → (TX9 a).2.1 ≠ (TX9 b).2.1 := by decide +kernel
theorem tyX9_ok : ∀ k, k < 4 → parseFieldDescriptor (TX9 k).2.2.1 = some (tyX9 k) := by decide +kernel
abbrev cX9_init : ByteArray := prog_11_method_1_code
def yX9_init : MethodName := ⟨RX9, "<init>", "(LBlobHarbor$Region;I)V"⟩
abbrev cX9_manyOf : ByteArray := prog_11_method_2_code
def yX9_manyOf : MethodName := ⟨RX9, "manyOf", "(I)I"⟩
abbrev cX9_total : ByteArray := prog_11_method_3_code
def yX9_total : MethodName := ⟨RX9, "total", "()I"⟩
abbrev cX9_replace : ByteArray := prog_11_method_4_code
def yX9_replace : MethodName := ⟨RX9, "replace", "(ILBlobHarbor$Bytes;)V"⟩
abbrev cX9_joinInto : ByteArray := prog_11_method_5_code
def yX9_joinInto : MethodName := ⟨RX9, "joinInto", "(LBlobHarbor$Bytes;)V"⟩
def RX10 : String := "BlobHarbor$Version"
def TX10 : u_T := fun k => match k with
  | 0 => ("BlobHarbor$Version", "entry", "LBlobHarbor$Entry;", true)
  | 1 => ("BlobHarbor$Version", "parts", "[I", true)
  | 2 => ("BlobHarbor$Version", "level", "I", false)
  | 3 => ("BlobHarbor$Version", "lockedUntil", "I", false)
  | _ => ("BlobHarbor$Version", "askedOn", "I", false)
def tyX10 : Nat → FieldType := fun k => match k with
  | 0 => .object "BlobHarbor$Entry"
  | 1 => .array .int
  | 2 => .int
  | 3 => .int
  | _ => .int
abbrev wsX100 : List Cond := u_ws RX10 TX10 5
theorem nmX10 : ∀ a, a < 5 → ∀ b, b < 5 → a ≠ b → (TX10 a).2.1 ≠ (TX10 b).2.1 := by decide +kernel
theorem tyX10_ok : ∀ k, k < 5 → parseFieldDescriptor (TX10 k).2.2.1 = some (tyX10 k) := by decide +kernel
abbrev cX10_init : ByteArray := prog_12_method_1_code
def yX10_init : MethodName := ⟨RX10, "<init>", "(LBlobHarbor$Entry;[I)V"⟩
abbrev cX10_isLocked : ByteArray := prog_12_method_2_code
def yX10_isLocked : MethodName := ⟨RX10, "isLocked", "(I)Z"⟩
abbrev cX10_isCold : ByteArray := prog_12_method_3_code
def yX10_isCold : MethodName := ⟨RX10, "isCold", "()Z"⟩
abbrev cX10_opensOn : ByteArray := prog_12_method_4_code
def yX10_opensOn : MethodName := ⟨RX10, "opensOn", "()I"⟩
abbrev cX10_isAskedFor : ByteArray := prog_12_method_5_code
def yX10_isAskedFor : MethodName := ⟨RX10, "isAskedFor", "(I)Z"⟩
abbrev cX10_isOpen : ByteArray := prog_12_method_6_code
def yX10_isOpen : MethodName := ⟨RX10, "isOpen", "(I)Z"⟩
def RX11 : String := "BlobHarbor"
def TX11 : u_T := fun k => match k with
  | 0 => ("BlobHarbor", "firstRegion", "LBlobHarbor$Region;", true)
  | 1 => ("BlobHarbor", "secondRegion", "LBlobHarbor$Region;", true)
  | 2 => ("BlobHarbor", "drafted", "LBlobHarbor$Bytes;", true)
  | 3 => ("BlobHarbor", "joined", "LBlobHarbor$Bytes;", true)
  | 4 => ("BlobHarbor", "noBytes", "LBlobHarbor$Bytes;", true)
  | 5 => ("BlobHarbor", "uploads", "Ljava/util/ArrayList;", true)
  | 6 => ("BlobHarbor", "rules", "Ljava/util/ArrayList;", true)
  | 7 => ("BlobHarbor", "costs", "[I", true)
  | 8 => ("BlobHarbor", "numbers", "I", false)
  | _ => ("BlobHarbor", "day", "I", false)
def tyX11 : Nat → FieldType := fun k => match k with
  | 0 => .object "BlobHarbor$Region"
  | 1 => .object "BlobHarbor$Region"
  | 2 => .object "BlobHarbor$Bytes"
  | 3 => .object "BlobHarbor$Bytes"
  | 4 => .object "BlobHarbor$Bytes"
  | 5 => .object "java/util/ArrayList"
  | 6 => .object "java/util/ArrayList"
  | 7 => .array .int
  | 8 => .int
  | _ => .int
abbrev wsX110 : List Cond := u_ws RX11 TX11 10
theorem nmX11 : ∀ a, a < 10 → ∀ b, b < 10 → a ≠ b → (TX11 a).2.1 ≠ (TX11 b).2.1 := by decide +kernel
theorem tyX11_ok : ∀ k, k < 10 → parseFieldDescriptor (TX11 k).2.2.1 = some (tyX11 k) := by decide +kernel
abbrev cX11_init : ByteArray := prog_1_method_1_code
def yX11_init : MethodName := ⟨RX11, "<init>", "()V"⟩
abbrev cX11_draft : ByteArray := prog_1_method_2_code
def yX11_draft : MethodName := ⟨RX11, "draft", "(III)I"⟩
abbrev cX11_clear : ByteArray := prog_1_method_3_code
def yX11_clear : MethodName := ⟨RX11, "clear", "()I"⟩
abbrev cX11_put : ByteArray := prog_1_method_4_code
def yX11_put : MethodName := ⟨RX11, "put", "(III)I"⟩
abbrev cX11_delete : ByteArray := prog_1_method_5_code
def yX11_delete : MethodName := ⟨RX11, "delete", "(II)I"⟩
abbrev cX11_drop : ByteArray := prog_1_method_6_code
def yX11_drop : MethodName := ⟨RX11, "drop", "(III)I"⟩
abbrev cX11_lock : ByteArray := prog_1_method_7_code
def yX11_lock : MethodName := ⟨RX11, "lock", "(IIII)I"⟩
abbrev cX11_read : ByteArray := prog_1_method_8_code
def yX11_read : MethodName := ⟨RX11, "read", "(IIII)I"⟩
abbrev cX11_ask : ByteArray := prog_1_method_9_code
def yX11_ask : MethodName := ⟨RX11, "ask", "(III)I"⟩
abbrev cX11_upload : ByteArray := prog_1_method_10_code
def yX11_upload : MethodName := ⟨RX11, "upload", "(II)I"⟩
abbrev cX11_piece : ByteArray := prog_1_method_11_code
def yX11_piece : MethodName := ⟨RX11, "piece", "(II)I"⟩
abbrev cX11_finish : ByteArray := prog_1_method_12_code
def yX11_finish : MethodName := ⟨RX11, "finish", "(IZ)I"⟩
abbrev cX11_list : ByteArray := prog_1_method_13_code
def yX11_list : MethodName := ⟨RX11, "list", "(IIII)I"⟩
abbrev cX11_version : ByteArray := prog_1_method_14_code
def yX11_version : MethodName := ⟨RX11, "version", "(III)I"⟩
abbrev cX11_about : ByteArray := prog_1_method_15_code
def yX11_about : MethodName := ⟨RX11, "about", "(IIII)I"⟩
abbrev cX11_part : ByteArray := prog_1_method_16_code
def yX11_part : MethodName := ⟨RX11, "part", "(IIII)I"⟩
abbrev cX11_partIs : ByteArray := prog_1_method_17_code
def yX11_partIs : MethodName := ⟨RX11, "partIs", "(III)I"⟩
abbrev cX11_node : ByteArray := prog_1_method_18_code
def yX11_node : MethodName := ⟨RX11, "node", "(IIZ)I"⟩
abbrev cX11_rot : ByteArray := prog_1_method_19_code
def yX11_rot : MethodName := ⟨RX11, "rot", "(III)Z"⟩
abbrev cX11_mend : ByteArray := prog_1_method_20_code
def yX11_mend : MethodName := ⟨RX11, "mend", "(II)I"⟩
abbrev cX11_sweep : ByteArray := prog_1_method_21_code
def yX11_sweep : MethodName := ⟨RX11, "sweep", "(II)I"⟩
abbrev cX11_rule : ByteArray := prog_1_method_22_code
def yX11_rule : MethodName := ⟨RX11, "rule", "(III)I"⟩
abbrev cX11_pass : ByteArray := prog_1_method_23_code
def yX11_pass : MethodName := ⟨RX11, "pass", "(I)I"⟩
abbrev cX11_cost : ByteArray := prog_1_method_24_code
def yX11_cost : MethodName := ⟨RX11, "cost", "(I)I"⟩
abbrev cX11_follow : ByteArray := prog_1_method_25_code
def yX11_follow : MethodName := ⟨RX11, "follow", "(II)I"⟩
abbrev cX11_behind : ByteArray := prog_1_method_26_code
def yX11_behind : MethodName := ⟨RX11, "behind", "(I)I"⟩
abbrev cX11_areAlike : ByteArray := prog_1_method_27_code
def yX11_areAlike : MethodName := ⟨RX11, "areAlike", "()Z"⟩
abbrev cX11_agrees : ByteArray := prog_1_method_28_code
def yX11_agrees : MethodName := ⟨RX11, "agrees", "(I)Z"⟩
abbrev cX11_letter : ByteArray := prog_1_method_29_code
def yX11_letter : MethodName := ⟨RX11, "letter", "(II)C"⟩
abbrev cX11_checkIndex : ByteArray := prog_1_method_30_code
def yX11_checkIndex : MethodName := ⟨RX11, "checkIndex", "(Z)V"⟩
abbrev cX11_checkArgument : ByteArray := prog_1_method_31_code
def yX11_checkArgument : MethodName := ⟨RX11, "checkArgument", "(Z)V"⟩
abbrev cX11_checkState : ByteArray := prog_1_method_32_code
def yX11_checkState : MethodName := ⟨RX11, "checkState", "(Z)V"⟩
abbrev cX11_checkRange : ByteArray := prog_1_method_33_code
def yX11_checkRange : MethodName := ⟨RX11, "checkRange", "(III)V"⟩
abbrev cX11_checkKey : ByteArray := prog_1_method_34_code
def yX11_checkKey : MethodName := ⟨RX11, "checkKey", "(I)V"⟩
abbrev cX11_checkBeginning : ByteArray := prog_1_method_35_code
def yX11_checkBeginning : MethodName := ⟨RX11, "checkBeginning", "(I)V"⟩
abbrev cX11_regionOf : ByteArray := prog_1_method_36_code
def yX11_regionOf : MethodName := ⟨RX11, "regionOf", "(I)LBlobHarbor$Region;"⟩
abbrev cX11_versionOf : ByteArray := prog_1_method_37_code
def yX11_versionOf : MethodName := ⟨RX11, "versionOf", "(LBlobHarbor$Region;II)LBlobHarbor$Version;"⟩
abbrev cX11_partOf : ByteArray := prog_1_method_38_code
def yX11_partOf : MethodName := ⟨RX11, "partOf", "(LBlobHarbor$Store;I)LBlobHarbor$Part;"⟩
abbrev cX11_openUpload : ByteArray := prog_1_method_39_code
def yX11_openUpload : MethodName := ⟨RX11, "openUpload", "(I)LBlobHarbor$Upload;"⟩
abbrev cX11_isObject : ByteArray := prog_1_method_40_code
def yX11_isObject : MethodName := ⟨RX11, "isObject", "(LBlobHarbor$Version;)Z"⟩
abbrev cX11_holds : ByteArray := prog_1_method_41_code
def yX11_holds : MethodName := ⟨RX11, "holds", "(ILBlobHarbor$Version;)Z"⟩
abbrev cX11_byteOf : ByteArray := prog_1_method_42_code
def yX11_byteOf : MethodName := ⟨RX11, "byteOf", "(LBlobHarbor$Region;LBlobHarbor$Version;I)I"⟩
abbrev cX11_store : ByteArray := prog_1_method_43_code
def yX11_store : MethodName := ⟨RX11, "store", "(LBlobHarbor$Region;ILBlobHarbor$Bytes;)I"⟩
abbrev cX11_takeFirst : ByteArray := prog_1_method_44_code
def yX11_takeFirst : MethodName := ⟨RX11, "takeFirst", "(LBlobHarbor$Region;LBlobHarbor$Region;)Z"⟩
abbrev cX11_beginDay : ByteArray := prog_1_method_45_code
def yX11_beginDay : MethodName := ⟨RX11, "beginDay", "()V"⟩
def RX12 : String := "BlobHarborModel"
def TX12 : u_T := fun k => match k with
  | 0 => ("BlobHarborModel", "thrown", "I", false)
  | 1 => ("BlobHarborModel", "drafted", "I", false)
  | 2 => ("BlobHarborModel", "draft", "[I", true)
  | 3 => ("BlobHarborModel", "size", "I", false)
  | 4 => ("BlobHarborModel", "bytes", "[I", true)
  | 5 => ("BlobHarborModel", "cut", "I", false)
  | 6 => ("BlobHarborModel", "begins", "[I", true)
  | 7 => ("BlobHarborModel", "longs", "[I", true)
  | 8 => ("BlobHarborModel", "ever", "I", false)
  | 9 => ("BlobHarborModel", "many", "[I", true)
  | 10 => ("BlobHarborModel", "stored", "[I", true)
  | 11 => ("BlobHarborModel", "day", "I", false)
  | 12 => ("BlobHarborModel", "costs", "[I", true)
  | 13 => ("BlobHarborModel", "rules", "I", false)
  | 14 => ("BlobHarborModel", "ruleKey", "[I", true)
  | 15 => ("BlobHarborModel", "ruleDays", "[I", true)
  | 16 => ("BlobHarborModel", "ruleTo", "[I", true)
  | 17 => ("BlobHarborModel", "isDown", "[Z", true)
  | 18 => ("BlobHarborModel", "parts", "[I", true)
  | 19 => ("BlobHarborModel", "isSwept", "[Z", true)
  | 20 => ("BlobHarborModel", "counts", "[I", true)
  | 21 => ("BlobHarborModel", "partLong", "[I", true)
  | 22 => ("BlobHarborModel", "partBytes", "[I", true)
  | 23 => ("BlobHarborModel", "shardNode", "[I", true)
  | 24 => ("BlobHarborModel", "shardBytes", "[I", true)
  | 25 => ("BlobHarborModel", "isRotten", "[Z", true)
  | 26 => ("BlobHarborModel", "versions", "[I", true)
  | 27 => ("BlobHarborModel", "verNumber", "[I", true)
  | 28 => ("BlobHarborModel", "verKey", "[I", true)
  | 29 => ("BlobHarborModel", "verDay", "[I", true)
  | 30 => ("BlobHarborModel", "verClass", "[I", true)
  | 31 => ("BlobHarborModel", "verLock", "[I", true)
  | 32 => ("BlobHarborModel", "verAsked", "[I", true)
  | 33 => ("BlobHarborModel", "verParts", "[I", true)
  | 34 => ("BlobHarborModel", "verPart", "[I", true)
  | 35 => ("BlobHarborModel", "had", "[Z", true)
  | 36 => ("BlobHarborModel", "keptMany", "[I", true)
  | 37 => ("BlobHarborModel", "keptNumber", "[I", true)
  | 38 => ("BlobHarborModel", "keyOf", "[I", true)
  | 39 => ("BlobHarborModel", "dayOf", "[I", true)
  | 40 => ("BlobHarborModel", "uploads", "I", false)
  | 41 => ("BlobHarborModel", "upRegion", "[I", true)
  | 42 => ("BlobHarborModel", "upKey", "[I", true)
  | 43 => ("BlobHarborModel", "isOver", "[Z", true)
  | 44 => ("BlobHarborModel", "pieceMany", "[I", true)
  | 45 => ("BlobHarborModel", "pieceBytes", "[I", true)
  | _ => ("BlobHarborModel", "row", "[I", true)
def tyX12 : Nat → FieldType := fun k => match k with
  | 0 => .int
  | 1 => .int
  | 2 => .array .int
  | 3 => .int
  | 4 => .array .int
  | 5 => .int
  | 6 => .array .int
  | 7 => .array .int
  | 8 => .int
  | 9 => .array .int
  | 10 => .array .int
  | 11 => .int
  | 12 => .array .int
  | 13 => .int
  | 14 => .array .int
  | 15 => .array .int
  | 16 => .array .int
  | 17 => .array .boolean
  | 18 => .array .int
  | 19 => .array .boolean
  | 20 => .array .int
  | 21 => .array .int
  | 22 => .array .int
  | 23 => .array .int
  | 24 => .array .int
  | 25 => .array .boolean
  | 26 => .array .int
  | 27 => .array .int
  | 28 => .array .int
  | 29 => .array .int
  | 30 => .array .int
  | 31 => .array .int
  | 32 => .array .int
  | 33 => .array .int
  | 34 => .array .int
  | 35 => .array .boolean
  | 36 => .array .int
  | 37 => .array .int
  | 38 => .array .int
  | 39 => .array .int
  | 40 => .int
  | 41 => .array .int
  | 42 => .array .int
  | 43 => .array .boolean
  | 44 => .array .int
  | 45 => .array .int
  | _ => .array .int
abbrev wsX120 : List Cond := u_ws RX12 TX12 47
theorem nmX12 : ∀ a, a < 47 → ∀ b, b < 47 → a ≠ b → (TX12 a).2.1 ≠ (TX12 b).2.1 := by decide +kernel
theorem tyX12_ok : ∀ k, k < 47 → parseFieldDescriptor (TX12 k).2.2.1 = some (tyX12 k) := by decide +kernel
abbrev cX12_init : ByteArray := prog_14_method_1_code
def yX12_init : MethodName := ⟨RX12, "<init>", "()V"⟩
abbrev cX12_thrown : ByteArray := prog_14_method_2_code
def yX12_thrown : MethodName := ⟨RX12, "thrown", "()I"⟩
abbrev cX12_holds : ByteArray := prog_14_method_3_code
def yX12_holds : MethodName := ⟨RX12, "holds", "(I)Z"⟩
abbrev cX12_isIn : ByteArray := prog_14_method_4_code
def yX12_isIn : MethodName := ⟨RX12, "isIn", "(III)Z"⟩
abbrev cX12_isRegion : ByteArray := prog_14_method_5_code
def yX12_isRegion : MethodName := ⟨RX12, "isRegion", "(I)Z"⟩
abbrev cX12_letters : ByteArray := prog_14_method_6_code
def yX12_letters : MethodName := ⟨RX12, "letters", "(I)I"⟩
abbrev cX12_isKey : ByteArray := prog_14_method_7_code
def yX12_isKey : MethodName := ⟨RX12, "isKey", "(I)Z"⟩
abbrev cX12_letterOf : ByteArray := prog_14_method_8_code
def yX12_letterOf : MethodName := ⟨RX12, "letterOf", "(II)I"⟩
abbrev cX12_asWord : ByteArray := prog_14_method_9_code
def yX12_asWord : MethodName := ⟨RX12, "asWord", "(I)I"⟩
abbrev cX12_begins : ByteArray := prog_14_method_10_code
def yX12_begins : MethodName := ⟨RX12, "begins", "(II)Z"⟩
abbrev cX12_times : ByteArray := prog_14_method_11_code
def yX12_times : MethodName := ⟨RX12, "times", "(II)I"⟩
abbrev cX12_inverse : ByteArray := prog_14_method_12_code
def yX12_inverse : MethodName := ⟨RX12, "inverse", "(I)I"⟩
abbrev cX12_weight : ByteArray := prog_14_method_13_code
def yX12_weight : MethodName := ⟨RX12, "weight", "(II)I"⟩
abbrev cX12_draft : ByteArray := prog_14_method_14_code
def yX12_draft : MethodName := ⟨RX12, "draft", "(III)I"⟩
abbrev cX12_clear : ByteArray := prog_14_method_15_code
def yX12_clear : MethodName := ⟨RX12, "clear", "()I"⟩
abbrev cX12_cuts : ByteArray := prog_14_method_16_code
def yX12_cuts : MethodName := ⟨RX12, "cuts", "()V"⟩
abbrev cX12_takes : ByteArray := prog_14_method_17_code
def yX12_takes : MethodName := ⟨RX12, "takes", "(I)V"⟩
abbrev cX12_isSame : ByteArray := prog_14_method_18_code
def yX12_isSame : MethodName := ⟨RX12, "isSame", "(II)Z"⟩
abbrev cX12_found : ByteArray := prog_14_method_19_code
def yX12_found : MethodName := ⟨RX12, "found", "(II)I"⟩
abbrev cX12_newMany : ByteArray := prog_14_method_20_code
def yX12_newMany : MethodName := ⟨RX12, "newMany", "(I)I"⟩
abbrev cX12_upMany : ByteArray := prog_14_method_21_code
def yX12_upMany : MethodName := ⟨RX12, "upMany", "(I)I"⟩
abbrev cX12_hasRoom : ByteArray := prog_14_method_22_code
def yX12_hasRoom : MethodName := ⟨RX12, "hasRoom", "(I)Z"⟩
abbrev cX12_weigh : ByteArray := prog_14_method_23_code
def yX12_weigh : MethodName := ⟨RX12, "weigh", "(II)I"⟩
abbrev cX12_ordered : ByteArray := prog_14_method_24_code
def yX12_ordered : MethodName := ⟨RX12, "ordered", "(II)I"⟩
abbrev cX12_dataAt : ByteArray := prog_14_method_25_code
def yX12_dataAt : MethodName := ⟨RX12, "dataAt", "(III)I"⟩
abbrev cX12_made : ByteArray := prog_14_method_26_code
def yX12_made : MethodName := ⟨RX12, "made", "(III)I"⟩
abbrev cX12_lays : ByteArray := prog_14_method_27_code
def yX12_lays : MethodName := ⟨RX12, "lays", "(III)V"⟩
abbrev cX12_comes : ByteArray := prog_14_method_28_code
def yX12_comes : MethodName := ⟨RX12, "comes", "(II)V"⟩
abbrev cX12_isGood : ByteArray := prog_14_method_29_code
def yX12_isGood : MethodName := ⟨RX12, "isGood", "(II)Z"⟩
abbrev cX12_goodMany : ByteArray := prog_14_method_30_code
def yX12_goodMany : MethodName := ⟨RX12, "goodMany", "(I)I"⟩
abbrev cX12_readAt : ByteArray := prog_14_method_31_code
def yX12_readAt : MethodName := ⟨RX12, "readAt", "(II)I"⟩
abbrev cX12_turns : ByteArray := prog_14_method_32_code
def yX12_turns : MethodName := ⟨RX12, "turns", "(I)V"⟩
abbrev cX12_enters : ByteArray := prog_14_method_33_code
def yX12_enters : MethodName := ⟨RX12, "enters", "(IIZ)V"⟩
abbrev cX12_moves : ByteArray := prog_14_method_34_code
def yX12_moves : MethodName := ⟨RX12, "moves", "(II)V"⟩
abbrev cX12_stores : ByteArray := prog_14_method_35_code
def yX12_stores : MethodName := ⟨RX12, "stores", "(II)I"⟩
abbrev cX12_goes : ByteArray := prog_14_method_36_code
def yX12_goes : MethodName := ⟨RX12, "goes", "(II)V"⟩
abbrev cX12_endOf : ByteArray := prog_14_method_37_code
def yX12_endOf : MethodName := ⟨RX12, "endOf", "(I)I"⟩
abbrev cX12_versionAt : ByteArray := prog_14_method_38_code
def yX12_versionAt : MethodName := ⟨RX12, "versionAt", "(III)I"⟩
abbrev cX12_latest : ByteArray := prog_14_method_39_code
def yX12_latest : MethodName := ⟨RX12, "latest", "(II)I"⟩
abbrev cX12_isMark : ByteArray := prog_14_method_40_code
def yX12_isMark : MethodName := ⟨RX12, "isMark", "(I)Z"⟩
abbrev cX12_isLocked : ByteArray := prog_14_method_41_code
def yX12_isLocked : MethodName := ⟨RX12, "isLocked", "(I)Z"⟩
abbrev cX12_isVersion : ByteArray := prog_14_method_42_code
def yX12_isVersion : MethodName := ⟨RX12, "isVersion", "(III)Z"⟩
abbrev cX12_numbers : ByteArray := prog_14_method_43_code
def yX12_numbers : MethodName := ⟨RX12, "numbers", "(III)I"⟩
abbrev cX12_puts : ByteArray := prog_14_method_44_code
def yX12_puts : MethodName := ⟨RX12, "puts", "(II)I"⟩
abbrev cX12_atHand : ByteArray := prog_14_method_45_code
def yX12_atHand : MethodName := ⟨RX12, "atHand", "()V"⟩
abbrev cX12_isFull : ByteArray := prog_14_method_46_code
def yX12_isFull : MethodName := ⟨RX12, "isFull", "(I)Z"⟩
abbrev cX12_put : ByteArray := prog_14_method_47_code
def yX12_put : MethodName := ⟨RX12, "put", "(III)I"⟩
abbrev cX12_delete : ByteArray := prog_14_method_48_code
def yX12_delete : MethodName := ⟨RX12, "delete", "(II)I"⟩
abbrev cX12_manyOf : ByteArray := prog_14_method_49_code
def yX12_manyOf : MethodName := ⟨RX12, "manyOf", "(II)I"⟩
abbrev cX12_drop : ByteArray := prog_14_method_50_code
def yX12_drop : MethodName := ⟨RX12, "drop", "(III)I"⟩
abbrev cX12_lock : ByteArray := prog_14_method_51_code
def yX12_lock : MethodName := ⟨RX12, "lock", "(IIII)I"⟩
abbrev cX12_isWarm : ByteArray := prog_14_method_52_code
def yX12_isWarm : MethodName := ⟨RX12, "isWarm", "(I)Z"⟩
abbrev cX12_byteOf : ByteArray := prog_14_method_53_code
def yX12_byteOf : MethodName := ⟨RX12, "byteOf", "(III)I"⟩
abbrev cX12_read : ByteArray := prog_14_method_54_code
def yX12_read : MethodName := ⟨RX12, "read", "(IIII)I"⟩
abbrev cX12_ask : ByteArray := prog_14_method_55_code
def yX12_ask : MethodName := ⟨RX12, "ask", "(III)I"⟩
abbrev cX12_upload : ByteArray := prog_14_method_56_code
def yX12_upload : MethodName := ⟨RX12, "upload", "(II)I"⟩
abbrev cX12_isUpload : ByteArray := prog_14_method_57_code
def yX12_isUpload : MethodName := ⟨RX12, "isUpload", "(I)Z"⟩
abbrev cX12_pieced : ByteArray := prog_14_method_58_code
def yX12_pieced : MethodName := ⟨RX12, "pieced", "(I)I"⟩
abbrev cX12_piece : ByteArray := prog_14_method_59_code
def yX12_piece : MethodName := ⟨RX12, "piece", "(II)I"⟩
abbrev cX12_joins : ByteArray := prog_14_method_60_code
def yX12_joins : MethodName := ⟨RX12, "joins", "(I)V"⟩
abbrev cX12_finish : ByteArray := prog_14_method_61_code
def yX12_finish : MethodName := ⟨RX12, "finish", "(IZ)I"⟩
abbrev cX12_isObject : ByteArray := prog_14_method_62_code
def yX12_isObject : MethodName := ⟨RX12, "isObject", "(II)Z"⟩
abbrev cX12_list : ByteArray := prog_14_method_63_code
def yX12_list : MethodName := ⟨RX12, "list", "(IIII)I"⟩
abbrev cX12_version : ByteArray := prog_14_method_64_code
def yX12_version : MethodName := ⟨RX12, "version", "(III)I"⟩
abbrev cX12_about : ByteArray := prog_14_method_65_code
def yX12_about : MethodName := ⟨RX12, "about", "(IIII)I"⟩
abbrev cX12_part : ByteArray := prog_14_method_66_code
def yX12_part : MethodName := ⟨RX12, "part", "(IIII)I"⟩
abbrev cX12_isPart : ByteArray := prog_14_method_67_code
def yX12_isPart : MethodName := ⟨RX12, "isPart", "(II)Z"⟩
abbrev cX12_partIs : ByteArray := prog_14_method_68_code
def yX12_partIs : MethodName := ⟨RX12, "partIs", "(III)I"⟩
abbrev cX12_node : ByteArray := prog_14_method_69_code
def yX12_node : MethodName := ⟨RX12, "node", "(IIZ)I"⟩
abbrev cX12_rot : ByteArray := prog_14_method_70_code
def yX12_rot : MethodName := ⟨RX12, "rot", "(III)Z"⟩
abbrev cX12_freeNode : ByteArray := prog_14_method_71_code
def yX12_freeNode : MethodName := ⟨RX12, "freeNode", "(II)I"⟩
abbrev cX12_mendable : ByteArray := prog_14_method_72_code
def yX12_mendable : MethodName := ⟨RX12, "mendable", "(II)I"⟩
abbrev cX12_mends : ByteArray := prog_14_method_73_code
def yX12_mends : MethodName := ⟨RX12, "mends", "(I)Z"⟩
abbrev cX12_mend : ByteArray := prog_14_method_74_code
def yX12_mend : MethodName := ⟨RX12, "mend", "(II)I"⟩
abbrev cX12_sweep : ByteArray := prog_14_method_75_code
def yX12_sweep : MethodName := ⟨RX12, "sweep", "(II)I"⟩
abbrev cX12_rule : ByteArray := prog_14_method_76_code
def yX12_rule : MethodName := ⟨RX12, "rule", "(III)I"⟩
abbrev cX12_ages : ByteArray := prog_14_method_77_code
def yX12_ages : MethodName := ⟨RX12, "ages", "(II)V"⟩
abbrev cX12_pass : ByteArray := prog_14_method_78_code
def yX12_pass : MethodName := ⟨RX12, "pass", "(I)I"⟩
abbrev cX12_cost : ByteArray := prog_14_method_79_code
def yX12_cost : MethodName := ⟨RX12, "cost", "(I)I"⟩
abbrev cX12_follows : ByteArray := prog_14_method_80_code
def yX12_follows : MethodName := ⟨RX12, "follows", "(I)Z"⟩
abbrev cX12_follow : ByteArray := prog_14_method_81_code
def yX12_follow : MethodName := ⟨RX12, "follow", "(II)I"⟩
abbrev cX12_behind : ByteArray := prog_14_method_82_code
def yX12_behind : MethodName := ⟨RX12, "behind", "(I)I"⟩
abbrev cX12_areSameBytes : ByteArray := prog_14_method_83_code
def yX12_areSameBytes : MethodName := ⟨RX12, "areSameBytes", "(II)Z"⟩
abbrev cX12_isWithin : ByteArray := prog_14_method_84_code
def yX12_isWithin : MethodName := ⟨RX12, "isWithin", "(I)Z"⟩
abbrev cX12_areAlike : ByteArray := prog_14_method_85_code
def yX12_areAlike : MethodName := ⟨RX12, "areAlike", "()Z"⟩
abbrev cX12_agrees : ByteArray := prog_14_method_86_code
def yX12_agrees : MethodName := ⟨RX12, "agrees", "(I)Z"⟩
abbrev cX12_letter : ByteArray := prog_14_method_87_code
def yX12_letter : MethodName := ⟨RX12, "letter", "(II)C"⟩
def RJx145de : String := "java/io/Serializable"
def TJx145de : u_T := fun k => match k with
  | _ => ("", "", "", false)
def tyJx145de : Nat → FieldType := fun k => match k with
  | _ => .int
abbrev wsJx145de0 : List Cond := u_ws RJx145de TJx145de 0
theorem nmJx145de : ∀ a, a < 0 → ∀ b, b < 0 → a ≠ b → (TJx145de a).2.1 ≠ (TJx145de b).2.1 := by decide +kernel
theorem tyJx145de_ok : ∀ k, k < 0 → parseFieldDescriptor (TJx145de k).2.2.1 = some (tyJx145de k) := by decide +kernel
def RJ5 : String := "java/lang/AbstractStringBuilder"
def TJ5 : u_T := fun k => match k with
  | _ => ("", "", "", false)
def tyJ5 : Nat → FieldType := fun k => match k with
  | _ => .int
abbrev wsJ50 : List Cond := u_ws RJ5 TJ5 0
theorem nmJ5 : ∀ a, a < 0 → ∀ b, b < 0 → a ≠ b → (TJ5 a).2.1 ≠ (TJ5 b).2.1 := by decide +kernel
theorem tyJ5_ok : ∀ k, k < 0 → parseFieldDescriptor (TJ5 k).2.2.1 = some (tyJ5 k) := by decide +kernel
abbrev cJ5_init_d00df : ByteArray := prog_16_method_2_code
def yJ5_init_d00df : MethodName := ⟨RJ5, "<init>", "(I)V"⟩
abbrev cJ5_length_8abf5 : ByteArray := prog_16_method_6_code
def yJ5_length_8abf5 : MethodName := ⟨RJ5, "length", "()I"⟩
abbrev cJ5_ensureCapacityInternal_d00df : ByteArray := prog_16_method_9_code
def yJ5_ensureCapacityInternal_d00df : MethodName := ⟨RJ5, "ensureCapacityInternal", "(I)V"⟩
abbrev cJ5_newCapacity_0f7a4 : ByteArray := prog_16_method_10_code
def yJ5_newCapacity_0f7a4 : MethodName := ⟨RJ5, "newCapacity", "(I)I"⟩
abbrev cJ5_inflate_da8c8 : ByteArray := prog_16_method_11_code
def yJ5_inflate_da8c8 : MethodName := ⟨RJ5, "inflate", "()V"⟩
abbrev cJ5_append_cf1ce : ByteArray := prog_16_method_22_code
def yJ5_append_cf1ce : MethodName := ⟨RJ5, "append", "(Ljava/lang/String;)Ljava/lang/AbstractStringBuilder;"⟩
abbrev cJ5_appendNull_278bc : ByteArray := prog_16_method_26_code
def yJ5_appendNull_278bc : MethodName := ⟨RJ5, "appendNull", "()Ljava/lang/AbstractStringBuilder;"⟩
abbrev cJ5_append_c97b9 : ByteArray := prog_16_method_32_code
def yJ5_append_c97b9 : MethodName := ⟨RJ5, "append", "(I)Ljava/lang/AbstractStringBuilder;"⟩
abbrev cJ5_getValue_6d5f1 : ByteArray := prog_16_method_64_code
def yJ5_getValue_6d5f1 : MethodName := ⟨RJ5, "getValue", "()[B"⟩
abbrev cJ5_isLatin1_aae02 : ByteArray := prog_16_method_68_code
def yJ5_isLatin1_aae02 : MethodName := ⟨RJ5, "isLatin1", "()Z"⟩
abbrev cJ5_inflateIfNeededFor_a7421 : ByteArray := prog_16_method_71_code
def yJ5_inflateIfNeededFor_a7421 : MethodName := ⟨RJ5, "inflateIfNeededFor", "(Ljava/lang/String;)V"⟩
abbrev cJ5_putStringAt_47b60 : ByteArray := prog_16_method_73_code
def yJ5_putStringAt_47b60 : MethodName := ⟨RJ5, "putStringAt", "(ILjava/lang/String;)V"⟩
def RJx2cfe8 : String := "java/lang/Appendable"
def TJx2cfe8 : u_T := fun k => match k with
  | _ => ("", "", "", false)
def tyJx2cfe8 : Nat → FieldType := fun k => match k with
  | _ => .int
abbrev wsJx2cfe80 : List Cond := u_ws RJx2cfe8 TJx2cfe8 0
theorem nmJx2cfe8 : ∀ a, a < 0 → ∀ b, b < 0 → a ≠ b → (TJx2cfe8 a).2.1 ≠ (TJx2cfe8 b).2.1 := by decide +kernel
theorem tyJx2cfe8_ok : ∀ k, k < 0 → parseFieldDescriptor (TJx2cfe8 k).2.2.1 = some (tyJx2cfe8 k) := by decide +kernel
def RJx9f9b0 : String := "java/lang/CharSequence"
def TJx9f9b0 : u_T := fun k => match k with
  | _ => ("", "", "", false)
def tyJx9f9b0 : Nat → FieldType := fun k => match k with
  | _ => .int
abbrev wsJx9f9b00 : List Cond := u_ws RJx9f9b0 TJx9f9b0 0
theorem nmJx9f9b0 : ∀ a, a < 0 → ∀ b, b < 0 → a ≠ b → (TJx9f9b0 a).2.1 ≠ (TJx9f9b0 b).2.1 := by decide +kernel
theorem tyJx9f9b0_ok : ∀ k, k < 0 → parseFieldDescriptor (TJx9f9b0 k).2.2.1 = some (tyJx9f9b0 k) := by decide +kernel
def RJx8e188 : String := "java/lang/Cloneable"
def TJx8e188 : u_T := fun k => match k with
  | _ => ("", "", "", false)
def tyJx8e188 : Nat → FieldType := fun k => match k with
  | _ => .int
abbrev wsJx8e1880 : List Cond := u_ws RJx8e188 TJx8e188 0
theorem nmJx8e188 : ∀ a, a < 0 → ∀ b, b < 0 → a ≠ b → (TJx8e188 a).2.1 ≠ (TJx8e188 b).2.1 := by decide +kernel
theorem tyJx8e188_ok : ∀ k, k < 0 → parseFieldDescriptor (TJx8e188 k).2.2.1 = some (tyJx8e188 k) := by decide +kernel
def RJxb160c : String := "java/lang/Comparable"
def TJxb160c : u_T := fun k => match k with
  | _ => ("", "", "", false)
def tyJxb160c : Nat → FieldType := fun k => match k with
  | _ => .int
abbrev wsJxb160c0 : List Cond := u_ws RJxb160c TJxb160c 0
theorem nmJxb160c : ∀ a, a < 0 → ∀ b, b < 0 → a ≠ b → (TJxb160c a).2.1 ≠ (TJxb160c b).2.1 := by decide +kernel
theorem tyJxb160c_ok : ∀ k, k < 0 → parseFieldDescriptor (TJxb160c k).2.2.1 = some (tyJxb160c k) := by decide +kernel
def RJ6 : String := "java/lang/Integer"
def TJ6 : u_T := fun k => match k with
  | _ => ("", "", "", false)
def tyJ6 : Nat → FieldType := fun k => match k with
  | _ => .int
abbrev wsJ60 : List Cond := u_ws RJ6 TJ6 0
theorem nmJ6 : ∀ a, a < 0 → ∀ b, b < 0 → a ≠ b → (TJ6 a).2.1 ≠ (TJ6 b).2.1 := by decide +kernel
theorem tyJ6_ok : ∀ k, k < 0 → parseFieldDescriptor (TJ6 k).2.2.1 = some (tyJ6 k) := by decide +kernel
abbrev cJ6_getChars_ba4f3 : ByteArray := prog_25_method_12_code
def yJ6_getChars_ba4f3 : MethodName := ⟨RJ6, "getChars", "(II[B)I"⟩
abbrev cJ6_stringSize_0f7a4 : ByteArray := prog_25_method_13_code
def yJ6_stringSize_0f7a4 : MethodName := ⟨RJ6, "stringSize", "(I)I"⟩
def RJxab1ab : String := "java/lang/Iterable"
def TJxab1ab : u_T := fun k => match k with
  | _ => ("", "", "", false)
def tyJxab1ab : Nat → FieldType := fun k => match k with
  | _ => .int
abbrev wsJxab1ab0 : List Cond := u_ws RJxab1ab TJxab1ab 0
theorem nmJxab1ab : ∀ a, a < 0 → ∀ b, b < 0 → a ≠ b → (TJxab1ab a).2.1 ≠ (TJxab1ab b).2.1 := by decide +kernel
theorem tyJxab1ab_ok : ∀ k, k < 0 → parseFieldDescriptor (TJxab1ab k).2.2.1 = some (tyJxab1ab k) := by decide +kernel
def RJ9 : String := "java/lang/Math"
def TJ9 : u_T := fun k => match k with
  | _ => ("", "", "", false)
def tyJ9 : Nat → FieldType := fun k => match k with
  | _ => .int
abbrev wsJ90 : List Cond := u_ws RJ9 TJ9 0
theorem nmJ9 : ∀ a, a < 0 → ∀ b, b < 0 → a ≠ b → (TJ9 a).2.1 ≠ (TJ9 b).2.1 := by decide +kernel
theorem tyJ9_ok : ∀ k, k < 0 → parseFieldDescriptor (TJ9 k).2.2.1 = some (tyJ9 k) := by decide +kernel
abbrev cJ9_max_7cf53 : ByteArray := prog_27_method_65_code
def yJ9_max_7cf53 : MethodName := ⟨RJ9, "max", "(II)I"⟩
abbrev cJ9_min_7cf53 : ByteArray := prog_27_method_69_code
def yJ9_min_7cf53 : MethodName := ⟨RJ9, "min", "(II)I"⟩
def RJxd2413 : String := "java/lang/Number"
def TJxd2413 : u_T := fun k => match k with
  | _ => ("", "", "", false)
def tyJxd2413 : Nat → FieldType := fun k => match k with
  | _ => .int
abbrev wsJxd24130 : List Cond := u_ws RJxd2413 TJxd2413 0
theorem nmJxd2413 : ∀ a, a < 0 → ∀ b, b < 0 → a ≠ b → (TJxd2413 a).2.1 ≠ (TJxd2413 b).2.1 := by decide +kernel
theorem tyJxd2413_ok : ∀ k, k < 0 → parseFieldDescriptor (TJxd2413 k).2.2.1 = some (tyJxd2413 k) := by decide +kernel
def RJ0 : String := "java/lang/String"
def TJ0 : u_T := fun k => match k with
  | 0 => ("java/lang/String", "value", "[B", true)
  | 1 => ("java/lang/String", "coder", "B", true)
  | 2 => ("java/lang/String", "hash", "I", false)
  | _ => ("java/lang/String", "hashIsZero", "Z", false)
def tyJ0 : Nat → FieldType := fun k => match k with
  | 0 => .array .byte
  | 1 => .byte
  | 2 => .int
  | _ => .boolean
abbrev wsJ00 : List Cond := u_ws RJ0 TJ0 4
theorem nmJ0 : ∀ a, a < 4 → ∀ b, b < 4 → a ≠ b → (TJ0 a).2.1 ≠ (TJ0 b).2.1 := by decide +kernel
theorem tyJ0_ok : ∀ k, k < 4 → parseFieldDescriptor (TJ0 k).2.2.1 = some (tyJ0 k) := by decide +kernel
abbrev cJ0_init_81219 : ByteArray := prog_30_method_53_code
def yJ0_init_81219 : MethodName := ⟨RJ0, "<init>", "(Ljava/lang/StringBuilder;)V"⟩
abbrev cJ0_length_8abf5 : ByteArray := prog_30_method_54_code
def yJ0_length_8abf5 : MethodName := ⟨RJ0, "length", "()I"⟩
abbrev cJ0_getBytes_840e7 : ByteArray := prog_30_method_147_code
def yJ0_getBytes_840e7 : MethodName := ⟨RJ0, "getBytes", "([BIB)V"⟩
abbrev cJ0_init_db425 : ByteArray := prog_30_method_150_code
def yJ0_init_db425 : MethodName := ⟨RJ0, "<init>", "(Ljava/lang/AbstractStringBuilder;Ljava/lang/Void;)V"⟩
abbrev cJ0_coder_7d493 : ByteArray := prog_30_method_152_code
def yJ0_coder_7d493 : MethodName := ⟨RJ0, "coder", "()B"⟩
abbrev cJ0_checkBoundsOffCount_cabcc : ByteArray := prog_30_method_157_code
def yJ0_checkBoundsOffCount_cabcc : MethodName := ⟨RJ0, "checkBoundsOffCount", "(III)I"⟩
abbrev cJ0_checkBoundsBeginEnd_23922 : ByteArray := prog_30_method_158_code
def yJ0_checkBoundsBeginEnd_23922 : MethodName := ⟨RJ0, "checkBoundsBeginEnd", "(III)V"⟩
def RJ4 : String := "java/lang/StringBuilder"
def TJ4 : u_T := fun k => match k with
  | 0 => ("java/lang/AbstractStringBuilder", "value", "[B", false)
  | 1 => ("java/lang/AbstractStringBuilder", "coder", "B", false)
  | 2 => ("java/lang/AbstractStringBuilder", "maybeLatin1", "Z", false)
  | _ => ("java/lang/AbstractStringBuilder", "count", "I", false)
def tyJ4 : Nat → FieldType := fun k => match k with
  | 0 => .array .byte
  | 1 => .byte
  | 2 => .boolean
  | _ => .int
abbrev wsJ40 : List Cond := u_ws RJ4 TJ4 4
theorem nmJ4 : ∀ a, a < 4 → ∀ b, b < 4 → a ≠ b → (TJ4 a).2.1 ≠ (TJ4 b).2.1 := by decide +kernel
theorem tyJ4_ok : ∀ k, k < 4 → parseFieldDescriptor (TJ4 k).2.2.1 = some (tyJ4 k) := by decide +kernel
abbrev cJ4_init_da8c8 : ByteArray := prog_31_method_1_code
def yJ4_init_da8c8 : MethodName := ⟨RJ4, "<init>", "()V"⟩
abbrev cJ4_append_15ec4 : ByteArray := prog_31_method_7_code
def yJ4_append_15ec4 : MethodName := ⟨RJ4, "append", "(Ljava/lang/String;)Ljava/lang/StringBuilder;"⟩
abbrev cJ4_append_bf812 : ByteArray := prog_31_method_15_code
def yJ4_append_bf812 : MethodName := ⟨RJ4, "append", "(I)Ljava/lang/StringBuilder;"⟩
abbrev cJ4_toString_0e30d : ByteArray := prog_31_method_42_code
def yJ4_toString_0e30d : MethodName := ⟨RJ4, "toString", "()Ljava/lang/String;"⟩
abbrev cJ4_length_8abf5 : ByteArray := prog_31_method_93_code
def yJ4_length_8abf5 : MethodName := ⟨RJ4, "length", "()I"⟩
def RJ1 : String := "java/lang/StringLatin1"
def TJ1 : u_T := fun k => match k with
  | _ => ("", "", "", false)
def tyJ1 : Nat → FieldType := fun k => match k with
  | _ => .int
abbrev wsJ10 : List Cond := u_ws RJ1 TJ1 0
theorem nmJ1 : ∀ a, a < 0 → ∀ b, b < 0 → a ≠ b → (TJ1 a).2.1 ≠ (TJ1 b).2.1 := by decide +kernel
theorem tyJ1_ok : ∀ k, k < 0 → parseFieldDescriptor (TJ1 k).2.2.1 = some (tyJ1 k) := by decide +kernel
abbrev cJ1_inflate_0e8fd : ByteArray := prog_32_method_50_code
def yJ1_inflate_0e8fd : MethodName := ⟨RJ1, "inflate", "([BI[BII)V"⟩
def RJ2 : String := "java/lang/StringUTF16"
def TJ2 : u_T := fun k => match k with
  | _ => ("", "", "", false)
def tyJ2 : Nat → FieldType := fun k => match k with
  | _ => .int
abbrev wsJ20 : List Cond := u_ws RJ2 TJ2 0
theorem nmJ2 : ∀ a, a < 0 → ∀ b, b < 0 → a ≠ b → (TJ2 a).2.1 ≠ (TJ2 b).2.1 := by decide +kernel
theorem tyJ2_ok : ∀ k, k < 0 → parseFieldDescriptor (TJ2 k).2.2.1 = some (tyJ2 k) := by decide +kernel
abbrev cJ2_newBytesFor_77867 : ByteArray := prog_33_method_2_code
def yJ2_newBytesFor_77867 : MethodName := ⟨RJ2, "newBytesFor", "(I)[B"⟩
abbrev cJ2_newBytesLength_0f7a4 : ByteArray := prog_33_method_3_code
def yJ2_newBytesLength_0f7a4 : MethodName := ⟨RJ2, "newBytesLength", "(I)I"⟩
abbrev cJ2_putChar_b72d1 : ByteArray := prog_33_method_4_code
def yJ2_putChar_b72d1 : MethodName := ⟨RJ2, "putChar", "([BII)V"⟩
abbrev cJ2_getChar_3b067 : ByteArray := prog_33_method_5_code
def yJ2_getChar_3b067 : MethodName := ⟨RJ2, "getChar", "([BI)C"⟩
abbrev cJ2_length_9d52b : ByteArray := prog_33_method_6_code
def yJ2_length_9d52b : MethodName := ⟨RJ2, "length", "([B)I"⟩
abbrev cJ2_coderFromArrayLen_85cad : ByteArray := prog_33_method_15_code
def yJ2_coderFromArrayLen_85cad : MethodName := ⟨RJ2, "coderFromArrayLen", "([BI)B"⟩
abbrev cJ2_compress_39247 : ByteArray := prog_33_method_17_code
def yJ2_compress_39247 : MethodName := ⟨RJ2, "compress", "([BII)[B"⟩
abbrev cJ2_compress_5af95 : ByteArray := prog_33_method_22_code
def yJ2_compress_5af95 : MethodName := ⟨RJ2, "compress", "([BI[BII)I"⟩
abbrev cJ2_getChars_46870 : ByteArray := prog_33_method_77_code
def yJ2_getChars_46870 : MethodName := ⟨RJ2, "getChars", "(III[B)I"⟩
abbrev cJ2_putCharsAt_cd4e5 : ByteArray := prog_33_method_81_code
def yJ2_putCharsAt_cd4e5 : MethodName := ⟨RJ2, "putCharsAt", "([BICCCC)I"⟩
abbrev cJ2_inflate_0e8fd : ByteArray := prog_33_method_86_code
def yJ2_inflate_0e8fd : MethodName := ⟨RJ2, "inflate", "([BI[BII)V"⟩
abbrev cJ2_getChars_ba4f3 : ByteArray := prog_33_method_89_code
def yJ2_getChars_ba4f3 : MethodName := ⟨RJ2, "getChars", "(II[B)I"⟩
abbrev cJ2_checkBoundsBeginEnd_d044e : ByteArray := prog_33_method_93_code
def yJ2_checkBoundsBeginEnd_d044e : MethodName := ⟨RJ2, "checkBoundsBeginEnd", "(II[B)V"⟩
abbrev cJ2_checkBoundsOffCount_d044e : ByteArray := prog_33_method_94_code
def yJ2_checkBoundsOffCount_d044e : MethodName := ⟨RJ2, "checkBoundsOffCount", "(II[B)V"⟩
def RJ10 : String := "java/lang/System"
def TJ10 : u_T := fun k => match k with
  | _ => ("", "", "", false)
def tyJ10 : Nat → FieldType := fun k => match k with
  | _ => .int
abbrev wsJ100 : List Cond := u_ws RJ10 TJ10 0
theorem nmJ10 : ∀ a, a < 0 → ∀ b, b < 0 → a ≠ b → (TJ10 a).2.1 ≠ (TJ10 b).2.1 := by decide +kernel
theorem tyJ10_ok : ∀ k, k < 0 → parseFieldDescriptor (TJ10 k).2.2.1 = some (tyJ10 k) := by decide +kernel
def RJxfd54e : String := "java/lang/constant/Constable"
def TJxfd54e : u_T := fun k => match k with
  | _ => ("", "", "", false)
def tyJxfd54e : Nat → FieldType := fun k => match k with
  | _ => .int
abbrev wsJxfd54e0 : List Cond := u_ws RJxfd54e TJxfd54e 0
theorem nmJxfd54e : ∀ a, a < 0 → ∀ b, b < 0 → a ≠ b → (TJxfd54e a).2.1 ≠ (TJxfd54e b).2.1 := by decide +kernel
theorem tyJxfd54e_ok : ∀ k, k < 0 → parseFieldDescriptor (TJxfd54e k).2.2.1 = some (tyJxfd54e k) := by decide +kernel
def RJx3cf43 : String := "java/lang/constant/ConstantDesc"
def TJx3cf43 : u_T := fun k => match k with
  | _ => ("", "", "", false)
def tyJx3cf43 : Nat → FieldType := fun k => match k with
  | _ => .int
abbrev wsJx3cf430 : List Cond := u_ws RJx3cf43 TJx3cf43 0
theorem nmJx3cf43 : ∀ a, a < 0 → ∀ b, b < 0 → a ≠ b → (TJx3cf43 a).2.1 ≠ (TJx3cf43 b).2.1 := by decide +kernel
theorem tyJx3cf43_ok : ∀ k, k < 0 → parseFieldDescriptor (TJx3cf43 k).2.2.1 = some (tyJx3cf43 k) := by decide +kernel
def RJxa1e45 : String := "java/util/AbstractCollection"
def TJxa1e45 : u_T := fun k => match k with
  | _ => ("", "", "", false)
def tyJxa1e45 : Nat → FieldType := fun k => match k with
  | _ => .int
abbrev wsJxa1e450 : List Cond := u_ws RJxa1e45 TJxa1e45 0
theorem nmJxa1e45 : ∀ a, a < 0 → ∀ b, b < 0 → a ≠ b → (TJxa1e45 a).2.1 ≠ (TJxa1e45 b).2.1 := by decide +kernel
theorem tyJxa1e45_ok : ∀ k, k < 0 → parseFieldDescriptor (TJxa1e45 k).2.2.1 = some (tyJxa1e45 k) := by decide +kernel
abbrev cJxa1e45_init_da8c8 : ByteArray := prog_38_method_1_code
def yJxa1e45_init_da8c8 : MethodName := ⟨RJxa1e45, "<init>", "()V"⟩
def RJxc12de : String := "java/util/AbstractList"
def TJxc12de : u_T := fun k => match k with
  | _ => ("", "", "", false)
def tyJxc12de : Nat → FieldType := fun k => match k with
  | _ => .int
abbrev wsJxc12de0 : List Cond := u_ws RJxc12de TJxc12de 0
theorem nmJxc12de : ∀ a, a < 0 → ∀ b, b < 0 → a ≠ b → (TJxc12de a).2.1 ≠ (TJxc12de b).2.1 := by decide +kernel
theorem tyJxc12de_ok : ∀ k, k < 0 → parseFieldDescriptor (TJxc12de k).2.2.1 = some (tyJxc12de k) := by decide +kernel
abbrev cJxc12de_init_da8c8 : ByteArray := prog_39_method_1_code
def yJxc12de_init_da8c8 : MethodName := ⟨RJxc12de, "<init>", "()V"⟩
def RJx4a65c : String := "java/util/ArrayList"
def TJx4a65c : u_T := fun k => match k with
  | 0 => ("java/util/AbstractList", "modCount", "I", false)
  | 1 => ("java/util/ArrayList", "elementData", "[Ljava/lang/Object;", false)
  | _ => ("java/util/ArrayList", "size", "I", false)
def tyJx4a65c : Nat → FieldType := fun k => match k with
  | 0 => .int
  | 1 => .array (.object "java/lang/Object")
  | _ => .int
abbrev wsJx4a65c0 : List Cond := u_ws RJx4a65c TJx4a65c 3
theorem nmJx4a65c : ∀ a, a < 3 → ∀ b, b < 3 → a ≠ b → (TJx4a65c a).2.1 ≠ (TJx4a65c b).2.1 := by decide +kernel
theorem tyJx4a65c_ok : ∀ k, k < 3 → parseFieldDescriptor (TJx4a65c k).2.2.1 = some (tyJx4a65c k) := by decide +kernel
abbrev cJx4a65c_init_da8c8 : ByteArray := prog_40_method_2_code
def yJx4a65c_init_da8c8 : MethodName := ⟨RJx4a65c, "<init>", "()V"⟩
abbrev cJx4a65c_grow_92f84 : ByteArray := prog_40_method_6_code
def yJx4a65c_grow_92f84 : MethodName := ⟨RJx4a65c, "grow", "(I)[Ljava/lang/Object;"⟩
abbrev cJx4a65c_grow_d5877 : ByteArray := prog_40_method_7_code
def yJx4a65c_grow_d5877 : MethodName := ⟨RJx4a65c, "grow", "()[Ljava/lang/Object;"⟩
abbrev cJx4a65c_size_8abf5 : ByteArray := prog_40_method_8_code
def yJx4a65c_size_8abf5 : MethodName := ⟨RJx4a65c, "size", "()I"⟩
abbrev cJx4a65c_isEmpty_aae02 : ByteArray := prog_40_method_9_code
def yJx4a65c_isEmpty_aae02 : MethodName := ⟨RJx4a65c, "isEmpty", "()Z"⟩
abbrev cJx4a65c_elementData_915e3 : ByteArray := prog_40_method_18_code
def yJx4a65c_elementData_915e3 : MethodName := ⟨RJx4a65c, "elementData", "(I)Ljava/lang/Object;"⟩
abbrev cJx4a65c_get_915e3 : ByteArray := prog_40_method_20_code
def yJx4a65c_get_915e3 : MethodName := ⟨RJx4a65c, "get", "(I)Ljava/lang/Object;"⟩
abbrev cJx4a65c_add_72be8 : ByteArray := prog_40_method_24_code
def yJx4a65c_add_72be8 : MethodName := ⟨RJx4a65c, "add", "(Ljava/lang/Object;[Ljava/lang/Object;I)V"⟩
abbrev cJx4a65c_add_9ea2d : ByteArray := prog_40_method_25_code
def yJx4a65c_add_9ea2d : MethodName := ⟨RJx4a65c, "add", "(Ljava/lang/Object;)Z"⟩
abbrev cJx4a65c_add_7a177 : ByteArray := prog_40_method_26_code
def yJx4a65c_add_7a177 : MethodName := ⟨RJx4a65c, "add", "(ILjava/lang/Object;)V"⟩
abbrev cJx4a65c_remove_915e3 : ByteArray := prog_40_method_29_code
def yJx4a65c_remove_915e3 : MethodName := ⟨RJx4a65c, "remove", "(I)Ljava/lang/Object;"⟩
abbrev cJx4a65c_fastRemove_b59b0 : ByteArray := prog_40_method_39_code
def yJx4a65c_fastRemove_b59b0 : MethodName := ⟨RJx4a65c, "fastRemove", "([Ljava/lang/Object;I)V"⟩
abbrev cJx4a65c_rangeCheckForAdd_d00df : ByteArray := prog_40_method_45_code
def yJx4a65c_rangeCheckForAdd_d00df : MethodName := ⟨RJx4a65c, "rangeCheckForAdd", "(I)V"⟩
abbrev cJx4a65c_outOfBoundsMsg_b52d3 : ByteArray := prog_40_method_46_code
def yJx4a65c_outOfBoundsMsg_b52d3 : MethodName := ⟨RJx4a65c, "outOfBoundsMsg", "(I)Ljava/lang/String;"⟩
def RJ7 : String := "java/util/Arrays"
def TJ7 : u_T := fun k => match k with
  | _ => ("", "", "", false)
def tyJ7 : Nat → FieldType := fun k => match k with
  | _ => .int
abbrev wsJ70 : List Cond := u_ws RJ7 TJ7 0
theorem nmJ7 : ∀ a, a < 0 → ∀ b, b < 0 → a ≠ b → (TJ7 a).2.1 ≠ (TJ7 b).2.1 := by decide +kernel
theorem tyJ7_ok : ∀ k, k < 0 → parseFieldDescriptor (TJ7 k).2.2.1 = some (tyJ7 k) := by decide +kernel
abbrev cJ7_fill_53178 : ByteArray := prog_41_method_103_code
def yJ7_fill_53178 : MethodName := ⟨RJ7, "fill", "([II)V"⟩
abbrev cJ7_copyOf_1904c : ByteArray := prog_41_method_119_code
def yJ7_copyOf_1904c : MethodName := ⟨RJ7, "copyOf", "([Ljava/lang/Object;I)[Ljava/lang/Object;"⟩
abbrev cJ7_copyOf_6403c : ByteArray := prog_41_method_120_code
def yJ7_copyOf_6403c : MethodName := ⟨RJ7, "copyOf", "([Ljava/lang/Object;ILjava/lang/Class;)[Ljava/lang/Object;"⟩
abbrev cJ7_copyOf_9075b : ByteArray := prog_41_method_121_code
def yJ7_copyOf_9075b : MethodName := ⟨RJ7, "copyOf", "([BI)[B"⟩
abbrev cJ7_checkLength_df160 : ByteArray := prog_41_method_131_code
def yJ7_checkLength_df160 : MethodName := ⟨RJ7, "checkLength", "(II)V"⟩
abbrev cJ7_copyOfRange_39247 : ByteArray := prog_41_method_132_code
def yJ7_copyOfRange_39247 : MethodName := ⟨RJ7, "copyOfRange", "([BII)[B"⟩
abbrev cJ7_copyOfRangeByte_39247 : ByteArray := prog_41_method_133_code
def yJ7_copyOfRangeByte_39247 : MethodName := ⟨RJ7, "copyOfRangeByte", "([BII)[B"⟩
def RJx5ef63 : String := "java/util/Collection"
def TJx5ef63 : u_T := fun k => match k with
  | _ => ("", "", "", false)
def tyJx5ef63 : Nat → FieldType := fun k => match k with
  | _ => .int
abbrev wsJx5ef630 : List Cond := u_ws RJx5ef63 TJx5ef63 0
theorem nmJx5ef63 : ∀ a, a < 0 → ∀ b, b < 0 → a ≠ b → (TJx5ef63 a).2.1 ≠ (TJx5ef63 b).2.1 := by decide +kernel
theorem tyJx5ef63_ok : ∀ k, k < 0 → parseFieldDescriptor (TJx5ef63 k).2.2.1 = some (tyJx5ef63 k) := by decide +kernel
def RJxbd725 : String := "java/util/List"
def TJxbd725 : u_T := fun k => match k with
  | _ => ("", "", "", false)
def tyJxbd725 : Nat → FieldType := fun k => match k with
  | _ => .int
abbrev wsJxbd7250 : List Cond := u_ws RJxbd725 TJxbd725 0
theorem nmJxbd725 : ∀ a, a < 0 → ∀ b, b < 0 → a ≠ b → (TJxbd725 a).2.1 ≠ (TJxbd725 b).2.1 := by decide +kernel
theorem tyJxbd725_ok : ∀ k, k < 0 → parseFieldDescriptor (TJxbd725 k).2.2.1 = some (tyJxbd725 k) := by decide +kernel
def RJ15 : String := "java/util/Objects"
def TJ15 : u_T := fun k => match k with
  | _ => ("", "", "", false)
def tyJ15 : Nat → FieldType := fun k => match k with
  | _ => .int
abbrev wsJ150 : List Cond := u_ws RJ15 TJ15 0
theorem nmJ15 : ∀ a, a < 0 → ∀ b, b < 0 → a ≠ b → (TJ15 a).2.1 ≠ (TJ15 b).2.1 := by decide +kernel
theorem tyJ15_ok : ∀ k, k < 0 → parseFieldDescriptor (TJ15 k).2.2.1 = some (tyJ15 k) := by decide +kernel
abbrev cJ15_checkIndex_7cf53 : ByteArray := prog_44_method_17_code
def yJ15_checkIndex_7cf53 : MethodName := ⟨RJ15, "checkIndex", "(II)I"⟩
def RJxf0a74 : String := "java/util/RandomAccess"
def TJxf0a74 : u_T := fun k => match k with
  | _ => ("", "", "", false)
def tyJxf0a74 : Nat → FieldType := fun k => match k with
  | _ => .int
abbrev wsJxf0a740 : List Cond := u_ws RJxf0a74 TJxf0a74 0
theorem nmJxf0a74 : ∀ a, a < 0 → ∀ b, b < 0 → a ≠ b → (TJxf0a74 a).2.1 ≠ (TJxf0a74 b).2.1 := by decide +kernel
theorem tyJxf0a74_ok : ∀ k, k < 0 → parseFieldDescriptor (TJxf0a74 k).2.2.1 = some (tyJxf0a74 k) := by decide +kernel
def RJxa66e6 : String := "java/util/SequencedCollection"
def TJxa66e6 : u_T := fun k => match k with
  | _ => ("", "", "", false)
def tyJxa66e6 : Nat → FieldType := fun k => match k with
  | _ => .int
abbrev wsJxa66e60 : List Cond := u_ws RJxa66e6 TJxa66e6 0
theorem nmJxa66e6 : ∀ a, a < 0 → ∀ b, b < 0 → a ≠ b → (TJxa66e6 a).2.1 ≠ (TJxa66e6 b).2.1 := by decide +kernel
theorem tyJxa66e6_ok : ∀ k, k < 0 → parseFieldDescriptor (TJxa66e6 k).2.2.1 = some (tyJxa66e6 k) := by decide +kernel
def RJ8 : String := "jdk/internal/util/ArraysSupport"
def TJ8 : u_T := fun k => match k with
  | _ => ("", "", "", false)
def tyJ8 : Nat → FieldType := fun k => match k with
  | _ => .int
abbrev wsJ80 : List Cond := u_ws RJ8 TJ8 0
theorem nmJ8 : ∀ a, a < 0 → ∀ b, b < 0 → a ≠ b → (TJ8 a).2.1 ≠ (TJ8 b).2.1 := by decide +kernel
theorem tyJ8_ok : ∀ k, k < 0 → parseFieldDescriptor (TJ8 k).2.2.1 = some (tyJ8 k) := by decide +kernel
abbrev cJ8_newLength_cabcc : ByteArray := prog_47_method_27_code
def yJ8_newLength_cabcc : MethodName := ⟨RJ8, "newLength", "(III)I"⟩
abbrev cJ8_hugeLength_7cf53 : ByteArray := prog_47_method_28_code
def yJ8_hugeLength_7cf53 : MethodName := ⟨RJ8, "hugeLength", "(II)I"⟩
def RJ3 : String := "jdk/internal/util/Preconditions"
def TJ3 : u_T := fun k => match k with
  | _ => ("", "", "", false)
def tyJ3 : Nat → FieldType := fun k => match k with
  | _ => .int
abbrev wsJ30 : List Cond := u_ws RJ3 TJ3 0
theorem nmJ3 : ∀ a, a < 0 → ∀ b, b < 0 → a ≠ b → (TJ3 a).2.1 ≠ (TJ3 b).2.1 := by decide +kernel
theorem tyJ3_ok : ∀ k, k < 0 → parseFieldDescriptor (TJ3 k).2.2.1 = some (tyJ3 k) := by decide +kernel
abbrev cJ3_checkIndex_8e157 : ByteArray := prog_48_method_11_code
def yJ3_checkIndex_8e157 : MethodName := ⟨RJ3, "checkIndex", "(IILjava/util/function/BiFunction;)I"⟩
abbrev cJ3_checkFromToIndex_8c36e : ByteArray := prog_48_method_12_code
def yJ3_checkFromToIndex_8c36e : MethodName := ⟨RJ3, "checkFromToIndex", "(IIILjava/util/function/BiFunction;)I"⟩
abbrev cJ3_checkFromIndexSize_8c36e : ByteArray := prog_48_method_13_code
def yJ3_checkFromIndexSize_8c36e : MethodName := ⟨RJ3, "checkFromIndexSize", "(IIILjava/util/function/BiFunction;)I"⟩
def RL : String := "BlobHarborLaw"
abbrev cL_draft : ByteArray := method_3_code
def yL_draft : MethodName := ⟨RL, "draft", "(LBlobHarbor;III[J)I"⟩
abbrev cL_put : ByteArray := method_4_code
def yL_put : MethodName := ⟨RL, "put", "(LBlobHarbor;III[J)I"⟩
abbrev cL_delete : ByteArray := method_5_code
def yL_delete : MethodName := ⟨RL, "delete", "(LBlobHarbor;II[J)I"⟩
abbrev cL_drop : ByteArray := method_6_code
def yL_drop : MethodName := ⟨RL, "drop", "(LBlobHarbor;III[J)I"⟩
abbrev cL_lock : ByteArray := method_7_code
def yL_lock : MethodName := ⟨RL, "lock", "(LBlobHarbor;IIII[J)I"⟩
abbrev cL_read : ByteArray := method_8_code
def yL_read : MethodName := ⟨RL, "read", "(LBlobHarbor;IIII[J)I"⟩
abbrev cL_ask : ByteArray := method_9_code
def yL_ask : MethodName := ⟨RL, "ask", "(LBlobHarbor;III[J)I"⟩
abbrev cL_upload : ByteArray := method_10_code
def yL_upload : MethodName := ⟨RL, "upload", "(LBlobHarbor;II[J)I"⟩
abbrev cL_piece : ByteArray := method_11_code
def yL_piece : MethodName := ⟨RL, "piece", "(LBlobHarbor;II[J)I"⟩
abbrev cL_finish : ByteArray := method_12_code
def yL_finish : MethodName := ⟨RL, "finish", "(LBlobHarbor;IZ[J)I"⟩
abbrev cL_list : ByteArray := method_13_code
def yL_list : MethodName := ⟨RL, "list", "(LBlobHarbor;IIII[J)I"⟩
abbrev cL_version : ByteArray := method_14_code
def yL_version : MethodName := ⟨RL, "version", "(LBlobHarbor;III[J)I"⟩
abbrev cL_about : ByteArray := method_15_code
def yL_about : MethodName := ⟨RL, "about", "(LBlobHarbor;IIII[J)I"⟩
abbrev cL_part : ByteArray := method_16_code
def yL_part : MethodName := ⟨RL, "part", "(LBlobHarbor;IIII[J)I"⟩
abbrev cL_partIs : ByteArray := method_17_code
def yL_partIs : MethodName := ⟨RL, "partIs", "(LBlobHarbor;III[J)I"⟩
abbrev cL_node : ByteArray := method_18_code
def yL_node : MethodName := ⟨RL, "node", "(LBlobHarbor;IIZ[J)I"⟩
abbrev cL_rot : ByteArray := method_19_code
def yL_rot : MethodName := ⟨RL, "rot", "(LBlobHarbor;III[J)I"⟩
abbrev cL_mend : ByteArray := method_20_code
def yL_mend : MethodName := ⟨RL, "mend", "(LBlobHarbor;II[J)I"⟩
abbrev cL_sweep : ByteArray := method_21_code
def yL_sweep : MethodName := ⟨RL, "sweep", "(LBlobHarbor;II[J)I"⟩
abbrev cL_rule : ByteArray := method_22_code
def yL_rule : MethodName := ⟨RL, "rule", "(LBlobHarbor;III[J)I"⟩
abbrev cL_pass : ByteArray := method_23_code
def yL_pass : MethodName := ⟨RL, "pass", "(LBlobHarbor;I[J)I"⟩
abbrev cL_cost : ByteArray := method_24_code
def yL_cost : MethodName := ⟨RL, "cost", "(LBlobHarbor;I[J)I"⟩
abbrev cL_follow : ByteArray := method_25_code
def yL_follow : MethodName := ⟨RL, "follow", "(LBlobHarbor;II[J)I"⟩
abbrev cL_behind : ByteArray := method_26_code
def yL_behind : MethodName := ⟨RL, "behind", "(LBlobHarbor;I[J)I"⟩
abbrev cL_agrees : ByteArray := method_27_code
def yL_agrees : MethodName := ⟨RL, "agrees", "(LBlobHarbor;I[J)I"⟩
abbrev cL_letter : ByteArray := method_28_code
def yL_letter : MethodName := ⟨RL, "letter", "(LBlobHarbor;II[J)I"⟩
abbrev cL_law : ByteArray := code
def yL_law : MethodName := ⟨RL, "law", "([I)Z"⟩
