section
-- ===== PART A: goes FIRST, ahead of the names: the tables' words, and 'selects' of the private methods out of them =====
/-- a private method of a class that the tables say can be made, by its rows of tables_1 -/
def lw_okq (q : MethodName × Nat) : Prop := (q.1.cls ≠ "java/lang/invoke/MethodHandle" ∧ q.1.cls ≠ "java/lang/invoke/VarHandle") ∧ Cond.instantiable q.1.cls q.2 ∈ tables_1 ∧ Cond.privateMethod q.1 ∈ tables_1 ∧ Cond.instanceMethod q.1 ∈ tables_1
theorem lw_p0 : lw_okq (⟨"LostWood$Reader", "advance", "()V"⟩, 10) := ⟨⟨by decide +kernel, by decide +kernel⟩, List.mem_of_getElem? (i := 31) (by decide +kernel), List.mem_of_getElem? (i := 418) (by decide +kernel), List.mem_of_getElem? (i := 419) (by decide +kernel)⟩
theorem lw_p1 : lw_okq (⟨"LostWood$Reader", "kindAt", "(I)I"⟩, 10) := ⟨⟨by decide +kernel, by decide +kernel⟩, List.mem_of_getElem? (i := 31) (by decide +kernel), List.mem_of_getElem? (i := 422) (by decide +kernel), List.mem_of_getElem? (i := 423) (by decide +kernel)⟩
theorem lw_p2 : lw_okq (⟨"LostWood$Reader", "byteAt", "(I)I"⟩, 10) := ⟨⟨by decide +kernel, by decide +kernel⟩, List.mem_of_getElem? (i := 31) (by decide +kernel), List.mem_of_getElem? (i := 426) (by decide +kernel), List.mem_of_getElem? (i := 427) (by decide +kernel)⟩
theorem lw_p3 : lw_okq (⟨"LostWood$Reader", "takeLine", "()Z"⟩, 10) := ⟨⟨by decide +kernel, by decide +kernel⟩, List.mem_of_getElem? (i := 31) (by decide +kernel), List.mem_of_getElem? (i := 434) (by decide +kernel), List.mem_of_getElem? (i := 435) (by decide +kernel)⟩
theorem lw_p4 : lw_okq (⟨"LostWood$Reader", "takeWoodLine", "()Z"⟩, 10) := ⟨⟨by decide +kernel, by decide +kernel⟩, List.mem_of_getElem? (i := 31) (by decide +kernel), List.mem_of_getElem? (i := 438) (by decide +kernel), List.mem_of_getElem? (i := 439) (by decide +kernel)⟩
theorem lw_p5 : lw_okq (⟨"LostWood$Reader", "takeWord", "(Ljava/lang/String;)Z"⟩, 10) := ⟨⟨by decide +kernel, by decide +kernel⟩, List.mem_of_getElem? (i := 31) (by decide +kernel), List.mem_of_getElem? (i := 443) (by decide +kernel), List.mem_of_getElem? (i := 444) (by decide +kernel)⟩
theorem lw_p6 : lw_okq (⟨"LostWood$Reader", "isWord", "(Ljava/lang/String;)Z"⟩, 10) := ⟨⟨by decide +kernel, by decide +kernel⟩, List.mem_of_getElem? (i := 31) (by decide +kernel), List.mem_of_getElem? (i := 447) (by decide +kernel), List.mem_of_getElem? (i := 448) (by decide +kernel)⟩
theorem lw_p7 : lw_okq (⟨"LostWood$Reader", "refuse", "(I)Z"⟩, 10) := ⟨⟨by decide +kernel, by decide +kernel⟩, List.mem_of_getElem? (i := 31) (by decide +kernel), List.mem_of_getElem? (i := 499) (by decide +kernel), List.mem_of_getElem? (i := 500) (by decide +kernel)⟩
theorem lw_p8 : lw_okq (⟨"LostWood$Reader", "takeNumber", "(II)Z"⟩, 10) := ⟨⟨by decide +kernel, by decide +kernel⟩, List.mem_of_getElem? (i := 31) (by decide +kernel), List.mem_of_getElem? (i := 504) (by decide +kernel), List.mem_of_getElem? (i := 505) (by decide +kernel)⟩
theorem lw_p9 : lw_okq (⟨"LostWood$Reader", "takeWayLine", "()Z"⟩, 10) := ⟨⟨by decide +kernel, by decide +kernel⟩, List.mem_of_getElem? (i := 31) (by decide +kernel), List.mem_of_getElem? (i := 509) (by decide +kernel), List.mem_of_getElem? (i := 510) (by decide +kernel)⟩
theorem lw_p10 : lw_okq (⟨"LostWood$Reader", "takeWind", "()Z"⟩, 10) := ⟨⟨by decide +kernel, by decide +kernel⟩, List.mem_of_getElem? (i := 31) (by decide +kernel), List.mem_of_getElem? (i := 513) (by decide +kernel), List.mem_of_getElem? (i := 514) (by decide +kernel)⟩
theorem lw_p11 : lw_okq (⟨"LostWood$Reader", "takeMarkLine", "()Z"⟩, 10) := ⟨⟨by decide +kernel, by decide +kernel⟩, List.mem_of_getElem? (i := 31) (by decide +kernel), List.mem_of_getElem? (i := 535) (by decide +kernel), List.mem_of_getElem? (i := 536) (by decide +kernel)⟩
theorem lw_p12 : lw_okq (⟨"LostWood$Reader", "takePupilLine", "()Z"⟩, 10) := ⟨⟨by decide +kernel, by decide +kernel⟩, List.mem_of_getElem? (i := 31) (by decide +kernel), List.mem_of_getElem? (i := 544) (by decide +kernel), List.mem_of_getElem? (i := 545) (by decide +kernel)⟩
theorem lw_p13 : lw_okq (⟨"LostWood$Reader", "takeLessonLine", "()Z"⟩, 10) := ⟨⟨by decide +kernel, by decide +kernel⟩, List.mem_of_getElem? (i := 31) (by decide +kernel), List.mem_of_getElem? (i := 556) (by decide +kernel), List.mem_of_getElem? (i := 557) (by decide +kernel)⟩
theorem lw_p14 : lw_okq (⟨"LostWood$Reader", "takeSemicolon", "()Z"⟩, 10) := ⟨⟨by decide +kernel, by decide +kernel⟩, List.mem_of_getElem? (i := 31) (by decide +kernel), List.mem_of_getElem? (i := 566) (by decide +kernel), List.mem_of_getElem? (i := 567) (by decide +kernel)⟩
theorem lw_p15 : lw_okq (⟨"LostWood", "stand", "(I)Z"⟩, 12) := ⟨⟨by decide +kernel, by decide +kernel⟩, List.mem_of_getElem? (i := 23) (by decide +kernel), List.mem_of_getElem? (i := 634) (by decide +kernel), List.mem_of_getElem? (i := 635) (by decide +kernel)⟩
def lw_privs_1 : List (MethodName × Nat) := [(⟨"LostWood$Reader", "advance", "()V"⟩, 10), (⟨"LostWood$Reader", "kindAt", "(I)I"⟩, 10), (⟨"LostWood$Reader", "byteAt", "(I)I"⟩, 10), (⟨"LostWood$Reader", "takeLine", "()Z"⟩, 10), (⟨"LostWood$Reader", "takeWoodLine", "()Z"⟩, 10), (⟨"LostWood$Reader", "takeWord", "(Ljava/lang/String;)Z"⟩, 10), (⟨"LostWood$Reader", "isWord", "(Ljava/lang/String;)Z"⟩, 10), (⟨"LostWood$Reader", "refuse", "(I)Z"⟩, 10), (⟨"LostWood$Reader", "takeNumber", "(II)Z"⟩, 10), (⟨"LostWood$Reader", "takeWayLine", "()Z"⟩, 10), (⟨"LostWood$Reader", "takeWind", "()Z"⟩, 10), (⟨"LostWood$Reader", "takeMarkLine", "()Z"⟩, 10), (⟨"LostWood$Reader", "takePupilLine", "()Z"⟩, 10), (⟨"LostWood$Reader", "takeLessonLine", "()Z"⟩, 10), (⟨"LostWood$Reader", "takeSemicolon", "()Z"⟩, 10), (⟨"LostWood", "stand", "(I)Z"⟩, 12)]
theorem lw_r1 : ∀ q ∈ lw_privs_1, lw_okq q := List.forall_mem_cons.mpr ⟨lw_p0, List.forall_mem_cons.mpr ⟨lw_p1, List.forall_mem_cons.mpr ⟨lw_p2, List.forall_mem_cons.mpr ⟨lw_p3, List.forall_mem_cons.mpr ⟨lw_p4, List.forall_mem_cons.mpr ⟨lw_p5, List.forall_mem_cons.mpr ⟨lw_p6, List.forall_mem_cons.mpr ⟨lw_p7, List.forall_mem_cons.mpr ⟨lw_p8, List.forall_mem_cons.mpr ⟨lw_p9, List.forall_mem_cons.mpr ⟨lw_p10, List.forall_mem_cons.mpr ⟨lw_p11, List.forall_mem_cons.mpr ⟨lw_p12, List.forall_mem_cons.mpr ⟨lw_p13, List.forall_mem_cons.mpr ⟨lw_p14, List.forall_mem_cons.mpr ⟨lw_p15, fun _ h => absurd h List.not_mem_nil⟩⟩⟩⟩⟩⟩⟩⟩⟩⟩⟩⟩⟩⟩⟩⟩
theorem lw_p16 : lw_okq (⟨"LostWood", "refuseWalk", "(II)I"⟩, 12) := ⟨⟨by decide +kernel, by decide +kernel⟩, List.mem_of_getElem? (i := 23) (by decide +kernel), List.mem_of_getElem? (i := 717) (by decide +kernel), List.mem_of_getElem? (i := 718) (by decide +kernel)⟩
theorem lw_p17 : lw_okq (⟨"LostWood", "walkRow", "(I)V"⟩, 12) := ⟨⟨by decide +kernel, by decide +kernel⟩, List.mem_of_getElem? (i := 23) (by decide +kernel), List.mem_of_getElem? (i := 739) (by decide +kernel), List.mem_of_getElem? (i := 740) (by decide +kernel)⟩
theorem lw_p18 : lw_okq (⟨"LostWood", "stepsUntil", "(IZ)I"⟩, 12) := ⟨⟨by decide +kernel, by decide +kernel⟩, List.mem_of_getElem? (i := 23) (by decide +kernel), List.mem_of_getElem? (i := 755) (by decide +kernel), List.mem_of_getElem? (i := 756) (by decide +kernel)⟩
theorem lw_p19 : lw_okq (⟨"LostWood", "seek", "(III)Z"⟩, 12) := ⟨⟨by decide +kernel, by decide +kernel⟩, List.mem_of_getElem? (i := 23) (by decide +kernel), List.mem_of_getElem? (i := 773) (by decide +kernel), List.mem_of_getElem? (i := 774) (by decide +kernel)⟩
theorem lw_p20 : lw_okq (⟨"LostWood$Plans", "settle", "(I)Z"⟩, 5) := ⟨⟨by decide +kernel, by decide +kernel⟩, List.mem_of_getElem? (i := 279) (by decide +kernel), List.mem_of_getElem? (i := 877) (by decide +kernel), List.mem_of_getElem? (i := 878) (by decide +kernel)⟩
theorem lw_p21 : lw_okq (⟨"LostWood$Plans", "isEven", "(I)Z"⟩, 5) := ⟨⟨by decide +kernel, by decide +kernel⟩, List.mem_of_getElem? (i := 279) (by decide +kernel), List.mem_of_getElem? (i := 881) (by decide +kernel), List.mem_of_getElem? (i := 882) (by decide +kernel)⟩
theorem lw_p22 : lw_okq (⟨"LostWood$Plans", "windTo", "(II)I"⟩, 5) := ⟨⟨by decide +kernel, by decide +kernel⟩, List.mem_of_getElem? (i := 279) (by decide +kernel), List.mem_of_getElem? (i := 892) (by decide +kernel), List.mem_of_getElem? (i := 893) (by decide +kernel)⟩
theorem lw_p23 : lw_okq (⟨"LostWood", "arePlaces", "(II)Z"⟩, 12) := ⟨⟨by decide +kernel, by decide +kernel⟩, List.mem_of_getElem? (i := 23) (by decide +kernel), List.mem_of_getElem? (i := 918) (by decide +kernel), List.mem_of_getElem? (i := 919) (by decide +kernel)⟩
theorem lw_p24 : lw_okq (⟨"LostWood", "lookSame", "(II)Z"⟩, 12) := ⟨⟨by decide +kernel, by decide +kernel⟩, List.mem_of_getElem? (i := 23) (by decide +kernel), List.mem_of_getElem? (i := 922) (by decide +kernel), List.mem_of_getElem? (i := 923) (by decide +kernel)⟩
theorem lw_p25 : lw_okq (⟨"LostWood", "leastBare", "(II)I"⟩, 12) := ⟨⟨by decide +kernel, by decide +kernel⟩, List.mem_of_getElem? (i := 23) (by decide +kernel), List.mem_of_getElem? (i := 955) (by decide +kernel), List.mem_of_getElem? (i := 956) (by decide +kernel)⟩
theorem lw_p26 : lw_okq (⟨"LostWood", "stepsToMeet", "(II)I"⟩, 12) := ⟨⟨by decide +kernel, by decide +kernel⟩, List.mem_of_getElem? (i := 23) (by decide +kernel), List.mem_of_getElem? (i := 1001) (by decide +kernel), List.mem_of_getElem? (i := 1002) (by decide +kernel)⟩
theorem lw_p27 : lw_okq (⟨"LostWood", "reach", "(II)I"⟩, 12) := ⟨⟨by decide +kernel, by decide +kernel⟩, List.mem_of_getElem? (i := 23) (by decide +kernel), List.mem_of_getElem? (i := 1014) (by decide +kernel), List.mem_of_getElem? (i := 1015) (by decide +kernel)⟩
theorem lw_p28 : lw_okq (⟨"LostWood", "refuseReading", "(I)I"⟩, 12) := ⟨⟨by decide +kernel, by decide +kernel⟩, List.mem_of_getElem? (i := 23) (by decide +kernel), List.mem_of_getElem? (i := 1023) (by decide +kernel), List.mem_of_getElem? (i := 1024) (by decide +kernel)⟩
theorem lw_p29 : lw_okq (⟨"LostWood", "fitting", "(II)I"⟩, 12) := ⟨⟨by decide +kernel, by decide +kernel⟩, List.mem_of_getElem? (i := 23) (by decide +kernel), List.mem_of_getElem? (i := 1028) (by decide +kernel), List.mem_of_getElem? (i := 1029) (by decide +kernel)⟩
theorem lw_p30 : lw_okq (⟨"LostWood", "bestWind", "(I)I"⟩, 12) := ⟨⟨by decide +kernel, by decide +kernel⟩, List.mem_of_getElem? (i := 23) (by decide +kernel), List.mem_of_getElem? (i := 1040) (by decide +kernel), List.mem_of_getElem? (i := 1041) (by decide +kernel)⟩
theorem lw_p31 : lw_okq (⟨"LostWood", "worstLeft", "(I)I"⟩, 12) := ⟨⟨by decide +kernel, by decide +kernel⟩, List.mem_of_getElem? (i := 23) (by decide +kernel), List.mem_of_getElem? (i := 1044) (by decide +kernel), List.mem_of_getElem? (i := 1045) (by decide +kernel)⟩
def lw_privs_2 : List (MethodName × Nat) := [(⟨"LostWood", "refuseWalk", "(II)I"⟩, 12), (⟨"LostWood", "walkRow", "(I)V"⟩, 12), (⟨"LostWood", "stepsUntil", "(IZ)I"⟩, 12), (⟨"LostWood", "seek", "(III)Z"⟩, 12), (⟨"LostWood$Plans", "settle", "(I)Z"⟩, 5), (⟨"LostWood$Plans", "isEven", "(I)Z"⟩, 5), (⟨"LostWood$Plans", "windTo", "(II)I"⟩, 5), (⟨"LostWood", "arePlaces", "(II)Z"⟩, 12), (⟨"LostWood", "lookSame", "(II)Z"⟩, 12), (⟨"LostWood", "leastBare", "(II)I"⟩, 12), (⟨"LostWood", "stepsToMeet", "(II)I"⟩, 12), (⟨"LostWood", "reach", "(II)I"⟩, 12), (⟨"LostWood", "refuseReading", "(I)I"⟩, 12), (⟨"LostWood", "fitting", "(II)I"⟩, 12), (⟨"LostWood", "bestWind", "(I)I"⟩, 12), (⟨"LostWood", "worstLeft", "(I)I"⟩, 12)]
theorem lw_r2 : ∀ q ∈ lw_privs_2, lw_okq q := List.forall_mem_cons.mpr ⟨lw_p16, List.forall_mem_cons.mpr ⟨lw_p17, List.forall_mem_cons.mpr ⟨lw_p18, List.forall_mem_cons.mpr ⟨lw_p19, List.forall_mem_cons.mpr ⟨lw_p20, List.forall_mem_cons.mpr ⟨lw_p21, List.forall_mem_cons.mpr ⟨lw_p22, List.forall_mem_cons.mpr ⟨lw_p23, List.forall_mem_cons.mpr ⟨lw_p24, List.forall_mem_cons.mpr ⟨lw_p25, List.forall_mem_cons.mpr ⟨lw_p26, List.forall_mem_cons.mpr ⟨lw_p27, List.forall_mem_cons.mpr ⟨lw_p28, List.forall_mem_cons.mpr ⟨lw_p29, List.forall_mem_cons.mpr ⟨lw_p30, List.forall_mem_cons.mpr ⟨lw_p31, fun _ h => absurd h List.not_mem_nil⟩⟩⟩⟩⟩⟩⟩⟩⟩⟩⟩⟩⟩⟩⟩⟩
theorem lw_p32 : lw_okq (⟨"LostWood$Courses", "tryOrder", "(LLostWood$Wood;LLostWood$Walker;LLostWood$Rows;I)I"⟩, 6) := ⟨⟨by decide +kernel, by decide +kernel⟩, List.mem_of_getElem? (i := 302) (by decide +kernel), List.mem_of_getElem? (i := 1061) (by decide +kernel), List.mem_of_getElem? (i := 1062) (by decide +kernel)⟩
theorem lw_p33 : lw_okq (⟨"LostWood$Courses", "teach", "(I)V"⟩, 6) := ⟨⟨by decide +kernel, by decide +kernel⟩, List.mem_of_getElem? (i := 302) (by decide +kernel), List.mem_of_getElem? (i := 1067) (by decide +kernel), List.mem_of_getElem? (i := 1068) (by decide +kernel)⟩
theorem lw_p34 : lw_okq (⟨"LostWood$Courses", "nextOrder", "(I)Z"⟩, 6) := ⟨⟨by decide +kernel, by decide +kernel⟩, List.mem_of_getElem? (i := 302) (by decide +kernel), List.mem_of_getElem? (i := 1078) (by decide +kernel), List.mem_of_getElem? (i := 1079) (by decide +kernel)⟩
theorem lw_p35 : lw_okq (⟨"LostWood$Courses", "swap", "(II)V"⟩, 6) := ⟨⟨by decide +kernel, by decide +kernel⟩, List.mem_of_getElem? (i := 302) (by decide +kernel), List.mem_of_getElem? (i := 1082) (by decide +kernel), List.mem_of_getElem? (i := 1083) (by decide +kernel)⟩
theorem lw_p36 : lw_okq (⟨"LostWood$Travel", "relax", "(LLostWood$Wood;II)V"⟩, 3) := ⟨⟨by decide +kernel, by decide +kernel⟩, List.mem_of_getElem? (i := 334) (by decide +kernel), List.mem_of_getElem? (i := 1105) (by decide +kernel), List.mem_of_getElem? (i := 1106) (by decide +kernel)⟩
theorem lw_p37 : lw_okq (⟨"LostWood", "drawWalk", "(II)I"⟩, 12) := ⟨⟨by decide +kernel, by decide +kernel⟩, List.mem_of_getElem? (i := 23) (by decide +kernel), List.mem_of_getElem? (i := 1162) (by decide +kernel), List.mem_of_getElem? (i := 1163) (by decide +kernel)⟩
theorem lw_p38 : lw_okq (⟨"LostWoodModel", "advance", "()V"⟩, 53) := ⟨⟨by decide +kernel, by decide +kernel⟩, List.mem_of_getElem? (i := 1243) (by decide +kernel), List.mem_of_getElem? (i := 1437) (by decide +kernel), List.mem_of_getElem? (i := 1438) (by decide +kernel)⟩
theorem lw_p39 : lw_okq (⟨"LostWoodModel", "see", "(I)I"⟩, 53) := ⟨⟨by decide +kernel, by decide +kernel⟩, List.mem_of_getElem? (i := 1243) (by decide +kernel), List.mem_of_getElem? (i := 1441) (by decide +kernel), List.mem_of_getElem? (i := 1442) (by decide +kernel)⟩
theorem lw_p40 : lw_okq (⟨"LostWoodModel", "good", "()Z"⟩, 53) := ⟨⟨by decide +kernel, by decide +kernel⟩, List.mem_of_getElem? (i := 1243) (by decide +kernel), List.mem_of_getElem? (i := 1451) (by decide +kernel), List.mem_of_getElem? (i := 1452) (by decide +kernel)⟩
theorem lw_p41 : lw_okq (⟨"LostWoodModel", "readLine", "()V"⟩, 53) := ⟨⟨by decide +kernel, by decide +kernel⟩, List.mem_of_getElem? (i := 1243) (by decide +kernel), List.mem_of_getElem? (i := 1455) (by decide +kernel), List.mem_of_getElem? (i := 1456) (by decide +kernel)⟩
theorem lw_p42 : lw_okq (⟨"LostWoodModel", "readFirst", "()V"⟩, 53) := ⟨⟨by decide +kernel, by decide +kernel⟩, List.mem_of_getElem? (i := 1243) (by decide +kernel), List.mem_of_getElem? (i := 1459) (by decide +kernel), List.mem_of_getElem? (i := 1460) (by decide +kernel)⟩
theorem lw_p43 : lw_okq (⟨"LostWoodModel", "needs", "(Ljava/lang/String;)V"⟩, 53) := ⟨⟨by decide +kernel, by decide +kernel⟩, List.mem_of_getElem? (i := 1243) (by decide +kernel), List.mem_of_getElem? (i := 1464) (by decide +kernel), List.mem_of_getElem? (i := 1465) (by decide +kernel)⟩
theorem lw_p44 : lw_okq (⟨"LostWoodModel", "takes", "(Ljava/lang/String;)Z"⟩, 53) := ⟨⟨by decide +kernel, by decide +kernel⟩, List.mem_of_getElem? (i := 1243) (by decide +kernel), List.mem_of_getElem? (i := 1468) (by decide +kernel), List.mem_of_getElem? (i := 1469) (by decide +kernel)⟩
theorem lw_p45 : lw_okq (⟨"LostWoodModel", "is", "(Ljava/lang/String;)Z"⟩, 53) := ⟨⟨by decide +kernel, by decide +kernel⟩, List.mem_of_getElem? (i := 1243) (by decide +kernel), List.mem_of_getElem? (i := 1472) (by decide +kernel), List.mem_of_getElem? (i := 1473) (by decide +kernel)⟩
theorem lw_p46 : lw_okq (⟨"LostWoodModel", "errs", "(I)V"⟩, 53) := ⟨⟨by decide +kernel, by decide +kernel⟩, List.mem_of_getElem? (i := 1243) (by decide +kernel), List.mem_of_getElem? (i := 1478) (by decide +kernel), List.mem_of_getElem? (i := 1479) (by decide +kernel)⟩
theorem lw_p47 : lw_okq (⟨"LostWoodModel", "told", "(Ljava/lang/String;II)I"⟩, 53) := ⟨⟨by decide +kernel, by decide +kernel⟩, List.mem_of_getElem? (i := 1243) (by decide +kernel), List.mem_of_getElem? (i := 1483) (by decide +kernel), List.mem_of_getElem? (i := 1484) (by decide +kernel)⟩
def lw_privs_3 : List (MethodName × Nat) := [(⟨"LostWood$Courses", "tryOrder", "(LLostWood$Wood;LLostWood$Walker;LLostWood$Rows;I)I"⟩, 6), (⟨"LostWood$Courses", "teach", "(I)V"⟩, 6), (⟨"LostWood$Courses", "nextOrder", "(I)Z"⟩, 6), (⟨"LostWood$Courses", "swap", "(II)V"⟩, 6), (⟨"LostWood$Travel", "relax", "(LLostWood$Wood;II)V"⟩, 3), (⟨"LostWood", "drawWalk", "(II)I"⟩, 12), (⟨"LostWoodModel", "advance", "()V"⟩, 53), (⟨"LostWoodModel", "see", "(I)I"⟩, 53), (⟨"LostWoodModel", "good", "()Z"⟩, 53), (⟨"LostWoodModel", "readLine", "()V"⟩, 53), (⟨"LostWoodModel", "readFirst", "()V"⟩, 53), (⟨"LostWoodModel", "needs", "(Ljava/lang/String;)V"⟩, 53), (⟨"LostWoodModel", "takes", "(Ljava/lang/String;)Z"⟩, 53), (⟨"LostWoodModel", "is", "(Ljava/lang/String;)Z"⟩, 53), (⟨"LostWoodModel", "errs", "(I)V"⟩, 53), (⟨"LostWoodModel", "told", "(Ljava/lang/String;II)I"⟩, 53)]
theorem lw_r3 : ∀ q ∈ lw_privs_3, lw_okq q := List.forall_mem_cons.mpr ⟨lw_p32, List.forall_mem_cons.mpr ⟨lw_p33, List.forall_mem_cons.mpr ⟨lw_p34, List.forall_mem_cons.mpr ⟨lw_p35, List.forall_mem_cons.mpr ⟨lw_p36, List.forall_mem_cons.mpr ⟨lw_p37, List.forall_mem_cons.mpr ⟨lw_p38, List.forall_mem_cons.mpr ⟨lw_p39, List.forall_mem_cons.mpr ⟨lw_p40, List.forall_mem_cons.mpr ⟨lw_p41, List.forall_mem_cons.mpr ⟨lw_p42, List.forall_mem_cons.mpr ⟨lw_p43, List.forall_mem_cons.mpr ⟨lw_p44, List.forall_mem_cons.mpr ⟨lw_p45, List.forall_mem_cons.mpr ⟨lw_p46, List.forall_mem_cons.mpr ⟨lw_p47, fun _ h => absurd h List.not_mem_nil⟩⟩⟩⟩⟩⟩⟩⟩⟩⟩⟩⟩⟩⟩⟩⟩
theorem lw_p48 : lw_okq (⟨"LostWoodModel", "number", "(II)I"⟩, 53) := ⟨⟨by decide +kernel, by decide +kernel⟩, List.mem_of_getElem? (i := 1243) (by decide +kernel), List.mem_of_getElem? (i := 1487) (by decide +kernel), List.mem_of_getElem? (i := 1488) (by decide +kernel)⟩
theorem lw_p49 : lw_okq (⟨"LostWoodModel", "readNext", "()V"⟩, 53) := ⟨⟨by decide +kernel, by decide +kernel⟩, List.mem_of_getElem? (i := 1243) (by decide +kernel), List.mem_of_getElem? (i := 1491) (by decide +kernel), List.mem_of_getElem? (i := 1492) (by decide +kernel)⟩
theorem lw_p50 : lw_okq (⟨"LostWoodModel", "readWay", "()V"⟩, 53) := ⟨⟨by decide +kernel, by decide +kernel⟩, List.mem_of_getElem? (i := 1243) (by decide +kernel), List.mem_of_getElem? (i := 1499) (by decide +kernel), List.mem_of_getElem? (i := 1500) (by decide +kernel)⟩
theorem lw_p51 : lw_okq (⟨"LostWoodModel", "freshPlace", "()I"⟩, 53) := ⟨⟨by decide +kernel, by decide +kernel⟩, List.mem_of_getElem? (i := 1243) (by decide +kernel), List.mem_of_getElem? (i := 1503) (by decide +kernel), List.mem_of_getElem? (i := 1504) (by decide +kernel)⟩
theorem lw_p52 : lw_okq (⟨"LostWoodModel", "freshWind", "()I"⟩, 53) := ⟨⟨by decide +kernel, by decide +kernel⟩, List.mem_of_getElem? (i := 1243) (by decide +kernel), List.mem_of_getElem? (i := 1507) (by decide +kernel), List.mem_of_getElem? (i := 1508) (by decide +kernel)⟩
theorem lw_p53 : lw_okq (⟨"LostWoodModel", "readMark", "()V"⟩, 53) := ⟨⟨by decide +kernel, by decide +kernel⟩, List.mem_of_getElem? (i := 1243) (by decide +kernel), List.mem_of_getElem? (i := 1517) (by decide +kernel), List.mem_of_getElem? (i := 1518) (by decide +kernel)⟩
theorem lw_p54 : lw_okq (⟨"LostWoodModel", "readPupil", "()V"⟩, 53) := ⟨⟨by decide +kernel, by decide +kernel⟩, List.mem_of_getElem? (i := 1243) (by decide +kernel), List.mem_of_getElem? (i := 1521) (by decide +kernel), List.mem_of_getElem? (i := 1522) (by decide +kernel)⟩
theorem lw_p55 : lw_okq (⟨"LostWoodModel", "readLesson", "()V"⟩, 53) := ⟨⟨by decide +kernel, by decide +kernel⟩, List.mem_of_getElem? (i := 1243) (by decide +kernel), List.mem_of_getElem? (i := 1528) (by decide +kernel), List.mem_of_getElem? (i := 1529) (by decide +kernel)⟩
theorem lw_p56 : lw_okq (⟨"LostWoodModel", "isPlace", "(J)Z"⟩, 53) := ⟨⟨by decide +kernel, by decide +kernel⟩, List.mem_of_getElem? (i := 1243) (by decide +kernel), List.mem_of_getElem? (i := 1538) (by decide +kernel), List.mem_of_getElem? (i := 1539) (by decide +kernel)⟩
theorem lw_p57 : lw_okq (⟨"LostWoodModel", "leadsTo", "(II)I"⟩, 53) := ⟨⟨by decide +kernel, by decide +kernel⟩, List.mem_of_getElem? (i := 1243) (by decide +kernel), List.mem_of_getElem? (i := 1546) (by decide +kernel), List.mem_of_getElem? (i := 1547) (by decide +kernel)⟩
theorem lw_p58 : lw_okq (⟨"LostWoodModel", "markOf", "(I)I"⟩, 53) := ⟨⟨by decide +kernel, by decide +kernel⟩, List.mem_of_getElem? (i := 1243) (by decide +kernel), List.mem_of_getElem? (i := 1554) (by decide +kernel), List.mem_of_getElem? (i := 1555) (by decide +kernel)⟩
theorem lw_p59 : lw_okq (⟨"LostWoodModel", "isSet", "(I)Z"⟩, 53) := ⟨⟨by decide +kernel, by decide +kernel⟩, List.mem_of_getElem? (i := 1243) (by decide +kernel), List.mem_of_getElem? (i := 1562) (by decide +kernel), List.mem_of_getElem? (i := 1563) (by decide +kernel)⟩
theorem lw_p60 : lw_okq (⟨"LostWoodModel", "isWood", "()Z"⟩, 53) := ⟨⟨by decide +kernel, by decide +kernel⟩, List.mem_of_getElem? (i := 1243) (by decide +kernel), List.mem_of_getElem? (i := 1566) (by decide +kernel), List.mem_of_getElem? (i := 1567) (by decide +kernel)⟩
theorem lw_p61 : lw_okq (⟨"LostWoodModel", "allPlaces", "()I"⟩, 53) := ⟨⟨by decide +kernel, by decide +kernel⟩, List.mem_of_getElem? (i := 1243) (by decide +kernel), List.mem_of_getElem? (i := 1570) (by decide +kernel), List.mem_of_getElem? (i := 1571) (by decide +kernel)⟩
theorem lw_p62 : lw_okq (⟨"LostWoodModel", "becomesOf", "(II)I"⟩, 53) := ⟨⟨by decide +kernel, by decide +kernel⟩, List.mem_of_getElem? (i := 1243) (by decide +kernel), List.mem_of_getElem? (i := 1574) (by decide +kernel), List.mem_of_getElem? (i := 1575) (by decide +kernel)⟩
theorem lw_p63 : lw_okq (⟨"LostWoodModel", "seenOf", "(II)I"⟩, 53) := ⟨⟨by decide +kernel, by decide +kernel⟩, List.mem_of_getElem? (i := 1243) (by decide +kernel), List.mem_of_getElem? (i := 1586) (by decide +kernel), List.mem_of_getElem? (i := 1587) (by decide +kernel)⟩
def lw_privs_4 : List (MethodName × Nat) := [(⟨"LostWoodModel", "number", "(II)I"⟩, 53), (⟨"LostWoodModel", "readNext", "()V"⟩, 53), (⟨"LostWoodModel", "readWay", "()V"⟩, 53), (⟨"LostWoodModel", "freshPlace", "()I"⟩, 53), (⟨"LostWoodModel", "freshWind", "()I"⟩, 53), (⟨"LostWoodModel", "readMark", "()V"⟩, 53), (⟨"LostWoodModel", "readPupil", "()V"⟩, 53), (⟨"LostWoodModel", "readLesson", "()V"⟩, 53), (⟨"LostWoodModel", "isPlace", "(J)Z"⟩, 53), (⟨"LostWoodModel", "leadsTo", "(II)I"⟩, 53), (⟨"LostWoodModel", "markOf", "(I)I"⟩, 53), (⟨"LostWoodModel", "isSet", "(I)Z"⟩, 53), (⟨"LostWoodModel", "isWood", "()Z"⟩, 53), (⟨"LostWoodModel", "allPlaces", "()I"⟩, 53), (⟨"LostWoodModel", "becomesOf", "(II)I"⟩, 53), (⟨"LostWoodModel", "seenOf", "(II)I"⟩, 53)]
theorem lw_r4 : ∀ q ∈ lw_privs_4, lw_okq q := List.forall_mem_cons.mpr ⟨lw_p48, List.forall_mem_cons.mpr ⟨lw_p49, List.forall_mem_cons.mpr ⟨lw_p50, List.forall_mem_cons.mpr ⟨lw_p51, List.forall_mem_cons.mpr ⟨lw_p52, List.forall_mem_cons.mpr ⟨lw_p53, List.forall_mem_cons.mpr ⟨lw_p54, List.forall_mem_cons.mpr ⟨lw_p55, List.forall_mem_cons.mpr ⟨lw_p56, List.forall_mem_cons.mpr ⟨lw_p57, List.forall_mem_cons.mpr ⟨lw_p58, List.forall_mem_cons.mpr ⟨lw_p59, List.forall_mem_cons.mpr ⟨lw_p60, List.forall_mem_cons.mpr ⟨lw_p61, List.forall_mem_cons.mpr ⟨lw_p62, List.forall_mem_cons.mpr ⟨lw_p63, fun _ h => absurd h List.not_mem_nil⟩⟩⟩⟩⟩⟩⟩⟩⟩⟩⟩⟩⟩⟩⟩⟩
theorem lw_p64 : lw_okq (⟨"LostWoodModel", "isPupil", "(I)Z"⟩, 53) := ⟨⟨by decide +kernel, by decide +kernel⟩, List.mem_of_getElem? (i := 1243) (by decide +kernel), List.mem_of_getElem? (i := 1594) (by decide +kernel), List.mem_of_getElem? (i := 1595) (by decide +kernel)⟩
theorem lw_p65 : lw_okq (⟨"LostWoodModel", "whereOf", "(I)I"⟩, 53) := ⟨⟨by decide +kernel, by decide +kernel⟩, List.mem_of_getElem? (i := 1243) (by decide +kernel), List.mem_of_getElem? (i := 1598) (by decide +kernel), List.mem_of_getElem? (i := 1599) (by decide +kernel)⟩
theorem lw_p66 : lw_okq (⟨"LostWoodModel", "thinksOf", "(I)I"⟩, 53) := ⟨⟨by decide +kernel, by decide +kernel⟩, List.mem_of_getElem? (i := 1243) (by decide +kernel), List.mem_of_getElem? (i := 1606) (by decide +kernel), List.mem_of_getElem? (i := 1607) (by decide +kernel)⟩
theorem lw_p67 : lw_okq (⟨"LostWoodModel", "be", "(I)V"⟩, 53) := ⟨⟨by decide +kernel, by decide +kernel⟩, List.mem_of_getElem? (i := 1243) (by decide +kernel), List.mem_of_getElem? (i := 1614) (by decide +kernel), List.mem_of_getElem? (i := 1615) (by decide +kernel)⟩
theorem lw_p68 : lw_okq (⟨"LostWoodModel", "liesOf", "(I)I"⟩, 53) := ⟨⟨by decide +kernel, by decide +kernel⟩, List.mem_of_getElem? (i := 1243) (by decide +kernel), List.mem_of_getElem? (i := 1618) (by decide +kernel), List.mem_of_getElem? (i := 1619) (by decide +kernel)⟩
theorem lw_p69 : lw_okq (⟨"LostWoodModel", "isKnowing", "()Z"⟩, 53) := ⟨⟨by decide +kernel, by decide +kernel⟩, List.mem_of_getElem? (i := 1243) (by decide +kernel), List.mem_of_getElem? (i := 1625) (by decide +kernel), List.mem_of_getElem? (i := 1626) (by decide +kernel)⟩
theorem lw_p70 : lw_okq (⟨"LostWoodModel", "isLost", "()Z"⟩, 53) := ⟨⟨by decide +kernel, by decide +kernel⟩, List.mem_of_getElem? (i := 1243) (by decide +kernel), List.mem_of_getElem? (i := 1629) (by decide +kernel), List.mem_of_getElem? (i := 1630) (by decide +kernel)⟩
theorem lw_p71 : lw_okq (⟨"LostWoodModel", "step", "(I)V"⟩, 53) := ⟨⟨by decide +kernel, by decide +kernel⟩, List.mem_of_getElem? (i := 1243) (by decide +kernel), List.mem_of_getElem? (i := 1637) (by decide +kernel), List.mem_of_getElem? (i := 1638) (by decide +kernel)⟩
theorem lw_p72 : lw_okq (⟨"LostWoodModel", "takeBack", "()V"⟩, 53) := ⟨⟨by decide +kernel, by decide +kernel⟩, List.mem_of_getElem? (i := 1243) (by decide +kernel), List.mem_of_getElem? (i := 1654) (by decide +kernel), List.mem_of_getElem? (i := 1655) (by decide +kernel)⟩
theorem lw_p73 : lw_okq (⟨"LostWoodModel", "asksWalk", "(II)I"⟩, 53) := ⟨⟨by decide +kernel, by decide +kernel⟩, List.mem_of_getElem? (i := 1243) (by decide +kernel), List.mem_of_getElem? (i := 1666) (by decide +kernel), List.mem_of_getElem? (i := 1667) (by decide +kernel)⟩
theorem lw_p74 : lw_okq (⟨"LostWoodModel", "numberAt", "(II)J"⟩, 53) := ⟨⟨by decide +kernel, by decide +kernel⟩, List.mem_of_getElem? (i := 1243) (by decide +kernel), List.mem_of_getElem? (i := 1673) (by decide +kernel), List.mem_of_getElem? (i := 1674) (by decide +kernel)⟩
theorem lw_p75 : lw_okq (⟨"LostWoodModel", "walk", "(II)V"⟩, 53) := ⟨⟨by decide +kernel, by decide +kernel⟩, List.mem_of_getElem? (i := 1243) (by decide +kernel), List.mem_of_getElem? (i := 1677) (by decide +kernel), List.mem_of_getElem? (i := 1678) (by decide +kernel)⟩
theorem lw_p76 : lw_okq (⟨"LostWoodModel", "note", "(I)V"⟩, 53) := ⟨⟨by decide +kernel, by decide +kernel⟩, List.mem_of_getElem? (i := 1243) (by decide +kernel), List.mem_of_getElem? (i := 1681) (by decide +kernel), List.mem_of_getElem? (i := 1682) (by decide +kernel)⟩
theorem lw_p77 : lw_okq (⟨"LostWoodModel", "findPair", "(III)I"⟩, 53) := ⟨⟨by decide +kernel, by decide +kernel⟩, List.mem_of_getElem? (i := 1243) (by decide +kernel), List.mem_of_getElem? (i := 1705) (by decide +kernel), List.mem_of_getElem? (i := 1706) (by decide +kernel)⟩
theorem lw_p78 : lw_okq (⟨"LostWoodModel", "goThrough", "(I)V"⟩, 53) := ⟨⟨by decide +kernel, by decide +kernel⟩, List.mem_of_getElem? (i := 1243) (by decide +kernel), List.mem_of_getElem? (i := 1709) (by decide +kernel), List.mem_of_getElem? (i := 1710) (by decide +kernel)⟩
theorem lw_p79 : lw_okq (⟨"LostWoodModel", "meetPair", "(IIII)V"⟩, 53) := ⟨⟨by decide +kernel, by decide +kernel⟩, List.mem_of_getElem? (i := 1243) (by decide +kernel), List.mem_of_getElem? (i := 1713) (by decide +kernel), List.mem_of_getElem? (i := 1714) (by decide +kernel)⟩
def lw_privs_5 : List (MethodName × Nat) := [(⟨"LostWoodModel", "isPupil", "(I)Z"⟩, 53), (⟨"LostWoodModel", "whereOf", "(I)I"⟩, 53), (⟨"LostWoodModel", "thinksOf", "(I)I"⟩, 53), (⟨"LostWoodModel", "be", "(I)V"⟩, 53), (⟨"LostWoodModel", "liesOf", "(I)I"⟩, 53), (⟨"LostWoodModel", "isKnowing", "()Z"⟩, 53), (⟨"LostWoodModel", "isLost", "()Z"⟩, 53), (⟨"LostWoodModel", "step", "(I)V"⟩, 53), (⟨"LostWoodModel", "takeBack", "()V"⟩, 53), (⟨"LostWoodModel", "asksWalk", "(II)I"⟩, 53), (⟨"LostWoodModel", "numberAt", "(II)J"⟩, 53), (⟨"LostWoodModel", "walk", "(II)V"⟩, 53), (⟨"LostWoodModel", "note", "(I)V"⟩, 53), (⟨"LostWoodModel", "findPair", "(III)I"⟩, 53), (⟨"LostWoodModel", "goThrough", "(I)V"⟩, 53), (⟨"LostWoodModel", "meetPair", "(IIII)V"⟩, 53)]
theorem lw_r5 : ∀ q ∈ lw_privs_5, lw_okq q := List.forall_mem_cons.mpr ⟨lw_p64, List.forall_mem_cons.mpr ⟨lw_p65, List.forall_mem_cons.mpr ⟨lw_p66, List.forall_mem_cons.mpr ⟨lw_p67, List.forall_mem_cons.mpr ⟨lw_p68, List.forall_mem_cons.mpr ⟨lw_p69, List.forall_mem_cons.mpr ⟨lw_p70, List.forall_mem_cons.mpr ⟨lw_p71, List.forall_mem_cons.mpr ⟨lw_p72, List.forall_mem_cons.mpr ⟨lw_p73, List.forall_mem_cons.mpr ⟨lw_p74, List.forall_mem_cons.mpr ⟨lw_p75, List.forall_mem_cons.mpr ⟨lw_p76, List.forall_mem_cons.mpr ⟨lw_p77, List.forall_mem_cons.mpr ⟨lw_p78, List.forall_mem_cons.mpr ⟨lw_p79, fun _ h => absurd h List.not_mem_nil⟩⟩⟩⟩⟩⟩⟩⟩⟩⟩⟩⟩⟩⟩⟩⟩
theorem lw_p80 : lw_okq (⟨"LostWoodModel", "farTo", "(I)I"⟩, 53) := ⟨⟨by decide +kernel, by decide +kernel⟩, List.mem_of_getElem? (i := 1243) (by decide +kernel), List.mem_of_getElem? (i := 1717) (by decide +kernel), List.mem_of_getElem? (i := 1718) (by decide +kernel)⟩
theorem lw_p81 : lw_okq (⟨"LostWoodModel", "windTo", "(II)I"⟩, 53) := ⟨⟨by decide +kernel, by decide +kernel⟩, List.mem_of_getElem? (i := 1243) (by decide +kernel), List.mem_of_getElem? (i := 1725) (by decide +kernel), List.mem_of_getElem? (i := 1726) (by decide +kernel)⟩
theorem lw_p82 : lw_okq (⟨"LostWoodModel", "fillDepths", "()V"⟩, 53) := ⟨⟨by decide +kernel, by decide +kernel⟩, List.mem_of_getElem? (i := 1243) (by decide +kernel), List.mem_of_getElem? (i := 1753) (by decide +kernel), List.mem_of_getElem? (i := 1754) (by decide +kernel)⟩
theorem lw_p83 : lw_okq (⟨"LostWoodModel", "depthSplit", "(I)I"⟩, 53) := ⟨⟨by decide +kernel, by decide +kernel⟩, List.mem_of_getElem? (i := 1243) (by decide +kernel), List.mem_of_getElem? (i := 1758) (by decide +kernel), List.mem_of_getElem? (i := 1759) (by decide +kernel)⟩
theorem lw_p84 : lw_okq (⟨"LostWoodModel", "areLike", "(I)Z"⟩, 53) := ⟨⟨by decide +kernel, by decide +kernel⟩, List.mem_of_getElem? (i := 1243) (by decide +kernel), List.mem_of_getElem? (i := 1766) (by decide +kernel), List.mem_of_getElem? (i := 1767) (by decide +kernel)⟩
theorem lw_p85 : lw_okq (⟨"LostWoodModel", "areTwo", "(II)Z"⟩, 53) := ⟨⟨by decide +kernel, by decide +kernel⟩, List.mem_of_getElem? (i := 1243) (by decide +kernel), List.mem_of_getElem? (i := 1778) (by decide +kernel), List.mem_of_getElem? (i := 1779) (by decide +kernel)⟩
theorem lw_p86 : lw_okq (⟨"LostWoodModel", "fillKinds", "(I)I"⟩, 53) := ⟨⟨by decide +kernel, by decide +kernel⟩, List.mem_of_getElem? (i := 1243) (by decide +kernel), List.mem_of_getElem? (i := 1782) (by decide +kernel), List.mem_of_getElem? (i := 1783) (by decide +kernel)⟩
theorem lw_p87 : lw_okq (⟨"LostWoodModel", "sameOn", "(II)Z"⟩, 53) := ⟨⟨by decide +kernel, by decide +kernel⟩, List.mem_of_getElem? (i := 1243) (by decide +kernel), List.mem_of_getElem? (i := 1786) (by decide +kernel), List.mem_of_getElem? (i := 1787) (by decide +kernel)⟩
theorem lw_p88 : lw_okq (⟨"LostWoodModel", "findTwo", "(II)I"⟩, 53) := ⟨⟨by decide +kernel, by decide +kernel⟩, List.mem_of_getElem? (i := 1243) (by decide +kernel), List.mem_of_getElem? (i := 1798) (by decide +kernel), List.mem_of_getElem? (i := 1799) (by decide +kernel)⟩
theorem lw_p89 : lw_okq (⟨"LostWoodModel", "baredOf", "(II)I"⟩, 53) := ⟨⟨by decide +kernel, by decide +kernel⟩, List.mem_of_getElem? (i := 1243) (by decide +kernel), List.mem_of_getElem? (i := 1810) (by decide +kernel), List.mem_of_getElem? (i := 1811) (by decide +kernel)⟩
theorem lw_p90 : lw_okq (⟨"LostWoodModel", "findOne", "(I)I"⟩, 53) := ⟨⟨by decide +kernel, by decide +kernel⟩, List.mem_of_getElem? (i := 1243) (by decide +kernel), List.mem_of_getElem? (i := 1822) (by decide +kernel), List.mem_of_getElem? (i := 1823) (by decide +kernel)⟩
theorem lw_p91 : lw_okq (⟨"LostWoodModel", "findMeet", "(II)V"⟩, 53) := ⟨⟨by decide +kernel, by decide +kernel⟩, List.mem_of_getElem? (i := 1243) (by decide +kernel), List.mem_of_getElem? (i := 1838) (by decide +kernel), List.mem_of_getElem? (i := 1839) (by decide +kernel)⟩
theorem lw_p92 : lw_okq (⟨"LostWoodModel", "onward", "(I)I"⟩, 53) := ⟨⟨by decide +kernel, by decide +kernel⟩, List.mem_of_getElem? (i := 1243) (by decide +kernel), List.mem_of_getElem? (i := 1842) (by decide +kernel), List.mem_of_getElem? (i := 1843) (by decide +kernel)⟩
theorem lw_p93 : lw_okq (⟨"LostWoodModel", "asksRead", "(I)I"⟩, 53) := ⟨⟨by decide +kernel, by decide +kernel⟩, List.mem_of_getElem? (i := 1243) (by decide +kernel), List.mem_of_getElem? (i := 1854) (by decide +kernel), List.mem_of_getElem? (i := 1855) (by decide +kernel)⟩
theorem lw_p94 : lw_okq (⟨"LostWoodModel", "readFrom", "(II)I"⟩, 53) := ⟨⟨by decide +kernel, by decide +kernel⟩, List.mem_of_getElem? (i := 1243) (by decide +kernel), List.mem_of_getElem? (i := 1859) (by decide +kernel), List.mem_of_getElem? (i := 1860) (by decide +kernel)⟩
theorem lw_p95 : lw_okq (⟨"LostWoodModel", "askOf", "(I)I"⟩, 53) := ⟨⟨by decide +kernel, by decide +kernel⟩, List.mem_of_getElem? (i := 1243) (by decide +kernel), List.mem_of_getElem? (i := 1871) (by decide +kernel), List.mem_of_getElem? (i := 1872) (by decide +kernel)⟩
def lw_privs_6 : List (MethodName × Nat) := [(⟨"LostWoodModel", "farTo", "(I)I"⟩, 53), (⟨"LostWoodModel", "windTo", "(II)I"⟩, 53), (⟨"LostWoodModel", "fillDepths", "()V"⟩, 53), (⟨"LostWoodModel", "depthSplit", "(I)I"⟩, 53), (⟨"LostWoodModel", "areLike", "(I)Z"⟩, 53), (⟨"LostWoodModel", "areTwo", "(II)Z"⟩, 53), (⟨"LostWoodModel", "fillKinds", "(I)I"⟩, 53), (⟨"LostWoodModel", "sameOn", "(II)Z"⟩, 53), (⟨"LostWoodModel", "findTwo", "(II)I"⟩, 53), (⟨"LostWoodModel", "baredOf", "(II)I"⟩, 53), (⟨"LostWoodModel", "findOne", "(I)I"⟩, 53), (⟨"LostWoodModel", "findMeet", "(II)V"⟩, 53), (⟨"LostWoodModel", "onward", "(I)I"⟩, 53), (⟨"LostWoodModel", "asksRead", "(I)I"⟩, 53), (⟨"LostWoodModel", "readFrom", "(II)I"⟩, 53), (⟨"LostWoodModel", "askOf", "(I)I"⟩, 53)]
theorem lw_r6 : ∀ q ∈ lw_privs_6, lw_okq q := List.forall_mem_cons.mpr ⟨lw_p80, List.forall_mem_cons.mpr ⟨lw_p81, List.forall_mem_cons.mpr ⟨lw_p82, List.forall_mem_cons.mpr ⟨lw_p83, List.forall_mem_cons.mpr ⟨lw_p84, List.forall_mem_cons.mpr ⟨lw_p85, List.forall_mem_cons.mpr ⟨lw_p86, List.forall_mem_cons.mpr ⟨lw_p87, List.forall_mem_cons.mpr ⟨lw_p88, List.forall_mem_cons.mpr ⟨lw_p89, List.forall_mem_cons.mpr ⟨lw_p90, List.forall_mem_cons.mpr ⟨lw_p91, List.forall_mem_cons.mpr ⟨lw_p92, List.forall_mem_cons.mpr ⟨lw_p93, List.forall_mem_cons.mpr ⟨lw_p94, List.forall_mem_cons.mpr ⟨lw_p95, fun _ h => absurd h List.not_mem_nil⟩⟩⟩⟩⟩⟩⟩⟩⟩⟩⟩⟩⟩⟩⟩⟩
theorem lw_p96 : lw_okq (⟨"LostWoodModel", "worstBy", "(II)I"⟩, 53) := ⟨⟨by decide +kernel, by decide +kernel⟩, List.mem_of_getElem? (i := 1243) (by decide +kernel), List.mem_of_getElem? (i := 1875) (by decide +kernel), List.mem_of_getElem? (i := 1876) (by decide +kernel)⟩
theorem lw_p97 : lw_okq (⟨"LostWoodModel", "findCourse", "(II)V"⟩, 53) := ⟨⟨by decide +kernel, by decide +kernel⟩, List.mem_of_getElem? (i := 1243) (by decide +kernel), List.mem_of_getElem? (i := 1887) (by decide +kernel), List.mem_of_getElem? (i := 1888) (by decide +kernel)⟩
theorem lw_p98 : lw_okq (⟨"LostWoodModel", "doubtBy", "(II)I"⟩, 53) := ⟨⟨by decide +kernel, by decide +kernel⟩, List.mem_of_getElem? (i := 1243) (by decide +kernel), List.mem_of_getElem? (i := 1891) (by decide +kernel), List.mem_of_getElem? (i := 1892) (by decide +kernel)⟩
theorem lw_p99 : lw_okq (⟨"LostWoodModel", "apply", "(I)V"⟩, 53) := ⟨⟨by decide +kernel, by decide +kernel⟩, List.mem_of_getElem? (i := 1243) (by decide +kernel), List.mem_of_getElem? (i := 1895) (by decide +kernel), List.mem_of_getElem? (i := 1896) (by decide +kernel)⟩
theorem lw_p100 : lw_okq (⟨"LostWoodModel", "nextOrder", "(I)Z"⟩, 53) := ⟨⟨by decide +kernel, by decide +kernel⟩, List.mem_of_getElem? (i := 1243) (by decide +kernel), List.mem_of_getElem? (i := 1899) (by decide +kernel), List.mem_of_getElem? (i := 1900) (by decide +kernel)⟩
theorem lw_p101 : lw_okq (⟨"LostWoodModel", "swap", "(II)V"⟩, 53) := ⟨⟨by decide +kernel, by decide +kernel⟩, List.mem_of_getElem? (i := 1243) (by decide +kernel), List.mem_of_getElem? (i := 1903) (by decide +kernel), List.mem_of_getElem? (i := 1904) (by decide +kernel)⟩
theorem lw_p102 : lw_okq (⟨"LostWoodModel", "fillCosts", "(II)V"⟩, 53) := ⟨⟨by decide +kernel, by decide +kernel⟩, List.mem_of_getElem? (i := 1243) (by decide +kernel), List.mem_of_getElem? (i := 1919) (by decide +kernel), List.mem_of_getElem? (i := 1920) (by decide +kernel)⟩
theorem lw_p103 : lw_okq (⟨"LostWoodModel", "goFog", "(II)V"⟩, 53) := ⟨⟨by decide +kernel, by decide +kernel⟩, List.mem_of_getElem? (i := 1243) (by decide +kernel), List.mem_of_getElem? (i := 1936) (by decide +kernel), List.mem_of_getElem? (i := 1937) (by decide +kernel)⟩
theorem lw_p104 : lw_okq (⟨"LostWoodModel", "isDrawn", "(III)Z"⟩, 53) := ⟨⟨by decide +kernel, by decide +kernel⟩, List.mem_of_getElem? (i := 1243) (by decide +kernel), List.mem_of_getElem? (i := 1963) (by decide +kernel), List.mem_of_getElem? (i := 1964) (by decide +kernel)⟩
theorem lw_p105 : lw_okq (⟨"LostWoodModel", "goDrawn", "(JII)V"⟩, 53) := ⟨⟨by decide +kernel, by decide +kernel⟩, List.mem_of_getElem? (i := 1243) (by decide +kernel), List.mem_of_getElem? (i := 1969) (by decide +kernel), List.mem_of_getElem? (i := 1970) (by decide +kernel)⟩
def lw_privs_7 : List (MethodName × Nat) := [(⟨"LostWoodModel", "worstBy", "(II)I"⟩, 53), (⟨"LostWoodModel", "findCourse", "(II)V"⟩, 53), (⟨"LostWoodModel", "doubtBy", "(II)I"⟩, 53), (⟨"LostWoodModel", "apply", "(I)V"⟩, 53), (⟨"LostWoodModel", "nextOrder", "(I)Z"⟩, 53), (⟨"LostWoodModel", "swap", "(II)V"⟩, 53), (⟨"LostWoodModel", "fillCosts", "(II)V"⟩, 53), (⟨"LostWoodModel", "goFog", "(II)V"⟩, 53), (⟨"LostWoodModel", "isDrawn", "(III)Z"⟩, 53), (⟨"LostWoodModel", "goDrawn", "(JII)V"⟩, 53)]
theorem lw_r7 : ∀ q ∈ lw_privs_7, lw_okq q := List.forall_mem_cons.mpr ⟨lw_p96, List.forall_mem_cons.mpr ⟨lw_p97, List.forall_mem_cons.mpr ⟨lw_p98, List.forall_mem_cons.mpr ⟨lw_p99, List.forall_mem_cons.mpr ⟨lw_p100, List.forall_mem_cons.mpr ⟨lw_p101, List.forall_mem_cons.mpr ⟨lw_p102, List.forall_mem_cons.mpr ⟨lw_p103, List.forall_mem_cons.mpr ⟨lw_p104, List.forall_mem_cons.mpr ⟨lw_p105, fun _ h => absurd h List.not_mem_nil⟩⟩⟩⟩⟩⟩⟩⟩⟩⟩
def lw_privs : List (MethodName × Nat) := lw_privs_1 ++ (lw_privs_2 ++ (lw_privs_3 ++ (lw_privs_4 ++ (lw_privs_5 ++ (lw_privs_6 ++ (lw_privs_7))))))
def lw_tbl : List Cond := k2_sels lw_privs ++ tables_1
theorem lw_privs_ok : ∀ q ∈ lw_privs, lw_okq q := by
  show ∀ q ∈ lw_privs_1 ++ (lw_privs_2 ++ (lw_privs_3 ++ (lw_privs_4 ++ (lw_privs_5 ++ (lw_privs_6 ++ (lw_privs_7)))))), lw_okq q
  exact List.forall_mem_append.mpr ⟨lw_r1, List.forall_mem_append.mpr ⟨lw_r2, List.forall_mem_append.mpr ⟨lw_r3, List.forall_mem_append.mpr ⟨lw_r4, List.forall_mem_append.mpr ⟨lw_r5, List.forall_mem_append.mpr ⟨lw_r6, lw_r7⟩⟩⟩⟩⟩⟩
-- ===== end of PART A; then your names; then what follows =====
end
section
/-! ===== BEGIN words of one list among another's, by their places ===== -/
theorem goodIn_r {big : List Cond} (ws : List Cond) (ps : List Nat) (hp : ws = ps.filterMap (fun i => big[i]?)) (h : ws.all goodWord = true) : GoodIn big ws := by
  intro w hw
  have h1 := List.all_eq_true.mp h w hw
  rw [hp] at hw
  obtain ⟨i, -, hi⟩ := List.mem_filterMap.mp hw
  have hm : w ∈ big := by first | exact List.mem_of_getElem? hi | exact List.getElem?_mem hi
  exact ⟨hm, good_of_word h1⟩
theorem goodIn_app {big a b : List Cond} (ha : GoodIn big a) (hb : GoodIn big b) : GoodIn big (a ++ b) := fun w h => (List.mem_append.mp h).elim (ha w) (hb w)
theorem goodIn_ca {big a b : List Cond} {c : Cond} (ha : GoodIn big (c :: a)) (hb : GoodIn big b) : GoodIn big (c :: (a ++ b)) := fun w h => (List.mem_cons.mp h).elim (fun e => ha w (List.mem_cons.mpr (Or.inl e))) (fun h => (List.mem_append.mp h).elim (fun h => ha w (List.mem_cons.mpr (Or.inr h))) (hb w))
theorem goodIn_sub {big ws : List Cond} (hm : ∀ w ∈ ws, w ∈ big) (h : ws.all goodWord = true) : GoodIn big ws := fun w hw => ⟨hm w hw, good_of_word (List.all_eq_true.mp h w hw)⟩
/-! ===== END ===== -/
def RX0 : String := "LostWood$Courses"
def TX0 : u_T := fun k => match k with
  | 0 => ("LostWood$Courses", "ground", "LLostWood$Wood;", true)
  | 1 => ("LostWood$Courses", "taught", "LLostWood$Walker;", true)
  | 2 => ("LostWood$Courses", "order", "[I", true)
  | 3 => ("LostWood$Courses", "worst", "[I", true)
  | 4 => ("LostWood$Courses", "greatest", "I", false)
  | _ => ("LostWood$Courses", "least", "I", false)
def tyX0 : Nat → FieldType := fun k => match k with
  | 0 => .object "LostWood$Wood"
  | 1 => .object "LostWood$Walker"
  | 2 => .array .int
  | 3 => .array .int
  | 4 => .int
  | _ => .int
abbrev wsX00 : List Cond := u_ws RX0 TX0 6
theorem nmX0 : ∀ a, a < 6 → ∀ b, b < 6 → a ≠ b → (TX0 a).2.1 ≠ (TX0 b).2.1 := by decide +kernel
theorem tyX0_ok : ∀ k, k < 6 → parseFieldDescriptor (TX0 k).2.2.1 = some (tyX0 k) := by decide +kernel
abbrev cX0_init : ByteArray := prog_2_method_1_code
def yX0_init : MethodName := ⟨RX0, "<init>", "()V"⟩
abbrev cX0_tryAll : ByteArray := prog_2_method_2_code
def yX0_tryAll : MethodName := ⟨RX0, "tryAll", "(LLostWood$Wood;LLostWood$Walker;LLostWood$Rows;I)V"⟩
abbrev cX0_tryOrder : ByteArray := prog_2_method_3_code
def yX0_tryOrder : MethodName := ⟨RX0, "tryOrder", "(LLostWood$Wood;LLostWood$Walker;LLostWood$Rows;I)I"⟩
abbrev cX0_teach : ByteArray := prog_2_method_4_code
def yX0_teach : MethodName := ⟨RX0, "teach", "(I)V"⟩
abbrev cX0_nextOrder : ByteArray := prog_2_method_5_code
def yX0_nextOrder : MethodName := ⟨RX0, "nextOrder", "(I)Z"⟩
abbrev cX0_swap : ByteArray := prog_2_method_6_code
def yX0_swap : MethodName := ⟨RX0, "swap", "(II)V"⟩
def RX1 : String := "LostWood$Minds"
def TX1 : u_T := fun k => match k with
  | 0 => ("LostWood$Search", "stamps", "[I", true)
  | 1 => ("LostWood$Search", "found", "[I", true)
  | 2 => ("LostWood$Search", "links", "[I", true)
  | 3 => ("LostWood$Search", "round", "I", false)
  | 4 => ("LostWood$Search", "size", "I", false)
  | 5 => ("LostWood$Search", "goal", "I", false)
  | 6 => ("LostWood$Minds", "walker", "LLostWood$Walker;", true)
  | 7 => ("LostWood$Minds", "turn", "I", false)
  | 8 => ("LostWood$Minds", "aim", "I", false)
  | _ => ("LostWood$Minds", "least", "I", false)
def tyX1 : Nat → FieldType := fun k => match k with
  | 0 => .array .int
  | 1 => .array .int
  | 2 => .array .int
  | 3 => .int
  | 4 => .int
  | 5 => .int
  | 6 => .object "LostWood$Walker"
  | 7 => .int
  | 8 => .int
  | _ => .int
abbrev wsX10 : List Cond := u_ws RX1 TX1 10
theorem nmX1 : ∀ a, a < 10 → ∀ b, b < 10 → a ≠ b → (TX1 a).2.1 ≠ (TX1 b).2.1 := by decide +kernel
theorem tyX1_ok : ∀ k, k < 10 → parseFieldDescriptor (TX1 k).2.2.1 = some (tyX1 k) := by decide +kernel
abbrev cX1_init : ByteArray := prog_3_method_1_code
def yX1_init : MethodName := ⟨RX1, "<init>", "()V"⟩
abbrev cX1_aimAt : ByteArray := prog_3_method_2_code
def yX1_aimAt : MethodName := ⟨RX1, "aimAt", "(III)V"⟩
abbrev cX1_next : ByteArray := prog_3_method_3_code
def yX1_next : MethodName := ⟨RX1, "next", "(LLostWood$Wood;II)I"⟩
abbrev cX1_ends : ByteArray := prog_3_method_4_code
def yX1_ends : MethodName := ⟨RX1, "ends", "(LLostWood$Wood;I)Z"⟩
def RX2 : String := "LostWood$Party"
def TX2 : u_T := fun k => match k with
  | 0 => ("LostWood$Party", "at", "[I", true)
  | 1 => ("LostWood$Party", "thought", "[I", true)
  | 2 => ("LostWood$Party", "whose", "[I", true)
  | 3 => ("LostWood$Party", "wasAt", "[I", true)
  | 4 => ("LostWood$Party", "wasThought", "[I", true)
  | _ => ("LostWood$Party", "steps", "I", false)
def tyX2 : Nat → FieldType := fun k => match k with
  | 0 => .array .int
  | 1 => .array .int
  | 2 => .array .int
  | 3 => .array .int
  | 4 => .array .int
  | _ => .int
abbrev wsX20 : List Cond := u_ws RX2 TX2 6
theorem nmX2 : ∀ a, a < 6 → ∀ b, b < 6 → a ≠ b → (TX2 a).2.1 ≠ (TX2 b).2.1 := by decide +kernel
theorem tyX2_ok : ∀ k, k < 6 → parseFieldDescriptor (TX2 k).2.2.1 = some (tyX2 k) := by decide +kernel
abbrev cX2_init : ByteArray := prog_4_method_1_code
def yX2_init : MethodName := ⟨RX2, "<init>", "()V"⟩
abbrev cX2_assemble : ByteArray := prog_4_method_2_code
def yX2_assemble : MethodName := ⟨RX2, "assemble", "(LLostWood$Wood;)V"⟩
abbrev cX2_copyFrom : ByteArray := prog_4_method_3_code
def yX2_copyFrom : MethodName := ⟨RX2, "copyFrom", "(LLostWood$Party;)V"⟩
abbrev cX2_keepStep : ByteArray := prog_4_method_4_code
def yX2_keepStep : MethodName := ⟨RX2, "keepStep", "(ILLostWood$Walker;)V"⟩
abbrev cX2_takeBack : ByteArray := prog_4_method_5_code
def yX2_takeBack : MethodName := ⟨RX2, "takeBack", "()Z"⟩
def RX3 : String := "LostWood$Plans"
def TX3 : u_T := fun k => match k with
  | 0 => ("LostWood$Plans", "depths", "[I", true)
  | 1 => ("LostWood$Plans", "nexts", "[I", true)
  | 2 => ("LostWood$Plans", "peers", "[I", true)
  | 3 => ("LostWood$Plans", "all", "I", false)
  | _ => ("LostWood$Plans", "ready", "Z", false)
def tyX3 : Nat → FieldType := fun k => match k with
  | 0 => .array .int
  | 1 => .array .int
  | 2 => .array .int
  | 3 => .int
  | _ => .boolean
abbrev wsX30 : List Cond := u_ws RX3 TX3 5
theorem nmX3 : ∀ a, a < 5 → ∀ b, b < 5 → a ≠ b → (TX3 a).2.1 ≠ (TX3 b).2.1 := by decide +kernel
theorem tyX3_ok : ∀ k, k < 5 → parseFieldDescriptor (TX3 k).2.2.1 = some (tyX3 k) := by decide +kernel
abbrev cX3_init : ByteArray := prog_5_method_1_code
def yX3_init : MethodName := ⟨RX3, "<init>", "()V"⟩
abbrev cX3_prepare : ByteArray := prog_5_method_2_code
def yX3_prepare : MethodName := ⟨RX3, "prepare", "(LLostWood$Wood;)V"⟩
abbrev cX3_settle : ByteArray := prog_5_method_3_code
def yX3_settle : MethodName := ⟨RX3, "settle", "(I)Z"⟩
abbrev cX3_isEven : ByteArray := prog_5_method_4_code
def yX3_isEven : MethodName := ⟨RX3, "isEven", "(I)Z"⟩
abbrev cX3_windTo : ByteArray := prog_5_method_5_code
def yX3_windTo : MethodName := ⟨RX3, "windTo", "(II)I"⟩
abbrev cX3_deepest : ByteArray := prog_5_method_6_code
def yX3_deepest : MethodName := ⟨RX3, "deepest", "(I)I"⟩
abbrev cX3_leastWind : ByteArray := prog_5_method_7_code
def yX3_leastWind : MethodName := ⟨RX3, "leastWind", "(I)I"⟩
def RX4 : String := "LostWood$Reader"
def TX4 : u_T := fun k => match k with
  | 0 => ("LostWood$Reader", "tape", "[B", true)
  | 1 => ("LostWood$Reader", "length", "I", false)
  | 2 => ("LostWood$Reader", "faultKind", "I", false)
  | 3 => ("LostWood$Reader", "faultPlace", "I", false)
  | 4 => ("LostWood$Reader", "draft", "LLostWood$Wood;", true)
  | 5 => ("LostWood$Reader", "kind", "I", false)
  | 6 => ("LostWood$Reader", "from", "I", false)
  | 7 => ("LostWood$Reader", "behind", "I", false)
  | 8 => ("LostWood$Reader", "number", "I", false)
  | _ => ("LostWood$Reader", "taken", "I", false)
def tyX4 : Nat → FieldType := fun k => match k with
  | 0 => .array .byte
  | 1 => .int
  | 2 => .int
  | 3 => .int
  | 4 => .object "LostWood$Wood"
  | 5 => .int
  | 6 => .int
  | 7 => .int
  | 8 => .int
  | _ => .int
abbrev wsX40 : List Cond := u_ws RX4 TX4 10
theorem nmX4 : ∀ a, a < 10 → ∀ b, b < 10 → a ≠ b → (TX4 a).2.1 ≠ (TX4 b).2.1 := by decide +kernel
theorem tyX4_ok : ∀ k, k < 10 → parseFieldDescriptor (TX4 k).2.2.1 = some (tyX4 k) := by decide +kernel
abbrev cX4_init : ByteArray := prog_6_method_1_code
def yX4_init : MethodName := ⟨RX4, "<init>", "()V"⟩
abbrev cX4_hasRoom : ByteArray := prog_6_method_2_code
def yX4_hasRoom : MethodName := ⟨RX4, "hasRoom", "(I)Z"⟩
abbrev cX4_append : ByteArray := prog_6_method_3_code
def yX4_append : MethodName := ⟨RX4, "append", "(I)V"⟩
abbrev cX4_parse : ByteArray := prog_6_method_4_code
def yX4_parse : MethodName := ⟨RX4, "parse", "()Z"⟩
abbrev cX4_byteAt : ByteArray := prog_6_method_5_code
def yX4_byteAt : MethodName := ⟨RX4, "byteAt", "(I)I"⟩
abbrev cX4_kindAt : ByteArray := prog_6_method_6_code
def yX4_kindAt : MethodName := ⟨RX4, "kindAt", "(I)I"⟩
abbrev cX4_advance : ByteArray := prog_6_method_7_code
def yX4_advance : MethodName := ⟨RX4, "advance", "()V"⟩
abbrev cX4_refuse : ByteArray := prog_6_method_8_code
def yX4_refuse : MethodName := ⟨RX4, "refuse", "(I)Z"⟩
abbrev cX4_isWord : ByteArray := prog_6_method_9_code
def yX4_isWord : MethodName := ⟨RX4, "isWord", "(Ljava/lang/String;)Z"⟩
abbrev cX4_takeWord : ByteArray := prog_6_method_10_code
def yX4_takeWord : MethodName := ⟨RX4, "takeWord", "(Ljava/lang/String;)Z"⟩
abbrev cX4_takeNumber : ByteArray := prog_6_method_11_code
def yX4_takeNumber : MethodName := ⟨RX4, "takeNumber", "(II)Z"⟩
abbrev cX4_takeWind : ByteArray := prog_6_method_12_code
def yX4_takeWind : MethodName := ⟨RX4, "takeWind", "()Z"⟩
abbrev cX4_takeSemicolon : ByteArray := prog_6_method_13_code
def yX4_takeSemicolon : MethodName := ⟨RX4, "takeSemicolon", "()Z"⟩
abbrev cX4_takeLine : ByteArray := prog_6_method_14_code
def yX4_takeLine : MethodName := ⟨RX4, "takeLine", "()Z"⟩
abbrev cX4_takeWoodLine : ByteArray := prog_6_method_15_code
def yX4_takeWoodLine : MethodName := ⟨RX4, "takeWoodLine", "()Z"⟩
abbrev cX4_takeWayLine : ByteArray := prog_6_method_16_code
def yX4_takeWayLine : MethodName := ⟨RX4, "takeWayLine", "()Z"⟩
abbrev cX4_takeMarkLine : ByteArray := prog_6_method_17_code
def yX4_takeMarkLine : MethodName := ⟨RX4, "takeMarkLine", "()Z"⟩
abbrev cX4_takePupilLine : ByteArray := prog_6_method_18_code
def yX4_takePupilLine : MethodName := ⟨RX4, "takePupilLine", "()Z"⟩
abbrev cX4_takeLessonLine : ByteArray := prog_6_method_19_code
def yX4_takeLessonLine : MethodName := ⟨RX4, "takeLessonLine", "()Z"⟩
def RX5 : String := "LostWood$Rows"
def TX5 : u_T := fun k => match k with
  | 0 => ("LostWood$Rows", "numbers", "[J", true)
  | 1 => ("LostWood$Rows", "widths", "[I", true)
  | _ => ("LostWood$Rows", "sizes", "[I", true)
def tyX5 : Nat → FieldType := fun k => match k with
  | 0 => .array .long
  | 1 => .array .int
  | _ => .array .int
abbrev wsX50 : List Cond := u_ws RX5 TX5 3
theorem nmX5 : ∀ a, a < 3 → ∀ b, b < 3 → a ≠ b → (TX5 a).2.1 ≠ (TX5 b).2.1 := by decide +kernel
theorem tyX5_ok : ∀ k, k < 3 → parseFieldDescriptor (TX5 k).2.2.1 = some (tyX5 k) := by decide +kernel
abbrev cX5_init : ByteArray := prog_7_method_1_code
def yX5_init : MethodName := ⟨RX5, "<init>", "()V"⟩
abbrev cX5_make : ByteArray := prog_7_method_2_code
def yX5_make : MethodName := ⟨RX5, "make", "(III)V"⟩
abbrev cX5_has : ByteArray := prog_7_method_3_code
def yX5_has : MethodName := ⟨RX5, "has", "(I)Z"⟩
abbrev cX5_size : ByteArray := prog_7_method_4_code
def yX5_size : MethodName := ⟨RX5, "size", "(I)I"⟩
abbrev cX5_width : ByteArray := prog_7_method_5_code
def yX5_width : MethodName := ⟨RX5, "width", "(I)I"⟩
abbrev cX5_kept : ByteArray := prog_7_method_6_code
def yX5_kept : MethodName := ⟨RX5, "kept", "()I"⟩
abbrev cX5_put : ByteArray := prog_7_method_7_code
def yX5_put : MethodName := ⟨RX5, "put", "(IIJ)V"⟩
abbrev cX5_cut : ByteArray := prog_7_method_8_code
def yX5_cut : MethodName := ⟨RX5, "cut", "(JI)J"⟩
abbrev cX5_isWithin : ByteArray := prog_7_method_9_code
def yX5_isWithin : MethodName := ⟨RX5, "isWithin", "(III)Z"⟩
abbrev cX5_small : ByteArray := prog_7_method_10_code
def yX5_small : MethodName := ⟨RX5, "small", "(II)I"⟩
abbrev cX5_covers : ByteArray := prog_7_method_11_code
def yX5_covers : MethodName := ⟨RX5, "covers", "(III)Z"⟩
abbrev cX5_move : ByteArray := prog_7_method_12_code
def yX5_move : MethodName := ⟨RX5, "move", "(IIIII)V"⟩
def RX6 : String := "LostWood$Search"
def TX6 : u_T := fun k => match k with
  | _ => ("", "", "", false)
def tyX6 : Nat → FieldType := fun k => match k with
  | _ => .int
abbrev wsX60 : List Cond := u_ws RX6 TX6 0
theorem nmX6 : ∀ a, a < 0 → ∀ b, b < 0 → a ≠ b → (TX6 a).2.1 ≠ (TX6 b).2.1 := by decide +kernel
theorem tyX6_ok : ∀ k, k < 0 → parseFieldDescriptor (TX6 k).2.2.1 = some (tyX6 k) := by decide +kernel
abbrev cX6_init : ByteArray := prog_8_method_1_code
def yX6_init : MethodName := ⟨RX6, "<init>", "(I)V"⟩
abbrev cX6_explore : ByteArray := prog_8_method_4_code
def yX6_explore : MethodName := ⟨RX6, "explore", "(LLostWood$Wood;I)V"⟩
abbrev cX6_meetState : ByteArray := prog_8_method_5_code
def yX6_meetState : MethodName := ⟨RX6, "meetState", "(II)V"⟩
abbrev cX6_lengthTo : ByteArray := prog_8_method_6_code
def yX6_lengthTo : MethodName := ⟨RX6, "lengthTo", "(I)I"⟩
abbrev cX6_goalLength : ByteArray := prog_8_method_7_code
def yX6_goalLength : MethodName := ⟨RX6, "goalLength", "()I"⟩
abbrev cX6_goalWind : ByteArray := prog_8_method_8_code
def yX6_goalWind : MethodName := ⟨RX6, "goalWind", "(I)I"⟩
def RX7 : String := "LostWood$Sets"
def TX7 : u_T := fun k => match k with
  | 0 => ("LostWood$Search", "stamps", "[I", true)
  | 1 => ("LostWood$Search", "found", "[I", true)
  | 2 => ("LostWood$Search", "links", "[I", true)
  | 3 => ("LostWood$Search", "round", "I", false)
  | 4 => ("LostWood$Search", "size", "I", false)
  | 5 => ("LostWood$Search", "goal", "I", false)
  | _ => ("LostWood$Sets", "aim", "I", false)
def tyX7 : Nat → FieldType := fun k => match k with
  | 0 => .array .int
  | 1 => .array .int
  | 2 => .array .int
  | 3 => .int
  | 4 => .int
  | 5 => .int
  | _ => .int
abbrev wsX70 : List Cond := u_ws RX7 TX7 7
theorem nmX7 : ∀ a, a < 7 → ∀ b, b < 7 → a ≠ b → (TX7 a).2.1 ≠ (TX7 b).2.1 := by decide +kernel
theorem tyX7_ok : ∀ k, k < 7 → parseFieldDescriptor (TX7 k).2.2.1 = some (tyX7 k) := by decide +kernel
abbrev cX7_init : ByteArray := prog_9_method_1_code
def yX7_init : MethodName := ⟨RX7, "<init>", "()V"⟩
abbrev cX7_seek : ByteArray := prog_9_method_2_code
def yX7_seek : MethodName := ⟨RX7, "seek", "(LLostWood$Wood;II)V"⟩
abbrev cX7_next : ByteArray := prog_9_method_3_code
def yX7_next : MethodName := ⟨RX7, "next", "(LLostWood$Wood;II)I"⟩
abbrev cX7_ends : ByteArray := prog_9_method_4_code
def yX7_ends : MethodName := ⟨RX7, "ends", "(LLostWood$Wood;I)Z"⟩
abbrev cX7_showsOne : ByteArray := prog_9_method_5_code
def yX7_showsOne : MethodName := ⟨RX7, "showsOne", "(LLostWood$Wood;II)Z"⟩
abbrev cX7_allShowOne : ByteArray := prog_9_method_6_code
def yX7_allShowOne : MethodName := ⟨RX7, "allShowOne", "(LLostWood$Wood;I)Z"⟩
abbrev cX7_leastGathered : ByteArray := prog_9_method_7_code
def yX7_leastGathered : MethodName := ⟨RX7, "leastGathered", "(LLostWood$Wood;I)I"⟩
def RX8 : String := "LostWood$Travel"
def TX8 : u_T := fun k => match k with
  | 0 => ("LostWood$Travel", "costs", "[I", true)
  | 1 => ("LostWood$Travel", "chances", "[I", true)
  | _ => ("LostWood$Travel", "later", "[I", true)
def tyX8 : Nat → FieldType := fun k => match k with
  | 0 => .array .int
  | 1 => .array .int
  | _ => .array .int
abbrev wsX80 : List Cond := u_ws RX8 TX8 3
theorem nmX8 : ∀ a, a < 3 → ∀ b, b < 3 → a ≠ b → (TX8 a).2.1 ≠ (TX8 b).2.1 := by decide +kernel
theorem tyX8_ok : ∀ k, k < 3 → parseFieldDescriptor (TX8 k).2.2.1 = some (tyX8 k) := by decide +kernel
abbrev cX8_init : ByteArray := prog_10_method_1_code
def yX8_init : MethodName := ⟨RX8, "<init>", "()V"⟩
abbrev cX8_cheapest : ByteArray := prog_10_method_2_code
def yX8_cheapest : MethodName := ⟨RX8, "cheapest", "(LLostWood$Wood;III)I"⟩
abbrev cX8_relax : ByteArray := prog_10_method_3_code
def yX8_relax : MethodName := ⟨RX8, "relax", "(LLostWood$Wood;II)V"⟩
abbrev cX8_drift : ByteArray := prog_10_method_4_code
def yX8_drift : MethodName := ⟨RX8, "drift", "(LLostWood$Wood;II)V"⟩
abbrev cX8_chance : ByteArray := prog_10_method_5_code
def yX8_chance : MethodName := ⟨RX8, "chance", "(I)I"⟩
def RX9 : String := "LostWood$Walker"
def TX9 : u_T := fun k => match k with
  | 0 => ("LostWood$Walker", "at", "I", false)
  | 1 => ("LostWood$Walker", "thought", "I", false)
  | _ => ("LostWood$Walker", "turn", "I", false)
def tyX9 : Nat → FieldType := fun k => match k with
  | 0 => .int
  | 1 => .int
  | _ => .int
abbrev wsX90 : List Cond := u_ws RX9 TX9 3
theorem nmX9 : ∀ a, a < 3 → ∀ b, b < 3 → a ≠ b → (TX9 a).2.1 ≠ (TX9 b).2.1 := by decide +kernel
theorem tyX9_ok : ∀ k, k < 3 → parseFieldDescriptor (TX9 k).2.2.1 = some (tyX9 k) := by decide +kernel
abbrev cX9_init : ByteArray := prog_11_method_1_code
def yX9_init : MethodName := ⟨RX9, "<init>", "()V"⟩
abbrev cX9_place : ByteArray := prog_11_method_2_code
def yX9_place : MethodName := ⟨RX9, "place", "(III)V"⟩
abbrev cX9_step : ByteArray := prog_11_method_3_code
def yX9_step : MethodName := ⟨RX9, "step", "(LLostWood$Wood;I)V"⟩
abbrev cX9_doubt : ByteArray := prog_11_method_4_code
def yX9_doubt : MethodName := ⟨RX9, "doubt", "()I"⟩
abbrev cX9_isSure : ByteArray := prog_11_method_5_code
def yX9_isSure : MethodName := ⟨RX9, "isSure", "()Z"⟩
abbrev cX9_isAstray : ByteArray := prog_11_method_6_code
def yX9_isAstray : MethodName := ⟨RX9, "isAstray", "()Z"⟩
def RX10 : String := "LostWood$Wood"
def TX10 : u_T := fun k => match k with
  | 0 => ("LostWood$Wood", "ways", "[I", true)
  | 1 => ("LostWood$Wood", "signs", "[I", true)
  | 2 => ("LostWood$Wood", "starts", "[I", true)
  | 3 => ("LostWood$Wood", "turns", "[I", true)
  | 4 => ("LostWood$Wood", "thoughts", "[I", true)
  | 5 => ("LostWood$Wood", "lessonKinds", "[I", true)
  | 6 => ("LostWood$Wood", "lessonNumbers", "[I", true)
  | 7 => ("LostWood$Wood", "lessonWinds", "[I", true)
  | 8 => ("LostWood$Wood", "places", "I", false)
  | 9 => ("LostWood$Wood", "pupils", "I", false)
  | 10 => ("LostWood$Wood", "lessons", "I", false)
  | _ => ("LostWood$Wood", "lines", "I", false)
def tyX10 : Nat → FieldType := fun k => match k with
  | 0 => .array .int
  | 1 => .array .int
  | 2 => .array .int
  | 3 => .array .int
  | 4 => .array .int
  | 5 => .array .int
  | 6 => .array .int
  | 7 => .array .int
  | 8 => .int
  | 9 => .int
  | 10 => .int
  | _ => .int
abbrev wsX100 : List Cond := u_ws RX10 TX10 12
theorem nmX10 : ∀ a, a < 12 → ∀ b, b < 12 → a ≠ b → (TX10 a).2.1 ≠ (TX10 b).2.1 := by decide +kernel
theorem tyX10_ok : ∀ k, k < 12 → parseFieldDescriptor (TX10 k).2.2.1 = some (tyX10 k) := by decide +kernel
abbrev cX10_init : ByteArray := prog_12_method_1_code
def yX10_init : MethodName := ⟨RX10, "<init>", "()V"⟩
abbrev cX10_clear : ByteArray := prog_12_method_2_code
def yX10_clear : MethodName := ⟨RX10, "clear", "()V"⟩
abbrev cX10_copyFrom : ByteArray := prog_12_method_3_code
def yX10_copyFrom : MethodName := ⟨RX10, "copyFrom", "(LLostWood$Wood;)V"⟩
abbrev cX10_stands : ByteArray := prog_12_method_4_code
def yX10_stands : MethodName := ⟨RX10, "stands", "()Z"⟩
abbrev cX10_hasPlace : ByteArray := prog_12_method_5_code
def yX10_hasPlace : MethodName := ⟨RX10, "hasPlace", "(I)Z"⟩
abbrev cX10_hasPupil : ByteArray := prog_12_method_6_code
def yX10_hasPupil : MethodName := ⟨RX10, "hasPupil", "(I)Z"⟩
abbrev cX10_hasSet : ByteArray := prog_12_method_7_code
def yX10_hasSet : MethodName := ⟨RX10, "hasSet", "(I)Z"⟩
abbrev cX10_all : ByteArray := prog_12_method_8_code
def yX10_all : MethodName := ⟨RX10, "all", "()I"⟩
abbrev cX10_after : ByteArray := prog_12_method_9_code
def yX10_after : MethodName := ⟨RX10, "after", "(II)I"⟩
abbrev cX10_sign : ByteArray := prog_12_method_10_code
def yX10_sign : MethodName := ⟨RX10, "sign", "(I)I"⟩
abbrev cX10_setWay : ByteArray := prog_12_method_11_code
def yX10_setWay : MethodName := ⟨RX10, "setWay", "(III)V"⟩
abbrev cX10_setSign : ByteArray := prog_12_method_12_code
def yX10_setSign : MethodName := ⟨RX10, "setSign", "(II)V"⟩
abbrev cX10_addPupil : ByteArray := prog_12_method_13_code
def yX10_addPupil : MethodName := ⟨RX10, "addPupil", "(III)V"⟩
abbrev cX10_addLesson : ByteArray := prog_12_method_14_code
def yX10_addLesson : MethodName := ⟨RX10, "addLesson", "(III)V"⟩
abbrev cX10_spread : ByteArray := prog_12_method_15_code
def yX10_spread : MethodName := ⟨RX10, "spread", "(II)I"⟩
abbrev cX10_spreadAnyhow : ByteArray := prog_12_method_16_code
def yX10_spreadAnyhow : MethodName := ⟨RX10, "spreadAnyhow", "(I)I"⟩
abbrev cX10_showing : ByteArray := prog_12_method_17_code
def yX10_showing : MethodName := ⟨RX10, "showing", "(II)I"⟩
abbrev cX10_marked : ByteArray := prog_12_method_18_code
def yX10_marked : MethodName := ⟨RX10, "marked", "()I"⟩
abbrev cX10_waysElsewhere : ByteArray := prog_12_method_19_code
def yX10_waysElsewhere : MethodName := ⟨RX10, "waysElsewhere", "()I"⟩
def RX11 : String := "LostWood"
def TX11 : u_T := fun k => match k with
  | 0 => ("LostWood", "reader", "LLostWood$Reader;", true)
  | 1 => ("LostWood", "here", "LLostWood$Wood;", true)
  | 2 => ("LostWood", "party", "LLostWood$Party;", true)
  | 3 => ("LostWood", "walker", "LLostWood$Walker;", true)
  | 4 => ("LostWood", "rows", "LLostWood$Rows;", true)
  | 5 => ("LostWood", "minds", "LLostWood$Minds;", true)
  | 6 => ("LostWood", "sets", "LLostWood$Sets;", true)
  | 7 => ("LostWood", "plans", "LLostWood$Plans;", true)
  | 8 => ("LostWood", "courses", "LLostWood$Courses;", true)
  | 9 => ("LostWood", "travel", "LLostWood$Travel;", true)
  | 10 => ("LostWood", "imageWoods", "[LLostWood$Wood;", true)
  | _ => ("LostWood", "imageParties", "[LLostWood$Party;", true)
def tyX11 : Nat → FieldType := fun k => match k with
  | 0 => .object "LostWood$Reader"
  | 1 => .object "LostWood$Wood"
  | 2 => .object "LostWood$Party"
  | 3 => .object "LostWood$Walker"
  | 4 => .object "LostWood$Rows"
  | 5 => .object "LostWood$Minds"
  | 6 => .object "LostWood$Sets"
  | 7 => .object "LostWood$Plans"
  | 8 => .object "LostWood$Courses"
  | 9 => .object "LostWood$Travel"
  | 10 => .array (.object "LostWood$Wood")
  | _ => .array (.object "LostWood$Party")
abbrev wsX110 : List Cond := u_ws RX11 TX11 12
theorem nmX11 : ∀ a, a < 12 → ∀ b, b < 12 → a ≠ b → (TX11 a).2.1 ≠ (TX11 b).2.1 := by decide +kernel
theorem tyX11_ok : ∀ k, k < 12 → parseFieldDescriptor (TX11 k).2.2.1 = some (tyX11 k) := by decide +kernel
abbrev cX11_init : ByteArray := prog_1_method_1_code
def yX11_init : MethodName := ⟨RX11, "<init>", "()V"⟩
abbrev cX11_feed : ByteArray := prog_1_method_2_code
def yX11_feed : MethodName := ⟨RX11, "feed", "(IIIII)I"⟩
abbrev cX11_end : ByteArray := prog_1_method_3_code
def yX11_end : MethodName := ⟨RX11, "end", "(I)I"⟩
abbrev cX11_wood : ByteArray := prog_1_method_4_code
def yX11_wood : MethodName := ⟨RX11, "wood", "()I"⟩
abbrev cX11_fault : ByteArray := prog_1_method_5_code
def yX11_fault : MethodName := ⟨RX11, "fault", "(I)I"⟩
abbrev cX11_leads : ByteArray := prog_1_method_6_code
def yX11_leads : MethodName := ⟨RX11, "leads", "(II)I"⟩
abbrev cX11_mark : ByteArray := prog_1_method_7_code
def yX11_mark : MethodName := ⟨RX11, "mark", "(I)I"⟩
abbrev cX11_becomes : ByteArray := prog_1_method_8_code
def yX11_becomes : MethodName := ⟨RX11, "becomes", "(II)I"⟩
abbrev cX11_seen : ByteArray := prog_1_method_9_code
def yX11_seen : MethodName := ⟨RX11, "seen", "(II)I"⟩
abbrev cX11_where : ByteArray := prog_1_method_10_code
def yX11_where : MethodName := ⟨RX11, "where", "(I)I"⟩
abbrev cX11_thinks : ByteArray := prog_1_method_11_code
def yX11_thinks : MethodName := ⟨RX11, "thinks", "(I)I"⟩
abbrev cX11_pupil : ByteArray := prog_1_method_12_code
def yX11_pupil : MethodName := ⟨RX11, "pupil", "(II)I"⟩
abbrev cX11_goes : ByteArray := prog_1_method_13_code
def yX11_goes : MethodName := ⟨RX11, "goes", "(II)I"⟩
abbrev cX11_most : ByteArray := prog_1_method_14_code
def yX11_most : MethodName := ⟨RX11, "most", "()I"⟩
abbrev cX11_who : ByteArray := prog_1_method_15_code
def yX11_who : MethodName := ⟨RX11, "who", "(I)I"⟩
abbrev cX11_undo : ByteArray := prog_1_method_16_code
def yX11_undo : MethodName := ⟨RX11, "undo", "()I"⟩
abbrev cX11_anew : ByteArray := prog_1_method_17_code
def yX11_anew : MethodName := ⟨RX11, "anew", "()I"⟩
abbrev cX11_would : ByteArray := prog_1_method_18_code
def yX11_would : MethodName := ⟨RX11, "would", "(II)I"⟩
abbrev cX11_think : ByteArray := prog_1_method_19_code
def yX11_think : MethodName := ⟨RX11, "think", "(II)I"⟩
abbrev cX11_knows : ByteArray := prog_1_method_20_code
def yX11_knows : MethodName := ⟨RX11, "knows", "(II)I"⟩
abbrev cX11_loses : ByteArray := prog_1_method_21_code
def yX11_loses : MethodName := ⟨RX11, "loses", "(II)I"⟩
abbrev cX11_doubts : ByteArray := prog_1_method_22_code
def yX11_doubts : MethodName := ⟨RX11, "doubts", "(II)I"⟩
abbrev cX11_blur : ByteArray := prog_1_method_23_code
def yX11_blur : MethodName := ⟨RX11, "blur", "(II)I"⟩
abbrev cX11_blurs : ByteArray := prog_1_method_24_code
def yX11_blurs : MethodName := ⟨RX11, "blurs", "(III)I"⟩
abbrev cX11_stray : ByteArray := prog_1_method_25_code
def yX11_stray : MethodName := ⟨RX11, "stray", "(I)I"⟩
abbrev cX11_strays : ByteArray := prog_1_method_26_code
def yX11_strays : MethodName := ⟨RX11, "strays", "(II)I"⟩
abbrev cX11_home : ByteArray := prog_1_method_27_code
def yX11_home : MethodName := ⟨RX11, "home", "(I)I"⟩
abbrev cX11_homes : ByteArray := prog_1_method_28_code
def yX11_homes : MethodName := ⟨RX11, "homes", "(II)I"⟩
abbrev cX11_states : ByteArray := prog_1_method_29_code
def yX11_states : MethodName := ⟨RX11, "states", "(I)I"⟩
abbrev cX11_plan : ByteArray := prog_1_method_30_code
def yX11_plan : MethodName := ⟨RX11, "plan", "(I)I"⟩
abbrev cX11_first : ByteArray := prog_1_method_31_code
def yX11_first : MethodName := ⟨RX11, "first", "(I)I"⟩
abbrev cX11_hardest : ByteArray := prog_1_method_32_code
def yX11_hardest : MethodName := ⟨RX11, "hardest", "()I"⟩
abbrev cX11_alike : ByteArray := prog_1_method_33_code
def yX11_alike : MethodName := ⟨RX11, "alike", "(II)I"⟩
abbrev cX11_kinds : ByteArray := prog_1_method_34_code
def yX11_kinds : MethodName := ⟨RX11, "kinds", "()I"⟩
abbrev cX11_tells : ByteArray := prog_1_method_35_code
def yX11_tells : MethodName := ⟨RX11, "tells", "(II)I"⟩
abbrev cX11_told : ByteArray := prog_1_method_36_code
def yX11_told : MethodName := ⟨RX11, "told", "(III)I"⟩
abbrev cX11_bares : ByteArray := prog_1_method_37_code
def yX11_bares : MethodName := ⟨RX11, "bares", "(II)I"⟩
abbrev cX11_bared : ByteArray := prog_1_method_38_code
def yX11_bared : MethodName := ⟨RX11, "bared", "(II)I"⟩
abbrev cX11_gather : ByteArray := prog_1_method_39_code
def yX11_gather : MethodName := ⟨RX11, "gather", "(I)I"⟩
abbrev cX11_gathers : ByteArray := prog_1_method_40_code
def yX11_gathers : MethodName := ⟨RX11, "gathers", "(II)I"⟩
abbrev cX11_roundabout : ByteArray := prog_1_method_41_code
def yX11_roundabout : MethodName := ⟨RX11, "roundabout", "(I)I"⟩
abbrev cX11_meet : ByteArray := prog_1_method_42_code
def yX11_meet : MethodName := ⟨RX11, "meet", "(II)I"⟩
abbrev cX11_met : ByteArray := prog_1_method_43_code
def yX11_met : MethodName := ⟨RX11, "met", "(II)I"⟩
abbrev cX11_read : ByteArray := prog_1_method_44_code
def yX11_read : MethodName := ⟨RX11, "read", "(I)I"⟩
abbrev cX11_began : ByteArray := prog_1_method_45_code
def yX11_began : MethodName := ⟨RX11, "began", "(I)I"⟩
abbrev cX11_ask : ByteArray := prog_1_method_46_code
def yX11_ask : MethodName := ⟨RX11, "ask", "(I)I"⟩
abbrev cX11_leaves : ByteArray := prog_1_method_47_code
def yX11_leaves : MethodName := ⟨RX11, "leaves", "(I)I"⟩
abbrev cX11_course : ByteArray := prog_1_method_48_code
def yX11_course : MethodName := ⟨RX11, "course", "(II)I"⟩
abbrev cX11_lesson : ByteArray := prog_1_method_49_code
def yX11_lesson : MethodName := ⟨RX11, "lesson", "(III)I"⟩
abbrev cX11_spoilt : ByteArray := prog_1_method_50_code
def yX11_spoilt : MethodName := ⟨RX11, "spoilt", "(II)I"⟩
abbrev cX11_route : ByteArray := prog_1_method_51_code
def yX11_route : MethodName := ⟨RX11, "route", "(II)I"⟩
abbrev cX11_dark : ByteArray := prog_1_method_52_code
def yX11_dark : MethodName := ⟨RX11, "dark", "(II)I"⟩
abbrev cX11_detour : ByteArray := prog_1_method_53_code
def yX11_detour : MethodName := ⟨RX11, "detour", "(II)I"⟩
abbrev cX11_fog : ByteArray := prog_1_method_54_code
def yX11_fog : MethodName := ⟨RX11, "fog", "(IIII)I"⟩
abbrev cX11_likely : ByteArray := prog_1_method_55_code
def yX11_likely : MethodName := ⟨RX11, "likely", "(II)I"⟩
abbrev cX11_can : ByteArray := prog_1_method_56_code
def yX11_can : MethodName := ⟨RX11, "can", "(II)I"⟩
abbrev cX11_lead : ByteArray := prog_1_method_57_code
def yX11_lead : MethodName := ⟨RX11, "lead", "(III)I"⟩
abbrev cX11_marks : ByteArray := prog_1_method_58_code
def yX11_marks : MethodName := ⟨RX11, "marks", "(II)I"⟩
abbrev cX11_drawn : ByteArray := prog_1_method_59_code
def yX11_drawn : MethodName := ⟨RX11, "drawn", "(IIII)I"⟩
abbrev cX11_luck : ByteArray := prog_1_method_60_code
def yX11_luck : MethodName := ⟨RX11, "luck", "(IIII)I"⟩
abbrev cX11_count : ByteArray := prog_1_method_61_code
def yX11_count : MethodName := ⟨RX11, "count", "(I)I"⟩
abbrev cX11_image : ByteArray := prog_1_method_62_code
def yX11_image : MethodName := ⟨RX11, "image", "(I)I"⟩
abbrev cX11_back : ByteArray := prog_1_method_63_code
def yX11_back : MethodName := ⟨RX11, "back", "(I)I"⟩
abbrev cX11_row : ByteArray := prog_1_method_64_code
def yX11_row : MethodName := ⟨RX11, "row", "(III)I"⟩
abbrev cX11_write : ByteArray := prog_1_method_65_code
def yX11_write : MethodName := ⟨RX11, "write", "(IIJ)I"⟩
abbrev cX11_paste : ByteArray := prog_1_method_66_code
def yX11_paste : MethodName := ⟨RX11, "paste", "(IIIII)I"⟩
abbrev cX11_isWind : ByteArray := prog_1_method_67_code
def yX11_isWind : MethodName := ⟨RX11, "isWind", "(I)Z"⟩
abbrev cX11_isMark : ByteArray := prog_1_method_68_code
def yX11_isMark : MethodName := ⟨RX11, "isMark", "(I)Z"⟩
abbrev cX11_isSlot : ByteArray := prog_1_method_69_code
def yX11_isSlot : MethodName := ⟨RX11, "isSlot", "(I)Z"⟩
abbrev cX11_isFogLength : ByteArray := prog_1_method_70_code
def yX11_isFogLength : MethodName := ⟨RX11, "isFogLength", "(I)Z"⟩
abbrev cX11_isDraw : ByteArray := prog_1_method_71_code
def yX11_isDraw : MethodName := ⟨RX11, "isDraw", "(II)Z"⟩
abbrev cX11_lowest : ByteArray := prog_1_method_72_code
def yX11_lowest : MethodName := ⟨RX11, "lowest", "(I)I"⟩
abbrev cX11_arePlaces : ByteArray := prog_1_method_73_code
def yX11_arePlaces : MethodName := ⟨RX11, "arePlaces", "(II)Z"⟩
abbrev cX11_stand : ByteArray := prog_1_method_74_code
def yX11_stand : MethodName := ⟨RX11, "stand", "(I)Z"⟩
abbrev cX11_refuseWalk : ByteArray := prog_1_method_75_code
def yX11_refuseWalk : MethodName := ⟨RX11, "refuseWalk", "(II)I"⟩
abbrev cX11_walkRow : ByteArray := prog_1_method_76_code
def yX11_walkRow : MethodName := ⟨RX11, "walkRow", "(I)V"⟩
abbrev cX11_stepsUntil : ByteArray := prog_1_method_77_code
def yX11_stepsUntil : MethodName := ⟨RX11, "stepsUntil", "(IZ)I"⟩
abbrev cX11_seek : ByteArray := prog_1_method_78_code
def yX11_seek : MethodName := ⟨RX11, "seek", "(III)Z"⟩
abbrev cX11_lookSame : ByteArray := prog_1_method_79_code
def yX11_lookSame : MethodName := ⟨RX11, "lookSame", "(II)Z"⟩
abbrev cX11_leastBare : ByteArray := prog_1_method_80_code
def yX11_leastBare : MethodName := ⟨RX11, "leastBare", "(II)I"⟩
abbrev cX11_reach : ByteArray := prog_1_method_81_code
def yX11_reach : MethodName := ⟨RX11, "reach", "(II)I"⟩
abbrev cX11_stepsToMeet : ByteArray := prog_1_method_82_code
def yX11_stepsToMeet : MethodName := ⟨RX11, "stepsToMeet", "(II)I"⟩
abbrev cX11_refuseReading : ByteArray := prog_1_method_83_code
def yX11_refuseReading : MethodName := ⟨RX11, "refuseReading", "(I)I"⟩
abbrev cX11_fitting : ByteArray := prog_1_method_84_code
def yX11_fitting : MethodName := ⟨RX11, "fitting", "(II)I"⟩
abbrev cX11_bestWind : ByteArray := prog_1_method_85_code
def yX11_bestWind : MethodName := ⟨RX11, "bestWind", "(I)I"⟩
abbrev cX11_worstLeft : ByteArray := prog_1_method_86_code
def yX11_worstLeft : MethodName := ⟨RX11, "worstLeft", "(I)I"⟩
abbrev cX11_drawWalk : ByteArray := prog_1_method_87_code
def yX11_drawWalk : MethodName := ⟨RX11, "drawWalk", "(II)I"⟩
def RX12 : String := "LostWoodModel"
def TX12 : u_T := fun k => match k with
  | 0 => ("LostWoodModel", "thrown", "I", false)
  | 1 => ("LostWoodModel", "world", "[I", true)
  | 2 => ("LostWoodModel", "images", "[I", true)
  | 3 => ("LostWoodModel", "hasImage", "[Z", true)
  | 4 => ("LostWoodModel", "tape", "[B", true)
  | 5 => ("LostWoodModel", "taped", "I", false)
  | 6 => ("LostWoodModel", "five", "[I", true)
  | 7 => ("LostWoodModel", "size", "I", false)
  | 8 => ("LostWoodModel", "at", "I", false)
  | 9 => ("LostWoodModel", "from", "I", false)
  | 10 => ("LostWoodModel", "token", "I", false)
  | 11 => ("LostWoodModel", "value", "I", false)
  | 12 => ("LostWoodModel", "faultKind", "I", false)
  | 13 => ("LostWoodModel", "faultPlace", "I", false)
  | 14 => ("LostWoodModel", "fresh", "[I", true)
  | 15 => ("LostWoodModel", "where", "I", false)
  | 16 => ("LostWoodModel", "thinks", "I", false)
  | 17 => ("LostWoodModel", "lies", "I", false)
  | 18 => ("LostWoodModel", "firstKnows", "I", false)
  | 19 => ("LostWoodModel", "firstLost", "I", false)
  | 20 => ("LostWoodModel", "mostDoubt", "I", false)
  | 21 => ("LostWoodModel", "queue", "[I", true)
  | 22 => ("LostWoodModel", "farOf", "[I", true)
  | 23 => ("LostWoodModel", "cameBy", "[I", true)
  | 24 => ("LostWoodModel", "cameFrom", "[I", true)
  | 25 => ("LostWoodModel", "queued", "I", false)
  | 26 => ("LostWoodModel", "depth", "[I", true)
  | 27 => ("LostWoodModel", "kind", "[I", true)
  | 28 => ("LostWoodModel", "kindThen", "[I", true)
  | 29 => ("LostWoodModel", "twos", "[I", true)
  | 30 => ("LostWoodModel", "twoFar", "[I", true)
  | 31 => ("LostWoodModel", "twoBy", "[I", true)
  | 32 => ("LostWoodModel", "twoFrom", "[I", true)
  | 33 => ("LostWoodModel", "setQueue", "[I", true)
  | 34 => ("LostWoodModel", "setFar", "[I", true)
  | 35 => ("LostWoodModel", "setBy", "[I", true)
  | 36 => ("LostWoodModel", "setFrom", "[I", true)
  | 37 => ("LostWoodModel", "setQueued", "I", false)
  | 38 => ("LostWoodModel", "meetSteps", "I", false)
  | 39 => ("LostWoodModel", "meetSet", "I", false)
  | 40 => ("LostWoodModel", "order", "[I", true)
  | 41 => ("LostWoodModel", "bestOrder", "[I", true)
  | 42 => ("LostWoodModel", "kept", "[I", true)
  | 43 => ("LostWoodModel", "courseMost", "I", false)
  | 44 => ("LostWoodModel", "courseLeast", "I", false)
  | 45 => ("LostWoodModel", "cost", "[I", true)
  | 46 => ("LostWoodModel", "rows", "[I", true)
  | 47 => ("LostWoodModel", "rowsThen", "[I", true)
  | 48 => ("LostWoodModel", "knewOften", "I", false)
  | 49 => ("LostWoodModel", "many", "[I", true)
  | 50 => ("LostWoodModel", "width", "[I", true)
  | 51 => ("LostWoodModel", "numbers", "[J", true)
  | _ => ("LostWoodModel", "moving", "[J", true)
def tyX12 : Nat → FieldType := fun k => match k with
  | 0 => .int
  | 1 => .array .int
  | 2 => .array .int
  | 3 => .array .boolean
  | 4 => .array .byte
  | 5 => .int
  | 6 => .array .int
  | 7 => .int
  | 8 => .int
  | 9 => .int
  | 10 => .int
  | 11 => .int
  | 12 => .int
  | 13 => .int
  | 14 => .array .int
  | 15 => .int
  | 16 => .int
  | 17 => .int
  | 18 => .int
  | 19 => .int
  | 20 => .int
  | 21 => .array .int
  | 22 => .array .int
  | 23 => .array .int
  | 24 => .array .int
  | 25 => .int
  | 26 => .array .int
  | 27 => .array .int
  | 28 => .array .int
  | 29 => .array .int
  | 30 => .array .int
  | 31 => .array .int
  | 32 => .array .int
  | 33 => .array .int
  | 34 => .array .int
  | 35 => .array .int
  | 36 => .array .int
  | 37 => .int
  | 38 => .int
  | 39 => .int
  | 40 => .array .int
  | 41 => .array .int
  | 42 => .array .int
  | 43 => .int
  | 44 => .int
  | 45 => .array .int
  | 46 => .array .int
  | 47 => .array .int
  | 48 => .int
  | 49 => .array .int
  | 50 => .array .int
  | 51 => .array .long
  | _ => .array .long
abbrev wsX120 : List Cond := u_ws RX12 TX12 53
theorem nmX12 : ∀ a, a < 53 → ∀ b, b < 53 → a ≠ b → (TX12 a).2.1 ≠ (TX12 b).2.1 := by decide +kernel
theorem tyX12_ok : ∀ k, k < 53 → parseFieldDescriptor (TX12 k).2.2.1 = some (tyX12 k) := by decide +kernel
abbrev cX12_init : ByteArray := prog_14_method_1_code
def yX12_init : MethodName := ⟨RX12, "<init>", "()V"⟩
abbrev cX12_in : ByteArray := prog_14_method_3_code
def yX12_in : MethodName := ⟨RX12, "in", "(JJJ)Z"⟩
abbrev cX12_bits : ByteArray := prog_14_method_4_code
def yX12_bits : MethodName := ⟨RX12, "bits", "(I)I"⟩
abbrev cX12_bit : ByteArray := prog_14_method_5_code
def yX12_bit : MethodName := ⟨RX12, "bit", "(II)I"⟩
abbrev cX12_image : ByteArray := prog_14_method_6_code
def yX12_image : MethodName := ⟨RX12, "image", "(I)I"⟩
abbrev cX12_back : ByteArray := prog_14_method_7_code
def yX12_back : MethodName := ⟨RX12, "back", "(I)I"⟩
abbrev cX12_isWood : ByteArray := prog_14_method_8_code
def yX12_isWood : MethodName := ⟨RX12, "isWood", "()Z"⟩
abbrev cX12_isPlace : ByteArray := prog_14_method_9_code
def yX12_isPlace : MethodName := ⟨RX12, "isPlace", "(J)Z"⟩
abbrev cX12_areTwo : ByteArray := prog_14_method_10_code
def yX12_areTwo : MethodName := ⟨RX12, "areTwo", "(II)Z"⟩
abbrev cX12_isWind : ByteArray := prog_14_method_11_code
def yX12_isWind : MethodName := ⟨RX12, "isWind", "(J)Z"⟩
abbrev cX12_isPupil : ByteArray := prog_14_method_12_code
def yX12_isPupil : MethodName := ⟨RX12, "isPupil", "(I)Z"⟩
abbrev cX12_allPlaces : ByteArray := prog_14_method_13_code
def yX12_allPlaces : MethodName := ⟨RX12, "allPlaces", "()I"⟩
abbrev cX12_isSet : ByteArray := prog_14_method_14_code
def yX12_isSet : MethodName := ⟨RX12, "isSet", "(I)Z"⟩
abbrev cX12_leadsTo : ByteArray := prog_14_method_15_code
def yX12_leadsTo : MethodName := ⟨RX12, "leadsTo", "(II)I"⟩
abbrev cX12_markOf : ByteArray := prog_14_method_16_code
def yX12_markOf : MethodName := ⟨RX12, "markOf", "(I)I"⟩
abbrev cX12_whereOf : ByteArray := prog_14_method_17_code
def yX12_whereOf : MethodName := ⟨RX12, "whereOf", "(I)I"⟩
abbrev cX12_thinksOf : ByteArray := prog_14_method_18_code
def yX12_thinksOf : MethodName := ⟨RX12, "thinksOf", "(I)I"⟩
abbrev cX12_liesOf : ByteArray := prog_14_method_19_code
def yX12_liesOf : MethodName := ⟨RX12, "liesOf", "(I)I"⟩
abbrev cX12_feed : ByteArray := prog_14_method_20_code
def yX12_feed : MethodName := ⟨RX12, "feed", "(IIIII)I"⟩
abbrev cX12_end : ByteArray := prog_14_method_21_code
def yX12_end : MethodName := ⟨RX12, "end", "(I)I"⟩
abbrev cX12_see : ByteArray := prog_14_method_22_code
def yX12_see : MethodName := ⟨RX12, "see", "(I)I"⟩
abbrev cX12_advance : ByteArray := prog_14_method_23_code
def yX12_advance : MethodName := ⟨RX12, "advance", "()V"⟩
abbrev cX12_good : ByteArray := prog_14_method_24_code
def yX12_good : MethodName := ⟨RX12, "good", "()Z"⟩
abbrev cX12_errs : ByteArray := prog_14_method_25_code
def yX12_errs : MethodName := ⟨RX12, "errs", "(I)V"⟩
abbrev cX12_is : ByteArray := prog_14_method_26_code
def yX12_is : MethodName := ⟨RX12, "is", "(Ljava/lang/String;)Z"⟩
abbrev cX12_takes : ByteArray := prog_14_method_27_code
def yX12_takes : MethodName := ⟨RX12, "takes", "(Ljava/lang/String;)Z"⟩
abbrev cX12_needs : ByteArray := prog_14_method_28_code
def yX12_needs : MethodName := ⟨RX12, "needs", "(Ljava/lang/String;)V"⟩
abbrev cX12_number : ByteArray := prog_14_method_29_code
def yX12_number : MethodName := ⟨RX12, "number", "(II)I"⟩
abbrev cX12_told : ByteArray := prog_14_method_30_code
def yX12_told : MethodName := ⟨RX12, "told", "(Ljava/lang/String;II)I"⟩
abbrev cX12_fault : ByteArray := prog_14_method_31_code
def yX12_fault : MethodName := ⟨RX12, "fault", "(I)I"⟩
abbrev cX12_freshPlace : ByteArray := prog_14_method_32_code
def yX12_freshPlace : MethodName := ⟨RX12, "freshPlace", "()I"⟩
abbrev cX12_freshWind : ByteArray := prog_14_method_33_code
def yX12_freshWind : MethodName := ⟨RX12, "freshWind", "()I"⟩
abbrev cX12_readFirst : ByteArray := prog_14_method_34_code
def yX12_readFirst : MethodName := ⟨RX12, "readFirst", "()V"⟩
abbrev cX12_readWay : ByteArray := prog_14_method_35_code
def yX12_readWay : MethodName := ⟨RX12, "readWay", "()V"⟩
abbrev cX12_readMark : ByteArray := prog_14_method_36_code
def yX12_readMark : MethodName := ⟨RX12, "readMark", "()V"⟩
abbrev cX12_readPupil : ByteArray := prog_14_method_37_code
def yX12_readPupil : MethodName := ⟨RX12, "readPupil", "()V"⟩
abbrev cX12_readLesson : ByteArray := prog_14_method_38_code
def yX12_readLesson : MethodName := ⟨RX12, "readLesson", "()V"⟩
abbrev cX12_readNext : ByteArray := prog_14_method_39_code
def yX12_readNext : MethodName := ⟨RX12, "readNext", "()V"⟩
abbrev cX12_readLine : ByteArray := prog_14_method_40_code
def yX12_readLine : MethodName := ⟨RX12, "readLine", "()V"⟩
abbrev cX12_wood : ByteArray := prog_14_method_41_code
def yX12_wood : MethodName := ⟨RX12, "wood", "()I"⟩
abbrev cX12_becomesOf : ByteArray := prog_14_method_42_code
def yX12_becomesOf : MethodName := ⟨RX12, "becomesOf", "(II)I"⟩
abbrev cX12_seenOf : ByteArray := prog_14_method_43_code
def yX12_seenOf : MethodName := ⟨RX12, "seenOf", "(II)I"⟩
abbrev cX12_leads : ByteArray := prog_14_method_44_code
def yX12_leads : MethodName := ⟨RX12, "leads", "(II)I"⟩
abbrev cX12_mark : ByteArray := prog_14_method_45_code
def yX12_mark : MethodName := ⟨RX12, "mark", "(I)I"⟩
abbrev cX12_becomes : ByteArray := prog_14_method_46_code
def yX12_becomes : MethodName := ⟨RX12, "becomes", "(II)I"⟩
abbrev cX12_seen : ByteArray := prog_14_method_47_code
def yX12_seen : MethodName := ⟨RX12, "seen", "(II)I"⟩
abbrev cX12_be : ByteArray := prog_14_method_48_code
def yX12_be : MethodName := ⟨RX12, "be", "(I)V"⟩
abbrev cX12_step : ByteArray := prog_14_method_49_code
def yX12_step : MethodName := ⟨RX12, "step", "(I)V"⟩
abbrev cX12_isKnowing : ByteArray := prog_14_method_50_code
def yX12_isKnowing : MethodName := ⟨RX12, "isKnowing", "()Z"⟩
abbrev cX12_isLost : ByteArray := prog_14_method_51_code
def yX12_isLost : MethodName := ⟨RX12, "isLost", "()Z"⟩
abbrev cX12_where : ByteArray := prog_14_method_52_code
def yX12_where : MethodName := ⟨RX12, "where", "(I)I"⟩
abbrev cX12_thinks : ByteArray := prog_14_method_53_code
def yX12_thinks : MethodName := ⟨RX12, "thinks", "(I)I"⟩
abbrev cX12_pupil : ByteArray := prog_14_method_54_code
def yX12_pupil : MethodName := ⟨RX12, "pupil", "(II)I"⟩
abbrev cX12_goes : ByteArray := prog_14_method_55_code
def yX12_goes : MethodName := ⟨RX12, "goes", "(II)I"⟩
abbrev cX12_most : ByteArray := prog_14_method_56_code
def yX12_most : MethodName := ⟨RX12, "most", "()I"⟩
abbrev cX12_who : ByteArray := prog_14_method_57_code
def yX12_who : MethodName := ⟨RX12, "who", "(I)I"⟩
abbrev cX12_takeBack : ByteArray := prog_14_method_58_code
def yX12_takeBack : MethodName := ⟨RX12, "takeBack", "()V"⟩
abbrev cX12_undo : ByteArray := prog_14_method_59_code
def yX12_undo : MethodName := ⟨RX12, "undo", "()I"⟩
abbrev cX12_anew : ByteArray := prog_14_method_60_code
def yX12_anew : MethodName := ⟨RX12, "anew", "()I"⟩
abbrev cX12_numberAt : ByteArray := prog_14_method_61_code
def yX12_numberAt : MethodName := ⟨RX12, "numberAt", "(II)J"⟩
abbrev cX12_asksWalk : ByteArray := prog_14_method_62_code
def yX12_asksWalk : MethodName := ⟨RX12, "asksWalk", "(II)I"⟩
abbrev cX12_note : ByteArray := prog_14_method_63_code
def yX12_note : MethodName := ⟨RX12, "note", "(I)V"⟩
abbrev cX12_walk : ByteArray := prog_14_method_64_code
def yX12_walk : MethodName := ⟨RX12, "walk", "(II)V"⟩
abbrev cX12_would : ByteArray := prog_14_method_65_code
def yX12_would : MethodName := ⟨RX12, "would", "(II)I"⟩
abbrev cX12_think : ByteArray := prog_14_method_66_code
def yX12_think : MethodName := ⟨RX12, "think", "(II)I"⟩
abbrev cX12_knows : ByteArray := prog_14_method_67_code
def yX12_knows : MethodName := ⟨RX12, "knows", "(II)I"⟩
abbrev cX12_loses : ByteArray := prog_14_method_68_code
def yX12_loses : MethodName := ⟨RX12, "loses", "(II)I"⟩
abbrev cX12_doubts : ByteArray := prog_14_method_69_code
def yX12_doubts : MethodName := ⟨RX12, "doubts", "(II)I"⟩
abbrev cX12_meetPair : ByteArray := prog_14_method_70_code
def yX12_meetPair : MethodName := ⟨RX12, "meetPair", "(IIII)V"⟩
abbrev cX12_goThrough : ByteArray := prog_14_method_71_code
def yX12_goThrough : MethodName := ⟨RX12, "goThrough", "(I)V"⟩
abbrev cX12_findPair : ByteArray := prog_14_method_72_code
def yX12_findPair : MethodName := ⟨RX12, "findPair", "(III)I"⟩
abbrev cX12_farTo : ByteArray := prog_14_method_73_code
def yX12_farTo : MethodName := ⟨RX12, "farTo", "(I)I"⟩
abbrev cX12_windTo : ByteArray := prog_14_method_74_code
def yX12_windTo : MethodName := ⟨RX12, "windTo", "(II)I"⟩
abbrev cX12_blur : ByteArray := prog_14_method_75_code
def yX12_blur : MethodName := ⟨RX12, "blur", "(II)I"⟩
abbrev cX12_blurs : ByteArray := prog_14_method_76_code
def yX12_blurs : MethodName := ⟨RX12, "blurs", "(III)I"⟩
abbrev cX12_stray : ByteArray := prog_14_method_77_code
def yX12_stray : MethodName := ⟨RX12, "stray", "(I)I"⟩
abbrev cX12_strays : ByteArray := prog_14_method_78_code
def yX12_strays : MethodName := ⟨RX12, "strays", "(II)I"⟩
abbrev cX12_home : ByteArray := prog_14_method_79_code
def yX12_home : MethodName := ⟨RX12, "home", "(I)I"⟩
abbrev cX12_homes : ByteArray := prog_14_method_80_code
def yX12_homes : MethodName := ⟨RX12, "homes", "(II)I"⟩
abbrev cX12_states : ByteArray := prog_14_method_81_code
def yX12_states : MethodName := ⟨RX12, "states", "(I)I"⟩
abbrev cX12_depthSplit : ByteArray := prog_14_method_82_code
def yX12_depthSplit : MethodName := ⟨RX12, "depthSplit", "(I)I"⟩
abbrev cX12_fillDepths : ByteArray := prog_14_method_83_code
def yX12_fillDepths : MethodName := ⟨RX12, "fillDepths", "()V"⟩
abbrev cX12_plan : ByteArray := prog_14_method_84_code
def yX12_plan : MethodName := ⟨RX12, "plan", "(I)I"⟩
abbrev cX12_areLike : ByteArray := prog_14_method_85_code
def yX12_areLike : MethodName := ⟨RX12, "areLike", "(I)Z"⟩
abbrev cX12_first : ByteArray := prog_14_method_86_code
def yX12_first : MethodName := ⟨RX12, "first", "(I)I"⟩
abbrev cX12_hardest : ByteArray := prog_14_method_87_code
def yX12_hardest : MethodName := ⟨RX12, "hardest", "()I"⟩
abbrev cX12_sameOn : ByteArray := prog_14_method_88_code
def yX12_sameOn : MethodName := ⟨RX12, "sameOn", "(II)Z"⟩
abbrev cX12_fillKinds : ByteArray := prog_14_method_89_code
def yX12_fillKinds : MethodName := ⟨RX12, "fillKinds", "(I)I"⟩
abbrev cX12_alike : ByteArray := prog_14_method_90_code
def yX12_alike : MethodName := ⟨RX12, "alike", "(II)I"⟩
abbrev cX12_kinds : ByteArray := prog_14_method_91_code
def yX12_kinds : MethodName := ⟨RX12, "kinds", "()I"⟩
abbrev cX12_findTwo : ByteArray := prog_14_method_92_code
def yX12_findTwo : MethodName := ⟨RX12, "findTwo", "(II)I"⟩
abbrev cX12_tells : ByteArray := prog_14_method_93_code
def yX12_tells : MethodName := ⟨RX12, "tells", "(II)I"⟩
abbrev cX12_told_ : ByteArray := prog_14_method_94_code
def yX12_told_ : MethodName := ⟨RX12, "told", "(III)I"⟩
abbrev cX12_baredOf : ByteArray := prog_14_method_95_code
def yX12_baredOf : MethodName := ⟨RX12, "baredOf", "(II)I"⟩
abbrev cX12_bares : ByteArray := prog_14_method_96_code
def yX12_bares : MethodName := ⟨RX12, "bares", "(II)I"⟩
abbrev cX12_bared : ByteArray := prog_14_method_97_code
def yX12_bared : MethodName := ⟨RX12, "bared", "(II)I"⟩
abbrev cX12_findOne : ByteArray := prog_14_method_98_code
def yX12_findOne : MethodName := ⟨RX12, "findOne", "(I)I"⟩
abbrev cX12_gather : ByteArray := prog_14_method_99_code
def yX12_gather : MethodName := ⟨RX12, "gather", "(I)I"⟩
abbrev cX12_gathers : ByteArray := prog_14_method_100_code
def yX12_gathers : MethodName := ⟨RX12, "gathers", "(II)I"⟩
abbrev cX12_roundabout : ByteArray := prog_14_method_101_code
def yX12_roundabout : MethodName := ⟨RX12, "roundabout", "(I)I"⟩
abbrev cX12_onward : ByteArray := prog_14_method_102_code
def yX12_onward : MethodName := ⟨RX12, "onward", "(I)I"⟩
abbrev cX12_findMeet : ByteArray := prog_14_method_103_code
def yX12_findMeet : MethodName := ⟨RX12, "findMeet", "(II)V"⟩
abbrev cX12_meet : ByteArray := prog_14_method_104_code
def yX12_meet : MethodName := ⟨RX12, "meet", "(II)I"⟩
abbrev cX12_met : ByteArray := prog_14_method_105_code
def yX12_met : MethodName := ⟨RX12, "met", "(II)I"⟩
abbrev cX12_asksRead : ByteArray := prog_14_method_106_code
def yX12_asksRead : MethodName := ⟨RX12, "asksRead", "(I)I"⟩
abbrev cX12_readFrom : ByteArray := prog_14_method_107_code
def yX12_readFrom : MethodName := ⟨RX12, "readFrom", "(II)I"⟩
abbrev cX12_read : ByteArray := prog_14_method_108_code
def yX12_read : MethodName := ⟨RX12, "read", "(I)I"⟩
abbrev cX12_began : ByteArray := prog_14_method_109_code
def yX12_began : MethodName := ⟨RX12, "began", "(I)I"⟩
abbrev cX12_worstBy : ByteArray := prog_14_method_110_code
def yX12_worstBy : MethodName := ⟨RX12, "worstBy", "(II)I"⟩
abbrev cX12_askOf : ByteArray := prog_14_method_111_code
def yX12_askOf : MethodName := ⟨RX12, "askOf", "(I)I"⟩
abbrev cX12_ask : ByteArray := prog_14_method_112_code
def yX12_ask : MethodName := ⟨RX12, "ask", "(I)I"⟩
abbrev cX12_leaves : ByteArray := prog_14_method_113_code
def yX12_leaves : MethodName := ⟨RX12, "leaves", "(I)I"⟩
abbrev cX12_apply : ByteArray := prog_14_method_114_code
def yX12_apply : MethodName := ⟨RX12, "apply", "(I)V"⟩
abbrev cX12_doubtBy : ByteArray := prog_14_method_115_code
def yX12_doubtBy : MethodName := ⟨RX12, "doubtBy", "(II)I"⟩
abbrev cX12_nextOrder : ByteArray := prog_14_method_116_code
def yX12_nextOrder : MethodName := ⟨RX12, "nextOrder", "(I)Z"⟩
abbrev cX12_swap : ByteArray := prog_14_method_117_code
def yX12_swap : MethodName := ⟨RX12, "swap", "(II)V"⟩
abbrev cX12_findCourse : ByteArray := prog_14_method_118_code
def yX12_findCourse : MethodName := ⟨RX12, "findCourse", "(II)V"⟩
abbrev cX12_course : ByteArray := prog_14_method_119_code
def yX12_course : MethodName := ⟨RX12, "course", "(II)I"⟩
abbrev cX12_lesson : ByteArray := prog_14_method_120_code
def yX12_lesson : MethodName := ⟨RX12, "lesson", "(III)I"⟩
abbrev cX12_spoilt : ByteArray := prog_14_method_121_code
def yX12_spoilt : MethodName := ⟨RX12, "spoilt", "(II)I"⟩
abbrev cX12_fillCosts : ByteArray := prog_14_method_122_code
def yX12_fillCosts : MethodName := ⟨RX12, "fillCosts", "(II)V"⟩
abbrev cX12_route : ByteArray := prog_14_method_123_code
def yX12_route : MethodName := ⟨RX12, "route", "(II)I"⟩
abbrev cX12_dark : ByteArray := prog_14_method_124_code
def yX12_dark : MethodName := ⟨RX12, "dark", "(II)I"⟩
abbrev cX12_detour : ByteArray := prog_14_method_125_code
def yX12_detour : MethodName := ⟨RX12, "detour", "(II)I"⟩
abbrev cX12_goFog : ByteArray := prog_14_method_126_code
def yX12_goFog : MethodName := ⟨RX12, "goFog", "(II)V"⟩
abbrev cX12_divisor : ByteArray := prog_14_method_127_code
def yX12_divisor : MethodName := ⟨RX12, "divisor", "(II)I"⟩
abbrev cX12_fog : ByteArray := prog_14_method_128_code
def yX12_fog : MethodName := ⟨RX12, "fog", "(IIII)I"⟩
abbrev cX12_likely : ByteArray := prog_14_method_129_code
def yX12_likely : MethodName := ⟨RX12, "likely", "(II)I"⟩
abbrev cX12_can : ByteArray := prog_14_method_130_code
def yX12_can : MethodName := ⟨RX12, "can", "(II)I"⟩
abbrev cX12_lead : ByteArray := prog_14_method_131_code
def yX12_lead : MethodName := ⟨RX12, "lead", "(III)I"⟩
abbrev cX12_marks : ByteArray := prog_14_method_132_code
def yX12_marks : MethodName := ⟨RX12, "marks", "(II)I"⟩
abbrev cX12_goDrawn : ByteArray := prog_14_method_133_code
def yX12_goDrawn : MethodName := ⟨RX12, "goDrawn", "(JII)V"⟩
abbrev cX12_isDrawn : ByteArray := prog_14_method_134_code
def yX12_isDrawn : MethodName := ⟨RX12, "isDrawn", "(III)Z"⟩
abbrev cX12_drawn : ByteArray := prog_14_method_135_code
def yX12_drawn : MethodName := ⟨RX12, "drawn", "(IIII)I"⟩
abbrev cX12_luck : ByteArray := prog_14_method_136_code
def yX12_luck : MethodName := ⟨RX12, "luck", "(IIII)I"⟩
abbrev cX12_count : ByteArray := prog_14_method_137_code
def yX12_count : MethodName := ⟨RX12, "count", "(I)I"⟩
abbrev cX12_isSlot : ByteArray := prog_14_method_138_code
def yX12_isSlot : MethodName := ⟨RX12, "isSlot", "(I)Z"⟩
abbrev cX12_cut : ByteArray := prog_14_method_139_code
def yX12_cut : MethodName := ⟨RX12, "cut", "(JI)J"⟩
abbrev cX12_row : ByteArray := prog_14_method_140_code
def yX12_row : MethodName := ⟨RX12, "row", "(III)I"⟩
abbrev cX12_write : ByteArray := prog_14_method_141_code
def yX12_write : MethodName := ⟨RX12, "write", "(IIJ)I"⟩
abbrev cX12_paste : ByteArray := prog_14_method_142_code
def yX12_paste : MethodName := ⟨RX12, "paste", "(IIIII)I"⟩
def RJx145de : String := "java/io/Serializable"
def TJx145de : u_T := fun k => match k with
  | _ => ("", "", "", false)
def tyJx145de : Nat → FieldType := fun k => match k with
  | _ => .int
abbrev wsJx145de0 : List Cond := u_ws RJx145de TJx145de 0
theorem nmJx145de : ∀ a, a < 0 → ∀ b, b < 0 → a ≠ b → (TJx145de a).2.1 ≠ (TJx145de b).2.1 := by decide +kernel
theorem tyJx145de_ok : ∀ k, k < 0 → parseFieldDescriptor (TJx145de k).2.2.1 = some (tyJx145de k) := by decide +kernel
def RJx9f9b0 : String := "java/lang/CharSequence"
def TJx9f9b0 : u_T := fun k => match k with
  | _ => ("", "", "", false)
def tyJx9f9b0 : Nat → FieldType := fun k => match k with
  | _ => .int
abbrev wsJx9f9b00 : List Cond := u_ws RJx9f9b0 TJx9f9b0 0
theorem nmJx9f9b0 : ∀ a, a < 0 → ∀ b, b < 0 → a ≠ b → (TJx9f9b0 a).2.1 ≠ (TJx9f9b0 b).2.1 := by decide +kernel
theorem tyJx9f9b0_ok : ∀ k, k < 0 → parseFieldDescriptor (TJx9f9b0 k).2.2.1 = some (tyJx9f9b0 k) := by decide +kernel
def RJxb160c : String := "java/lang/Comparable"
def TJxb160c : u_T := fun k => match k with
  | _ => ("", "", "", false)
def tyJxb160c : Nat → FieldType := fun k => match k with
  | _ => .int
abbrev wsJxb160c0 : List Cond := u_ws RJxb160c TJxb160c 0
theorem nmJxb160c : ∀ a, a < 0 → ∀ b, b < 0 → a ≠ b → (TJxb160c a).2.1 ≠ (TJxb160c b).2.1 := by decide +kernel
theorem tyJxb160c_ok : ∀ k, k < 0 → parseFieldDescriptor (TJxb160c k).2.2.1 = some (tyJxb160c k) := by decide +kernel
def RJ6 : String := "java/lang/Integer"
def TJ6 : u_T := fun k => match k with
  | _ => ("", "", "", false)
def tyJ6 : Nat → FieldType := fun k => match k with
  | _ => .int
abbrev wsJ60 : List Cond := u_ws RJ6 TJ6 0
theorem nmJ6 : ∀ a, a < 0 → ∀ b, b < 0 → a ≠ b → (TJ6 a).2.1 ≠ (TJ6 b).2.1 := by decide +kernel
theorem tyJ6_ok : ∀ k, k < 0 → parseFieldDescriptor (TJ6 k).2.2.1 = some (tyJ6 k) := by decide +kernel
abbrev cJ6_numberOfTrailingZeros_0f7a4 : ByteArray := prog_15_method_48_code
def yJ6_numberOfTrailingZeros_0f7a4 : MethodName := ⟨RJ6, "numberOfTrailingZeros", "(I)I"⟩
abbrev cJ6_bitCount_0f7a4 : ByteArray := prog_15_method_49_code
def yJ6_bitCount_0f7a4 : MethodName := ⟨RJ6, "bitCount", "(I)I"⟩
def RJ9 : String := "java/lang/Math"
def TJ9 : u_T := fun k => match k with
  | _ => ("", "", "", false)
def tyJ9 : Nat → FieldType := fun k => match k with
  | _ => .int
abbrev wsJ90 : List Cond := u_ws RJ9 TJ9 0
theorem nmJ9 : ∀ a, a < 0 → ∀ b, b < 0 → a ≠ b → (TJ9 a).2.1 ≠ (TJ9 b).2.1 := by decide +kernel
theorem tyJ9_ok : ∀ k, k < 0 → parseFieldDescriptor (TJ9 k).2.2.1 = some (tyJ9 k) := by decide +kernel
abbrev cJ9_max_7cf53 : ByteArray := prog_16_method_65_code
def yJ9_max_7cf53 : MethodName := ⟨RJ9, "max", "(II)I"⟩
abbrev cJ9_min_7cf53 : ByteArray := prog_16_method_69_code
def yJ9_min_7cf53 : MethodName := ⟨RJ9, "min", "(II)I"⟩
def RJ0 : String := "java/lang/String"
def TJ0 : u_T := fun k => match k with
  | _ => ("", "", "", false)
def tyJ0 : Nat → FieldType := fun k => match k with
  | _ => .int
abbrev wsJ00 : List Cond := u_ws RJ0 TJ0 0
theorem nmJ0 : ∀ a, a < 0 → ∀ b, b < 0 → a ≠ b → (TJ0 a).2.1 ≠ (TJ0 b).2.1 := by decide +kernel
theorem tyJ0_ok : ∀ k, k < 0 → parseFieldDescriptor (TJ0 k).2.2.1 = some (tyJ0 k) := by decide +kernel
abbrev cJ0_length_8abf5 : ByteArray := prog_17_method_54_code
def yJ0_length_8abf5 : MethodName := ⟨RJ0, "length", "()I"⟩
abbrev cJ0_charAt_5068e : ByteArray := prog_17_method_56_code
def yJ0_charAt_5068e : MethodName := ⟨RJ0, "charAt", "(I)C"⟩
abbrev cJ0_coder_7d493 : ByteArray := prog_17_method_152_code
def yJ0_coder_7d493 : MethodName := ⟨RJ0, "coder", "()B"⟩
abbrev cJ0_isLatin1_aae02 : ByteArray := prog_17_method_154_code
def yJ0_isLatin1_aae02 : MethodName := ⟨RJ0, "isLatin1", "()Z"⟩
abbrev cJ0_checkIndex_df160 : ByteArray := prog_17_method_155_code
def yJ0_checkIndex_df160 : MethodName := ⟨RJ0, "checkIndex", "(II)V"⟩
def RJ1 : String := "java/lang/StringLatin1"
def TJ1 : u_T := fun k => match k with
  | _ => ("", "", "", false)
def tyJ1 : Nat → FieldType := fun k => match k with
  | _ => .int
abbrev wsJ10 : List Cond := u_ws RJ1 TJ1 0
theorem nmJ1 : ∀ a, a < 0 → ∀ b, b < 0 → a ≠ b → (TJ1 a).2.1 ≠ (TJ1 b).2.1 := by decide +kernel
theorem tyJ1_ok : ∀ k, k < 0 → parseFieldDescriptor (TJ1 k).2.2.1 = some (tyJ1 k) := by decide +kernel
abbrev cJ1_charAt_3b067 : ByteArray := prog_18_method_2_code
def yJ1_charAt_3b067 : MethodName := ⟨RJ1, "charAt", "([BI)C"⟩
def RJ2 : String := "java/lang/StringUTF16"
def TJ2 : u_T := fun k => match k with
  | _ => ("", "", "", false)
def tyJ2 : Nat → FieldType := fun k => match k with
  | _ => .int
abbrev wsJ20 : List Cond := u_ws RJ2 TJ2 0
theorem nmJ2 : ∀ a, a < 0 → ∀ b, b < 0 → a ≠ b → (TJ2 a).2.1 ≠ (TJ2 b).2.1 := by decide +kernel
theorem tyJ2_ok : ∀ k, k < 0 → parseFieldDescriptor (TJ2 k).2.2.1 = some (tyJ2 k) := by decide +kernel
abbrev cJ2_getChar_3b067 : ByteArray := prog_19_method_5_code
def yJ2_getChar_3b067 : MethodName := ⟨RJ2, "getChar", "([BI)C"⟩
abbrev cJ2_length_9d52b : ByteArray := prog_19_method_6_code
def yJ2_length_9d52b : MethodName := ⟨RJ2, "length", "([B)I"⟩
abbrev cJ2_charAt_3b067 : ByteArray := prog_19_method_83_code
def yJ2_charAt_3b067 : MethodName := ⟨RJ2, "charAt", "([BI)C"⟩
abbrev cJ2_checkIndex_2214a : ByteArray := prog_19_method_91_code
def yJ2_checkIndex_2214a : MethodName := ⟨RJ2, "checkIndex", "(I[B)V"⟩
def RJ10 : String := "java/lang/System"
def TJ10 : u_T := fun k => match k with
  | _ => ("", "", "", false)
def tyJ10 : Nat → FieldType := fun k => match k with
  | _ => .int
abbrev wsJ100 : List Cond := u_ws RJ10 TJ10 0
theorem nmJ10 : ∀ a, a < 0 → ∀ b, b < 0 → a ≠ b → (TJ10 a).2.1 ≠ (TJ10 b).2.1 := by decide +kernel
theorem tyJ10_ok : ∀ k, k < 0 → parseFieldDescriptor (TJ10 k).2.2.1 = some (tyJ10 k) := by decide +kernel
def RJxfd54e : String := "java/lang/constant/Constable"
def TJxfd54e : u_T := fun k => match k with
  | _ => ("", "", "", false)
def tyJxfd54e : Nat → FieldType := fun k => match k with
  | _ => .int
abbrev wsJxfd54e0 : List Cond := u_ws RJxfd54e TJxfd54e 0
theorem nmJxfd54e : ∀ a, a < 0 → ∀ b, b < 0 → a ≠ b → (TJxfd54e a).2.1 ≠ (TJxfd54e b).2.1 := by decide +kernel
theorem tyJxfd54e_ok : ∀ k, k < 0 → parseFieldDescriptor (TJxfd54e k).2.2.1 = some (tyJxfd54e k) := by decide +kernel
def RJx3cf43 : String := "java/lang/constant/ConstantDesc"
def TJx3cf43 : u_T := fun k => match k with
  | _ => ("", "", "", false)
def tyJx3cf43 : Nat → FieldType := fun k => match k with
  | _ => .int
abbrev wsJx3cf430 : List Cond := u_ws RJx3cf43 TJx3cf43 0
theorem nmJx3cf43 : ∀ a, a < 0 → ∀ b, b < 0 → a ≠ b → (TJx3cf43 a).2.1 ≠ (TJx3cf43 b).2.1 := by decide +kernel
theorem tyJx3cf43_ok : ∀ k, k < 0 → parseFieldDescriptor (TJx3cf43 k).2.2.1 = some (tyJx3cf43 k) := by decide +kernel
def RJ7 : String := "java/util/Arrays"
def TJ7 : u_T := fun k => match k with
  | _ => ("", "", "", false)
def tyJ7 : Nat → FieldType := fun k => match k with
  | _ => .int
abbrev wsJ70 : List Cond := u_ws RJ7 TJ7 0
theorem nmJ7 : ∀ a, a < 0 → ∀ b, b < 0 → a ≠ b → (TJ7 a).2.1 ≠ (TJ7 b).2.1 := by decide +kernel
theorem tyJ7_ok : ∀ k, k < 0 → parseFieldDescriptor (TJ7 k).2.2.1 = some (tyJ7 k) := by decide +kernel
abbrev cJ7_rangeCheck_23922 : ByteArray := prog_21_method_30_code
def yJ7_rangeCheck_23922 : MethodName := ⟨RJ7, "rangeCheck", "(III)V"⟩
abbrev cJ7_fill_bad5a : ByteArray := prog_21_method_102_code
def yJ7_fill_bad5a : MethodName := ⟨RJ7, "fill", "([JIIJ)V"⟩
abbrev cJ7_fill_53178 : ByteArray := prog_21_method_103_code
def yJ7_fill_53178 : MethodName := ⟨RJ7, "fill", "([II)V"⟩
def RJ3 : String := "jdk/internal/util/Preconditions"
def TJ3 : u_T := fun k => match k with
  | _ => ("", "", "", false)
def tyJ3 : Nat → FieldType := fun k => match k with
  | _ => .int
abbrev wsJ30 : List Cond := u_ws RJ3 TJ3 0
theorem nmJ3 : ∀ a, a < 0 → ∀ b, b < 0 → a ≠ b → (TJ3 a).2.1 ≠ (TJ3 b).2.1 := by decide +kernel
theorem tyJ3_ok : ∀ k, k < 0 → parseFieldDescriptor (TJ3 k).2.2.1 = some (tyJ3 k) := by decide +kernel
abbrev cJ3_checkIndex_8e157 : ByteArray := prog_22_method_11_code
def yJ3_checkIndex_8e157 : MethodName := ⟨RJ3, "checkIndex", "(IILjava/util/function/BiFunction;)I"⟩
def RL : String := "LostWoodLaw"
abbrev cL_law : ByteArray := code
def yL_law : MethodName := ⟨RL, "law", "([I)Z"⟩
abbrev vwCl : List vw_C := [(RX0, TX0, 6), (RX1, TX1, 10), (RX2, TX2, 6), (RX3, TX3, 5), (RX4, TX4, 10), (RX5, TX5, 3), (RX7, TX7, 7), (RX8, TX8, 3), (RX9, TX9, 3), (RX10, TX10, 12), (RX11, TX11, 12), (RX12, TX12, 53)]
def wl : List Cond := lw_tbl.filter goodWord
theorem wl_in : ∀ w ∈ wl, w ∈ lw_tbl := fun w h => (List.mem_filter.mp h).1
theorem tm_p {w : Cond} (h : w ∈ k2_sels lw_privs) (g : goodWord w = true) : w ∈ wl := List.mem_filter.mpr ⟨List.mem_append_left _ h, g⟩
theorem tm_1 {w : Cond} (h : w ∈ tables_1_1) (g : goodWord w = true) : w ∈ wl := List.mem_filter.mpr ⟨List.mem_append_right _ (List.mem_append_left _ h), g⟩
theorem tm_2 {w : Cond} (h : w ∈ tables_1_2) (g : goodWord w = true) : w ∈ wl := List.mem_filter.mpr ⟨List.mem_append_right _ (List.mem_append_right _ (List.mem_append_left _ h)), g⟩
theorem tm_3 {w : Cond} (h : w ∈ tables_1_3) (g : goodWord w = true) : w ∈ wl := List.mem_filter.mpr ⟨List.mem_append_right _ (List.mem_append_right _ (List.mem_append_right _ (List.mem_append_left _ h))), g⟩
theorem tm_4 {w : Cond} (h : w ∈ tables_1_4) (g : goodWord w = true) : w ∈ wl := List.mem_filter.mpr ⟨List.mem_append_right _ (List.mem_append_right _ (List.mem_append_right _ (List.mem_append_right _ (List.mem_append_left _ h)))), g⟩
theorem tm_5 {w : Cond} (h : w ∈ tables_1_5) (g : goodWord w = true) : w ∈ wl := List.mem_filter.mpr ⟨List.mem_append_right _ (List.mem_append_right _ (List.mem_append_right _ (List.mem_append_right _ (List.mem_append_right _ (List.mem_append_left _ h))))), g⟩
theorem tm_6 {w : Cond} (h : w ∈ tables_1_6) (g : goodWord w = true) : w ∈ wl := List.mem_filter.mpr ⟨List.mem_append_right _ (List.mem_append_right _ (List.mem_append_right _ (List.mem_append_right _ (List.mem_append_right _ (List.mem_append_right _ (List.mem_append_left _ h)))))), g⟩
theorem tm_7 {w : Cond} (h : w ∈ tables_1_7) (g : goodWord w = true) : w ∈ wl := List.mem_filter.mpr ⟨List.mem_append_right _ (List.mem_append_right _ (List.mem_append_right _ (List.mem_append_right _ (List.mem_append_right _ (List.mem_append_right _ (List.mem_append_right _ (List.mem_append_left _ h))))))), g⟩
theorem tm_8 {w : Cond} (h : w ∈ tables_1_8) (g : goodWord w = true) : w ∈ wl := List.mem_filter.mpr ⟨List.mem_append_right _ (List.mem_append_right _ (List.mem_append_right _ (List.mem_append_right _ (List.mem_append_right _ (List.mem_append_right _ (List.mem_append_right _ (List.mem_append_right _ (List.mem_append_left _ h)))))))), g⟩
theorem tm_9 {w : Cond} (h : w ∈ tables_1_9) (g : goodWord w = true) : w ∈ wl := List.mem_filter.mpr ⟨List.mem_append_right _ (List.mem_append_right _ (List.mem_append_right _ (List.mem_append_right _ (List.mem_append_right _ (List.mem_append_right _ (List.mem_append_right _ (List.mem_append_right _ (List.mem_append_right _ h)))))))), g⟩
theorem tp_1 {q : MethodName × Nat} (h : q ∈ lw_privs_1) : Cond.selects q.1.cls q.1 q.1 ∈ wl := tm_p (List.mem_map.mpr ⟨q, (List.mem_append_left _ h), rfl⟩) rfl
theorem tp_2 {q : MethodName × Nat} (h : q ∈ lw_privs_2) : Cond.selects q.1.cls q.1 q.1 ∈ wl := tm_p (List.mem_map.mpr ⟨q, (List.mem_append_right _ (List.mem_append_left _ h)), rfl⟩) rfl
theorem tp_3 {q : MethodName × Nat} (h : q ∈ lw_privs_3) : Cond.selects q.1.cls q.1 q.1 ∈ wl := tm_p (List.mem_map.mpr ⟨q, (List.mem_append_right _ (List.mem_append_right _ (List.mem_append_left _ h))), rfl⟩) rfl
theorem tp_4 {q : MethodName × Nat} (h : q ∈ lw_privs_4) : Cond.selects q.1.cls q.1 q.1 ∈ wl := tm_p (List.mem_map.mpr ⟨q, (List.mem_append_right _ (List.mem_append_right _ (List.mem_append_right _ (List.mem_append_left _ h)))), rfl⟩) rfl
theorem tp_5 {q : MethodName × Nat} (h : q ∈ lw_privs_5) : Cond.selects q.1.cls q.1 q.1 ∈ wl := tm_p (List.mem_map.mpr ⟨q, (List.mem_append_right _ (List.mem_append_right _ (List.mem_append_right _ (List.mem_append_right _ (List.mem_append_left _ h))))), rfl⟩) rfl
theorem tp_6 {q : MethodName × Nat} (h : q ∈ lw_privs_6) : Cond.selects q.1.cls q.1 q.1 ∈ wl := tm_p (List.mem_map.mpr ⟨q, (List.mem_append_right _ (List.mem_append_right _ (List.mem_append_right _ (List.mem_append_right _ (List.mem_append_right _ (List.mem_append_left _ h)))))), rfl⟩) rfl
theorem tp_7 {q : MethodName × Nat} (h : q ∈ lw_privs_7) : Cond.selects q.1.cls q.1 q.1 ∈ wl := tm_p (List.mem_map.mpr ⟨q, (List.mem_append_right _ (List.mem_append_right _ (List.mem_append_right _ (List.mem_append_right _ (List.mem_append_right _ (List.mem_append_right _ h)))))), rfl⟩) rfl
end
section
/-! my own kit: uniform words, the environment, contracts that only read, contracts that change -/
abbrev uw (y : MethodName) (c : ByteArray) (n : Nat) (ret : Option FieldType) : List Cond := Cond.code y c n ret :: wl
theorem gd_all : ∀ w ∈ wl, ((w.onTables && w.keeps) = true ∨ ∃ ty, w = .arrayClass ty) := fun w h => good_of_word (List.mem_filter.mp h).2
theorem gd_uw {y : MethodName} {c : ByteArray} {n : Nat} {ret : Option FieldType} (h : Cond.code y c n ret ∈ wl) : GoodIn wl (uw y c n ret) := fun w hw => (List.mem_cons.mp hw).elim (fun e => e ▸ ⟨h, gd_all _ h⟩) (fun h2 => ⟨h2, gd_all _ h2⟩)
abbrev tyL (K : Nat → ClassId) : List (ClassId × FieldType) := [(K 0, .byte), (K 1, .int), (K 2, .long), (K 3, .boolean), (K 4, .object RX10), (K 5, .object RX2)]
def ev_n : List Cond := [.methodLinkNest RX11 11 yX4_init RX11, .methodLinkNest RX4 21 yX10_init RX11, .methodLinkNest RX11 18 yX10_init RX11, .methodLinkNest RX11 25 yX2_init RX11, .methodLinkNest RX11 32 yX9_init RX11, .methodLinkNest RX1 11 yX9_init RX11, .methodLinkNest RX11 60 yX3_init RX11, .methodLinkNest RX11 67 yX0_init RX11, .methodLinkNest RX0 11 yX10_init RX11, .methodLinkNest RX0 20 yX9_init RX11, .methodLinkNest RX11 74 yX8_init RX11, .methodLinkNest RX10 69 yX11_isWind RX11, .methodLinkNest RX5 28 yX11_isSlot RX11, .methodLinkNest RX3 65 yX11_lowest RX11]
def ev (D : va_G) (K : Nat → ClassId) (U : State) : Prop := va_K D vwCl (tyL K) U ∧ (∀ w ∈ ev_n, va_Nw w U) ∧ va_AO RX10 U ∧ va_AO RX2 U
theorem ev_nest {s U : State} (hW : s.WarmedH U.vm) (h : ∀ w ∈ ev_n, va_Nw w s) : ∀ w ∈ ev_n, va_Nw w U := by
  intro w hw
  have h1 := h w hw
  simp only [ev_n, List.mem_cons, List.not_mem_nil, or_false] at hw
  rcases hw with rfl | rfl | rfl | rfl | rfl | rfl | rfl | rfl | rfl | rfl | rfl | rfl | rfl | rfl <;> exact va_Nw.warmM hW h1
theorem ev.warm {D : va_G} {K : Nat → ClassId} {s U : State} (hW : s.WarmedH U.vm) (h : ev D K s) : ev D K U := ⟨va_K.moved hW.alike h.1, ev_nest hW h.2.1, va_AO.moved hW.alike h.2.2.1, va_AO.moved hW.alike h.2.2.2⟩
theorem ev_on : ∀ w ∈ ev_n, w.onTables = true := by
  intro w hw
  simp only [ev_n, List.mem_cons, List.not_mem_nil, or_false] at hw
  rcases hw with rfl | rfl | rfl | rfl | rfl | rfl | rfl | rfl | rfl | rfl | rfl | rfl | rfl | rfl <;> rfl
theorem ev.call {D : va_G} {K : Nat → ClassId} {U : State} {g : JFrame} {mk : MethodId} {a : Array Value} (h : ev D K U) : ev D K (U.calling g mk a) :=
  ⟨va_K.moved (u := U) (U := U.calling g mk a) (Vm.Alike.refl U.vm) h.1, fun w hw => va_Nw.same (ev_on w hw) (u := U) (U := U.calling g mk a) rfl (h.2.1 w hw), va_AO.moved (u := U) (U := U.calling g mk a) (Vm.Alike.refl U.vm) h.2.2.1, va_AO.moved (u := U) (U := U.calling g mk a) (Vm.Alike.refl U.vm) h.2.2.2⟩
/-! words of calls -/
abbrev okD (y : MethodName) (n : Nat) : Prop := y.cls ≠ "java/lang/invoke/MethodHandle" ∧ y.cls ≠ "java/lang/invoke/VarHandle" ∧ (parseMethodDescriptor y.desc).map (fun d => d.parameters.length) = some n
abbrev okC (own : String) (idx : Nat) (y : MethodName) (bytes : ByteArray) (maxL : Nat) (ret : Option FieldType) (n : Nat) : Prop := Cond.methodLink own idx y ∈ wl ∧ Cond.code y bytes maxL ret ∈ wl ∧ Cond.initialized y.cls ∈ wl ∧ okD y n
abbrev okV (own : String) (idx : Nat) (y : MethodName) (bytes : ByteArray) (maxL : Nat) (ret : Option FieldType) (n : Nat) : Prop := okC own idx y bytes maxL ret n ∧ Cond.instanceMethod y ∈ wl ∧ Cond.selects y.cls y y ∈ wl
abbrev okS (own : String) (idx : Nat) (y : MethodName) (bytes : ByteArray) (maxL : Nat) (ret : Option FieldType) (n : Nat) : Prop := okC own idx y bytes maxL ret n ∧ Cond.static y ∈ wl
abbrev okI (own : String) (idx : Nat) (y : MethodName) (bytes : ByteArray) (maxL : Nat) (n : Nat) : Prop := okC own idx y bytes maxL none n ∧ y.name = "<init>" ∧ Cond.instanceMethod y ∈ wl
abbrev okN (own : String) (idx : Nat) (y : MethodName) (host : String) (bytes : ByteArray) (maxL : Nat) (ret : Option FieldType) (n : Nat) : Prop := Cond.methodLinkNest own idx y host ∈ ev_n ∧ Cond.code y bytes maxL ret ∈ wl ∧ Cond.initialized y.cls ∈ wl ∧ okD y n
abbrev okSN (own : String) (idx : Nat) (y : MethodName) (host : String) (bytes : ByteArray) (maxL : Nat) (ret : Option FieldType) (n : Nat) : Prop := okN own idx y host bytes maxL ret n ∧ Cond.static y ∈ wl
abbrev okIN (own : String) (idx : Nat) (y : MethodName) (host : String) (bytes : ByteArray) (maxL : Nat) (n : Nat) : Prop := okN own idx y host bytes maxL none n ∧ y.name = "<init>" ∧ Cond.instanceMethod y ∈ wl
section CB
variable {p : Program} {l : Launch} {e : Env} {R : Room} {s : State} {m : MethodId} {args : Array Value} {below : List Frame} {meth : Method} {c : Code} {cc : ByteArray} {nL : Nat} {own host : String} {idx maxL n mc ms : Nat} {y : MethodName} {bytes : ByteArray} {ret : Option FieldType} {rm : Room}
theorem cb_of (C : CallFix p m c cc nL s args wl own) (k : okC own idx y bytes maxL ret n) (hc : rm.cells = mc) (hs : rm.slots = ms) (hR : rm.frames + 1 ≤ R.frames ∧ 8 + (maxL + 11) + rm.locals ≤ R.locals) : CallB R s args own idx y bytes maxL ret (uw y bytes maxL ret) rm mc ms n :=
  callB_of n C.2.2.2.2 (gd_uw k.2.1) rfl hc hs (C.2.2.2.2 _ k.2.2.1) (C.2.2.2.2 _ k.1) k.2.2.2 hR
theorem cn_of {D : va_G} {K : Nat → ClassId} (C : CallFix p m c cc nL s args wl own) (hE : ev D K s) (k : okN own idx y host bytes maxL ret n) (hc : rm.cells = mc) (hs : rm.slots = ms) (hR : rm.frames + 1 ≤ R.frames ∧ 8 + (maxL + 11) + rm.locals ≤ R.locals) : va_CN R s args own idx y host bytes maxL ret (uw y bytes maxL ret) rm mc ms n :=
  va_cnB n C.2.2.2.2 (gd_uw k.2.1) rfl hc hs (hE.2.1 _ k.1) (C.2.2.2.2 _ k.2.2.1) k.2.2.2 hR
end CB
/-! contracts that only read -/
def ro (post : Int32 → Prop) : Array Value → State → Outcome → State → Prop := fun _ st oc t => ∃ r : Int32, oc = .returned (some (.int r)) ∧ post r ∧ t.heap = st.heap
abbrev nofree : Addr → Prop := fun _ => False
abbrev roP (D : va_G) (K : Nat → ClassId) (av : List Value) (wr : va_W) : Array Value → State → Prop := va_Pc av (fun U => ev D K U ∧ va_P D vwCl wr U.heap)
theorem roP_blind {D : va_G} {K : Nat → ClassId} {av : List Value} {wr : va_W} : FrameBlind (roP D K av wr) := fun _ _ _ _ h => ⟨h.1, h.2.1.call, h.2.2⟩
abbrev Ro (l : Launch) (D : va_G) (K : Nat → ClassId) (y : MethodName) (c : ByteArray) (n : Nat) (ret : Option FieldType) (fr lo : Nat) (av : List Value) (wr : va_W) (post : Int32 → Prop) : Prop :=
  Met l y (uw y c n ret) ({ frames := fr, cells := 0, slots := 0, locals := lo }) (roP D K av wr) (ro post) 0 0 nofree
section RO
variable {p : Program} {l : Launch} {e : Env} {R : Room} {s : State} {m : MethodId} {args : Array Value} {below : List Frame} {meth : Method} {c : Code} {H : Heap} {locs : List Loc} {cells slots : Nat} {Q : State → Prop}
variable {cc : ByteArray} {nL : Nat} {own host : String} {idx maxL n fr lo pc : Nat} {y : MethodName} {bytes : ByteArray} {ret : Option FieldType} {D : va_G} {K : Nat → ClassId} {As rest st0 : List Value} {wr : va_W} {post : Int32 → Prop} {ls : Array Slot} {b : Nat}
theorem ro_of {av : List Value} (hy : plainName y.cls = true) (hlen : (lg_sl av).length ≤ maxL)
    (body : ∀ (p : Program) (e : Env) (s : State) (m : MethodId) (below : List Frame) (meth : Method) (c : Code), CallFix p m c cc maxL s av.toArray wl y.cls → meth.sig.returnType = ret → meth.locks = false → ev D K s → va_P D vwCl wr s.heap → ∀ ls : Array Slot, lv_has ls maxL (lv_args 0 av) →
      W p l e ({ frames := fr, cells := 0, slots := 0, locals := lo }) s m av.toArray below meth c s.heap [] 0 0 (MQ below (ro post) av.toArray s 0 0 nofree) (F0 m 0 ls [])) : Ro l D K y cc maxL ret fr lo av wr post := by
  refine Met.ofW (cc := cc) (maxL := maxL) (ret := ret) hy rfl ?_
  intro p e s m args below meth c s₁ B hml hv
  obtain ⟨rfl, hE, hP⟩ := hv
  have hts := atoms_spec (ws := uw y cc maxL ret) B.pre
  have hown : s.vm.findClass y.cls = some m.cls := findClass_of_methodNamed B.named
  have hl := lv_entry av (n := maxL) hlen
  rw [lg_entry_eq]
  generalize (lg_sl av ++ List.replicate (maxL - (lg_sl av).length) Slot.unset).toArray = ls at hl ⊢
  exact body p e s m below meth c ⟨B.exec, B.bytes, hml, hown, fun w h => hts w (List.mem_cons_of_mem _ h)⟩ B.returns B.notSynchronized hE hP ls hl
theorem ro_ret {v : Int32} (C : CallFix p m c cc nL s args wl own) (hr : meth.sig.returnType = some .int) (hk : meth.locks = false) (hd : decode cc pc = .ok (.ireturn, 1)) (hp : post v) :
    W p l e R s m args below meth c s.heap [] 0 0 (MQ below (ro post) args s 0 0 nofree) (F0 m pc ls [.int v]) :=
  W.iret C.1 C.2.1 hr (fun t ht _ => ⟨v, rfl, hp, ht⟩) (fun q h => absurd h List.not_mem_nil) hd hk
theorem ro_zret {v : Int32} (C : CallFix p m c cc nL s args wl own) (hr : meth.sig.returnType = some .boolean) (hk : meth.locks = false) (hd : decode cc pc = .ok (.ireturn, 1)) (hn : narrow .boolean (.int v) = .int v) (hp : post v) :
    W p l e R s m args below meth c s.heap [] 0 0 (MQ below (ro post) args s 0 0 nofree) (F0 m pc ls [.int v]) :=
  W.zret C.1 C.2.1 hr hn (fun t ht _ => ⟨v, rfl, hp, ht⟩) (fun q h => absurd h List.not_mem_nil) hd hk
theorem ro_use {a : Array Value} (hr : va_Run p l e R s m args below meth c H locs cells slots 0 0 (F0 m pc ls st0) rest (ro post a) nofree)
    (kk : ∀ r : Int32, post r → W p l e R s m args below meth c H locs cells slots Q (F0 m (pc + 3) ls (.int r :: rest))) : W p l e R s m args below meth c H locs cells slots Q (F0 m pc ls st0) := by
  intro T hT X
  obtain ⟨v, st₀, t, T', L, h0, X', hL, e1, e2, ⟨r, hv, hp, hh⟩, st⟩ := hr T hT X
  cases hv
  obtain ⟨t2, a1, b1⟩ := kk r hp T' (by rw [e1, hh, h0]) (Stand.forget X' (fun q h => (hL q h).elim))
  exact ⟨t2, st t2 a1, b1⟩
theorem ro_V (C : CallFix p m c cc nL s args wl own) (hE : ev D K s) (k : okV own idx y bytes maxL ret n) (hM : Ro l D K y bytes maxL ret fr lo (.ref b :: As) wr post) (hP : va_P D vwCl wr H) (q0 ci : Nat) {fs : List Value} {T : u_T} {N : Nat} (he : wr[q0]? = some (b, .inr (ci, fs))) (hcl : vwCl[ci]? = some (y.cls, T, N))
    (hn : As.length = n) (hz : ls.size = nL) (hst : st0 = As.reverse ++ .ref b :: rest) (hW : (rest.map fun v => v.category).sum ≤ 8) (hR : fr + 1 ≤ R.frames ∧ 8 + (maxL + 11) + lo ≤ R.locals) (hf : cells ≤ R.cells ∧ slots ≤ R.slots) (hd : decode cc pc = .ok (.invokevirtual idx, 3))
    (kk : ∀ r : Int32, post r → W p l e R s m args below meth c H locs cells slots Q (F0 m (pc + 3) ls (.int r :: rest))) : W p l e R s m args below meth c H locs cells slots Q (F0 m pc ls st0) :=
  ro_use (va_runV (C := y.cls) (As := As) (rest := rest) C hM ⟨cb_of C k.1 rfl rfl hR, C.2.2.2.2 _ k.2.1, C.2.2.2.2 _ k.2.2⟩ ⟨roP_blind, va_recv hE.1 hP hcl he, fun U hU hWm => ⟨rfl, hE.warm hWm, by rw [hU]; exact hP⟩⟩ rfl hn hz hst (lv_room hW) hd hf) kk
theorem ro_S (C : CallFix p m c cc nL s args wl own) (hE : ev D K s) (k : okS own idx y bytes maxL ret n) (hM : Ro l D K y bytes maxL ret fr lo As wr post) (hP : va_P D vwCl wr H)
    (hn : As.length = n) (hz : ls.size = nL) (hst : st0 = As.reverse ++ rest) (hW : (rest.map fun v => v.category).sum ≤ 8) (hR : fr + 1 ≤ R.frames ∧ 8 + (maxL + 11) + lo ≤ R.locals) (hf : cells ≤ R.cells ∧ slots ≤ R.slots) (hd : decode cc pc = .ok (.invokestatic idx, 3))
    (kk : ∀ r : Int32, post r → W p l e R s m args below meth c H locs cells slots Q (F0 m (pc + 3) ls (.int r :: rest))) : W p l e R s m args below meth c H locs cells slots Q (F0 m pc ls st0) :=
  ro_use (va_runS (As := As) (rest := rest) C hM ⟨cb_of C k.1 rfl rfl hR, C.2.2.2.2 _ k.2⟩ ⟨roP_blind, fun U hU hWm => ⟨rfl, hE.warm hWm, by rw [hU]; exact hP⟩⟩ rfl hn hz hst (lv_room hW) hd hf) kk
theorem ro_SN (C : CallFix p m c cc nL s args wl own) (hE : ev D K s) (k : okSN own idx y host bytes maxL ret n) (hM : Ro l D K y bytes maxL ret fr lo As wr post) (hP : va_P D vwCl wr H)
    (hn : As.length = n) (hz : ls.size = nL) (hst : st0 = As.reverse ++ rest) (hW : (rest.map fun v => v.category).sum ≤ 8) (hR : fr + 1 ≤ R.frames ∧ 8 + (maxL + 11) + lo ≤ R.locals) (hf : cells ≤ R.cells ∧ slots ≤ R.slots) (hd : decode cc pc = .ok (.invokestatic idx, 3))
    (kk : ∀ r : Int32, post r → W p l e R s m args below meth c H locs cells slots Q (F0 m (pc + 3) ls (.int r :: rest))) : W p l e R s m args below meth c H locs cells slots Q (F0 m pc ls st0) :=
  ro_use (va_runSN (host := host) (As := As) (rest := rest) C hM ⟨cn_of C hE k.1 rfl rfl hR, C.2.2.2.2 _ k.2, trivial⟩ ⟨roP_blind, fun U hU hWm => ⟨rfl, hE.warm hWm, by rw [hU]; exact hP⟩⟩ rfl hn hz hst (lv_room hW) hd hf) kk
theorem tc {x y : Int32} (h : x = y) (k : W p l e R s m args below meth c H locs cells slots Q (F0 m pc ls (.int y :: rest))) : W p l e R s m args below meth c H locs cells slots Q (F0 m pc ls (.int x :: rest)) := h ▸ k
theorem tcl {x y : Int64} (h : x = y) (k : W p l e R s m args below meth c H locs cells slots Q (F0 m pc ls (.long y :: rest))) : W p l e R s m args below meth c H locs cells slots Q (F0 m pc ls (.long x :: rest)) := h ▸ k
end RO
/-! contracts that change: the world ws, whose cells and new ones may change -/
abbrev chP (D : va_G) (K : Nat → ClassId) (av : List Value) (sz : Nat) (ws : va_W) : Array Value → State → Prop := va_Pc av (fun U => U.heap.size = sz ∧ ev D K U ∧ va_P D vwCl ws U.heap ∧ va_D (fun _ => True) ws)
theorem chP_blind {D : va_G} {K : Nat → ClassId} {av : List Value} {sz : Nat} {ws : va_W} : FrameBlind (chP D K av sz ws) := fun _ _ _ _ h => ⟨h.1, h.2.1, h.2.2.1.call, h.2.2.2⟩
abbrev chB {S : Type} (D : va_G) (A : Nat → Prop) (w1 : S → va_W) : S → State → Prop := fun u t => va_P D vwCl (w1 u) t.heap ∧ va_D A (w1 u)
/-- void -/
abbrev Cv {S : Type} (l : Launch) (D : va_G) (K : Nat → ClassId) (y : MethodName) (c : ByteArray) (n : Nat) (fr lo mc ms : Nat) (av : List Value) (ws : va_W) (post : S → Prop) (w1 : S → va_W) : Prop :=
  ∀ sz : Nat, Met l y (uw y c n none) ({ frames := fr, cells := mc, slots := ms, locals := lo }) (chP D K av sz ws) (va_Qv post (chB D (va_A ws sz) w1) (va_A ws sz)) mc ms (va_A ws sz)
/-- an int -/
abbrev Ci {S : Type} (l : Launch) (D : va_G) (K : Nat → ClassId) (y : MethodName) (c : ByteArray) (n : Nat) (ret : Option FieldType) (fr lo mc ms : Nat) (av : List Value) (ws : va_W) (post : Int32 → S → Prop) (w1 : S → va_W) : Prop :=
  ∀ sz : Nat, Met l y (uw y c n ret) ({ frames := fr, cells := mc, slots := ms, locals := lo }) (chP D K av sz ws) (va_Qi post (chB D (va_A ws sz) w1) (va_A ws sz)) mc ms (va_A ws sz)
section CH
variable {p : Program} {l : Launch} {e : Env} {R : Room} {s : State} {m : MethodId} {args : Array Value} {below : List Frame} {meth : Method} {c : Code} {H H0 : Heap} {locs : List Loc} {cells slots : Nat} {Q : State → Prop}
variable {cc : ByteArray} {nL : Nat} {own host : String} {idx maxL n fr lo mc ms pc : Nat} {y : MethodName} {bytes : ByteArray} {ret : Option FieldType} {D : va_G} {K : Nat → ClassId} {As rest st0 : List Value} {ws wc wr : va_W} {ls : Array Slot} {b : Nat} {A : Nat → Prop} {S : Type}
theorem ch_of {Qc : Array Value → State → Outcome → State → Prop} {av : List Value} {sz : Nat} (hy : plainName y.cls = true) (hlen : (lg_sl av).length ≤ maxL)
    (body : ∀ (p : Program) (e : Env) (s : State) (m : MethodId) (below : List Frame) (meth : Method) (c : Code), s.heap.size = sz → CallFix p m c cc maxL s av.toArray wl y.cls → meth.sig.returnType = ret → meth.locks = false → meth.name = y.name → ev D K s → va_P D vwCl ws s.heap → va_D (va_A ws sz) ws → (∀ q : Nat, s.heap.size ≤ q → va_A ws sz q) → va_S (va_A ws sz) s.heap s.heap [] → ∀ ls : Array Slot, lv_has ls maxL (lv_args 0 av) →
      W p l e ({ frames := fr, cells := mc, slots := ms, locals := lo }) s m av.toArray below meth c s.heap [] 0 0 (MQ below Qc av.toArray s mc ms (va_A ws sz)) (F0 m 0 ls [])) : Met l y (uw y cc maxL ret) ({ frames := fr, cells := mc, slots := ms, locals := lo }) (chP D K av sz ws) Qc mc ms (va_A ws sz) := by
  refine Met.ofW (cc := cc) (maxL := maxL) (ret := ret) hy rfl ?_
  intro p e s m args below meth c s₁ B hml hv
  obtain ⟨rfl, hsz, hE, hP, hD⟩ := hv
  have hts := atoms_spec (ws := uw y cc maxL ret) B.pre
  have hown : s.vm.findClass y.cls = some m.cls := findClass_of_methodNamed B.named
  have hin : meth.name = y.name := (name_of_methodNamed B.named B.method).1
  have hl := lv_entry av (n := maxL) hlen
  rw [lg_entry_eq]
  generalize (lg_sl av ++ List.replicate (maxL - (lg_sl av).length) Slot.unset).toArray = ls at hl ⊢
  exact body p e s m below meth c hsz ⟨B.exec, B.bytes, hml, hown, fun w h => hts w (List.mem_cons_of_mem _ h)⟩ B.returns B.notSynchronized hin hE hP hD.self (fun q h => Or.inr (by rw [← hsz]; exact h)) va_S.rf ls hl
theorem ch_vret {post : S → Prop} {w1 : S → va_W} (C : CallFix p m c cc nL s args wl own) (hr : meth.sig.returnType = none) (hk : meth.locks = false) (hS : va_S A s.heap H locs) (hd : decode cc pc = .ok (.return_, 1)) (u : S) (hp : post u) (hP : va_P D vwCl (w1 u) H) (hD : va_D A (w1 u)) :
    W p l e R s m args below meth c H locs cells slots (MQ below (va_Qv post (chB D A w1) A) args s cells slots A) (F0 m pc ls []) :=
  W.vret C.1 C.2.1 hr (fun t ht _ => ⟨⟨u, rfl, hp, by rw [ht]; exact hP, hD⟩, hS.F ht⟩) hS.2.2 hd hk
theorem ch_iret {v : Int32} {post : Int32 → S → Prop} {w1 : S → va_W} (C : CallFix p m c cc nL s args wl own) (hr : meth.sig.returnType = some .int) (hk : meth.locks = false) (hS : va_S A s.heap H locs) (hd : decode cc pc = .ok (.ireturn, 1)) (u : S) (hp : post v u) (hP : va_P D vwCl (w1 u) H) (hD : va_D A (w1 u)) :
    W p l e R s m args below meth c H locs cells slots (MQ below (va_Qi post (chB D A w1) A) args s cells slots A) (F0 m pc ls [.int v]) :=
  W.iret C.1 C.2.1 hr (fun t ht _ => ⟨⟨v, u, rfl, hp, by rw [ht]; exact hP, hD⟩, hS.F ht⟩) hS.2.2 hd hk
theorem ch_zret {v : Int32} {post : Int32 → S → Prop} {w1 : S → va_W} (C : CallFix p m c cc nL s args wl own) (hr : meth.sig.returnType = some .boolean) (hk : meth.locks = false) (hS : va_S A s.heap H locs) (hd : decode cc pc = .ok (.ireturn, 1)) (hn : narrow .boolean (.int v) = .int v) (u : S) (hp : post v u) (hP : va_P D vwCl (w1 u) H) (hD : va_D A (w1 u)) :
    W p l e R s m args below meth c H locs cells slots (MQ below (va_Qi post (chB D A w1) A) args s cells slots A) (F0 m pc ls [.int v]) :=
  W.zret C.1 C.2.1 hr hn (fun t ht _ => ⟨⟨v, u, rfl, hp, by rw [ht]; exact hP, hD⟩, hS.F ht⟩) hS.2.2 hd hk
/-- behind a void call: its world joined to the rest -/
theorem ch_usev {post : S → Prop} {w1 : S → va_W} {a : Array Value} (hr : va_Run p l e R s m args below meth c H locs cells slots mc ms (F0 m pc ls st0) rest (va_Qv post (chB D (va_A wc H.size) w1) (va_A wc H.size) a) (va_A wc H.size))
    (hP : va_P D vwCl ws H) (hD : va_D A ws) (hS : va_S A H0 H locs) (hA : ∀ q : Nat, H0.size ≤ q → A q) (isC isR : List Nat) (hC : isC.map (fun i => ws[i]?) = wc.map some) (hR : isR.map (fun i => ws[i]?) = wr.map some) (hn : va_nd isR = true) (hdis : ∀ i ∈ isR, i ∉ isC)
    (kk : ∀ (u : S) (H1 : Heap) (locs1 : List Loc), post u → va_P D vwCl (wr ++ w1 u) H1 → va_D A (wr ++ w1 u) → va_S A H0 H1 locs1 → W p l e R s m args below meth c H1 locs1 (cells + mc) (slots + ms) Q (F0 m (pc + 3) ls rest)) : W p l e R s m args below meth c H locs cells slots Q (F0 m pc ls st0) := by
  have hFc := va_free (wc := wc) hD hS hA isC hC
  refine va_callv hr hS (fun q _ h => hFc q h) hFc (fun u t H1 locs1 ht _ hw hB _ hk1 hS1 => ?_)
  obtain ⟨hP1, hD1⟩ := hB
  rw [ht] at hP1
  obtain ⟨hP2, hD2⟩ := va_join (wr := wr) (w1 := w1 u) hP hD isC isR hC hR hn hdis hk1 hFc hP1 hD1
  exact kk u H1 locs1 hw hP2 hD2 hS1
theorem ch_usei {post : Int32 → S → Prop} {w1 : S → va_W} {a : Array Value} (hr : va_Run p l e R s m args below meth c H locs cells slots mc ms (F0 m pc ls st0) rest (va_Qi post (chB D (va_A wc H.size) w1) (va_A wc H.size) a) (va_A wc H.size))
    (hP : va_P D vwCl ws H) (hD : va_D A ws) (hS : va_S A H0 H locs) (hA : ∀ q : Nat, H0.size ≤ q → A q) (isC isR : List Nat) (hC : isC.map (fun i => ws[i]?) = wc.map some) (hR : isR.map (fun i => ws[i]?) = wr.map some) (hn : va_nd isR = true) (hdis : ∀ i ∈ isR, i ∉ isC)
    (kk : ∀ (r : Int32) (u : S) (H1 : Heap) (locs1 : List Loc), post r u → va_P D vwCl (wr ++ w1 u) H1 → va_D A (wr ++ w1 u) → va_S A H0 H1 locs1 → W p l e R s m args below meth c H1 locs1 (cells + mc) (slots + ms) Q (F0 m (pc + 3) ls (.int r :: rest))) : W p l e R s m args below meth c H locs cells slots Q (F0 m pc ls st0) := by
  have hFc := va_free (wc := wc) hD hS hA isC hC
  refine va_calli hr hS (fun q _ h => hFc q h) hFc (fun r u t H1 locs1 ht _ hw hB _ hk1 hS1 => ?_)
  obtain ⟨hP1, hD1⟩ := hB
  rw [ht] at hP1
  obtain ⟨hP2, hD2⟩ := va_join (wr := wr) (w1 := w1 u) hP hD isC isR hC hR hn hdis hk1 hFc hP1 hD1
  exact kk r u H1 locs1 hw hP2 hD2 hS1
theorem ch_pre {av : List Value} (hE : ev D K s) (hP : va_P D vwCl wc H) (hD : va_D A wc) : ∀ U : State, U.heap = H → s.WarmedH U.vm → chP D K av H.size wc av.toArray U := fun U hU hWm => ⟨rfl, by rw [hU], hE.warm hWm, by rw [hU]; exact hP, hD.weaken (fun _ _ _ _ => trivial)⟩
/-- calls, void: by invokevirtual, invokespecial <init> (plain and of a nest mate) -/
theorem cv_V {post : S → Prop} {w1 : S → va_W} (C : CallFix p m c cc nL s args wl own) (hE : ev D K s) (k : okV own idx y bytes maxL none n) (hM : Cv l D K y bytes maxL fr lo mc ms (.ref b :: As) wc post w1)
    (hP : va_P D vwCl ws H) (hD : va_D A ws) (hS : va_S A H0 H locs) (hA : ∀ q : Nat, H0.size ≤ q → A q) (isC isR : List Nat) (hsP : isC.filterMap (fun i => ws[i]?) = wc) (hC : isC.map (fun i => ws[i]?) = wc.map some) (hR : isR.map (fun i => ws[i]?) = wr.map some) (hnC : va_nd isC = true) (hnR : va_nd isR = true) (hdis : ∀ i ∈ isR, i ∉ isC)
    (q0 ci : Nat) {fs : List Value} {T : u_T} {N : Nat} (he : wc[q0]? = some (b, .inr (ci, fs))) (hcl : vwCl[ci]? = some (y.cls, T, N))
    (hn : As.length = n) (hz : ls.size = nL) (hst : st0 = As.reverse ++ .ref b :: rest) (hW : (rest.map fun v => v.category).sum ≤ 8) (hRm : fr + 1 ≤ R.frames ∧ 8 + (maxL + 11) + lo ≤ R.locals) (hf : cells + mc ≤ R.cells ∧ slots + ms ≤ R.slots) (hd : decode cc pc = .ok (.invokevirtual idx, 3))
    (kk : ∀ (u : S) (H1 : Heap) (locs1 : List Loc), post u → va_P D vwCl (wr ++ w1 u) H1 → va_D A (wr ++ w1 u) → va_S A H0 H1 locs1 → W p l e R s m args below meth c H1 locs1 (cells + mc) (slots + ms) Q (F0 m (pc + 3) ls rest)) : W p l e R s m args below meth c H locs cells slots Q (F0 m pc ls st0) :=
  ch_usev (va_runV (C := y.cls) (As := As) (rest := rest) C (hM H.size) ⟨cb_of C k.1 rfl rfl hRm, C.2.2.2.2 _ k.2.1, C.2.2.2.2 _ k.2.2⟩ ⟨chP_blind, va_recv hE.1 (hP.sub isC hsP) hcl he, ch_pre hE (hP.sub isC hsP) (hD.sub isC hnC hC)⟩ rfl hn hz hst (lv_room hW) hd hf) hP hD hS hA isC isR hC hR hnR hdis kk
theorem ci_V {post : Int32 → S → Prop} {w1 : S → va_W} (C : CallFix p m c cc nL s args wl own) (hE : ev D K s) (k : okV own idx y bytes maxL ret n) (hM : Ci l D K y bytes maxL ret fr lo mc ms (.ref b :: As) wc post w1)
    (hP : va_P D vwCl ws H) (hD : va_D A ws) (hS : va_S A H0 H locs) (hA : ∀ q : Nat, H0.size ≤ q → A q) (isC isR : List Nat) (hsP : isC.filterMap (fun i => ws[i]?) = wc) (hC : isC.map (fun i => ws[i]?) = wc.map some) (hR : isR.map (fun i => ws[i]?) = wr.map some) (hnC : va_nd isC = true) (hnR : va_nd isR = true) (hdis : ∀ i ∈ isR, i ∉ isC)
    (q0 ci : Nat) {fs : List Value} {T : u_T} {N : Nat} (he : wc[q0]? = some (b, .inr (ci, fs))) (hcl : vwCl[ci]? = some (y.cls, T, N))
    (hn : As.length = n) (hz : ls.size = nL) (hst : st0 = As.reverse ++ .ref b :: rest) (hW : (rest.map fun v => v.category).sum ≤ 8) (hRm : fr + 1 ≤ R.frames ∧ 8 + (maxL + 11) + lo ≤ R.locals) (hf : cells + mc ≤ R.cells ∧ slots + ms ≤ R.slots) (hd : decode cc pc = .ok (.invokevirtual idx, 3))
    (kk : ∀ (r : Int32) (u : S) (H1 : Heap) (locs1 : List Loc), post r u → va_P D vwCl (wr ++ w1 u) H1 → va_D A (wr ++ w1 u) → va_S A H0 H1 locs1 → W p l e R s m args below meth c H1 locs1 (cells + mc) (slots + ms) Q (F0 m (pc + 3) ls (.int r :: rest))) : W p l e R s m args below meth c H locs cells slots Q (F0 m pc ls st0) :=
  ch_usei (va_runV (C := y.cls) (As := As) (rest := rest) C (hM H.size) ⟨cb_of C k.1 rfl rfl hRm, C.2.2.2.2 _ k.2.1, C.2.2.2.2 _ k.2.2⟩ ⟨chP_blind, va_recv hE.1 (hP.sub isC hsP) hcl he, ch_pre hE (hP.sub isC hsP) (hD.sub isC hnC hC)⟩ rfl hn hz hst (lv_room hW) hd hf) hP hD hS hA isC isR hC hR hnR hdis kk
theorem cv_S {post : S → Prop} {w1 : S → va_W} (C : CallFix p m c cc nL s args wl own) (hE : ev D K s) (k : okS own idx y bytes maxL none n) (hM : Cv l D K y bytes maxL fr lo mc ms As wc post w1)
    (hP : va_P D vwCl ws H) (hD : va_D A ws) (hS : va_S A H0 H locs) (hA : ∀ q : Nat, H0.size ≤ q → A q) (isC isR : List Nat) (hsP : isC.filterMap (fun i => ws[i]?) = wc) (hC : isC.map (fun i => ws[i]?) = wc.map some) (hR : isR.map (fun i => ws[i]?) = wr.map some) (hnC : va_nd isC = true) (hnR : va_nd isR = true) (hdis : ∀ i ∈ isR, i ∉ isC)
    (hn : As.length = n) (hz : ls.size = nL) (hst : st0 = As.reverse ++ rest) (hW : (rest.map fun v => v.category).sum ≤ 8) (hRm : fr + 1 ≤ R.frames ∧ 8 + (maxL + 11) + lo ≤ R.locals) (hf : cells + mc ≤ R.cells ∧ slots + ms ≤ R.slots) (hd : decode cc pc = .ok (.invokestatic idx, 3))
    (kk : ∀ (u : S) (H1 : Heap) (locs1 : List Loc), post u → va_P D vwCl (wr ++ w1 u) H1 → va_D A (wr ++ w1 u) → va_S A H0 H1 locs1 → W p l e R s m args below meth c H1 locs1 (cells + mc) (slots + ms) Q (F0 m (pc + 3) ls rest)) : W p l e R s m args below meth c H locs cells slots Q (F0 m pc ls st0) :=
  ch_usev (va_runS (As := As) (rest := rest) C (hM H.size) ⟨cb_of C k.1 rfl rfl hRm, C.2.2.2.2 _ k.2⟩ ⟨chP_blind, ch_pre hE (hP.sub isC hsP) (hD.sub isC hnC hC)⟩ rfl hn hz hst (lv_room hW) hd hf) hP hD hS hA isC isR hC hR hnR hdis kk
theorem cv_I {post : S → Prop} {w1 : S → va_W} (C : CallFix p m c cc nL s args wl own) (hE : ev D K s) (k : okI own idx y bytes maxL n) (hM : Cv l D K y bytes maxL fr lo mc ms (.ref b :: As) wc post w1)
    (hP : va_P D vwCl ws H) (hD : va_D A ws) (hS : va_S A H0 H locs) (hA : ∀ q : Nat, H0.size ≤ q → A q) (isC isR : List Nat) (hsP : isC.filterMap (fun i => ws[i]?) = wc) (hC : isC.map (fun i => ws[i]?) = wc.map some) (hR : isR.map (fun i => ws[i]?) = wr.map some) (hnC : va_nd isC = true) (hnR : va_nd isR = true) (hdis : ∀ i ∈ isR, i ∉ isC)
    (hn : As.length = n) (hz : ls.size = nL) (hst : st0 = As.reverse ++ .ref b :: rest) (hW : (rest.map fun v => v.category).sum ≤ 8) (hRm : fr + 1 ≤ R.frames ∧ 8 + (maxL + 11) + lo ≤ R.locals) (hf : cells + mc ≤ R.cells ∧ slots + ms ≤ R.slots) (hd : decode cc pc = .ok (.invokespecial idx, 3))
    (kk : ∀ (u : S) (H1 : Heap) (locs1 : List Loc), post u → va_P D vwCl (wr ++ w1 u) H1 → va_D A (wr ++ w1 u) → va_S A H0 H1 locs1 → W p l e R s m args below meth c H1 locs1 (cells + mc) (slots + ms) Q (F0 m (pc + 3) ls rest)) : W p l e R s m args below meth c H locs cells slots Q (F0 m pc ls st0) :=
  ch_usev (va_runI (As := As) (rest := rest) C (hM H.size) ⟨cb_of C k.1 rfl rfl hRm, k.2.1, C.2.2.2.2 _ k.2.2⟩ ⟨chP_blind, ch_pre hE (hP.sub isC hsP) (hD.sub isC hnC hC)⟩ rfl hn hz hst (lv_room hW) hd hf) hP hD hS hA isC isR hC hR hnR hdis kk
theorem cv_IN {post : S → Prop} {w1 : S → va_W} (C : CallFix p m c cc nL s args wl own) (hE : ev D K s) (k : okIN own idx y host bytes maxL n) (hM : Cv l D K y bytes maxL fr lo mc ms (.ref b :: As) wc post w1)
    (hP : va_P D vwCl ws H) (hD : va_D A ws) (hS : va_S A H0 H locs) (hA : ∀ q : Nat, H0.size ≤ q → A q) (isC isR : List Nat) (hsP : isC.filterMap (fun i => ws[i]?) = wc) (hC : isC.map (fun i => ws[i]?) = wc.map some) (hR : isR.map (fun i => ws[i]?) = wr.map some) (hnC : va_nd isC = true) (hnR : va_nd isR = true) (hdis : ∀ i ∈ isR, i ∉ isC)
    (hn : As.length = n) (hz : ls.size = nL) (hst : st0 = As.reverse ++ .ref b :: rest) (hW : (rest.map fun v => v.category).sum ≤ 8) (hRm : fr + 1 ≤ R.frames ∧ 8 + (maxL + 11) + lo ≤ R.locals) (hf : cells + mc ≤ R.cells ∧ slots + ms ≤ R.slots) (hd : decode cc pc = .ok (.invokespecial idx, 3))
    (kk : ∀ (u : S) (H1 : Heap) (locs1 : List Loc), post u → va_P D vwCl (wr ++ w1 u) H1 → va_D A (wr ++ w1 u) → va_S A H0 H1 locs1 → W p l e R s m args below meth c H1 locs1 (cells + mc) (slots + ms) Q (F0 m (pc + 3) ls rest)) : W p l e R s m args below meth c H locs cells slots Q (F0 m pc ls st0) :=
  ch_usev (va_runIN (host := host) (As := As) (rest := rest) C (hM H.size) ⟨cn_of C hE k.1 rfl rfl hRm, k.2.1, C.2.2.2.2 _ k.2.2⟩ ⟨chP_blind, ch_pre hE (hP.sub isC hsP) (hD.sub isC hnC hC)⟩ rfl hn hz hst (lv_room hW) hd hf) hP hD hS hA isC isR hC hR hnR hdis kk
/-- a new array of numbers: its class is the one that the environment names -/
theorem na (C : CallFix p m c cc nL s args wl own) (hE : ev D K s) {atype : ArrayType} {ty : FieldType} (hty : newarray.typeOf atype = ty) (harr : Cond.arrayClass ty ∈ wl) (t0 : Nat) {cK : ClassId} (ht : (tyL K)[t0]? = some (cK, ty)) (hRA : ∀ (U : State) (cA : ClassId), va_RA U cA ty → U.vm.findClass ("[" ++ ty.toString) = some cA)
    (hP : va_P D vwCl ws H) (hD : va_D A ws) (hS : va_S A H0 H locs) (hA : ∀ q : Nat, H0.size ≤ q → A q)
    {i : Int32} {N' : Nat} {a0 : vp_A} (ha : ∀ cA : ClassId, vp_cell cA a0 = arrV cA N' (fun _ => defaultValue ty)) (hn : ¬ i < 0) (hN : i.toNatClampNeg = N') (hbytes : N' * componentBytes ty ≤ 536870912) (hcells : cells + 1 ≤ R.cells) (hslots : slots + N' ≤ R.slots) (hdg : decode cc pc = .ok (.newarray atype, 2))
    (kk : ∀ (q : Nat) (H1 : Heap), va_P D vwCl (ws ++ [(q, .inl (cK, a0))]) H1 → va_D A (ws ++ [(q, .inl (cK, a0))]) → va_S A H0 H1 locs →
      W p l e R s m args below meth c H1 locs (cells + 1) (slots + N') Q (F0 m (pc + 2) ls (.ref q :: rest))) : W p l e R s m args below meth c H locs cells slots Q (F0 m pc ls (.int i :: rest)) := by
  refine va_newa C.1 C.2.1 (by rw [hty]; exact C.2.2.2.2 _ harr) hty hE.1 hP hD hS hA ha hn hN hbytes hcells hslots hdg (fun q cA H1 hK1 hP1 hD1 hS1 => ?_)
  have h1 := hRA s cK (hE.1.2 t0 _ ht).2
  have h2 := hRA s cA (hK1.2 (tyL K).length (cA, ty) (by rw [List.getElem?_append_right (Nat.le_refl _), Nat.sub_self]; rfl)).2
  obtain rfl : cK = cA := Option.some.inj (h1.symm.trans h2)
  exact kk q H1 hP1 hD1 hS1
/-- a new array of references -/
theorem nq (C : CallFix p m c cc nL s args wl own) (hE : ev D K s) {Cn : String} {index : Nat} (hcl : Cond.classLink own index Cn ∈ wl) (hover : va_AO Cn s) (t0 : Nat) {cK : ClassId} (ht : (tyL K)[t0]? = some (cK, .object Cn))
    (hP : va_P D vwCl ws H) (hD : va_D A ws) (hS : va_S A H0 H locs) (hA : ∀ q : Nat, H0.size ≤ q → A q)
    {i : Int32} {N' : Nat} (hn : ¬ i < 0) (hN : i.toNatClampNeg = N') (hbytes : N' * 4 ≤ 536870912) (hcells : cells + 1 ≤ R.cells) (hslots : slots + N' ≤ R.slots) (hdg : decode cc pc = .ok (.anewarray index, 3))
    (kk : ∀ (q : Nat) (H1 : Heap), va_P D vwCl (ws ++ [(q, .inl (cK, N', .inr (.inr (.inr (.inr (fun _ => none))))))]) H1 → va_D A (ws ++ [(q, .inl (cK, N', .inr (.inr (.inr (.inr (fun _ => none))))))]) → va_S A H0 H1 locs →
      W p l e R s m args below meth c H1 locs (cells + 1) (slots + N') Q (F0 m (pc + 3) ls (.ref q :: rest))) : W p l e R s m args below meth c H locs cells slots Q (F0 m pc ls (.int i :: rest)) := by
  refine va_newq C.1 C.2.1 C.2.2.2.1 (C.2.2.2.2 _ hcl) hover hE.1 hP hD hS hA hn hN hbytes hcells hslots hdg (fun q cA H1 hK1 hP1 hD1 hS1 => ?_)
  obtain ⟨_, _, _, _, _, h1⟩ := (hE.1.2 t0 _ ht).2
  obtain ⟨_, _, _, _, _, h2⟩ := (hK1.2 (tyL K).length (cA, .object Cn) (by rw [List.getElem?_append_right (Nat.le_refl _), Nat.sub_self]; rfl)).2
  obtain rfl : cK = cA := Option.some.inj (h1.symm.trans h2)
  exact kk q H1 hP1 hD1 hS1
end CH
/-! numbers -/
theorem no1 {x : Int32} {n : Nat} (h : x < 0) : ¬ vp_in x n := fun q => q (Or.inl h)
theorem no2 {x k : Int32} {n : Nat} (hk : k.toInt = n) (h : k ≤ x) : ¬ vp_in x n := by
  rw [vp_in_iff]; rw [Int32.le_iff_toInt_le] at h; omega
theorem yes2 {x k : Int32} {n : Nat} (hk : k.toInt = n) (h0 : ¬ x < 0) (h : ¬ k ≤ x) : vp_in x n := by
  rw [vp_in_iff]; rw [Int32.le_iff_toInt_le] at h; rw [Int32.lt_iff_toInt_lt, Int32.toInt_zero] at h0; omega
theorem nlt0 {x : Int32} (h : ¬ x < 0) : 0 ≤ x := by
  rw [Int32.lt_iff_toInt_lt] at h; rw [Int32.le_iff_toInt_le]; omega
theorem nlt1 {x : Int32} (h : ¬ x < 1) : 0 < x := by
  rw [Int32.lt_iff_toInt_lt] at h; rw [Int32.lt_iff_toInt_lt]; have h1 : (1 : Int32).toInt = 1 := by decide
  have h0 : (0 : Int32).toInt = 0 := by decide
  omega
theorem no3 {x k : Int32} {n : Nat} (hk : k.toInt = n) (h : ¬ x < k) : ¬ vp_in x n := by
  rw [vp_in_iff]; rw [Int32.lt_iff_toInt_lt] at h; omega
theorem yes3 {x k : Int32} {n : Nat} (hk : k.toInt = n) (h0 : ¬ x < 0) (h : x < k) : vp_in x n := by
  rw [vp_in_iff]; rw [Int32.lt_iff_toInt_lt] at h; rw [Int32.lt_iff_toInt_lt, Int32.toInt_zero] at h0; omega
end
section
set_option maxRecDepth 20000 in
theorem w_0 : Cond.constant RX11 375 (2000000000) ∈ wl := tm_5 (List.mem_of_getElem? (i := 200) rfl) rfl
set_option maxRecDepth 20000 in
theorem w_1 : Cond.constant RJ6 265 (1431655765) ∈ wl := tm_3 (List.mem_of_getElem? (i := 180) rfl) rfl
set_option maxRecDepth 20000 in
theorem w_2 : Cond.constant RJ6 266 (858993459) ∈ wl := tm_3 (List.mem_of_getElem? (i := 181) rfl) rfl
set_option maxRecDepth 20000 in
theorem w_3 : Cond.constant RJ6 267 (252645135) ∈ wl := tm_3 (List.mem_of_getElem? (i := 182) rfl) rfl
set_option maxRecDepth 20000 in
theorem w_4 : Cond.laysFinal "LostWood$Wood" "LostWood$Wood" "ways" "[I" ∈ wl := tm_1 (List.mem_of_getElem? (i := 71) rfl) rfl
set_option maxRecDepth 20000 in
theorem w_5 : Cond.laysFinal "LostWood$Wood" "LostWood$Wood" "signs" "[I" ∈ wl := tm_1 (List.mem_of_getElem? (i := 73) rfl) rfl
set_option maxRecDepth 20000 in
theorem w_6 : Cond.laysFinal "LostWood$Wood" "LostWood$Wood" "starts" "[I" ∈ wl := tm_1 (List.mem_of_getElem? (i := 75) rfl) rfl
set_option maxRecDepth 20000 in
theorem w_7 : Cond.laysFinal "LostWood$Wood" "LostWood$Wood" "turns" "[I" ∈ wl := tm_1 (List.mem_of_getElem? (i := 77) rfl) rfl
set_option maxRecDepth 20000 in
theorem w_8 : Cond.laysFinal "LostWood$Wood" "LostWood$Wood" "thoughts" "[I" ∈ wl := tm_1 (List.mem_of_getElem? (i := 79) rfl) rfl
set_option maxRecDepth 20000 in
theorem w_9 : Cond.laysFinal "LostWood$Wood" "LostWood$Wood" "lessonKinds" "[I" ∈ wl := tm_1 (List.mem_of_getElem? (i := 81) rfl) rfl
set_option maxRecDepth 20000 in
theorem w_10 : Cond.laysFinal "LostWood$Wood" "LostWood$Wood" "lessonNumbers" "[I" ∈ wl := tm_1 (List.mem_of_getElem? (i := 83) rfl) rfl
set_option maxRecDepth 20000 in
theorem w_11 : Cond.laysFinal "LostWood$Wood" "LostWood$Wood" "lessonWinds" "[I" ∈ wl := tm_1 (List.mem_of_getElem? (i := 85) rfl) rfl
set_option maxRecDepth 20000 in
theorem w_12 : Cond.lays "LostWood$Wood" "LostWood$Wood" "places" "I" ∈ wl := tm_1 (List.mem_of_getElem? (i := 87) rfl) rfl
set_option maxRecDepth 20000 in
theorem w_13 : Cond.lays "LostWood$Wood" "LostWood$Wood" "pupils" "I" ∈ wl := tm_1 (List.mem_of_getElem? (i := 89) rfl) rfl
set_option maxRecDepth 20000 in
theorem w_14 : Cond.lays "LostWood$Wood" "LostWood$Wood" "lessons" "I" ∈ wl := tm_1 (List.mem_of_getElem? (i := 91) rfl) rfl
set_option maxRecDepth 20000 in
theorem w_15 : Cond.lays "LostWood$Wood" "LostWood$Wood" "lines" "I" ∈ wl := tm_1 (List.mem_of_getElem? (i := 93) rfl) rfl
set_option maxRecDepth 20000 in
theorem w_16 : Cond.fieldLink RX10 42 "LostWood$Wood" "places" "I" ∈ wl := tm_1 (List.mem_of_getElem? (i := 56) rfl) rfl
set_option maxRecDepth 20000 in
theorem w_17 : Cond.fieldLink RX10 46 "LostWood$Wood" "pupils" "I" ∈ wl := tm_1 (List.mem_of_getElem? (i := 61) rfl) rfl
set_option maxRecDepth 20000 in
theorem w_18 : Cond.fieldLink RX10 52 "LostWood$Wood" "lines" "I" ∈ wl := tm_1 (List.mem_of_getElem? (i := 68) rfl) rfl
set_option maxRecDepth 20000 in
theorem w_19 : Cond.code yX10_all cX10_all 1 (some .int) ∈ wl := tm_3 (List.mem_of_getElem? (i := 133) rfl) rfl
set_option maxRecDepth 20000 in
theorem w_20 : Cond.initialized RX10 ∈ wl := tm_1 (List.mem_of_getElem? (i := 3) rfl) rfl
set_option maxRecDepth 20000 in
theorem w_21 : Cond.methodLink RX10 61 yX10_all ∈ wl := tm_3 (List.mem_of_getElem? (i := 130) rfl) rfl
set_option maxRecDepth 20000 in
theorem w_22 : Cond.instanceMethod yX10_all ∈ wl := tm_3 (List.mem_of_getElem? (i := 131) rfl) rfl
set_option maxRecDepth 20000 in
theorem w_23 : Cond.selects RX10 yX10_all yX10_all ∈ wl := tm_3 (List.mem_of_getElem? (i := 132) rfl) rfl
set_option maxRecDepth 20000 in
theorem w_24 : Cond.code yX10_showing cX10_showing 5 (some .int) ∈ wl := tm_3 (List.mem_of_getElem? (i := 148) rfl) rfl
set_option maxRecDepth 20000 in
theorem w_25 : Cond.methodLink RX10 76 yX10_showing ∈ wl := tm_5 (List.mem_of_getElem? (i := 2) rfl) rfl
set_option maxRecDepth 20000 in
theorem w_26 : Cond.instanceMethod yX10_showing ∈ wl := tm_3 (List.mem_of_getElem? (i := 146) rfl) rfl
set_option maxRecDepth 20000 in
theorem w_27 : Cond.selects RX10 yX10_showing yX10_showing ∈ wl := tm_3 (List.mem_of_getElem? (i := 147) rfl) rfl
set_option maxRecDepth 20000 in
theorem w_28 : Cond.code yX11_isSlot cX11_isSlot 1 (some .boolean) ∈ wl := tm_4 (List.mem_of_getElem? (i := 2) rfl) rfl
set_option maxRecDepth 20000 in
theorem w_29 : Cond.initialized RX11 ∈ wl := tm_1 (List.mem_of_getElem? (i := 1) rfl) rfl
set_option maxRecDepth 20000 in
theorem w_30 : Cond.static yX11_isSlot ∈ wl := tm_4 (List.mem_of_getElem? (i := 1) rfl) rfl
set_option maxRecDepth 20000 in
theorem w_31 : Cond.laysFinal "LostWood$Rows" "LostWood$Rows" "numbers" "[J" ∈ wl := tm_1 (List.mem_of_getElem? (i := 201) rfl) rfl
set_option maxRecDepth 20000 in
theorem w_32 : Cond.laysFinal "LostWood$Rows" "LostWood$Rows" "widths" "[I" ∈ wl := tm_1 (List.mem_of_getElem? (i := 203) rfl) rfl
set_option maxRecDepth 20000 in
theorem w_33 : Cond.laysFinal "LostWood$Rows" "LostWood$Rows" "sizes" "[I" ∈ wl := tm_1 (List.mem_of_getElem? (i := 205) rfl) rfl
set_option maxRecDepth 20000 in
theorem w_34 : Cond.fieldLink RX5 19 "LostWood$Rows" "sizes" "[I" ∈ wl := tm_1 (List.mem_of_getElem? (i := 200) rfl) rfl
set_option maxRecDepth 20000 in
theorem w_35 : Cond.code yX5_has cX5_has 2 (some .boolean) ∈ wl := tm_4 (List.mem_of_getElem? (i := 6) rfl) rfl
set_option maxRecDepth 20000 in
theorem w_36 : Cond.initialized RX5 ∈ wl := tm_1 (List.mem_of_getElem? (i := 6) rfl) rfl
set_option maxRecDepth 20000 in
theorem w_37 : Cond.methodLink RX5 35 yX5_has ∈ wl := tm_4 (List.mem_of_getElem? (i := 12) rfl) rfl
set_option maxRecDepth 20000 in
theorem w_38 : Cond.instanceMethod yX5_has ∈ wl := tm_4 (List.mem_of_getElem? (i := 4) rfl) rfl
set_option maxRecDepth 20000 in
theorem w_39 : Cond.selects RX5 yX5_has yX5_has ∈ wl := tm_4 (List.mem_of_getElem? (i := 5) rfl) rfl
set_option maxRecDepth 20000 in
theorem w_40 : Cond.laysFinal "LostWood" "LostWood" "reader" "LLostWood$Reader;" ∈ wl := tm_2 (List.mem_of_getElem? (i := 123) rfl) rfl
set_option maxRecDepth 20000 in
theorem w_41 : Cond.laysFinal "LostWood" "LostWood" "here" "LLostWood$Wood;" ∈ wl := tm_2 (List.mem_of_getElem? (i := 125) rfl) rfl
set_option maxRecDepth 20000 in
theorem w_42 : Cond.laysFinal "LostWood" "LostWood" "party" "LLostWood$Party;" ∈ wl := tm_2 (List.mem_of_getElem? (i := 127) rfl) rfl
set_option maxRecDepth 20000 in
theorem w_43 : Cond.laysFinal "LostWood" "LostWood" "walker" "LLostWood$Walker;" ∈ wl := tm_2 (List.mem_of_getElem? (i := 129) rfl) rfl
set_option maxRecDepth 20000 in
theorem w_44 : Cond.laysFinal "LostWood" "LostWood" "rows" "LLostWood$Rows;" ∈ wl := tm_2 (List.mem_of_getElem? (i := 131) rfl) rfl
set_option maxRecDepth 20000 in
theorem w_45 : Cond.laysFinal "LostWood" "LostWood" "minds" "LLostWood$Minds;" ∈ wl := tm_2 (List.mem_of_getElem? (i := 133) rfl) rfl
set_option maxRecDepth 20000 in
theorem w_46 : Cond.laysFinal "LostWood" "LostWood" "sets" "LLostWood$Sets;" ∈ wl := tm_2 (List.mem_of_getElem? (i := 135) rfl) rfl
set_option maxRecDepth 20000 in
theorem w_47 : Cond.laysFinal "LostWood" "LostWood" "plans" "LLostWood$Plans;" ∈ wl := tm_2 (List.mem_of_getElem? (i := 137) rfl) rfl
set_option maxRecDepth 20000 in
theorem w_48 : Cond.laysFinal "LostWood" "LostWood" "courses" "LLostWood$Courses;" ∈ wl := tm_2 (List.mem_of_getElem? (i := 139) rfl) rfl
set_option maxRecDepth 20000 in
theorem w_49 : Cond.laysFinal "LostWood" "LostWood" "travel" "LLostWood$Travel;" ∈ wl := tm_2 (List.mem_of_getElem? (i := 141) rfl) rfl
set_option maxRecDepth 20000 in
theorem w_50 : Cond.laysFinal "LostWood" "LostWood" "imageWoods" "[LLostWood$Wood;" ∈ wl := tm_2 (List.mem_of_getElem? (i := 143) rfl) rfl
set_option maxRecDepth 20000 in
theorem w_51 : Cond.laysFinal "LostWood" "LostWood" "imageParties" "[LLostWood$Party;" ∈ wl := tm_2 (List.mem_of_getElem? (i := 145) rfl) rfl
set_option maxRecDepth 20000 in
theorem w_52 : Cond.fieldLink RX11 19 "LostWood" "here" "LLostWood$Wood;" ∈ wl := tm_2 (List.mem_of_getElem? (i := 112) rfl) rfl
set_option maxRecDepth 20000 in
theorem w_53 : Cond.code yX10_hasPlace cX10_hasPlace 2 (some .boolean) ∈ wl := tm_3 (List.mem_of_getElem? (i := 48) rfl) rfl
set_option maxRecDepth 20000 in
theorem w_54 : Cond.methodLink RX11 126 yX10_hasPlace ∈ wl := tm_3 (List.mem_of_getElem? (i := 108) rfl) rfl
set_option maxRecDepth 20000 in
theorem w_55 : Cond.instanceMethod yX10_hasPlace ∈ wl := tm_3 (List.mem_of_getElem? (i := 46) rfl) rfl
set_option maxRecDepth 20000 in
theorem w_56 : Cond.selects RX10 yX10_hasPlace yX10_hasPlace ∈ wl := tm_3 (List.mem_of_getElem? (i := 47) rfl) rfl
set_option maxRecDepth 20000 in
theorem w_57 : Cond.code yX10_hasPupil cX10_hasPupil 2 (some .boolean) ∈ wl := tm_3 (List.mem_of_getElem? (i := 160) rfl) rfl
set_option maxRecDepth 20000 in
theorem w_58 : Cond.methodLink RX11 334 yX10_hasPupil ∈ wl := tm_3 (List.mem_of_getElem? (i := 157) rfl) rfl
set_option maxRecDepth 20000 in
theorem w_59 : Cond.instanceMethod yX10_hasPupil ∈ wl := tm_3 (List.mem_of_getElem? (i := 158) rfl) rfl
set_option maxRecDepth 20000 in
theorem w_60 : Cond.selects RX10 yX10_hasPupil yX10_hasPupil ∈ wl := tm_3 (List.mem_of_getElem? (i := 159) rfl) rfl
set_option maxRecDepth 20000 in
theorem w_61 : Cond.methodLink RX11 352 yX11_isSlot ∈ wl := tm_4 (List.mem_of_getElem? (i := 0) rfl) rfl
set_option maxRecDepth 20000 in
theorem w_62 : Cond.code yX11_stand cX11_stand 2 (some .boolean) ∈ wl := tm_3 (List.mem_of_getElem? (i := 156) rfl) rfl
set_option maxRecDepth 20000 in
theorem w_63 : Cond.methodLink RX11 152 yX11_stand ∈ wl := tm_3 (List.mem_of_getElem? (i := 153) rfl) rfl
set_option maxRecDepth 20000 in
theorem w_64 : Cond.instanceMethod yX11_stand ∈ wl := tm_3 (List.mem_of_getElem? (i := 155) rfl) rfl
set_option maxRecDepth 20000 in
theorem w_65 : Cond.selects RX11 yX11_stand yX11_stand ∈ wl := tp_1 (q := (yX11_stand, 12)) (List.mem_of_getElem? (i := 15) rfl)
set_option maxRecDepth 20000 in
theorem w_66 : Cond.code yX10_stands cX10_stands 1 (some .boolean) ∈ wl := tm_3 (List.mem_of_getElem? (i := 215) rfl) rfl
set_option maxRecDepth 20000 in
theorem w_67 : Cond.methodLink RX11 185 yX10_stands ∈ wl := tm_3 (List.mem_of_getElem? (i := 212) rfl) rfl
set_option maxRecDepth 20000 in
theorem w_68 : Cond.instanceMethod yX10_stands ∈ wl := tm_3 (List.mem_of_getElem? (i := 213) rfl) rfl
set_option maxRecDepth 20000 in
theorem w_69 : Cond.selects RX10 yX10_stands yX10_stands ∈ wl := tm_3 (List.mem_of_getElem? (i := 214) rfl) rfl
set_option maxRecDepth 20000 in
theorem w_70 : Cond.code yX10_hasSet cX10_hasSet 2 (some .boolean) ∈ wl := tm_3 (List.mem_of_getElem? (i := 129) rfl) rfl
set_option maxRecDepth 20000 in
theorem w_71 : Cond.methodLink RX11 140 yX10_hasSet ∈ wl := tm_3 (List.mem_of_getElem? (i := 126) rfl) rfl
set_option maxRecDepth 20000 in
theorem w_72 : Cond.instanceMethod yX10_hasSet ∈ wl := tm_3 (List.mem_of_getElem? (i := 127) rfl) rfl
set_option maxRecDepth 20000 in
theorem w_73 : Cond.selects RX10 yX10_hasSet yX10_hasSet ∈ wl := tm_3 (List.mem_of_getElem? (i := 128) rfl) rfl
set_option maxRecDepth 20000 in
theorem w_74 : Cond.code yX11_isWind cX11_isWind 1 (some .boolean) ∈ wl := tm_3 (List.mem_of_getElem? (i := 51) rfl) rfl
set_option maxRecDepth 20000 in
theorem w_75 : Cond.methodLink RX11 129 yX11_isWind ∈ wl := tm_3 (List.mem_of_getElem? (i := 109) rfl) rfl
set_option maxRecDepth 20000 in
theorem w_76 : Cond.static yX11_isWind ∈ wl := tm_3 (List.mem_of_getElem? (i := 50) rfl) rfl
set_option maxRecDepth 20000 in
theorem w_77 : Cond.code yX11_refuseWalk cX11_refuseWalk 4 (some .int) ∈ wl := tm_3 (List.mem_of_getElem? (i := 239) rfl) rfl
set_option maxRecDepth 20000 in
theorem w_78 : Cond.methodLink RX11 191 yX11_refuseWalk ∈ wl := tm_3 (List.mem_of_getElem? (i := 236) rfl) rfl
set_option maxRecDepth 20000 in
theorem w_79 : Cond.instanceMethod yX11_refuseWalk ∈ wl := tm_3 (List.mem_of_getElem? (i := 238) rfl) rfl
set_option maxRecDepth 20000 in
theorem w_80 : Cond.selects RX11 yX11_refuseWalk yX11_refuseWalk ∈ wl := tp_2 (q := (yX11_refuseWalk, 12)) (List.mem_of_getElem? (i := 0) rfl)
set_option maxRecDepth 20000 in
theorem w_81 : Cond.code yX11_seek cX11_seek 4 (some .boolean) ∈ wl := tm_4 (List.mem_of_getElem? (i := 55) rfl) rfl
set_option maxRecDepth 20000 in
theorem w_82 : Cond.methodLink RX11 212 yX11_seek ∈ wl := tm_4 (List.mem_of_getElem? (i := 52) rfl) rfl
set_option maxRecDepth 20000 in
theorem w_83 : Cond.instanceMethod yX11_seek ∈ wl := tm_4 (List.mem_of_getElem? (i := 54) rfl) rfl
set_option maxRecDepth 20000 in
theorem w_84 : Cond.selects RX11 yX11_seek yX11_seek ∈ wl := tp_2 (q := (yX11_seek, 12)) (List.mem_of_getElem? (i := 3) rfl)
set_option maxRecDepth 20000 in
theorem w_85 : Cond.code yX11_arePlaces cX11_arePlaces 3 (some .boolean) ∈ wl := tm_4 (List.mem_of_getElem? (i := 200) rfl) rfl
set_option maxRecDepth 20000 in
theorem w_86 : Cond.methodLink RX11 236 yX11_arePlaces ∈ wl := tm_4 (List.mem_of_getElem? (i := 197) rfl) rfl
set_option maxRecDepth 20000 in
theorem w_87 : Cond.instanceMethod yX11_arePlaces ∈ wl := tm_4 (List.mem_of_getElem? (i := 199) rfl) rfl
set_option maxRecDepth 20000 in
theorem w_88 : Cond.selects RX11 yX11_arePlaces yX11_arePlaces ∈ wl := tp_2 (q := (yX11_arePlaces, 12)) (List.mem_of_getElem? (i := 7) rfl)
set_option maxRecDepth 20000 in
theorem w_89 : Cond.code yX11_refuseReading cX11_refuseReading 3 (some .int) ∈ wl := tm_5 (List.mem_of_getElem? (i := 65) rfl) rfl
set_option maxRecDepth 20000 in
theorem w_90 : Cond.methodLink RX11 269 yX11_refuseReading ∈ wl := tm_5 (List.mem_of_getElem? (i := 62) rfl) rfl
set_option maxRecDepth 20000 in
theorem w_91 : Cond.instanceMethod yX11_refuseReading ∈ wl := tm_5 (List.mem_of_getElem? (i := 64) rfl) rfl
set_option maxRecDepth 20000 in
theorem w_92 : Cond.selects RX11 yX11_refuseReading yX11_refuseReading ∈ wl := tp_2 (q := (yX11_refuseReading, 12)) (List.mem_of_getElem? (i := 12) rfl)
set_option maxRecDepth 20000 in
theorem w_93 : Cond.code yX11_isDraw cX11_isDraw 2 (some .boolean) ∈ wl := tm_5 (List.mem_of_getElem? (i := 199) rfl) rfl
set_option maxRecDepth 20000 in
theorem w_94 : Cond.methodLink RX11 328 yX11_isDraw ∈ wl := tm_5 (List.mem_of_getElem? (i := 197) rfl) rfl
set_option maxRecDepth 20000 in
theorem w_95 : Cond.static yX11_isDraw ∈ wl := tm_5 (List.mem_of_getElem? (i := 198) rfl) rfl
set_option maxRecDepth 20000 in
theorem w_96 : Cond.fieldLink RX11 12 "LostWood" "reader" "LLostWood$Reader;" ∈ wl := tm_2 (List.mem_of_getElem? (i := 111) rfl) rfl
set_option maxRecDepth 20000 in
theorem w_97 : Cond.laysFinal "LostWood$Reader" "LostWood$Reader" "tape" "[B" ∈ wl := tm_1 (List.mem_of_getElem? (i := 112) rfl) rfl
set_option maxRecDepth 20000 in
theorem w_98 : Cond.lays "LostWood$Reader" "LostWood$Reader" "length" "I" ∈ wl := tm_1 (List.mem_of_getElem? (i := 114) rfl) rfl
set_option maxRecDepth 20000 in
theorem w_99 : Cond.lays "LostWood$Reader" "LostWood$Reader" "faultKind" "I" ∈ wl := tm_1 (List.mem_of_getElem? (i := 116) rfl) rfl
set_option maxRecDepth 20000 in
theorem w_100 : Cond.lays "LostWood$Reader" "LostWood$Reader" "faultPlace" "I" ∈ wl := tm_1 (List.mem_of_getElem? (i := 118) rfl) rfl
set_option maxRecDepth 20000 in
theorem w_101 : Cond.laysFinal "LostWood$Reader" "LostWood$Reader" "draft" "LLostWood$Wood;" ∈ wl := tm_1 (List.mem_of_getElem? (i := 120) rfl) rfl
set_option maxRecDepth 20000 in
theorem w_102 : Cond.lays "LostWood$Reader" "LostWood$Reader" "kind" "I" ∈ wl := tm_1 (List.mem_of_getElem? (i := 122) rfl) rfl
set_option maxRecDepth 20000 in
theorem w_103 : Cond.lays "LostWood$Reader" "LostWood$Reader" "from" "I" ∈ wl := tm_1 (List.mem_of_getElem? (i := 124) rfl) rfl
set_option maxRecDepth 20000 in
theorem w_104 : Cond.lays "LostWood$Reader" "LostWood$Reader" "behind" "I" ∈ wl := tm_1 (List.mem_of_getElem? (i := 126) rfl) rfl
set_option maxRecDepth 20000 in
theorem w_105 : Cond.lays "LostWood$Reader" "LostWood$Reader" "number" "I" ∈ wl := tm_1 (List.mem_of_getElem? (i := 128) rfl) rfl
set_option maxRecDepth 20000 in
theorem w_106 : Cond.lays "LostWood$Reader" "LostWood$Reader" "taken" "I" ∈ wl := tm_1 (List.mem_of_getElem? (i := 130) rfl) rfl
set_option maxRecDepth 20000 in
theorem w_107 : Cond.fieldLink RX11 123 "LostWood$Reader" "faultPlace" "I" ∈ wl := tm_1 (List.mem_of_getElem? (i := 104) rfl) rfl
set_option maxRecDepth 20000 in
theorem w_108 : Cond.fieldLink RX11 120 "LostWood$Reader" "faultKind" "I" ∈ wl := tm_1 (List.mem_of_getElem? (i := 102) rfl) rfl
set_option maxRecDepth 20000 in
theorem w_109 : Cond.fieldLink RX11 233 "LostWood$Wood" "places" "I" ∈ wl := tm_1 (List.mem_of_getElem? (i := 60) rfl) rfl
set_option maxRecDepth 20000 in
theorem w_110 : Cond.code yX10_waysElsewhere cX10_waysElsewhere 4 (some .int) ∈ wl := tm_5 (List.mem_of_getElem? (i := 219) rfl) rfl
set_option maxRecDepth 20000 in
theorem w_111 : Cond.methodLink RX11 337 yX10_waysElsewhere ∈ wl := tm_5 (List.mem_of_getElem? (i := 216) rfl) rfl
set_option maxRecDepth 20000 in
theorem w_112 : Cond.instanceMethod yX10_waysElsewhere ∈ wl := tm_5 (List.mem_of_getElem? (i := 217) rfl) rfl
set_option maxRecDepth 20000 in
theorem w_113 : Cond.selects RX10 yX10_waysElsewhere yX10_waysElsewhere ∈ wl := tm_5 (List.mem_of_getElem? (i := 218) rfl) rfl
set_option maxRecDepth 20000 in
theorem w_114 : Cond.code yX10_marked cX10_marked 1 (some .int) ∈ wl := tm_5 (List.mem_of_getElem? (i := 1) rfl) rfl
set_option maxRecDepth 20000 in
theorem w_115 : Cond.methodLink RX11 340 yX10_marked ∈ wl := tm_4 (List.mem_of_getElem? (i := 238) rfl) rfl
set_option maxRecDepth 20000 in
theorem w_116 : Cond.instanceMethod yX10_marked ∈ wl := tm_4 (List.mem_of_getElem? (i := 239) rfl) rfl
set_option maxRecDepth 20000 in
theorem w_117 : Cond.selects RX10 yX10_marked yX10_marked ∈ wl := tm_5 (List.mem_of_getElem? (i := 0) rfl) rfl
set_option maxRecDepth 20000 in
theorem w_118 : Cond.code yJ6_bitCount_0f7a4 cJ6_bitCount_0f7a4 1 (some .int) ∈ wl := tm_3 (List.mem_of_getElem? (i := 179) rfl) rfl
set_option maxRecDepth 20000 in
theorem w_119 : Cond.initialized "java/lang/Integer" ∈ wl := tm_1 (List.mem_of_getElem? (i := 21) rfl) rfl
set_option maxRecDepth 20000 in
theorem w_120 : Cond.methodLink RX11 251 yJ6_bitCount_0f7a4 ∈ wl := tm_5 (List.mem_of_getElem? (i := 3) rfl) rfl
set_option maxRecDepth 20000 in
theorem w_121 : Cond.static yJ6_bitCount_0f7a4 ∈ wl := tm_3 (List.mem_of_getElem? (i := 178) rfl) rfl
set_option maxRecDepth 20000 in
theorem w_122 : Cond.fieldLink RX11 343 "LostWood$Wood" "pupils" "I" ∈ wl := tm_1 (List.mem_of_getElem? (i := 63) rfl) rfl
set_option maxRecDepth 20000 in
theorem w_123 : Cond.fieldLink RX11 291 "LostWood$Wood" "lessons" "I" ∈ wl := tm_1 (List.mem_of_getElem? (i := 67) rfl) rfl
set_option maxRecDepth 20000 in
theorem w_124 : Cond.fieldLink RX11 117 "LostWood$Wood" "lines" "I" ∈ wl := tm_1 (List.mem_of_getElem? (i := 69) rfl) rfl
set_option maxRecDepth 20000 in
theorem w_125 : Cond.fieldLink RX11 95 "LostWood$Reader" "length" "I" ∈ wl := tm_1 (List.mem_of_getElem? (i := 100) rfl) rfl
set_option maxRecDepth 20000 in
theorem w_126 : Cond.fieldLink RX11 26 "LostWood" "party" "LLostWood$Party;" ∈ wl := tm_2 (List.mem_of_getElem? (i := 113) rfl) rfl
set_option maxRecDepth 20000 in
theorem w_127 : Cond.laysFinal "LostWood$Party" "LostWood$Party" "at" "[I" ∈ wl := tm_1 (List.mem_of_getElem? (i := 150) rfl) rfl
set_option maxRecDepth 20000 in
theorem w_128 : Cond.laysFinal "LostWood$Party" "LostWood$Party" "thought" "[I" ∈ wl := tm_1 (List.mem_of_getElem? (i := 152) rfl) rfl
set_option maxRecDepth 20000 in
theorem w_129 : Cond.laysFinal "LostWood$Party" "LostWood$Party" "whose" "[I" ∈ wl := tm_1 (List.mem_of_getElem? (i := 154) rfl) rfl
set_option maxRecDepth 20000 in
theorem w_130 : Cond.laysFinal "LostWood$Party" "LostWood$Party" "wasAt" "[I" ∈ wl := tm_1 (List.mem_of_getElem? (i := 156) rfl) rfl
set_option maxRecDepth 20000 in
theorem w_131 : Cond.laysFinal "LostWood$Party" "LostWood$Party" "wasThought" "[I" ∈ wl := tm_1 (List.mem_of_getElem? (i := 158) rfl) rfl
set_option maxRecDepth 20000 in
theorem w_132 : Cond.lays "LostWood$Party" "LostWood$Party" "steps" "I" ∈ wl := tm_1 (List.mem_of_getElem? (i := 160) rfl) rfl
set_option maxRecDepth 20000 in
theorem w_133 : Cond.fieldLink RX11 174 "LostWood$Party" "steps" "I" ∈ wl := tm_1 (List.mem_of_getElem? (i := 149) rfl) rfl
set_option maxRecDepth 20000 in
theorem w_134 : Cond.fieldLink RX11 40 "LostWood" "rows" "LLostWood$Rows;" ∈ wl := tm_2 (List.mem_of_getElem? (i := 115) rfl) rfl
set_option maxRecDepth 20000 in
theorem w_135 : Cond.code yX5_kept cX5_kept 3 (some .int) ∈ wl := tm_5 (List.mem_of_getElem? (i := 224) rfl) rfl
set_option maxRecDepth 20000 in
theorem w_136 : Cond.methodLink RX11 346 yX5_kept ∈ wl := tm_5 (List.mem_of_getElem? (i := 221) rfl) rfl
set_option maxRecDepth 20000 in
theorem w_137 : Cond.instanceMethod yX5_kept ∈ wl := tm_5 (List.mem_of_getElem? (i := 222) rfl) rfl
set_option maxRecDepth 20000 in
theorem w_138 : Cond.selects RX5 yX5_kept yX5_kept ∈ wl := tm_5 (List.mem_of_getElem? (i := 223) rfl) rfl
set_option maxRecDepth 20000 in
theorem w_139 : Cond.fieldLink RX11 79 "LostWood" "imageWoods" "[LLostWood$Wood;" ∈ wl := tm_2 (List.mem_of_getElem? (i := 121) rfl) rfl
set_option maxRecDepth 20000 in
theorem w_140 : Cond.methodLink RX11 358 yX5_has ∈ wl := tm_4 (List.mem_of_getElem? (i := 3) rfl) rfl
set_option maxRecDepth 20000 in
theorem w_141 : Cond.lays "LostWoodModel" "LostWoodModel" "thrown" "I" ∈ wl := tm_6 (List.mem_of_getElem? (i := 100) rfl) rfl
set_option maxRecDepth 20000 in
theorem w_142 : Cond.laysFinal "LostWoodModel" "LostWoodModel" "world" "[I" ∈ wl := tm_6 (List.mem_of_getElem? (i := 102) rfl) rfl
set_option maxRecDepth 20000 in
theorem w_143 : Cond.laysFinal "LostWoodModel" "LostWoodModel" "images" "[I" ∈ wl := tm_6 (List.mem_of_getElem? (i := 104) rfl) rfl
set_option maxRecDepth 20000 in
theorem w_144 : Cond.laysFinal "LostWoodModel" "LostWoodModel" "hasImage" "[Z" ∈ wl := tm_6 (List.mem_of_getElem? (i := 106) rfl) rfl
set_option maxRecDepth 20000 in
theorem w_145 : Cond.laysFinal "LostWoodModel" "LostWoodModel" "tape" "[B" ∈ wl := tm_6 (List.mem_of_getElem? (i := 108) rfl) rfl
set_option maxRecDepth 20000 in
theorem w_146 : Cond.lays "LostWoodModel" "LostWoodModel" "taped" "I" ∈ wl := tm_6 (List.mem_of_getElem? (i := 110) rfl) rfl
set_option maxRecDepth 20000 in
theorem w_147 : Cond.laysFinal "LostWoodModel" "LostWoodModel" "five" "[I" ∈ wl := tm_6 (List.mem_of_getElem? (i := 112) rfl) rfl
set_option maxRecDepth 20000 in
theorem w_148 : Cond.lays "LostWoodModel" "LostWoodModel" "size" "I" ∈ wl := tm_6 (List.mem_of_getElem? (i := 114) rfl) rfl
set_option maxRecDepth 20000 in
theorem w_149 : Cond.lays "LostWoodModel" "LostWoodModel" "at" "I" ∈ wl := tm_6 (List.mem_of_getElem? (i := 116) rfl) rfl
set_option maxRecDepth 20000 in
theorem w_150 : Cond.lays "LostWoodModel" "LostWoodModel" "from" "I" ∈ wl := tm_6 (List.mem_of_getElem? (i := 118) rfl) rfl
set_option maxRecDepth 20000 in
theorem w_151 : Cond.lays "LostWoodModel" "LostWoodModel" "token" "I" ∈ wl := tm_6 (List.mem_of_getElem? (i := 120) rfl) rfl
set_option maxRecDepth 20000 in
theorem w_152 : Cond.lays "LostWoodModel" "LostWoodModel" "value" "I" ∈ wl := tm_6 (List.mem_of_getElem? (i := 122) rfl) rfl
set_option maxRecDepth 20000 in
theorem w_153 : Cond.lays "LostWoodModel" "LostWoodModel" "faultKind" "I" ∈ wl := tm_6 (List.mem_of_getElem? (i := 124) rfl) rfl
set_option maxRecDepth 20000 in
theorem w_154 : Cond.lays "LostWoodModel" "LostWoodModel" "faultPlace" "I" ∈ wl := tm_6 (List.mem_of_getElem? (i := 126) rfl) rfl
set_option maxRecDepth 20000 in
theorem w_155 : Cond.laysFinal "LostWoodModel" "LostWoodModel" "fresh" "[I" ∈ wl := tm_6 (List.mem_of_getElem? (i := 128) rfl) rfl
set_option maxRecDepth 20000 in
theorem w_156 : Cond.lays "LostWoodModel" "LostWoodModel" "where" "I" ∈ wl := tm_6 (List.mem_of_getElem? (i := 130) rfl) rfl
set_option maxRecDepth 20000 in
theorem w_157 : Cond.lays "LostWoodModel" "LostWoodModel" "thinks" "I" ∈ wl := tm_6 (List.mem_of_getElem? (i := 132) rfl) rfl
set_option maxRecDepth 20000 in
theorem w_158 : Cond.lays "LostWoodModel" "LostWoodModel" "lies" "I" ∈ wl := tm_6 (List.mem_of_getElem? (i := 134) rfl) rfl
set_option maxRecDepth 20000 in
theorem w_159 : Cond.lays "LostWoodModel" "LostWoodModel" "firstKnows" "I" ∈ wl := tm_6 (List.mem_of_getElem? (i := 136) rfl) rfl
set_option maxRecDepth 20000 in
theorem w_160 : Cond.lays "LostWoodModel" "LostWoodModel" "firstLost" "I" ∈ wl := tm_6 (List.mem_of_getElem? (i := 138) rfl) rfl
set_option maxRecDepth 20000 in
theorem w_161 : Cond.lays "LostWoodModel" "LostWoodModel" "mostDoubt" "I" ∈ wl := tm_6 (List.mem_of_getElem? (i := 140) rfl) rfl
set_option maxRecDepth 20000 in
theorem w_162 : Cond.laysFinal "LostWoodModel" "LostWoodModel" "queue" "[I" ∈ wl := tm_6 (List.mem_of_getElem? (i := 142) rfl) rfl
set_option maxRecDepth 20000 in
theorem w_163 : Cond.laysFinal "LostWoodModel" "LostWoodModel" "farOf" "[I" ∈ wl := tm_6 (List.mem_of_getElem? (i := 144) rfl) rfl
set_option maxRecDepth 20000 in
theorem w_164 : Cond.laysFinal "LostWoodModel" "LostWoodModel" "cameBy" "[I" ∈ wl := tm_6 (List.mem_of_getElem? (i := 146) rfl) rfl
set_option maxRecDepth 20000 in
theorem w_165 : Cond.laysFinal "LostWoodModel" "LostWoodModel" "cameFrom" "[I" ∈ wl := tm_6 (List.mem_of_getElem? (i := 148) rfl) rfl
set_option maxRecDepth 20000 in
theorem w_166 : Cond.lays "LostWoodModel" "LostWoodModel" "queued" "I" ∈ wl := tm_6 (List.mem_of_getElem? (i := 150) rfl) rfl
set_option maxRecDepth 20000 in
theorem w_167 : Cond.laysFinal "LostWoodModel" "LostWoodModel" "depth" "[I" ∈ wl := tm_6 (List.mem_of_getElem? (i := 152) rfl) rfl
set_option maxRecDepth 20000 in
theorem w_168 : Cond.laysFinal "LostWoodModel" "LostWoodModel" "kind" "[I" ∈ wl := tm_6 (List.mem_of_getElem? (i := 154) rfl) rfl
set_option maxRecDepth 20000 in
theorem w_169 : Cond.laysFinal "LostWoodModel" "LostWoodModel" "kindThen" "[I" ∈ wl := tm_6 (List.mem_of_getElem? (i := 156) rfl) rfl
set_option maxRecDepth 20000 in
theorem w_170 : Cond.laysFinal "LostWoodModel" "LostWoodModel" "twos" "[I" ∈ wl := tm_6 (List.mem_of_getElem? (i := 158) rfl) rfl
set_option maxRecDepth 20000 in
theorem w_171 : Cond.laysFinal "LostWoodModel" "LostWoodModel" "twoFar" "[I" ∈ wl := tm_6 (List.mem_of_getElem? (i := 160) rfl) rfl
set_option maxRecDepth 20000 in
theorem w_172 : Cond.laysFinal "LostWoodModel" "LostWoodModel" "twoBy" "[I" ∈ wl := tm_6 (List.mem_of_getElem? (i := 162) rfl) rfl
set_option maxRecDepth 20000 in
theorem w_173 : Cond.laysFinal "LostWoodModel" "LostWoodModel" "twoFrom" "[I" ∈ wl := tm_6 (List.mem_of_getElem? (i := 164) rfl) rfl
set_option maxRecDepth 20000 in
theorem w_174 : Cond.laysFinal "LostWoodModel" "LostWoodModel" "setQueue" "[I" ∈ wl := tm_6 (List.mem_of_getElem? (i := 166) rfl) rfl
set_option maxRecDepth 20000 in
theorem w_175 : Cond.laysFinal "LostWoodModel" "LostWoodModel" "setFar" "[I" ∈ wl := tm_6 (List.mem_of_getElem? (i := 168) rfl) rfl
set_option maxRecDepth 20000 in
theorem w_176 : Cond.laysFinal "LostWoodModel" "LostWoodModel" "setBy" "[I" ∈ wl := tm_6 (List.mem_of_getElem? (i := 170) rfl) rfl
set_option maxRecDepth 20000 in
theorem w_177 : Cond.laysFinal "LostWoodModel" "LostWoodModel" "setFrom" "[I" ∈ wl := tm_6 (List.mem_of_getElem? (i := 172) rfl) rfl
set_option maxRecDepth 20000 in
theorem w_178 : Cond.lays "LostWoodModel" "LostWoodModel" "setQueued" "I" ∈ wl := tm_6 (List.mem_of_getElem? (i := 174) rfl) rfl
set_option maxRecDepth 20000 in
theorem w_179 : Cond.lays "LostWoodModel" "LostWoodModel" "meetSteps" "I" ∈ wl := tm_6 (List.mem_of_getElem? (i := 176) rfl) rfl
set_option maxRecDepth 20000 in
theorem w_180 : Cond.lays "LostWoodModel" "LostWoodModel" "meetSet" "I" ∈ wl := tm_6 (List.mem_of_getElem? (i := 178) rfl) rfl
set_option maxRecDepth 20000 in
theorem w_181 : Cond.laysFinal "LostWoodModel" "LostWoodModel" "order" "[I" ∈ wl := tm_6 (List.mem_of_getElem? (i := 180) rfl) rfl
set_option maxRecDepth 20000 in
theorem w_182 : Cond.laysFinal "LostWoodModel" "LostWoodModel" "bestOrder" "[I" ∈ wl := tm_6 (List.mem_of_getElem? (i := 182) rfl) rfl
set_option maxRecDepth 20000 in
theorem w_183 : Cond.laysFinal "LostWoodModel" "LostWoodModel" "kept" "[I" ∈ wl := tm_6 (List.mem_of_getElem? (i := 184) rfl) rfl
set_option maxRecDepth 20000 in
theorem w_184 : Cond.lays "LostWoodModel" "LostWoodModel" "courseMost" "I" ∈ wl := tm_6 (List.mem_of_getElem? (i := 186) rfl) rfl
set_option maxRecDepth 20000 in
theorem w_185 : Cond.lays "LostWoodModel" "LostWoodModel" "courseLeast" "I" ∈ wl := tm_6 (List.mem_of_getElem? (i := 188) rfl) rfl
set_option maxRecDepth 20000 in
theorem w_186 : Cond.laysFinal "LostWoodModel" "LostWoodModel" "cost" "[I" ∈ wl := tm_6 (List.mem_of_getElem? (i := 190) rfl) rfl
set_option maxRecDepth 20000 in
theorem w_187 : Cond.laysFinal "LostWoodModel" "LostWoodModel" "rows" "[I" ∈ wl := tm_6 (List.mem_of_getElem? (i := 192) rfl) rfl
set_option maxRecDepth 20000 in
theorem w_188 : Cond.laysFinal "LostWoodModel" "LostWoodModel" "rowsThen" "[I" ∈ wl := tm_6 (List.mem_of_getElem? (i := 194) rfl) rfl
set_option maxRecDepth 20000 in
theorem w_189 : Cond.lays "LostWoodModel" "LostWoodModel" "knewOften" "I" ∈ wl := tm_6 (List.mem_of_getElem? (i := 196) rfl) rfl
set_option maxRecDepth 20000 in
theorem w_190 : Cond.laysFinal "LostWoodModel" "LostWoodModel" "many" "[I" ∈ wl := tm_6 (List.mem_of_getElem? (i := 198) rfl) rfl
set_option maxRecDepth 20000 in
theorem w_191 : Cond.laysFinal "LostWoodModel" "LostWoodModel" "width" "[I" ∈ wl := tm_6 (List.mem_of_getElem? (i := 200) rfl) rfl
set_option maxRecDepth 20000 in
theorem w_192 : Cond.laysFinal "LostWoodModel" "LostWoodModel" "numbers" "[J" ∈ wl := tm_6 (List.mem_of_getElem? (i := 202) rfl) rfl
set_option maxRecDepth 20000 in
theorem w_193 : Cond.laysFinal "LostWoodModel" "LostWoodModel" "moving" "[J" ∈ wl := tm_6 (List.mem_of_getElem? (i := 204) rfl) rfl
set_option maxRecDepth 20000 in
theorem w_194 : Cond.fieldLink RX12 9 "LostWoodModel" "world" "[I" ∈ wl := tm_6 (List.mem_of_getElem? (i := 48) rfl) rfl
set_option maxRecDepth 20000 in
theorem w_195 : Cond.code yX12_in cX12_in 6 (some .boolean) ∈ wl := tm_6 (List.mem_of_getElem? (i := 215) rfl) rfl
set_option maxRecDepth 20000 in
theorem w_196 : Cond.initialized RX12 ∈ wl := tm_1 (List.mem_of_getElem? (i := 15) rfl) rfl
set_option maxRecDepth 20000 in
theorem w_197 : Cond.methodLink RX12 115 yX12_in ∈ wl := tm_6 (List.mem_of_getElem? (i := 213) rfl) rfl
set_option maxRecDepth 20000 in
theorem w_198 : Cond.static yX12_in ∈ wl := tm_6 (List.mem_of_getElem? (i := 214) rfl) rfl
set_option maxRecDepth 20000 in
theorem w_199 : Cond.code yX12_isPlace cX12_isPlace 3 (some .boolean) ∈ wl := tm_7 (List.mem_of_getElem? (i := 100) rfl) rfl
set_option maxRecDepth 20000 in
theorem w_200 : Cond.methodLink RX12 119 yX12_isPlace ∈ wl := tm_7 (List.mem_of_getElem? (i := 97) rfl) rfl
set_option maxRecDepth 20000 in
theorem w_201 : Cond.instanceMethod yX12_isPlace ∈ wl := tm_7 (List.mem_of_getElem? (i := 99) rfl) rfl
set_option maxRecDepth 20000 in
theorem w_202 : Cond.selects RX12 yX12_isPlace yX12_isPlace ∈ wl := tp_4 (q := (yX12_isPlace, 53)) (List.mem_of_getElem? (i := 8) rfl)
set_option maxRecDepth 20000 in
theorem w_203 : Cond.constantLong RX12 123 (3) ∈ wl := tm_7 (List.mem_of_getElem? (i := 104) rfl) rfl
set_option maxRecDepth 20000 in
theorem w_204 : Cond.code yX12_isWood cX12_isWood 1 (some .boolean) ∈ wl := tm_7 (List.mem_of_getElem? (i := 128) rfl) rfl
set_option maxRecDepth 20000 in
theorem w_205 : Cond.methodLink RX12 125 yX12_isWood ∈ wl := tm_7 (List.mem_of_getElem? (i := 125) rfl) rfl
set_option maxRecDepth 20000 in
theorem w_206 : Cond.instanceMethod yX12_isWood ∈ wl := tm_7 (List.mem_of_getElem? (i := 127) rfl) rfl
set_option maxRecDepth 20000 in
theorem w_207 : Cond.selects RX12 yX12_isWood yX12_isWood ∈ wl := tp_4 (q := (yX12_isWood, 53)) (List.mem_of_getElem? (i := 12) rfl)
set_option maxRecDepth 20000 in
theorem w_208 : Cond.code yX12_isSlot cX12_isSlot 1 (some .boolean) ∈ wl := tm_7 (List.mem_of_getElem? (i := 231) rfl) rfl
set_option maxRecDepth 20000 in
theorem w_209 : Cond.methodLink RX12 334 yX12_isSlot ∈ wl := tm_7 (List.mem_of_getElem? (i := 229) rfl) rfl
set_option maxRecDepth 20000 in
theorem w_210 : Cond.static yX12_isSlot ∈ wl := tm_7 (List.mem_of_getElem? (i := 230) rfl) rfl
set_option maxRecDepth 20000 in
theorem w_211 : Cond.code yX12_isPupil cX12_isPupil 2 (some .boolean) ∈ wl := tm_7 (List.mem_of_getElem? (i := 156) rfl) rfl
set_option maxRecDepth 20000 in
theorem w_212 : Cond.methodLink RX12 310 yX12_isPupil ∈ wl := tm_7 (List.mem_of_getElem? (i := 153) rfl) rfl
set_option maxRecDepth 20000 in
theorem w_213 : Cond.instanceMethod yX12_isPupil ∈ wl := tm_7 (List.mem_of_getElem? (i := 155) rfl) rfl
set_option maxRecDepth 20000 in
theorem w_214 : Cond.selects RX12 yX12_isPupil yX12_isPupil ∈ wl := tp_5 (q := (yX12_isPupil, 53)) (List.mem_of_getElem? (i := 0) rfl)
set_option maxRecDepth 20000 in
theorem w_215 : Cond.constantLong RX12 481 (2000000000) ∈ wl := tm_9 (List.mem_of_getElem? (i := 46) rfl) rfl
set_option maxRecDepth 20000 in
theorem w_216 : Cond.code yX12_isSet cX12_isSet 2 (some .boolean) ∈ wl := tm_7 (List.mem_of_getElem? (i := 124) rfl) rfl
set_option maxRecDepth 20000 in
theorem w_217 : Cond.methodLink RX12 282 yX12_isSet ∈ wl := tm_7 (List.mem_of_getElem? (i := 121) rfl) rfl
set_option maxRecDepth 20000 in
theorem w_218 : Cond.instanceMethod yX12_isSet ∈ wl := tm_7 (List.mem_of_getElem? (i := 123) rfl) rfl
set_option maxRecDepth 20000 in
theorem w_219 : Cond.selects RX12 yX12_isSet yX12_isSet ∈ wl := tp_4 (q := (yX12_isSet, 53)) (List.mem_of_getElem? (i := 11) rfl)
set_option maxRecDepth 20000 in
theorem w_220 : Cond.code yX12_asksWalk cX12_asksWalk 4 (some .int) ∈ wl := tm_7 (List.mem_of_getElem? (i := 228) rfl) rfl
set_option maxRecDepth 20000 in
theorem w_221 : Cond.methodLink RX12 353 yX12_asksWalk ∈ wl := tm_7 (List.mem_of_getElem? (i := 225) rfl) rfl
set_option maxRecDepth 20000 in
theorem w_222 : Cond.instanceMethod yX12_asksWalk ∈ wl := tm_7 (List.mem_of_getElem? (i := 227) rfl) rfl
set_option maxRecDepth 20000 in
theorem w_223 : Cond.selects RX12 yX12_asksWalk yX12_asksWalk ∈ wl := tp_5 (q := (yX12_asksWalk, 53)) (List.mem_of_getElem? (i := 9) rfl)
set_option maxRecDepth 20000 in
theorem w_224 : Cond.code yX12_areTwo cX12_areTwo 3 (some .boolean) ∈ wl := tm_8 (List.mem_of_getElem? (i := 100) rfl) rfl
set_option maxRecDepth 20000 in
theorem w_225 : Cond.methodLink RX12 394 yX12_areTwo ∈ wl := tm_8 (List.mem_of_getElem? (i := 97) rfl) rfl
set_option maxRecDepth 20000 in
theorem w_226 : Cond.instanceMethod yX12_areTwo ∈ wl := tm_8 (List.mem_of_getElem? (i := 99) rfl) rfl
set_option maxRecDepth 20000 in
theorem w_227 : Cond.selects RX12 yX12_areTwo yX12_areTwo ∈ wl := tp_6 (q := (yX12_areTwo, 53)) (List.mem_of_getElem? (i := 5) rfl)
set_option maxRecDepth 20000 in
theorem w_228 : Cond.code yX12_asksRead cX12_asksRead 3 (some .int) ∈ wl := tm_8 (List.mem_of_getElem? (i := 176) rfl) rfl
set_option maxRecDepth 20000 in
theorem w_229 : Cond.methodLink RX12 426 yX12_asksRead ∈ wl := tm_8 (List.mem_of_getElem? (i := 173) rfl) rfl
set_option maxRecDepth 20000 in
theorem w_230 : Cond.instanceMethod yX12_asksRead ∈ wl := tm_8 (List.mem_of_getElem? (i := 175) rfl) rfl
set_option maxRecDepth 20000 in
theorem w_231 : Cond.selects RX12 yX12_asksRead yX12_asksRead ∈ wl := tp_6 (q := (yX12_asksRead, 53)) (List.mem_of_getElem? (i := 13) rfl)
set_option maxRecDepth 20000 in
theorem w_232 : Cond.code yX12_isDrawn cX12_isDrawn 4 (some .boolean) ∈ wl := tm_9 (List.mem_of_getElem? (i := 45) rfl) rfl
set_option maxRecDepth 20000 in
theorem w_233 : Cond.methodLink RX12 485 yX12_isDrawn ∈ wl := tm_9 (List.mem_of_getElem? (i := 42) rfl) rfl
set_option maxRecDepth 20000 in
theorem w_234 : Cond.instanceMethod yX12_isDrawn ∈ wl := tm_9 (List.mem_of_getElem? (i := 44) rfl) rfl
set_option maxRecDepth 20000 in
theorem w_235 : Cond.selects RX12 yX12_isDrawn yX12_isDrawn ∈ wl := tp_7 (q := (yX12_isDrawn, 53)) (List.mem_of_getElem? (i := 8) rfl)
set_option maxRecDepth 20000 in
theorem w_236 : Cond.fieldLink RX12 27 "LostWoodModel" "faultPlace" "I" ∈ wl := tm_6 (List.mem_of_getElem? (i := 60) rfl) rfl
set_option maxRecDepth 20000 in
theorem w_237 : Cond.fieldLink RX12 170 "LostWoodModel" "faultKind" "I" ∈ wl := tm_6 (List.mem_of_getElem? (i := 59) rfl) rfl
set_option maxRecDepth 20000 in
theorem w_238 : Cond.fieldLink RX12 133 "LostWoodModel" "taped" "I" ∈ wl := tm_6 (List.mem_of_getElem? (i := 52) rfl) rfl
set_option maxRecDepth 20000 in
theorem w_239 : Cond.fieldLink RX12 97 "LostWoodModel" "many" "[I" ∈ wl := tm_6 (List.mem_of_getElem? (i := 96) rfl) rfl
set_option maxRecDepth 20000 in
theorem w_240 : Cond.constantLong RX12 113 (2) ∈ wl := tm_6 (List.mem_of_getElem? (i := 212) rfl) rfl
set_option maxRecDepth 20000 in
theorem w_241 : Cond.fieldLink RX12 16 "LostWoodModel" "hasImage" "[Z" ∈ wl := tm_6 (List.mem_of_getElem? (i := 50) rfl) rfl
set_option maxRecDepth 20000 in
theorem in_X10 : ∀ w ∈ wsX100, w ∈ wl := List.forall_mem_cons.mpr ⟨w_4, List.forall_mem_cons.mpr ⟨w_5, List.forall_mem_cons.mpr ⟨w_6, List.forall_mem_cons.mpr ⟨w_7, List.forall_mem_cons.mpr ⟨w_8, List.forall_mem_cons.mpr ⟨w_9, List.forall_mem_cons.mpr ⟨w_10, List.forall_mem_cons.mpr ⟨w_11, List.forall_mem_cons.mpr ⟨w_12, List.forall_mem_cons.mpr ⟨w_13, List.forall_mem_cons.mpr ⟨w_14, List.forall_mem_cons.mpr ⟨w_15, fun _ h => absurd h List.not_mem_nil⟩⟩⟩⟩⟩⟩⟩⟩⟩⟩⟩⟩
set_option maxRecDepth 20000 in
theorem in_X5 : ∀ w ∈ wsX50, w ∈ wl := List.forall_mem_cons.mpr ⟨w_31, List.forall_mem_cons.mpr ⟨w_32, List.forall_mem_cons.mpr ⟨w_33, fun _ h => absurd h List.not_mem_nil⟩⟩⟩
set_option maxRecDepth 20000 in
theorem in_X11 : ∀ w ∈ wsX110, w ∈ wl := List.forall_mem_cons.mpr ⟨w_40, List.forall_mem_cons.mpr ⟨w_41, List.forall_mem_cons.mpr ⟨w_42, List.forall_mem_cons.mpr ⟨w_43, List.forall_mem_cons.mpr ⟨w_44, List.forall_mem_cons.mpr ⟨w_45, List.forall_mem_cons.mpr ⟨w_46, List.forall_mem_cons.mpr ⟨w_47, List.forall_mem_cons.mpr ⟨w_48, List.forall_mem_cons.mpr ⟨w_49, List.forall_mem_cons.mpr ⟨w_50, List.forall_mem_cons.mpr ⟨w_51, fun _ h => absurd h List.not_mem_nil⟩⟩⟩⟩⟩⟩⟩⟩⟩⟩⟩⟩
set_option maxRecDepth 20000 in
theorem in_X4 : ∀ w ∈ wsX40, w ∈ wl := List.forall_mem_cons.mpr ⟨w_97, List.forall_mem_cons.mpr ⟨w_98, List.forall_mem_cons.mpr ⟨w_99, List.forall_mem_cons.mpr ⟨w_100, List.forall_mem_cons.mpr ⟨w_101, List.forall_mem_cons.mpr ⟨w_102, List.forall_mem_cons.mpr ⟨w_103, List.forall_mem_cons.mpr ⟨w_104, List.forall_mem_cons.mpr ⟨w_105, List.forall_mem_cons.mpr ⟨w_106, fun _ h => absurd h List.not_mem_nil⟩⟩⟩⟩⟩⟩⟩⟩⟩⟩
set_option maxRecDepth 20000 in
theorem in_X2 : ∀ w ∈ wsX20, w ∈ wl := List.forall_mem_cons.mpr ⟨w_127, List.forall_mem_cons.mpr ⟨w_128, List.forall_mem_cons.mpr ⟨w_129, List.forall_mem_cons.mpr ⟨w_130, List.forall_mem_cons.mpr ⟨w_131, List.forall_mem_cons.mpr ⟨w_132, fun _ h => absurd h List.not_mem_nil⟩⟩⟩⟩⟩⟩
set_option maxRecDepth 20000 in
theorem in_X12 : ∀ w ∈ wsX120, w ∈ wl := List.forall_mem_cons.mpr ⟨w_141, List.forall_mem_cons.mpr ⟨w_142, List.forall_mem_cons.mpr ⟨w_143, List.forall_mem_cons.mpr ⟨w_144, List.forall_mem_cons.mpr ⟨w_145, List.forall_mem_cons.mpr ⟨w_146, List.forall_mem_cons.mpr ⟨w_147, List.forall_mem_cons.mpr ⟨w_148, List.forall_mem_cons.mpr ⟨w_149, List.forall_mem_cons.mpr ⟨w_150, List.forall_mem_cons.mpr ⟨w_151, List.forall_mem_cons.mpr ⟨w_152, List.forall_mem_cons.mpr ⟨w_153, List.forall_mem_cons.mpr ⟨w_154, List.forall_mem_cons.mpr ⟨w_155, List.forall_mem_cons.mpr ⟨w_156, List.forall_mem_cons.mpr ⟨w_157, List.forall_mem_cons.mpr ⟨w_158, List.forall_mem_cons.mpr ⟨w_159, List.forall_mem_cons.mpr ⟨w_160, List.forall_mem_cons.mpr ⟨w_161, List.forall_mem_cons.mpr ⟨w_162, List.forall_mem_cons.mpr ⟨w_163, List.forall_mem_cons.mpr ⟨w_164, List.forall_mem_cons.mpr ⟨w_165, List.forall_mem_cons.mpr ⟨w_166, List.forall_mem_cons.mpr ⟨w_167, List.forall_mem_cons.mpr ⟨w_168, List.forall_mem_cons.mpr ⟨w_169, List.forall_mem_cons.mpr ⟨w_170, List.forall_mem_cons.mpr ⟨w_171, List.forall_mem_cons.mpr ⟨w_172, List.forall_mem_cons.mpr ⟨w_173, List.forall_mem_cons.mpr ⟨w_174, List.forall_mem_cons.mpr ⟨w_175, List.forall_mem_cons.mpr ⟨w_176, List.forall_mem_cons.mpr ⟨w_177, List.forall_mem_cons.mpr ⟨w_178, List.forall_mem_cons.mpr ⟨w_179, List.forall_mem_cons.mpr ⟨w_180, List.forall_mem_cons.mpr ⟨w_181, List.forall_mem_cons.mpr ⟨w_182, List.forall_mem_cons.mpr ⟨w_183, List.forall_mem_cons.mpr ⟨w_184, List.forall_mem_cons.mpr ⟨w_185, List.forall_mem_cons.mpr ⟨w_186, List.forall_mem_cons.mpr ⟨w_187, List.forall_mem_cons.mpr ⟨w_188, List.forall_mem_cons.mpr ⟨w_189, List.forall_mem_cons.mpr ⟨w_190, List.forall_mem_cons.mpr ⟨w_191, List.forall_mem_cons.mpr ⟨w_192, List.forall_mem_cons.mpr ⟨w_193, fun _ h => absurd h List.not_mem_nil⟩⟩⟩⟩⟩⟩⟩⟩⟩⟩⟩⟩⟩⟩⟩⟩⟩⟩⟩⟩⟩⟩⟩⟩⟩⟩⟩⟩⟩⟩⟩⟩⟩⟩⟩⟩⟩⟩⟩⟩⟩⟩⟩⟩⟩⟩⟩⟩⟩⟩⟩⟩⟩
set_option maxRecDepth 20000 in
theorem kd_X10_all : okD yX10_all 0 := by decide +kernel
set_option maxRecDepth 20000 in
theorem kd_X10_showing : okD yX10_showing 2 := by decide +kernel
set_option maxRecDepth 20000 in
theorem kd_X11_isSlot : okD yX11_isSlot 1 := by decide +kernel
set_option maxRecDepth 20000 in
theorem kd_X5_has : okD yX5_has 1 := by decide +kernel
set_option maxRecDepth 20000 in
theorem kd_X10_hasPlace : okD yX10_hasPlace 1 := by decide +kernel
set_option maxRecDepth 20000 in
theorem kd_X10_hasPupil : okD yX10_hasPupil 1 := by decide +kernel
set_option maxRecDepth 20000 in
theorem kd_X11_stand : okD yX11_stand 1 := by decide +kernel
set_option maxRecDepth 20000 in
theorem kd_X10_stands : okD yX10_stands 0 := by decide +kernel
set_option maxRecDepth 20000 in
theorem kd_X10_hasSet : okD yX10_hasSet 1 := by decide +kernel
set_option maxRecDepth 20000 in
theorem kd_X11_isWind : okD yX11_isWind 1 := by decide +kernel
set_option maxRecDepth 20000 in
theorem kd_X11_refuseWalk : okD yX11_refuseWalk 2 := by decide +kernel
set_option maxRecDepth 20000 in
theorem kd_X11_seek : okD yX11_seek 3 := by decide +kernel
set_option maxRecDepth 20000 in
theorem kd_X11_arePlaces : okD yX11_arePlaces 2 := by decide +kernel
set_option maxRecDepth 20000 in
theorem kd_X11_refuseReading : okD yX11_refuseReading 1 := by decide +kernel
set_option maxRecDepth 20000 in
theorem kd_X11_isDraw : okD yX11_isDraw 2 := by decide +kernel
set_option maxRecDepth 20000 in
theorem kd_X10_waysElsewhere : okD yX10_waysElsewhere 0 := by decide +kernel
set_option maxRecDepth 20000 in
theorem kd_X10_marked : okD yX10_marked 0 := by decide +kernel
set_option maxRecDepth 20000 in
theorem kd_J6_bitCount_0f7a4 : okD yJ6_bitCount_0f7a4 1 := by decide +kernel
set_option maxRecDepth 20000 in
theorem kd_X5_kept : okD yX5_kept 0 := by decide +kernel
set_option maxRecDepth 20000 in
theorem kd_X12_in : okD yX12_in 3 := by decide +kernel
set_option maxRecDepth 20000 in
theorem kd_X12_isPlace : okD yX12_isPlace 1 := by decide +kernel
set_option maxRecDepth 20000 in
theorem kd_X12_isWood : okD yX12_isWood 0 := by decide +kernel
set_option maxRecDepth 20000 in
theorem kd_X12_isSlot : okD yX12_isSlot 1 := by decide +kernel
set_option maxRecDepth 20000 in
theorem kd_X12_isPupil : okD yX12_isPupil 1 := by decide +kernel
set_option maxRecDepth 20000 in
theorem kd_X12_isSet : okD yX12_isSet 1 := by decide +kernel
set_option maxRecDepth 20000 in
theorem kd_X12_asksWalk : okD yX12_asksWalk 2 := by decide +kernel
set_option maxRecDepth 20000 in
theorem kd_X12_areTwo : okD yX12_areTwo 2 := by decide +kernel
set_option maxRecDepth 20000 in
theorem kd_X12_asksRead : okD yX12_asksRead 1 := by decide +kernel
set_option maxRecDepth 20000 in
theorem kd_X12_isDrawn : okD yX12_isDrawn 3 := by decide +kernel
set_option maxRecDepth 20000 in
theorem kV_X10_61 : okV RX10 61 yX10_all cX10_all 1 (some .int) 0 := ⟨⟨w_21, w_19, w_20, kd_X10_all⟩, w_22, w_23⟩
set_option maxRecDepth 20000 in
theorem kV_X10_76 : okV RX10 76 yX10_showing cX10_showing 5 (some .int) 2 := ⟨⟨w_25, w_24, w_20, kd_X10_showing⟩, w_26, w_27⟩
set_option maxRecDepth 20000 in
theorem kSN_X5_28 : okSN RX5 28 yX11_isSlot RX11 cX11_isSlot 1 (some .boolean) 1 := ⟨⟨List.mem_of_getElem? (i := 12) rfl, w_28, w_29, kd_X11_isSlot⟩, w_30⟩
set_option maxRecDepth 20000 in
theorem kV_X5_35 : okV RX5 35 yX5_has cX5_has 2 (some .boolean) 1 := ⟨⟨w_37, w_35, w_36, kd_X5_has⟩, w_38, w_39⟩
set_option maxRecDepth 20000 in
theorem kV_X11_126 : okV RX11 126 yX10_hasPlace cX10_hasPlace 2 (some .boolean) 1 := ⟨⟨w_54, w_53, w_20, kd_X10_hasPlace⟩, w_55, w_56⟩
set_option maxRecDepth 20000 in
theorem kV_X11_334 : okV RX11 334 yX10_hasPupil cX10_hasPupil 2 (some .boolean) 1 := ⟨⟨w_58, w_57, w_20, kd_X10_hasPupil⟩, w_59, w_60⟩
set_option maxRecDepth 20000 in
theorem kS_X11_352 : okS RX11 352 yX11_isSlot cX11_isSlot 1 (some .boolean) 1 := ⟨⟨w_61, w_28, w_29, kd_X11_isSlot⟩, w_30⟩
set_option maxRecDepth 20000 in
theorem kV_X11_152 : okV RX11 152 yX11_stand cX11_stand 2 (some .boolean) 1 := ⟨⟨w_63, w_62, w_29, kd_X11_stand⟩, w_64, w_65⟩
set_option maxRecDepth 20000 in
theorem kV_X11_185 : okV RX11 185 yX10_stands cX10_stands 1 (some .boolean) 0 := ⟨⟨w_67, w_66, w_20, kd_X10_stands⟩, w_68, w_69⟩
set_option maxRecDepth 20000 in
theorem kV_X11_140 : okV RX11 140 yX10_hasSet cX10_hasSet 2 (some .boolean) 1 := ⟨⟨w_71, w_70, w_20, kd_X10_hasSet⟩, w_72, w_73⟩
set_option maxRecDepth 20000 in
theorem kS_X11_129 : okS RX11 129 yX11_isWind cX11_isWind 1 (some .boolean) 1 := ⟨⟨w_75, w_74, w_29, kd_X11_isWind⟩, w_76⟩
set_option maxRecDepth 20000 in
theorem kV_X11_191 : okV RX11 191 yX11_refuseWalk cX11_refuseWalk 4 (some .int) 2 := ⟨⟨w_78, w_77, w_29, kd_X11_refuseWalk⟩, w_79, w_80⟩
set_option maxRecDepth 20000 in
theorem kV_X11_212 : okV RX11 212 yX11_seek cX11_seek 4 (some .boolean) 3 := ⟨⟨w_82, w_81, w_29, kd_X11_seek⟩, w_83, w_84⟩
set_option maxRecDepth 20000 in
theorem kV_X11_236 : okV RX11 236 yX11_arePlaces cX11_arePlaces 3 (some .boolean) 2 := ⟨⟨w_86, w_85, w_29, kd_X11_arePlaces⟩, w_87, w_88⟩
set_option maxRecDepth 20000 in
theorem kV_X11_269 : okV RX11 269 yX11_refuseReading cX11_refuseReading 3 (some .int) 1 := ⟨⟨w_90, w_89, w_29, kd_X11_refuseReading⟩, w_91, w_92⟩
set_option maxRecDepth 20000 in
theorem kS_X11_328 : okS RX11 328 yX11_isDraw cX11_isDraw 2 (some .boolean) 2 := ⟨⟨w_94, w_93, w_29, kd_X11_isDraw⟩, w_95⟩
set_option maxRecDepth 20000 in
theorem kV_X11_337 : okV RX11 337 yX10_waysElsewhere cX10_waysElsewhere 4 (some .int) 0 := ⟨⟨w_111, w_110, w_20, kd_X10_waysElsewhere⟩, w_112, w_113⟩
set_option maxRecDepth 20000 in
theorem kV_X11_340 : okV RX11 340 yX10_marked cX10_marked 1 (some .int) 0 := ⟨⟨w_115, w_114, w_20, kd_X10_marked⟩, w_116, w_117⟩
set_option maxRecDepth 20000 in
theorem kS_X11_251 : okS RX11 251 yJ6_bitCount_0f7a4 cJ6_bitCount_0f7a4 1 (some .int) 1 := ⟨⟨w_120, w_118, w_119, kd_J6_bitCount_0f7a4⟩, w_121⟩
set_option maxRecDepth 20000 in
theorem kV_X11_346 : okV RX11 346 yX5_kept cX5_kept 3 (some .int) 0 := ⟨⟨w_136, w_135, w_36, kd_X5_kept⟩, w_137, w_138⟩
set_option maxRecDepth 20000 in
theorem kV_X11_358 : okV RX11 358 yX5_has cX5_has 2 (some .boolean) 1 := ⟨⟨w_140, w_35, w_36, kd_X5_has⟩, w_38, w_39⟩
set_option maxRecDepth 20000 in
theorem kS_X12_115 : okS RX12 115 yX12_in cX12_in 6 (some .boolean) 3 := ⟨⟨w_197, w_195, w_196, kd_X12_in⟩, w_198⟩
set_option maxRecDepth 20000 in
theorem kV_X12_119 : okV RX12 119 yX12_isPlace cX12_isPlace 3 (some .boolean) 1 := ⟨⟨w_200, w_199, w_196, kd_X12_isPlace⟩, w_201, w_202⟩
set_option maxRecDepth 20000 in
theorem kV_X12_125 : okV RX12 125 yX12_isWood cX12_isWood 1 (some .boolean) 0 := ⟨⟨w_205, w_204, w_196, kd_X12_isWood⟩, w_206, w_207⟩
set_option maxRecDepth 20000 in
theorem kS_X12_334 : okS RX12 334 yX12_isSlot cX12_isSlot 1 (some .boolean) 1 := ⟨⟨w_209, w_208, w_196, kd_X12_isSlot⟩, w_210⟩
set_option maxRecDepth 20000 in
theorem kV_X12_310 : okV RX12 310 yX12_isPupil cX12_isPupil 2 (some .boolean) 1 := ⟨⟨w_212, w_211, w_196, kd_X12_isPupil⟩, w_213, w_214⟩
set_option maxRecDepth 20000 in
theorem kV_X12_282 : okV RX12 282 yX12_isSet cX12_isSet 2 (some .boolean) 1 := ⟨⟨w_217, w_216, w_196, kd_X12_isSet⟩, w_218, w_219⟩
set_option maxRecDepth 20000 in
theorem kV_X12_353 : okV RX12 353 yX12_asksWalk cX12_asksWalk 4 (some .int) 2 := ⟨⟨w_221, w_220, w_196, kd_X12_asksWalk⟩, w_222, w_223⟩
set_option maxRecDepth 20000 in
theorem kV_X12_394 : okV RX12 394 yX12_areTwo cX12_areTwo 3 (some .boolean) 2 := ⟨⟨w_225, w_224, w_196, kd_X12_areTwo⟩, w_226, w_227⟩
set_option maxRecDepth 20000 in
theorem kV_X12_426 : okV RX12 426 yX12_asksRead cX12_asksRead 3 (some .int) 1 := ⟨⟨w_229, w_228, w_196, kd_X12_asksRead⟩, w_230, w_231⟩
set_option maxRecDepth 20000 in
theorem kV_X12_485 : okV RX12 485 yX12_isDrawn cX12_isDrawn 4 (some .boolean) 3 := ⟨⟨w_233, w_232, w_196, kd_X12_isDrawn⟩, w_234, w_235⟩
end
section
theorem dX11_isWind_0 : decode cX11_isWind 0 = .ok (.iload_n 0, 1) := by decide +kernel
theorem dX11_isWind_1 : decode cX11_isWind 1 = .ok (.ifCond .lt 12, 3) := by decide +kernel
theorem dX11_isWind_13 : decode cX11_isWind 13 = .ok (.iconst 0, 1) := by decide +kernel
theorem dX11_isWind_14 : decode cX11_isWind 14 = .ok (.ireturn, 1) := by decide +kernel
theorem dX11_isWind_4 : decode cX11_isWind 4 = .ok (.iload_n 0, 1) := by decide +kernel
theorem dX11_isWind_5 : decode cX11_isWind 5 = .ok (.iconst 4, 1) := by decide +kernel
theorem dX11_isWind_6 : decode cX11_isWind 6 = .ok (.if_icmp .ge 7, 3) := by decide +kernel
theorem dX11_isWind_9 : decode cX11_isWind 9 = .ok (.iconst 1, 1) := by decide +kernel
theorem dX11_isWind_10 : decode cX11_isWind 10 = .ok (.goto 4, 3) := by decide +kernel
theorem dX11_isMark_0 : decode cX11_isMark 0 = .ok (.iload_n 0, 1) := by decide +kernel
theorem dX11_isMark_1 : decode cX11_isMark 1 = .ok (.ifCond .lt 13, 3) := by decide +kernel
theorem dX11_isMark_14 : decode cX11_isMark 14 = .ok (.iconst 0, 1) := by decide +kernel
theorem dX11_isMark_15 : decode cX11_isMark 15 = .ok (.ireturn, 1) := by decide +kernel
theorem dX11_isMark_4 : decode cX11_isMark 4 = .ok (.iload_n 0, 1) := by decide +kernel
theorem dX11_isMark_5 : decode cX11_isMark 5 = .ok (.bipush 10, 2) := by decide +kernel
theorem dX11_isMark_7 : decode cX11_isMark 7 = .ok (.if_icmp .ge 7, 3) := by decide +kernel
theorem dX11_isMark_10 : decode cX11_isMark 10 = .ok (.iconst 1, 1) := by decide +kernel
theorem dX11_isMark_11 : decode cX11_isMark 11 = .ok (.goto 4, 3) := by decide +kernel
theorem dX11_isFogLength_0 : decode cX11_isFogLength 0 = .ok (.iload_n 0, 1) := by decide +kernel
theorem dX11_isFogLength_1 : decode cX11_isFogLength 1 = .ok (.ifCond .lt 13, 3) := by decide +kernel
theorem dX11_isFogLength_14 : decode cX11_isFogLength 14 = .ok (.iconst 0, 1) := by decide +kernel
theorem dX11_isFogLength_15 : decode cX11_isFogLength 15 = .ok (.ireturn, 1) := by decide +kernel
theorem dX11_isFogLength_4 : decode cX11_isFogLength 4 = .ok (.iload_n 0, 1) := by decide +kernel
theorem dX11_isFogLength_5 : decode cX11_isFogLength 5 = .ok (.bipush 15, 2) := by decide +kernel
theorem dX11_isFogLength_7 : decode cX11_isFogLength 7 = .ok (.if_icmp .gt 7, 3) := by decide +kernel
theorem dX11_isFogLength_10 : decode cX11_isFogLength 10 = .ok (.iconst 1, 1) := by decide +kernel
theorem dX11_isFogLength_11 : decode cX11_isFogLength 11 = .ok (.goto 4, 3) := by decide +kernel
theorem dX11_isDraw_0 : decode cX11_isDraw 0 = .ok (.iload_n 0, 1) := by decide +kernel
theorem dX11_isDraw_1 : decode cX11_isDraw 1 = .ok (.ifCond .lt 24, 3) := by decide +kernel
theorem dX11_isDraw_25 : decode cX11_isDraw 25 = .ok (.iconst 0, 1) := by decide +kernel
theorem dX11_isDraw_26 : decode cX11_isDraw 26 = .ok (.ireturn, 1) := by decide +kernel
theorem dX11_isDraw_4 : decode cX11_isDraw 4 = .ok (.iload_n 0, 1) := by decide +kernel
theorem dX11_isDraw_5 : decode cX11_isDraw 5 = .ok (.ldc_w 375, 3) := by decide +kernel
theorem dX11_isDraw_8 : decode cX11_isDraw 8 = .ok (.if_icmp .gt 17, 3) := by decide +kernel
theorem dX11_isDraw_11 : decode cX11_isDraw 11 = .ok (.iload_n 1, 1) := by decide +kernel
theorem dX11_isDraw_12 : decode cX11_isDraw 12 = .ok (.ifCond .lt 13, 3) := by decide +kernel
theorem dX11_isDraw_15 : decode cX11_isDraw 15 = .ok (.iload_n 1, 1) := by decide +kernel
theorem dX11_isDraw_16 : decode cX11_isDraw 16 = .ok (.bipush 40, 2) := by decide +kernel
theorem dX11_isDraw_18 : decode cX11_isDraw 18 = .ok (.if_icmp .gt 7, 3) := by decide +kernel
theorem dX11_isDraw_21 : decode cX11_isDraw 21 = .ok (.iconst 1, 1) := by decide +kernel
theorem dX11_isDraw_22 : decode cX11_isDraw 22 = .ok (.goto 4, 3) := by decide +kernel
theorem dX11_isSlot_0 : decode cX11_isSlot 0 = .ok (.iload_n 0, 1) := by decide +kernel
theorem dX11_isSlot_1 : decode cX11_isSlot 1 = .ok (.ifCond .lt 12, 3) := by decide +kernel
theorem dX11_isSlot_13 : decode cX11_isSlot 13 = .ok (.iconst 0, 1) := by decide +kernel
theorem dX11_isSlot_14 : decode cX11_isSlot 14 = .ok (.ireturn, 1) := by decide +kernel
theorem dX11_isSlot_4 : decode cX11_isSlot 4 = .ok (.iload_n 0, 1) := by decide +kernel
theorem dX11_isSlot_5 : decode cX11_isSlot 5 = .ok (.iconst 4, 1) := by decide +kernel
theorem dX11_isSlot_6 : decode cX11_isSlot 6 = .ok (.if_icmp .ge 7, 3) := by decide +kernel
theorem dX11_isSlot_9 : decode cX11_isSlot 9 = .ok (.iconst 1, 1) := by decide +kernel
theorem dX11_isSlot_10 : decode cX11_isSlot 10 = .ok (.goto 4, 3) := by decide +kernel
theorem dJ6_bitCount_0f7a4_0 : decode cJ6_bitCount_0f7a4 0 = .ok (.iload_n 0, 1) := by decide +kernel
theorem dJ6_bitCount_0f7a4_1 : decode cJ6_bitCount_0f7a4 1 = .ok (.iload_n 0, 1) := by decide +kernel
theorem dJ6_bitCount_0f7a4_2 : decode cJ6_bitCount_0f7a4 2 = .ok (.iconst 1, 1) := by decide +kernel
theorem dJ6_bitCount_0f7a4_3 : decode cJ6_bitCount_0f7a4 3 = .ok (.iushr, 1) := by decide +kernel
theorem dJ6_bitCount_0f7a4_4 : decode cJ6_bitCount_0f7a4 4 = .ok (.ldc_w 265, 3) := by decide +kernel
theorem dJ6_bitCount_0f7a4_7 : decode cJ6_bitCount_0f7a4 7 = .ok (.iand, 1) := by decide +kernel
theorem dJ6_bitCount_0f7a4_8 : decode cJ6_bitCount_0f7a4 8 = .ok (.isub, 1) := by decide +kernel
theorem dJ6_bitCount_0f7a4_9 : decode cJ6_bitCount_0f7a4 9 = .ok (.istore_n 0, 1) := by decide +kernel
theorem dJ6_bitCount_0f7a4_10 : decode cJ6_bitCount_0f7a4 10 = .ok (.iload_n 0, 1) := by decide +kernel
theorem dJ6_bitCount_0f7a4_11 : decode cJ6_bitCount_0f7a4 11 = .ok (.ldc_w 266, 3) := by decide +kernel
theorem dJ6_bitCount_0f7a4_14 : decode cJ6_bitCount_0f7a4 14 = .ok (.iand, 1) := by decide +kernel
theorem dJ6_bitCount_0f7a4_15 : decode cJ6_bitCount_0f7a4 15 = .ok (.iload_n 0, 1) := by decide +kernel
theorem dJ6_bitCount_0f7a4_16 : decode cJ6_bitCount_0f7a4 16 = .ok (.iconst 2, 1) := by decide +kernel
theorem dJ6_bitCount_0f7a4_17 : decode cJ6_bitCount_0f7a4 17 = .ok (.iushr, 1) := by decide +kernel
theorem dJ6_bitCount_0f7a4_18 : decode cJ6_bitCount_0f7a4 18 = .ok (.ldc_w 266, 3) := by decide +kernel
theorem dJ6_bitCount_0f7a4_21 : decode cJ6_bitCount_0f7a4 21 = .ok (.iand, 1) := by decide +kernel
theorem dJ6_bitCount_0f7a4_22 : decode cJ6_bitCount_0f7a4 22 = .ok (.iadd, 1) := by decide +kernel
theorem dJ6_bitCount_0f7a4_23 : decode cJ6_bitCount_0f7a4 23 = .ok (.istore_n 0, 1) := by decide +kernel
theorem dJ6_bitCount_0f7a4_24 : decode cJ6_bitCount_0f7a4 24 = .ok (.iload_n 0, 1) := by decide +kernel
theorem dJ6_bitCount_0f7a4_25 : decode cJ6_bitCount_0f7a4 25 = .ok (.iload_n 0, 1) := by decide +kernel
theorem dJ6_bitCount_0f7a4_26 : decode cJ6_bitCount_0f7a4 26 = .ok (.iconst 4, 1) := by decide +kernel
theorem dJ6_bitCount_0f7a4_27 : decode cJ6_bitCount_0f7a4 27 = .ok (.iushr, 1) := by decide +kernel
theorem dJ6_bitCount_0f7a4_28 : decode cJ6_bitCount_0f7a4 28 = .ok (.iadd, 1) := by decide +kernel
theorem dJ6_bitCount_0f7a4_29 : decode cJ6_bitCount_0f7a4 29 = .ok (.ldc_w 267, 3) := by decide +kernel
theorem dJ6_bitCount_0f7a4_32 : decode cJ6_bitCount_0f7a4 32 = .ok (.iand, 1) := by decide +kernel
theorem dJ6_bitCount_0f7a4_33 : decode cJ6_bitCount_0f7a4 33 = .ok (.istore_n 0, 1) := by decide +kernel
theorem dJ6_bitCount_0f7a4_34 : decode cJ6_bitCount_0f7a4 34 = .ok (.iload_n 0, 1) := by decide +kernel
theorem dJ6_bitCount_0f7a4_35 : decode cJ6_bitCount_0f7a4 35 = .ok (.iload_n 0, 1) := by decide +kernel
theorem dJ6_bitCount_0f7a4_36 : decode cJ6_bitCount_0f7a4 36 = .ok (.bipush 8, 2) := by decide +kernel
theorem dJ6_bitCount_0f7a4_38 : decode cJ6_bitCount_0f7a4 38 = .ok (.iushr, 1) := by decide +kernel
theorem dJ6_bitCount_0f7a4_39 : decode cJ6_bitCount_0f7a4 39 = .ok (.iadd, 1) := by decide +kernel
theorem dJ6_bitCount_0f7a4_40 : decode cJ6_bitCount_0f7a4 40 = .ok (.istore_n 0, 1) := by decide +kernel
theorem dJ6_bitCount_0f7a4_41 : decode cJ6_bitCount_0f7a4 41 = .ok (.iload_n 0, 1) := by decide +kernel
theorem dJ6_bitCount_0f7a4_42 : decode cJ6_bitCount_0f7a4 42 = .ok (.iload_n 0, 1) := by decide +kernel
theorem dJ6_bitCount_0f7a4_43 : decode cJ6_bitCount_0f7a4 43 = .ok (.bipush 16, 2) := by decide +kernel
theorem dJ6_bitCount_0f7a4_45 : decode cJ6_bitCount_0f7a4 45 = .ok (.iushr, 1) := by decide +kernel
theorem dJ6_bitCount_0f7a4_46 : decode cJ6_bitCount_0f7a4 46 = .ok (.iadd, 1) := by decide +kernel
theorem dJ6_bitCount_0f7a4_47 : decode cJ6_bitCount_0f7a4 47 = .ok (.istore_n 0, 1) := by decide +kernel
theorem dJ6_bitCount_0f7a4_48 : decode cJ6_bitCount_0f7a4 48 = .ok (.iload_n 0, 1) := by decide +kernel
theorem dJ6_bitCount_0f7a4_49 : decode cJ6_bitCount_0f7a4 49 = .ok (.bipush 63, 2) := by decide +kernel
theorem dJ6_bitCount_0f7a4_51 : decode cJ6_bitCount_0f7a4 51 = .ok (.iand, 1) := by decide +kernel
theorem dJ6_bitCount_0f7a4_52 : decode cJ6_bitCount_0f7a4 52 = .ok (.ireturn, 1) := by decide +kernel
theorem dX10_hasPlace_0 : decode cX10_hasPlace 0 = .ok (.iload_n 1, 1) := by decide +kernel
theorem dX10_hasPlace_1 : decode cX10_hasPlace 1 = .ok (.ifCond .lt 21, 3) := by decide +kernel
theorem dX10_hasPlace_22 : decode cX10_hasPlace 22 = .ok (.iconst 0, 1) := by decide +kernel
theorem dX10_hasPlace_23 : decode cX10_hasPlace 23 = .ok (.ireturn, 1) := by decide +kernel
theorem dX10_hasPlace_4 : decode cX10_hasPlace 4 = .ok (.iload_n 1, 1) := by decide +kernel
theorem dX10_hasPlace_5 : decode cX10_hasPlace 5 = .ok (.aload_n 0, 1) := by decide +kernel
theorem dX10_hasPlace_6 : decode cX10_hasPlace 6 = .ok (.getfield 42, 3) := by decide +kernel
theorem dX10_hasPlace_9 : decode cX10_hasPlace 9 = .ok (.if_icmp .ge 13, 3) := by decide +kernel
theorem dX10_hasPupil_0 : decode cX10_hasPupil 0 = .ok (.iload_n 1, 1) := by decide +kernel
theorem dX10_hasPupil_1 : decode cX10_hasPupil 1 = .ok (.ifCond .lt 20, 3) := by decide +kernel
theorem dX10_hasPupil_21 : decode cX10_hasPupil 21 = .ok (.iconst 0, 1) := by decide +kernel
theorem dX10_hasPupil_22 : decode cX10_hasPupil 22 = .ok (.ireturn, 1) := by decide +kernel
theorem dX10_hasPupil_4 : decode cX10_hasPupil 4 = .ok (.iload_n 1, 1) := by decide +kernel
theorem dX10_hasPupil_5 : decode cX10_hasPupil 5 = .ok (.aload_n 0, 1) := by decide +kernel
theorem dX10_hasPupil_6 : decode cX10_hasPupil 6 = .ok (.getfield 46, 3) := by decide +kernel
theorem dX10_hasPupil_9 : decode cX10_hasPupil 9 = .ok (.if_icmp .ge 12, 3) := by decide +kernel
theorem dX10_stands_0 : decode cX10_stands 0 = .ok (.aload_n 0, 1) := by decide +kernel
theorem dX10_stands_1 : decode cX10_stands 1 = .ok (.getfield 52, 3) := by decide +kernel
theorem dX10_stands_4 : decode cX10_stands 4 = .ok (.ifCond .le 7, 3) := by decide +kernel
theorem dX10_stands_11 : decode cX10_stands 11 = .ok (.iconst 0, 1) := by decide +kernel
theorem dX10_stands_12 : decode cX10_stands 12 = .ok (.ireturn, 1) := by decide +kernel
theorem dX10_all_0 : decode cX10_all 0 = .ok (.iconst 1, 1) := by decide +kernel
theorem dX10_all_1 : decode cX10_all 1 = .ok (.aload_n 0, 1) := by decide +kernel
theorem dX10_all_2 : decode cX10_all 2 = .ok (.getfield 42, 3) := by decide +kernel
theorem dX10_all_5 : decode cX10_all 5 = .ok (.ishl, 1) := by decide +kernel
theorem dX10_all_6 : decode cX10_all 6 = .ok (.iconst 1, 1) := by decide +kernel
theorem dX10_all_7 : decode cX10_all 7 = .ok (.isub, 1) := by decide +kernel
theorem dX10_all_8 : decode cX10_all 8 = .ok (.ireturn, 1) := by decide +kernel
theorem dX10_hasSet_0 : decode cX10_hasSet 0 = .ok (.iload_n 1, 1) := by decide +kernel
theorem dX10_hasSet_1 : decode cX10_hasSet 1 = .ok (.iconst 1, 1) := by decide +kernel
theorem dX10_hasSet_2 : decode cX10_hasSet 2 = .ok (.if_icmp .lt 15, 3) := by decide +kernel
theorem dX10_hasSet_17 : decode cX10_hasSet 17 = .ok (.iconst 0, 1) := by decide +kernel
theorem dX10_hasSet_18 : decode cX10_hasSet 18 = .ok (.ireturn, 1) := by decide +kernel
theorem dX10_hasSet_5 : decode cX10_hasSet 5 = .ok (.iload_n 1, 1) := by decide +kernel
theorem dX10_hasSet_6 : decode cX10_hasSet 6 = .ok (.aload_n 0, 1) := by decide +kernel
theorem dX10_hasSet_7 : decode cX10_hasSet 7 = .ok (.invokevirtual 61, 3) := by decide +kernel
theorem dX10_hasSet_10 : decode cX10_hasSet 10 = .ok (.if_icmp .gt 7, 3) := by decide +kernel
theorem dX10_showing_0 : decode cX10_showing 0 = .ok (.iconst 0, 1) := by decide +kernel
theorem dX10_showing_1 : decode cX10_showing 1 = .ok (.istore_n 3, 1) := by decide +kernel
theorem dX10_showing_2 : decode cX10_showing 2 = .ok (.iconst 0, 1) := by decide +kernel
theorem dX10_showing_3 : decode cX10_showing 3 = .ok (.istore 4, 2) := by decide +kernel
theorem dX10_showing_5 : decode cX10_showing 5 = .ok (.iload 4, 2) := by decide +kernel
theorem dX10_showing_7 : decode cX10_showing 7 = .ok (.aload_n 0, 1) := by decide +kernel
theorem dX10_showing_8 : decode cX10_showing 8 = .ok (.getfield 42, 3) := by decide +kernel
theorem dX10_showing_11 : decode cX10_showing 11 = .ok (.if_icmp .ge 43, 3) := by decide +kernel
theorem dX10_showing_54 : decode cX10_showing 54 = .ok (.iload_n 3, 1) := by decide +kernel
theorem dX10_showing_55 : decode cX10_showing 55 = .ok (.ireturn, 1) := by decide +kernel
theorem dX10_marked_0 : decode cX10_marked 0 = .ok (.aload_n 0, 1) := by decide +kernel
theorem dX10_marked_1 : decode cX10_marked 1 = .ok (.invokevirtual 61, 3) := by decide +kernel
theorem dX10_marked_4 : decode cX10_marked 4 = .ok (.aload_n 0, 1) := by decide +kernel
theorem dX10_marked_5 : decode cX10_marked 5 = .ok (.aload_n 0, 1) := by decide +kernel
theorem dX10_marked_6 : decode cX10_marked 6 = .ok (.invokevirtual 61, 3) := by decide +kernel
theorem dX10_marked_9 : decode cX10_marked 9 = .ok (.iconst 0, 1) := by decide +kernel
theorem dX10_marked_10 : decode cX10_marked 10 = .ok (.invokevirtual 76, 3) := by decide +kernel
theorem dX10_marked_13 : decode cX10_marked 13 = .ok (.iconst (-1), 1) := by decide +kernel
theorem dX10_marked_14 : decode cX10_marked 14 = .ok (.ixor, 1) := by decide +kernel
theorem dX10_marked_15 : decode cX10_marked 15 = .ok (.iand, 1) := by decide +kernel
theorem dX10_marked_16 : decode cX10_marked 16 = .ok (.ireturn, 1) := by decide +kernel
theorem dX10_waysElsewhere_0 : decode cX10_waysElsewhere 0 = .ok (.iconst 0, 1) := by decide +kernel
theorem dX10_waysElsewhere_1 : decode cX10_waysElsewhere 1 = .ok (.istore_n 1, 1) := by decide +kernel
theorem dX10_waysElsewhere_2 : decode cX10_waysElsewhere 2 = .ok (.iconst 0, 1) := by decide +kernel
theorem dX10_waysElsewhere_3 : decode cX10_waysElsewhere 3 = .ok (.istore_n 2, 1) := by decide +kernel
theorem dX10_waysElsewhere_4 : decode cX10_waysElsewhere 4 = .ok (.iload_n 2, 1) := by decide +kernel
theorem dX10_waysElsewhere_5 : decode cX10_waysElsewhere 5 = .ok (.aload_n 0, 1) := by decide +kernel
theorem dX10_waysElsewhere_6 : decode cX10_waysElsewhere 6 = .ok (.getfield 42, 3) := by decide +kernel
theorem dX10_waysElsewhere_9 : decode cX10_waysElsewhere 9 = .ok (.if_icmp .ge 40, 3) := by decide +kernel
theorem dX10_waysElsewhere_49 : decode cX10_waysElsewhere 49 = .ok (.iload_n 1, 1) := by decide +kernel
theorem dX10_waysElsewhere_50 : decode cX10_waysElsewhere 50 = .ok (.ireturn, 1) := by decide +kernel
theorem dX5_has_0 : decode cX5_has 0 = .ok (.iload_n 1, 1) := by decide +kernel
theorem dX5_has_1 : decode cX5_has 1 = .ok (.invokestatic 28, 3) := by decide +kernel
theorem dX5_has_4 : decode cX5_has 4 = .ok (.ifCond .eq 17, 3) := by decide +kernel
theorem dX5_has_7 : decode cX5_has 7 = .ok (.aload_n 0, 1) := by decide +kernel
theorem dX5_has_8 : decode cX5_has 8 = .ok (.getfield 19, 3) := by decide +kernel
theorem dX5_has_11 : decode cX5_has 11 = .ok (.iload_n 1, 1) := by decide +kernel
theorem dX5_has_12 : decode cX5_has 12 = .ok (.iaload, 1) := by decide +kernel
theorem dX5_has_13 : decode cX5_has 13 = .ok (.iconst (-1), 1) := by decide +kernel
theorem dX5_has_14 : decode cX5_has 14 = .ok (.if_icmp .eq 7, 3) := by decide +kernel
theorem dX5_has_21 : decode cX5_has 21 = .ok (.iconst 0, 1) := by decide +kernel
theorem dX5_has_22 : decode cX5_has 22 = .ok (.ireturn, 1) := by decide +kernel
theorem dX5_kept_0 : decode cX5_kept 0 = .ok (.iconst 0, 1) := by decide +kernel
theorem dX5_kept_1 : decode cX5_kept 1 = .ok (.istore_n 1, 1) := by decide +kernel
theorem dX5_kept_2 : decode cX5_kept 2 = .ok (.iconst 0, 1) := by decide +kernel
theorem dX5_kept_3 : decode cX5_kept 3 = .ok (.istore_n 2, 1) := by decide +kernel
theorem dX5_kept_4 : decode cX5_kept 4 = .ok (.iload_n 2, 1) := by decide +kernel
theorem dX5_kept_5 : decode cX5_kept 5 = .ok (.iconst 4, 1) := by decide +kernel
theorem dX5_kept_6 : decode cX5_kept 6 = .ok (.if_icmp .ge 25, 3) := by decide +kernel
theorem dX5_kept_9 : decode cX5_kept 9 = .ok (.iload_n 1, 1) := by decide +kernel
theorem dX5_kept_10 : decode cX5_kept 10 = .ok (.aload_n 0, 1) := by decide +kernel
theorem dX5_kept_11 : decode cX5_kept 11 = .ok (.iload_n 2, 1) := by decide +kernel
theorem dX5_kept_12 : decode cX5_kept 12 = .ok (.invokevirtual 35, 3) := by decide +kernel
theorem dX5_kept_15 : decode cX5_kept 15 = .ok (.ifCond .eq 7, 3) := by decide +kernel
theorem dX5_kept_22 : decode cX5_kept 22 = .ok (.iconst 0, 1) := by decide +kernel
theorem dX5_kept_23 : decode cX5_kept 23 = .ok (.iadd, 1) := by decide +kernel
theorem dX5_kept_24 : decode cX5_kept 24 = .ok (.istore_n 1, 1) := by decide +kernel
theorem dX5_kept_25 : decode cX5_kept 25 = .ok (.iinc 2 1, 3) := by decide +kernel
theorem dX5_kept_28 : decode cX5_kept 28 = .ok (.goto (-24), 3) := by decide +kernel
theorem dX5_kept_31 : decode cX5_kept 31 = .ok (.iload_n 1, 1) := by decide +kernel
theorem dX5_kept_32 : decode cX5_kept 32 = .ok (.ireturn, 1) := by decide +kernel
theorem dX11_arePlaces_0 : decode cX11_arePlaces 0 = .ok (.aload_n 0, 1) := by decide +kernel
theorem dX11_arePlaces_1 : decode cX11_arePlaces 1 = .ok (.getfield 19, 3) := by decide +kernel
theorem dX11_arePlaces_4 : decode cX11_arePlaces 4 = .ok (.iload_n 1, 1) := by decide +kernel
theorem dX11_arePlaces_5 : decode cX11_arePlaces 5 = .ok (.invokevirtual 126, 3) := by decide +kernel
theorem dX11_arePlaces_8 : decode cX11_arePlaces 8 = .ok (.ifCond .eq 18, 3) := by decide +kernel
theorem dX11_arePlaces_26 : decode cX11_arePlaces 26 = .ok (.iconst 0, 1) := by decide +kernel
theorem dX11_arePlaces_27 : decode cX11_arePlaces 27 = .ok (.ireturn, 1) := by decide +kernel
theorem dX11_stand_0 : decode cX11_stand 0 = .ok (.aload_n 0, 1) := by decide +kernel
theorem dX11_stand_1 : decode cX11_stand 1 = .ok (.getfield 19, 3) := by decide +kernel
theorem dX11_stand_4 : decode cX11_stand 4 = .ok (.iload_n 1, 1) := by decide +kernel
theorem dX11_stand_5 : decode cX11_stand 5 = .ok (.invokevirtual 334, 3) := by decide +kernel
theorem dX11_stand_8 : decode cX11_stand 8 = .ok (.ifCond .ne 5, 3) := by decide +kernel
theorem dX11_stand_11 : decode cX11_stand 11 = .ok (.iconst 0, 1) := by decide +kernel
theorem dX11_stand_12 : decode cX11_stand 12 = .ok (.ireturn, 1) := by decide +kernel
theorem dX11_refuseWalk_0 : decode cX11_refuseWalk 0 = .ok (.iload_n 1, 1) := by decide +kernel
theorem dX11_refuseWalk_1 : decode cX11_refuseWalk 1 = .ok (.invokestatic 352, 3) := by decide +kernel
theorem dX11_refuseWalk_4 : decode cX11_refuseWalk 4 = .ok (.ifCond .eq 11, 3) := by decide +kernel
theorem dX11_refuseWalk_7 : decode cX11_refuseWalk 7 = .ok (.aload_n 0, 1) := by decide +kernel
theorem dX11_refuseWalk_8 : decode cX11_refuseWalk 8 = .ok (.iload_n 2, 1) := by decide +kernel
theorem dX11_refuseWalk_9 : decode cX11_refuseWalk 9 = .ok (.invokevirtual 152, 3) := by decide +kernel
theorem dX11_refuseWalk_12 : decode cX11_refuseWalk 12 = .ok (.ifCond .ne 6, 3) := by decide +kernel
theorem dX11_refuseWalk_15 : decode cX11_refuseWalk 15 = .ok (.bipush (-2), 2) := by decide +kernel
theorem dX11_refuseWalk_17 : decode cX11_refuseWalk 17 = .ok (.ireturn, 1) := by decide +kernel
theorem dX11_refuseReading_0 : decode cX11_refuseReading 0 = .ok (.iload_n 1, 1) := by decide +kernel
theorem dX11_refuseReading_1 : decode cX11_refuseReading 1 = .ok (.invokestatic 352, 3) := by decide +kernel
theorem dX11_refuseReading_4 : decode cX11_refuseReading 4 = .ok (.ifCond .eq 13, 3) := by decide +kernel
theorem dX11_refuseReading_7 : decode cX11_refuseReading 7 = .ok (.aload_n 0, 1) := by decide +kernel
theorem dX11_refuseReading_8 : decode cX11_refuseReading 8 = .ok (.getfield 19, 3) := by decide +kernel
theorem dX11_refuseReading_11 : decode cX11_refuseReading 11 = .ok (.invokevirtual 185, 3) := by decide +kernel
theorem dX11_refuseReading_14 : decode cX11_refuseReading 14 = .ok (.ifCond .ne 6, 3) := by decide +kernel
theorem dX11_refuseReading_17 : decode cX11_refuseReading 17 = .ok (.bipush (-2), 2) := by decide +kernel
theorem dX11_refuseReading_19 : decode cX11_refuseReading 19 = .ok (.ireturn, 1) := by decide +kernel
theorem dX11_seek_0 : decode cX11_seek 0 = .ok (.aload_n 0, 1) := by decide +kernel
theorem dX11_seek_1 : decode cX11_seek 1 = .ok (.iload_n 1, 1) := by decide +kernel
theorem dX11_seek_2 : decode cX11_seek 2 = .ok (.invokevirtual 152, 3) := by decide +kernel
theorem dX11_seek_5 : decode cX11_seek 5 = .ok (.ifCond .ne 5, 3) := by decide +kernel
theorem dX11_seek_8 : decode cX11_seek 8 = .ok (.iconst 0, 1) := by decide +kernel
theorem dX11_seek_9 : decode cX11_seek 9 = .ok (.ireturn, 1) := by decide +kernel
theorem dX11_leads_0 : decode cX11_leads 0 = .ok (.aload_n 0, 1) := by decide +kernel
theorem dX11_leads_1 : decode cX11_leads 1 = .ok (.getfield 19, 3) := by decide +kernel
theorem dX11_leads_4 : decode cX11_leads 4 = .ok (.iload_n 1, 1) := by decide +kernel
theorem dX11_leads_5 : decode cX11_leads 5 = .ok (.invokevirtual 126, 3) := by decide +kernel
theorem dX11_leads_8 : decode cX11_leads 8 = .ok (.ifCond .eq 10, 3) := by decide +kernel
theorem dX11_leads_18 : decode cX11_leads 18 = .ok (.bipush (-2), 2) := by decide +kernel
theorem dX11_leads_20 : decode cX11_leads 20 = .ok (.ireturn, 1) := by decide +kernel
theorem dX11_mark_0 : decode cX11_mark 0 = .ok (.aload_n 0, 1) := by decide +kernel
theorem dX11_mark_1 : decode cX11_mark 1 = .ok (.getfield 19, 3) := by decide +kernel
theorem dX11_mark_4 : decode cX11_mark 4 = .ok (.iload_n 1, 1) := by decide +kernel
theorem dX11_mark_5 : decode cX11_mark 5 = .ok (.invokevirtual 126, 3) := by decide +kernel
theorem dX11_mark_8 : decode cX11_mark 8 = .ok (.ifCond .eq 14, 3) := by decide +kernel
theorem dX11_mark_22 : decode cX11_mark 22 = .ok (.bipush (-2), 2) := by decide +kernel
theorem dX11_mark_24 : decode cX11_mark 24 = .ok (.ireturn, 1) := by decide +kernel
theorem dX11_becomes_0 : decode cX11_becomes 0 = .ok (.aload_n 0, 1) := by decide +kernel
theorem dX11_becomes_1 : decode cX11_becomes 1 = .ok (.getfield 19, 3) := by decide +kernel
theorem dX11_becomes_4 : decode cX11_becomes 4 = .ok (.iload_n 1, 1) := by decide +kernel
theorem dX11_becomes_5 : decode cX11_becomes 5 = .ok (.invokevirtual 140, 3) := by decide +kernel
theorem dX11_becomes_8 : decode cX11_becomes 8 = .ok (.ifCond .eq 10, 3) := by decide +kernel
theorem dX11_becomes_18 : decode cX11_becomes 18 = .ok (.bipush (-2), 2) := by decide +kernel
theorem dX11_becomes_20 : decode cX11_becomes 20 = .ok (.ireturn, 1) := by decide +kernel
theorem dX11_seen_0 : decode cX11_seen 0 = .ok (.aload_n 0, 1) := by decide +kernel
theorem dX11_seen_1 : decode cX11_seen 1 = .ok (.getfield 19, 3) := by decide +kernel
theorem dX11_seen_4 : decode cX11_seen 4 = .ok (.iload_n 1, 1) := by decide +kernel
theorem dX11_seen_5 : decode cX11_seen 5 = .ok (.invokevirtual 140, 3) := by decide +kernel
theorem dX11_seen_8 : decode cX11_seen 8 = .ok (.ifCond .eq 10, 3) := by decide +kernel
theorem dX11_seen_18 : decode cX11_seen 18 = .ok (.bipush (-2), 2) := by decide +kernel
theorem dX11_seen_20 : decode cX11_seen 20 = .ok (.ireturn, 1) := by decide +kernel
theorem dX11_where_0 : decode cX11_where 0 = .ok (.aload_n 0, 1) := by decide +kernel
theorem dX11_where_1 : decode cX11_where 1 = .ok (.iload_n 1, 1) := by decide +kernel
theorem dX11_where_2 : decode cX11_where 2 = .ok (.invokevirtual 152, 3) := by decide +kernel
theorem dX11_where_5 : decode cX11_where 5 = .ok (.ifCond .eq 13, 3) := by decide +kernel
theorem dX11_where_18 : decode cX11_where 18 = .ok (.bipush (-2), 2) := by decide +kernel
theorem dX11_where_20 : decode cX11_where 20 = .ok (.ireturn, 1) := by decide +kernel
theorem dX11_thinks_0 : decode cX11_thinks 0 = .ok (.aload_n 0, 1) := by decide +kernel
theorem dX11_thinks_1 : decode cX11_thinks 1 = .ok (.iload_n 1, 1) := by decide +kernel
theorem dX11_thinks_2 : decode cX11_thinks 2 = .ok (.invokevirtual 152, 3) := by decide +kernel
theorem dX11_thinks_5 : decode cX11_thinks 5 = .ok (.ifCond .eq 13, 3) := by decide +kernel
theorem dX11_thinks_18 : decode cX11_thinks 18 = .ok (.bipush (-2), 2) := by decide +kernel
theorem dX11_thinks_20 : decode cX11_thinks 20 = .ok (.ireturn, 1) := by decide +kernel
theorem dX11_pupil_0 : decode cX11_pupil 0 = .ok (.aload_n 0, 1) := by decide +kernel
theorem dX11_pupil_1 : decode cX11_pupil 1 = .ok (.iload_n 1, 1) := by decide +kernel
theorem dX11_pupil_2 : decode cX11_pupil 2 = .ok (.invokevirtual 152, 3) := by decide +kernel
theorem dX11_pupil_5 : decode cX11_pupil 5 = .ok (.ifCond .ne 6, 3) := by decide +kernel
theorem dX11_pupil_8 : decode cX11_pupil 8 = .ok (.bipush (-2), 2) := by decide +kernel
theorem dX11_pupil_10 : decode cX11_pupil 10 = .ok (.ireturn, 1) := by decide +kernel
theorem dX11_goes_0 : decode cX11_goes 0 = .ok (.iload_n 2, 1) := by decide +kernel
theorem dX11_goes_1 : decode cX11_goes 1 = .ok (.invokestatic 129, 3) := by decide +kernel
theorem dX11_goes_4 : decode cX11_goes 4 = .ok (.ifCond .eq 11, 3) := by decide +kernel
theorem dX11_goes_15 : decode cX11_goes 15 = .ok (.bipush (-2), 2) := by decide +kernel
theorem dX11_goes_17 : decode cX11_goes 17 = .ok (.ireturn, 1) := by decide +kernel
theorem dX11_goes_7 : decode cX11_goes 7 = .ok (.aload_n 0, 1) := by decide +kernel
theorem dX11_goes_8 : decode cX11_goes 8 = .ok (.iload_n 1, 1) := by decide +kernel
theorem dX11_goes_9 : decode cX11_goes 9 = .ok (.invokevirtual 152, 3) := by decide +kernel
theorem dX11_goes_12 : decode cX11_goes 12 = .ok (.ifCond .ne 6, 3) := by decide +kernel
theorem dX11_most_0 : decode cX11_most 0 = .ok (.aload_n 0, 1) := by decide +kernel
theorem dX11_most_1 : decode cX11_most 1 = .ok (.getfield 19, 3) := by decide +kernel
theorem dX11_most_4 : decode cX11_most 4 = .ok (.invokevirtual 185, 3) := by decide +kernel
theorem dX11_most_7 : decode cX11_most 7 = .ok (.ifCond .ne 6, 3) := by decide +kernel
theorem dX11_most_10 : decode cX11_most 10 = .ok (.bipush (-2), 2) := by decide +kernel
theorem dX11_most_12 : decode cX11_most 12 = .ok (.ireturn, 1) := by decide +kernel
theorem dX11_who_0 : decode cX11_who 0 = .ok (.aload_n 0, 1) := by decide +kernel
theorem dX11_who_1 : decode cX11_who 1 = .ok (.getfield 19, 3) := by decide +kernel
theorem dX11_who_4 : decode cX11_who 4 = .ok (.invokevirtual 185, 3) := by decide +kernel
theorem dX11_who_7 : decode cX11_who 7 = .ok (.ifCond .eq 12, 3) := by decide +kernel
theorem dX11_who_19 : decode cX11_who 19 = .ok (.bipush (-2), 2) := by decide +kernel
theorem dX11_who_21 : decode cX11_who 21 = .ok (.ireturn, 1) := by decide +kernel
theorem dX11_undo_0 : decode cX11_undo 0 = .ok (.aload_n 0, 1) := by decide +kernel
theorem dX11_undo_1 : decode cX11_undo 1 = .ok (.getfield 19, 3) := by decide +kernel
theorem dX11_undo_4 : decode cX11_undo 4 = .ok (.invokevirtual 185, 3) := by decide +kernel
theorem dX11_undo_7 : decode cX11_undo 7 = .ok (.ifCond .ne 6, 3) := by decide +kernel
theorem dX11_undo_10 : decode cX11_undo 10 = .ok (.bipush (-2), 2) := by decide +kernel
theorem dX11_undo_12 : decode cX11_undo 12 = .ok (.ireturn, 1) := by decide +kernel
theorem dX11_anew_0 : decode cX11_anew 0 = .ok (.aload_n 0, 1) := by decide +kernel
theorem dX11_anew_1 : decode cX11_anew 1 = .ok (.getfield 19, 3) := by decide +kernel
theorem dX11_anew_4 : decode cX11_anew 4 = .ok (.invokevirtual 185, 3) := by decide +kernel
theorem dX11_anew_7 : decode cX11_anew 7 = .ok (.ifCond .ne 6, 3) := by decide +kernel
theorem dX11_anew_10 : decode cX11_anew 10 = .ok (.bipush (-2), 2) := by decide +kernel
theorem dX11_anew_12 : decode cX11_anew 12 = .ok (.ireturn, 1) := by decide +kernel
theorem dX11_would_0 : decode cX11_would 0 = .ok (.aload_n 0, 1) := by decide +kernel
theorem dX11_would_1 : decode cX11_would 1 = .ok (.iload_n 1, 1) := by decide +kernel
theorem dX11_would_2 : decode cX11_would 2 = .ok (.iload_n 2, 1) := by decide +kernel
theorem dX11_would_3 : decode cX11_would 3 = .ok (.invokevirtual 191, 3) := by decide +kernel
theorem dX11_would_6 : decode cX11_would 6 = .ok (.istore_n 3, 1) := by decide +kernel
theorem dX11_would_7 : decode cX11_would 7 = .ok (.iload_n 3, 1) := by decide +kernel
theorem dX11_would_8 : decode cX11_would 8 = .ok (.ifCond .eq 5, 3) := by decide +kernel
theorem dX11_would_11 : decode cX11_would 11 = .ok (.iload_n 3, 1) := by decide +kernel
theorem dX11_would_12 : decode cX11_would 12 = .ok (.ireturn, 1) := by decide +kernel
theorem dX11_think_0 : decode cX11_think 0 = .ok (.aload_n 0, 1) := by decide +kernel
theorem dX11_think_1 : decode cX11_think 1 = .ok (.iload_n 1, 1) := by decide +kernel
theorem dX11_think_2 : decode cX11_think 2 = .ok (.iload_n 2, 1) := by decide +kernel
theorem dX11_think_3 : decode cX11_think 3 = .ok (.invokevirtual 191, 3) := by decide +kernel
theorem dX11_think_6 : decode cX11_think 6 = .ok (.istore_n 3, 1) := by decide +kernel
theorem dX11_think_7 : decode cX11_think 7 = .ok (.iload_n 3, 1) := by decide +kernel
theorem dX11_think_8 : decode cX11_think 8 = .ok (.ifCond .eq 5, 3) := by decide +kernel
theorem dX11_think_11 : decode cX11_think 11 = .ok (.iload_n 3, 1) := by decide +kernel
theorem dX11_think_12 : decode cX11_think 12 = .ok (.ireturn, 1) := by decide +kernel
theorem dX11_knows_0 : decode cX11_knows 0 = .ok (.aload_n 0, 1) := by decide +kernel
theorem dX11_knows_1 : decode cX11_knows 1 = .ok (.iload_n 1, 1) := by decide +kernel
theorem dX11_knows_2 : decode cX11_knows 2 = .ok (.iload_n 2, 1) := by decide +kernel
theorem dX11_knows_3 : decode cX11_knows 3 = .ok (.invokevirtual 191, 3) := by decide +kernel
theorem dX11_knows_6 : decode cX11_knows 6 = .ok (.istore_n 3, 1) := by decide +kernel
theorem dX11_knows_7 : decode cX11_knows 7 = .ok (.iload_n 3, 1) := by decide +kernel
theorem dX11_knows_8 : decode cX11_knows 8 = .ok (.ifCond .eq 7, 3) := by decide +kernel
theorem dX11_knows_11 : decode cX11_knows 11 = .ok (.iload_n 3, 1) := by decide +kernel
theorem dX11_knows_12 : decode cX11_knows 12 = .ok (.goto 9, 3) := by decide +kernel
theorem dX11_knows_21 : decode cX11_knows 21 = .ok (.ireturn, 1) := by decide +kernel
theorem dX11_loses_0 : decode cX11_loses 0 = .ok (.aload_n 0, 1) := by decide +kernel
theorem dX11_loses_1 : decode cX11_loses 1 = .ok (.iload_n 1, 1) := by decide +kernel
theorem dX11_loses_2 : decode cX11_loses 2 = .ok (.iload_n 2, 1) := by decide +kernel
theorem dX11_loses_3 : decode cX11_loses 3 = .ok (.invokevirtual 191, 3) := by decide +kernel
theorem dX11_loses_6 : decode cX11_loses 6 = .ok (.istore_n 3, 1) := by decide +kernel
theorem dX11_loses_7 : decode cX11_loses 7 = .ok (.iload_n 3, 1) := by decide +kernel
theorem dX11_loses_8 : decode cX11_loses 8 = .ok (.ifCond .eq 7, 3) := by decide +kernel
theorem dX11_loses_11 : decode cX11_loses 11 = .ok (.iload_n 3, 1) := by decide +kernel
theorem dX11_loses_12 : decode cX11_loses 12 = .ok (.goto 9, 3) := by decide +kernel
theorem dX11_loses_21 : decode cX11_loses 21 = .ok (.ireturn, 1) := by decide +kernel
theorem dX11_doubts_0 : decode cX11_doubts 0 = .ok (.aload_n 0, 1) := by decide +kernel
theorem dX11_doubts_1 : decode cX11_doubts 1 = .ok (.iload_n 1, 1) := by decide +kernel
theorem dX11_doubts_2 : decode cX11_doubts 2 = .ok (.iload_n 2, 1) := by decide +kernel
theorem dX11_doubts_3 : decode cX11_doubts 3 = .ok (.invokevirtual 191, 3) := by decide +kernel
theorem dX11_doubts_6 : decode cX11_doubts 6 = .ok (.istore_n 3, 1) := by decide +kernel
theorem dX11_doubts_7 : decode cX11_doubts 7 = .ok (.iload_n 3, 1) := by decide +kernel
theorem dX11_doubts_8 : decode cX11_doubts 8 = .ok (.ifCond .eq 5, 3) := by decide +kernel
theorem dX11_doubts_11 : decode cX11_doubts 11 = .ok (.iload_n 3, 1) := by decide +kernel
theorem dX11_doubts_12 : decode cX11_doubts 12 = .ok (.ireturn, 1) := by decide +kernel
theorem dX11_blur_0 : decode cX11_blur 0 = .ok (.iload_n 2, 1) := by decide +kernel
theorem dX11_blur_1 : decode cX11_blur 1 = .ok (.iconst 1, 1) := by decide +kernel
theorem dX11_blur_2 : decode cX11_blur 2 = .ok (.if_icmp .lt 23, 3) := by decide +kernel
theorem dX11_blur_25 : decode cX11_blur 25 = .ok (.bipush (-2), 2) := by decide +kernel
theorem dX11_blur_27 : decode cX11_blur 27 = .ok (.ireturn, 1) := by decide +kernel
theorem dX11_blur_5 : decode cX11_blur 5 = .ok (.aload_n 0, 1) := by decide +kernel
theorem dX11_blur_6 : decode cX11_blur 6 = .ok (.iload_n 1, 1) := by decide +kernel
theorem dX11_blur_7 : decode cX11_blur 7 = .ok (.iconst 1, 1) := by decide +kernel
theorem dX11_blur_8 : decode cX11_blur 8 = .ok (.iload_n 2, 1) := by decide +kernel
theorem dX11_blur_9 : decode cX11_blur 9 = .ok (.invokevirtual 212, 3) := by decide +kernel
theorem dX11_blur_12 : decode cX11_blur 12 = .ok (.ifCond .eq 13, 3) := by decide +kernel
theorem dX11_blurs_0 : decode cX11_blurs 0 = .ok (.iload_n 2, 1) := by decide +kernel
theorem dX11_blurs_1 : decode cX11_blurs 1 = .ok (.iconst 1, 1) := by decide +kernel
theorem dX11_blurs_2 : decode cX11_blurs 2 = .ok (.if_icmp .lt 24, 3) := by decide +kernel
theorem dX11_blurs_26 : decode cX11_blurs 26 = .ok (.bipush (-2), 2) := by decide +kernel
theorem dX11_blurs_28 : decode cX11_blurs 28 = .ok (.ireturn, 1) := by decide +kernel
theorem dX11_blurs_5 : decode cX11_blurs 5 = .ok (.aload_n 0, 1) := by decide +kernel
theorem dX11_blurs_6 : decode cX11_blurs 6 = .ok (.iload_n 1, 1) := by decide +kernel
theorem dX11_blurs_7 : decode cX11_blurs 7 = .ok (.iconst 1, 1) := by decide +kernel
theorem dX11_blurs_8 : decode cX11_blurs 8 = .ok (.iload_n 2, 1) := by decide +kernel
theorem dX11_blurs_9 : decode cX11_blurs 9 = .ok (.invokevirtual 212, 3) := by decide +kernel
theorem dX11_blurs_12 : decode cX11_blurs 12 = .ok (.ifCond .eq 14, 3) := by decide +kernel
theorem dX11_stray_0 : decode cX11_stray 0 = .ok (.aload_n 0, 1) := by decide +kernel
theorem dX11_stray_1 : decode cX11_stray 1 = .ok (.iload_n 1, 1) := by decide +kernel
theorem dX11_stray_2 : decode cX11_stray 2 = .ok (.iconst 2, 1) := by decide +kernel
theorem dX11_stray_3 : decode cX11_stray 3 = .ok (.iconst 0, 1) := by decide +kernel
theorem dX11_stray_4 : decode cX11_stray 4 = .ok (.invokevirtual 212, 3) := by decide +kernel
theorem dX11_stray_7 : decode cX11_stray 7 = .ok (.ifCond .eq 13, 3) := by decide +kernel
theorem dX11_stray_20 : decode cX11_stray 20 = .ok (.bipush (-2), 2) := by decide +kernel
theorem dX11_stray_22 : decode cX11_stray 22 = .ok (.ireturn, 1) := by decide +kernel
theorem dX11_strays_0 : decode cX11_strays 0 = .ok (.aload_n 0, 1) := by decide +kernel
theorem dX11_strays_1 : decode cX11_strays 1 = .ok (.iload_n 1, 1) := by decide +kernel
theorem dX11_strays_2 : decode cX11_strays 2 = .ok (.iconst 2, 1) := by decide +kernel
theorem dX11_strays_3 : decode cX11_strays 3 = .ok (.iconst 0, 1) := by decide +kernel
theorem dX11_strays_4 : decode cX11_strays 4 = .ok (.invokevirtual 212, 3) := by decide +kernel
theorem dX11_strays_7 : decode cX11_strays 7 = .ok (.ifCond .eq 14, 3) := by decide +kernel
theorem dX11_strays_21 : decode cX11_strays 21 = .ok (.bipush (-2), 2) := by decide +kernel
theorem dX11_strays_23 : decode cX11_strays 23 = .ok (.ireturn, 1) := by decide +kernel
theorem dX11_home_0 : decode cX11_home 0 = .ok (.aload_n 0, 1) := by decide +kernel
theorem dX11_home_1 : decode cX11_home 1 = .ok (.iload_n 1, 1) := by decide +kernel
theorem dX11_home_2 : decode cX11_home 2 = .ok (.iconst 3, 1) := by decide +kernel
theorem dX11_home_3 : decode cX11_home 3 = .ok (.iconst 0, 1) := by decide +kernel
theorem dX11_home_4 : decode cX11_home 4 = .ok (.invokevirtual 212, 3) := by decide +kernel
theorem dX11_home_7 : decode cX11_home 7 = .ok (.ifCond .eq 13, 3) := by decide +kernel
theorem dX11_home_20 : decode cX11_home 20 = .ok (.bipush (-2), 2) := by decide +kernel
theorem dX11_home_22 : decode cX11_home 22 = .ok (.ireturn, 1) := by decide +kernel
theorem dX11_homes_0 : decode cX11_homes 0 = .ok (.aload_n 0, 1) := by decide +kernel
theorem dX11_homes_1 : decode cX11_homes 1 = .ok (.iload_n 1, 1) := by decide +kernel
theorem dX11_homes_2 : decode cX11_homes 2 = .ok (.iconst 3, 1) := by decide +kernel
theorem dX11_homes_3 : decode cX11_homes 3 = .ok (.iconst 0, 1) := by decide +kernel
theorem dX11_homes_4 : decode cX11_homes 4 = .ok (.invokevirtual 212, 3) := by decide +kernel
theorem dX11_homes_7 : decode cX11_homes 7 = .ok (.ifCond .eq 14, 3) := by decide +kernel
theorem dX11_homes_21 : decode cX11_homes 21 = .ok (.bipush (-2), 2) := by decide +kernel
theorem dX11_homes_23 : decode cX11_homes 23 = .ok (.ireturn, 1) := by decide +kernel
theorem dX11_states_0 : decode cX11_states 0 = .ok (.aload_n 0, 1) := by decide +kernel
theorem dX11_states_1 : decode cX11_states 1 = .ok (.iload_n 1, 1) := by decide +kernel
theorem dX11_states_2 : decode cX11_states 2 = .ok (.iconst 0, 1) := by decide +kernel
theorem dX11_states_3 : decode cX11_states 3 = .ok (.iconst 0, 1) := by decide +kernel
theorem dX11_states_4 : decode cX11_states 4 = .ok (.invokevirtual 212, 3) := by decide +kernel
theorem dX11_states_7 : decode cX11_states 7 = .ok (.ifCond .eq 13, 3) := by decide +kernel
theorem dX11_states_20 : decode cX11_states 20 = .ok (.bipush (-2), 2) := by decide +kernel
theorem dX11_states_22 : decode cX11_states 22 = .ok (.ireturn, 1) := by decide +kernel
theorem dX11_plan_0 : decode cX11_plan 0 = .ok (.aload_n 0, 1) := by decide +kernel
theorem dX11_plan_1 : decode cX11_plan 1 = .ok (.getfield 19, 3) := by decide +kernel
theorem dX11_plan_4 : decode cX11_plan 4 = .ok (.iload_n 1, 1) := by decide +kernel
theorem dX11_plan_5 : decode cX11_plan 5 = .ok (.invokevirtual 140, 3) := by decide +kernel
theorem dX11_plan_8 : decode cX11_plan 8 = .ok (.ifCond .ne 6, 3) := by decide +kernel
theorem dX11_plan_11 : decode cX11_plan 11 = .ok (.bipush (-2), 2) := by decide +kernel
theorem dX11_plan_13 : decode cX11_plan 13 = .ok (.ireturn, 1) := by decide +kernel
theorem dX11_first_0 : decode cX11_first 0 = .ok (.aload_n 0, 1) := by decide +kernel
theorem dX11_first_1 : decode cX11_first 1 = .ok (.getfield 19, 3) := by decide +kernel
theorem dX11_first_4 : decode cX11_first 4 = .ok (.iload_n 1, 1) := by decide +kernel
theorem dX11_first_5 : decode cX11_first 5 = .ok (.invokevirtual 140, 3) := by decide +kernel
theorem dX11_first_8 : decode cX11_first 8 = .ok (.ifCond .ne 6, 3) := by decide +kernel
theorem dX11_first_11 : decode cX11_first 11 = .ok (.bipush (-2), 2) := by decide +kernel
theorem dX11_first_13 : decode cX11_first 13 = .ok (.ireturn, 1) := by decide +kernel
theorem dX11_hardest_0 : decode cX11_hardest 0 = .ok (.aload_n 0, 1) := by decide +kernel
theorem dX11_hardest_1 : decode cX11_hardest 1 = .ok (.getfield 19, 3) := by decide +kernel
theorem dX11_hardest_4 : decode cX11_hardest 4 = .ok (.invokevirtual 185, 3) := by decide +kernel
theorem dX11_hardest_7 : decode cX11_hardest 7 = .ok (.ifCond .ne 6, 3) := by decide +kernel
theorem dX11_hardest_10 : decode cX11_hardest 10 = .ok (.bipush (-2), 2) := by decide +kernel
theorem dX11_hardest_12 : decode cX11_hardest 12 = .ok (.ireturn, 1) := by decide +kernel
theorem dX11_alike_0 : decode cX11_alike 0 = .ok (.aload_n 0, 1) := by decide +kernel
theorem dX11_alike_1 : decode cX11_alike 1 = .ok (.iload_n 1, 1) := by decide +kernel
theorem dX11_alike_2 : decode cX11_alike 2 = .ok (.iload_n 2, 1) := by decide +kernel
theorem dX11_alike_3 : decode cX11_alike 3 = .ok (.invokevirtual 236, 3) := by decide +kernel
theorem dX11_alike_6 : decode cX11_alike 6 = .ok (.ifCond .ne 6, 3) := by decide +kernel
theorem dX11_alike_9 : decode cX11_alike 9 = .ok (.bipush (-2), 2) := by decide +kernel
theorem dX11_alike_11 : decode cX11_alike 11 = .ok (.ireturn, 1) := by decide +kernel
theorem dX11_kinds_0 : decode cX11_kinds 0 = .ok (.aload_n 0, 1) := by decide +kernel
theorem dX11_kinds_1 : decode cX11_kinds 1 = .ok (.getfield 19, 3) := by decide +kernel
theorem dX11_kinds_4 : decode cX11_kinds 4 = .ok (.invokevirtual 185, 3) := by decide +kernel
theorem dX11_kinds_7 : decode cX11_kinds 7 = .ok (.ifCond .ne 6, 3) := by decide +kernel
theorem dX11_kinds_10 : decode cX11_kinds 10 = .ok (.bipush (-2), 2) := by decide +kernel
theorem dX11_kinds_12 : decode cX11_kinds 12 = .ok (.ireturn, 1) := by decide +kernel
theorem dX11_tells_0 : decode cX11_tells 0 = .ok (.aload_n 0, 1) := by decide +kernel
theorem dX11_tells_1 : decode cX11_tells 1 = .ok (.iload_n 1, 1) := by decide +kernel
theorem dX11_tells_2 : decode cX11_tells 2 = .ok (.iload_n 2, 1) := by decide +kernel
theorem dX11_tells_3 : decode cX11_tells 3 = .ok (.invokevirtual 236, 3) := by decide +kernel
theorem dX11_tells_6 : decode cX11_tells 6 = .ok (.ifCond .ne 6, 3) := by decide +kernel
theorem dX11_tells_9 : decode cX11_tells 9 = .ok (.bipush (-2), 2) := by decide +kernel
theorem dX11_tells_11 : decode cX11_tells 11 = .ok (.ireturn, 1) := by decide +kernel
theorem dX11_told_0 : decode cX11_told 0 = .ok (.aload_n 0, 1) := by decide +kernel
theorem dX11_told_1 : decode cX11_told 1 = .ok (.iload_n 1, 1) := by decide +kernel
theorem dX11_told_2 : decode cX11_told 2 = .ok (.iload_n 2, 1) := by decide +kernel
theorem dX11_told_3 : decode cX11_told 3 = .ok (.invokevirtual 236, 3) := by decide +kernel
theorem dX11_told_6 : decode cX11_told 6 = .ok (.ifCond .ne 6, 3) := by decide +kernel
theorem dX11_told_9 : decode cX11_told 9 = .ok (.bipush (-2), 2) := by decide +kernel
theorem dX11_told_11 : decode cX11_told 11 = .ok (.ireturn, 1) := by decide +kernel
theorem dX11_bares_0 : decode cX11_bares 0 = .ok (.aload_n 0, 1) := by decide +kernel
theorem dX11_bares_1 : decode cX11_bares 1 = .ok (.iload_n 1, 1) := by decide +kernel
theorem dX11_bares_2 : decode cX11_bares 2 = .ok (.iload_n 2, 1) := by decide +kernel
theorem dX11_bares_3 : decode cX11_bares 3 = .ok (.invokevirtual 236, 3) := by decide +kernel
theorem dX11_bares_6 : decode cX11_bares 6 = .ok (.ifCond .eq 15, 3) := by decide +kernel
theorem dX11_bares_21 : decode cX11_bares 21 = .ok (.bipush (-2), 2) := by decide +kernel
theorem dX11_bares_23 : decode cX11_bares 23 = .ok (.ireturn, 1) := by decide +kernel
theorem dX11_bared_0 : decode cX11_bared 0 = .ok (.aload_n 0, 1) := by decide +kernel
theorem dX11_bared_1 : decode cX11_bared 1 = .ok (.iload_n 1, 1) := by decide +kernel
theorem dX11_bared_2 : decode cX11_bared 2 = .ok (.iload_n 2, 1) := by decide +kernel
theorem dX11_bared_3 : decode cX11_bared 3 = .ok (.invokevirtual 236, 3) := by decide +kernel
theorem dX11_bared_6 : decode cX11_bared 6 = .ok (.ifCond .eq 12, 3) := by decide +kernel
theorem dX11_bared_18 : decode cX11_bared 18 = .ok (.bipush (-2), 2) := by decide +kernel
theorem dX11_bared_20 : decode cX11_bared 20 = .ok (.ireturn, 1) := by decide +kernel
theorem dX11_gather_0 : decode cX11_gather 0 = .ok (.aload_n 0, 1) := by decide +kernel
theorem dX11_gather_1 : decode cX11_gather 1 = .ok (.getfield 19, 3) := by decide +kernel
theorem dX11_gather_4 : decode cX11_gather 4 = .ok (.iload_n 1, 1) := by decide +kernel
theorem dX11_gather_5 : decode cX11_gather 5 = .ok (.invokevirtual 140, 3) := by decide +kernel
theorem dX11_gather_8 : decode cX11_gather 8 = .ok (.ifCond .ne 6, 3) := by decide +kernel
theorem dX11_gather_11 : decode cX11_gather 11 = .ok (.bipush (-2), 2) := by decide +kernel
theorem dX11_gather_13 : decode cX11_gather 13 = .ok (.ireturn, 1) := by decide +kernel
theorem dX11_gathers_0 : decode cX11_gathers 0 = .ok (.aload_n 0, 1) := by decide +kernel
theorem dX11_gathers_1 : decode cX11_gathers 1 = .ok (.getfield 19, 3) := by decide +kernel
theorem dX11_gathers_4 : decode cX11_gathers 4 = .ok (.iload_n 1, 1) := by decide +kernel
theorem dX11_gathers_5 : decode cX11_gathers 5 = .ok (.invokevirtual 140, 3) := by decide +kernel
theorem dX11_gathers_8 : decode cX11_gathers 8 = .ok (.ifCond .ne 6, 3) := by decide +kernel
theorem dX11_gathers_11 : decode cX11_gathers 11 = .ok (.bipush (-2), 2) := by decide +kernel
theorem dX11_gathers_13 : decode cX11_gathers 13 = .ok (.ireturn, 1) := by decide +kernel
theorem dX11_roundabout_0 : decode cX11_roundabout 0 = .ok (.aload_n 0, 1) := by decide +kernel
theorem dX11_roundabout_1 : decode cX11_roundabout 1 = .ok (.getfield 19, 3) := by decide +kernel
theorem dX11_roundabout_4 : decode cX11_roundabout 4 = .ok (.iload_n 1, 1) := by decide +kernel
theorem dX11_roundabout_5 : decode cX11_roundabout 5 = .ok (.invokevirtual 140, 3) := by decide +kernel
theorem dX11_roundabout_8 : decode cX11_roundabout 8 = .ok (.ifCond .ne 6, 3) := by decide +kernel
theorem dX11_roundabout_11 : decode cX11_roundabout 11 = .ok (.bipush (-2), 2) := by decide +kernel
theorem dX11_roundabout_13 : decode cX11_roundabout 13 = .ok (.ireturn, 1) := by decide +kernel
theorem dX11_meet_0 : decode cX11_meet 0 = .ok (.aload_n 0, 1) := by decide +kernel
theorem dX11_meet_1 : decode cX11_meet 1 = .ok (.iload_n 1, 1) := by decide +kernel
theorem dX11_meet_2 : decode cX11_meet 2 = .ok (.iload_n 2, 1) := by decide +kernel
theorem dX11_meet_3 : decode cX11_meet 3 = .ok (.invokevirtual 236, 3) := by decide +kernel
theorem dX11_meet_6 : decode cX11_meet 6 = .ok (.ifCond .ne 6, 3) := by decide +kernel
theorem dX11_meet_9 : decode cX11_meet 9 = .ok (.bipush (-2), 2) := by decide +kernel
theorem dX11_meet_11 : decode cX11_meet 11 = .ok (.ireturn, 1) := by decide +kernel
theorem dX11_met_0 : decode cX11_met 0 = .ok (.aload_n 0, 1) := by decide +kernel
theorem dX11_met_1 : decode cX11_met 1 = .ok (.iload_n 1, 1) := by decide +kernel
theorem dX11_met_2 : decode cX11_met 2 = .ok (.iload_n 2, 1) := by decide +kernel
theorem dX11_met_3 : decode cX11_met 3 = .ok (.invokevirtual 236, 3) := by decide +kernel
theorem dX11_met_6 : decode cX11_met 6 = .ok (.ifCond .ne 6, 3) := by decide +kernel
theorem dX11_met_9 : decode cX11_met 9 = .ok (.bipush (-2), 2) := by decide +kernel
theorem dX11_met_11 : decode cX11_met 11 = .ok (.ireturn, 1) := by decide +kernel
theorem dX11_read_0 : decode cX11_read 0 = .ok (.aload_n 0, 1) := by decide +kernel
theorem dX11_read_1 : decode cX11_read 1 = .ok (.iload_n 1, 1) := by decide +kernel
theorem dX11_read_2 : decode cX11_read 2 = .ok (.invokevirtual 269, 3) := by decide +kernel
theorem dX11_read_5 : decode cX11_read 5 = .ok (.istore_n 2, 1) := by decide +kernel
theorem dX11_read_6 : decode cX11_read 6 = .ok (.iload_n 2, 1) := by decide +kernel
theorem dX11_read_7 : decode cX11_read 7 = .ok (.ifCond .eq 7, 3) := by decide +kernel
theorem dX11_read_10 : decode cX11_read 10 = .ok (.iload_n 2, 1) := by decide +kernel
theorem dX11_read_11 : decode cX11_read 11 = .ok (.goto 15, 3) := by decide +kernel
theorem dX11_read_26 : decode cX11_read 26 = .ok (.ireturn, 1) := by decide +kernel
theorem dX11_began_0 : decode cX11_began 0 = .ok (.aload_n 0, 1) := by decide +kernel
theorem dX11_began_1 : decode cX11_began 1 = .ok (.iload_n 1, 1) := by decide +kernel
theorem dX11_began_2 : decode cX11_began 2 = .ok (.invokevirtual 269, 3) := by decide +kernel
theorem dX11_began_5 : decode cX11_began 5 = .ok (.istore_n 2, 1) := by decide +kernel
theorem dX11_began_6 : decode cX11_began 6 = .ok (.iload_n 2, 1) := by decide +kernel
theorem dX11_began_7 : decode cX11_began 7 = .ok (.ifCond .eq 5, 3) := by decide +kernel
theorem dX11_began_10 : decode cX11_began 10 = .ok (.iload_n 2, 1) := by decide +kernel
theorem dX11_began_11 : decode cX11_began 11 = .ok (.ireturn, 1) := by decide +kernel
theorem dX11_ask_0 : decode cX11_ask 0 = .ok (.aload_n 0, 1) := by decide +kernel
theorem dX11_ask_1 : decode cX11_ask 1 = .ok (.iload_n 1, 1) := by decide +kernel
theorem dX11_ask_2 : decode cX11_ask 2 = .ok (.invokevirtual 269, 3) := by decide +kernel
theorem dX11_ask_5 : decode cX11_ask 5 = .ok (.istore_n 2, 1) := by decide +kernel
theorem dX11_ask_6 : decode cX11_ask 6 = .ok (.iload_n 2, 1) := by decide +kernel
theorem dX11_ask_7 : decode cX11_ask 7 = .ok (.ifCond .eq 7, 3) := by decide +kernel
theorem dX11_ask_10 : decode cX11_ask 10 = .ok (.iload_n 2, 1) := by decide +kernel
theorem dX11_ask_11 : decode cX11_ask 11 = .ok (.goto 19, 3) := by decide +kernel
theorem dX11_ask_30 : decode cX11_ask 30 = .ok (.ireturn, 1) := by decide +kernel
theorem dX11_leaves_0 : decode cX11_leaves 0 = .ok (.aload_n 0, 1) := by decide +kernel
theorem dX11_leaves_1 : decode cX11_leaves 1 = .ok (.iload_n 1, 1) := by decide +kernel
theorem dX11_leaves_2 : decode cX11_leaves 2 = .ok (.invokevirtual 269, 3) := by decide +kernel
theorem dX11_leaves_5 : decode cX11_leaves 5 = .ok (.istore_n 2, 1) := by decide +kernel
theorem dX11_leaves_6 : decode cX11_leaves 6 = .ok (.iload_n 2, 1) := by decide +kernel
theorem dX11_leaves_7 : decode cX11_leaves 7 = .ok (.ifCond .eq 5, 3) := by decide +kernel
theorem dX11_leaves_10 : decode cX11_leaves 10 = .ok (.iload_n 2, 1) := by decide +kernel
theorem dX11_leaves_11 : decode cX11_leaves 11 = .ok (.ireturn, 1) := by decide +kernel
theorem dX11_course_0 : decode cX11_course 0 = .ok (.aload_n 0, 1) := by decide +kernel
theorem dX11_course_1 : decode cX11_course 1 = .ok (.iload_n 1, 1) := by decide +kernel
theorem dX11_course_2 : decode cX11_course 2 = .ok (.iload_n 2, 1) := by decide +kernel
theorem dX11_course_3 : decode cX11_course 3 = .ok (.invokevirtual 191, 3) := by decide +kernel
theorem dX11_course_6 : decode cX11_course 6 = .ok (.istore_n 3, 1) := by decide +kernel
theorem dX11_course_7 : decode cX11_course 7 = .ok (.iload_n 3, 1) := by decide +kernel
theorem dX11_course_8 : decode cX11_course 8 = .ok (.ifCond .eq 5, 3) := by decide +kernel
theorem dX11_course_11 : decode cX11_course 11 = .ok (.iload_n 3, 1) := by decide +kernel
theorem dX11_course_12 : decode cX11_course 12 = .ok (.ireturn, 1) := by decide +kernel
theorem dX11_lesson_0 : decode cX11_lesson 0 = .ok (.aload_n 0, 1) := by decide +kernel
theorem dX11_lesson_1 : decode cX11_lesson 1 = .ok (.iload_n 1, 1) := by decide +kernel
theorem dX11_lesson_2 : decode cX11_lesson 2 = .ok (.iload_n 2, 1) := by decide +kernel
theorem dX11_lesson_3 : decode cX11_lesson 3 = .ok (.invokevirtual 191, 3) := by decide +kernel
theorem dX11_lesson_6 : decode cX11_lesson 6 = .ok (.istore 4, 2) := by decide +kernel
theorem dX11_lesson_8 : decode cX11_lesson 8 = .ok (.iload 4, 2) := by decide +kernel
theorem dX11_lesson_10 : decode cX11_lesson 10 = .ok (.ifCond .eq 6, 3) := by decide +kernel
theorem dX11_lesson_13 : decode cX11_lesson 13 = .ok (.iload 4, 2) := by decide +kernel
theorem dX11_lesson_15 : decode cX11_lesson 15 = .ok (.ireturn, 1) := by decide +kernel
theorem dX11_spoilt_0 : decode cX11_spoilt 0 = .ok (.aload_n 0, 1) := by decide +kernel
theorem dX11_spoilt_1 : decode cX11_spoilt 1 = .ok (.iload_n 1, 1) := by decide +kernel
theorem dX11_spoilt_2 : decode cX11_spoilt 2 = .ok (.iload_n 2, 1) := by decide +kernel
theorem dX11_spoilt_3 : decode cX11_spoilt 3 = .ok (.invokevirtual 191, 3) := by decide +kernel
theorem dX11_spoilt_6 : decode cX11_spoilt 6 = .ok (.istore_n 3, 1) := by decide +kernel
theorem dX11_spoilt_7 : decode cX11_spoilt 7 = .ok (.iload_n 3, 1) := by decide +kernel
theorem dX11_spoilt_8 : decode cX11_spoilt 8 = .ok (.ifCond .eq 5, 3) := by decide +kernel
theorem dX11_spoilt_11 : decode cX11_spoilt 11 = .ok (.iload_n 3, 1) := by decide +kernel
theorem dX11_spoilt_12 : decode cX11_spoilt 12 = .ok (.ireturn, 1) := by decide +kernel
theorem dX11_route_0 : decode cX11_route 0 = .ok (.aload_n 0, 1) := by decide +kernel
theorem dX11_route_1 : decode cX11_route 1 = .ok (.iload_n 1, 1) := by decide +kernel
theorem dX11_route_2 : decode cX11_route 2 = .ok (.iload_n 2, 1) := by decide +kernel
theorem dX11_route_3 : decode cX11_route 3 = .ok (.invokevirtual 236, 3) := by decide +kernel
theorem dX11_route_6 : decode cX11_route 6 = .ok (.ifCond .eq 20, 3) := by decide +kernel
theorem dX11_route_26 : decode cX11_route 26 = .ok (.bipush (-2), 2) := by decide +kernel
theorem dX11_route_28 : decode cX11_route 28 = .ok (.ireturn, 1) := by decide +kernel
theorem dX11_dark_0 : decode cX11_dark 0 = .ok (.aload_n 0, 1) := by decide +kernel
theorem dX11_dark_1 : decode cX11_dark 1 = .ok (.iload_n 1, 1) := by decide +kernel
theorem dX11_dark_2 : decode cX11_dark 2 = .ok (.iload_n 2, 1) := by decide +kernel
theorem dX11_dark_3 : decode cX11_dark 3 = .ok (.invokevirtual 236, 3) := by decide +kernel
theorem dX11_dark_6 : decode cX11_dark 6 = .ok (.ifCond .ne 6, 3) := by decide +kernel
theorem dX11_dark_9 : decode cX11_dark 9 = .ok (.bipush (-2), 2) := by decide +kernel
theorem dX11_dark_11 : decode cX11_dark 11 = .ok (.ireturn, 1) := by decide +kernel
theorem dX11_detour_0 : decode cX11_detour 0 = .ok (.aload_n 0, 1) := by decide +kernel
theorem dX11_detour_1 : decode cX11_detour 1 = .ok (.iload_n 1, 1) := by decide +kernel
theorem dX11_detour_2 : decode cX11_detour 2 = .ok (.iload_n 2, 1) := by decide +kernel
theorem dX11_detour_3 : decode cX11_detour 3 = .ok (.invokevirtual 236, 3) := by decide +kernel
theorem dX11_detour_6 : decode cX11_detour 6 = .ok (.ifCond .ne 6, 3) := by decide +kernel
theorem dX11_detour_9 : decode cX11_detour 9 = .ok (.bipush (-2), 2) := by decide +kernel
theorem dX11_detour_11 : decode cX11_detour 11 = .ok (.ireturn, 1) := by decide +kernel
theorem dX11_fog_0 : decode cX11_fog 0 = .ok (.aload_n 0, 1) := by decide +kernel
theorem dX11_fog_1 : decode cX11_fog 1 = .ok (.iload_n 1, 1) := by decide +kernel
theorem dX11_fog_2 : decode cX11_fog 2 = .ok (.iload_n 2, 1) := by decide +kernel
theorem dX11_fog_3 : decode cX11_fog 3 = .ok (.invokevirtual 236, 3) := by decide +kernel
theorem dX11_fog_6 : decode cX11_fog 6 = .ok (.ifCond .eq 21, 3) := by decide +kernel
theorem dX11_fog_27 : decode cX11_fog 27 = .ok (.bipush (-2), 2) := by decide +kernel
theorem dX11_fog_29 : decode cX11_fog 29 = .ok (.ireturn, 1) := by decide +kernel
theorem dX11_likely_0 : decode cX11_likely 0 = .ok (.aload_n 0, 1) := by decide +kernel
theorem dX11_likely_1 : decode cX11_likely 1 = .ok (.getfield 19, 3) := by decide +kernel
theorem dX11_likely_4 : decode cX11_likely 4 = .ok (.iload_n 1, 1) := by decide +kernel
theorem dX11_likely_5 : decode cX11_likely 5 = .ok (.invokevirtual 126, 3) := by decide +kernel
theorem dX11_likely_8 : decode cX11_likely 8 = .ok (.ifCond .eq 10, 3) := by decide +kernel
theorem dX11_likely_18 : decode cX11_likely 18 = .ok (.bipush (-2), 2) := by decide +kernel
theorem dX11_likely_20 : decode cX11_likely 20 = .ok (.ireturn, 1) := by decide +kernel
theorem dX11_can_0 : decode cX11_can 0 = .ok (.aload_n 0, 1) := by decide +kernel
theorem dX11_can_1 : decode cX11_can 1 = .ok (.getfield 19, 3) := by decide +kernel
theorem dX11_can_4 : decode cX11_can 4 = .ok (.iload_n 1, 1) := by decide +kernel
theorem dX11_can_5 : decode cX11_can 5 = .ok (.invokevirtual 126, 3) := by decide +kernel
theorem dX11_can_8 : decode cX11_can 8 = .ok (.ifCond .eq 19, 3) := by decide +kernel
theorem dX11_can_27 : decode cX11_can 27 = .ok (.bipush (-2), 2) := by decide +kernel
theorem dX11_can_29 : decode cX11_can 29 = .ok (.ireturn, 1) := by decide +kernel
theorem dX11_lead_0 : decode cX11_lead 0 = .ok (.aload_n 0, 1) := by decide +kernel
theorem dX11_lead_1 : decode cX11_lead 1 = .ok (.iload_n 1, 1) := by decide +kernel
theorem dX11_lead_2 : decode cX11_lead 2 = .ok (.iload_n 3, 1) := by decide +kernel
theorem dX11_lead_3 : decode cX11_lead 3 = .ok (.invokevirtual 236, 3) := by decide +kernel
theorem dX11_lead_6 : decode cX11_lead 6 = .ok (.ifCond .eq 10, 3) := by decide +kernel
theorem dX11_lead_16 : decode cX11_lead 16 = .ok (.bipush (-2), 2) := by decide +kernel
theorem dX11_lead_18 : decode cX11_lead 18 = .ok (.ireturn, 1) := by decide +kernel
theorem dX11_marks_0 : decode cX11_marks 0 = .ok (.aload_n 0, 1) := by decide +kernel
theorem dX11_marks_1 : decode cX11_marks 1 = .ok (.getfield 19, 3) := by decide +kernel
theorem dX11_marks_4 : decode cX11_marks 4 = .ok (.iload_n 1, 1) := by decide +kernel
theorem dX11_marks_5 : decode cX11_marks 5 = .ok (.invokevirtual 126, 3) := by decide +kernel
theorem dX11_marks_8 : decode cX11_marks 8 = .ok (.ifCond .eq 10, 3) := by decide +kernel
theorem dX11_marks_18 : decode cX11_marks 18 = .ok (.bipush (-2), 2) := by decide +kernel
theorem dX11_marks_20 : decode cX11_marks 20 = .ok (.ireturn, 1) := by decide +kernel
theorem dX11_drawn_0 : decode cX11_drawn 0 = .ok (.iload_n 1, 1) := by decide +kernel
theorem dX11_drawn_1 : decode cX11_drawn 1 = .ok (.iload_n 3, 1) := by decide +kernel
theorem dX11_drawn_2 : decode cX11_drawn 2 = .ok (.invokestatic 328, 3) := by decide +kernel
theorem dX11_drawn_5 : decode cX11_drawn 5 = .ok (.ifCond .eq 22, 3) := by decide +kernel
theorem dX11_drawn_27 : decode cX11_drawn 27 = .ok (.bipush (-2), 2) := by decide +kernel
theorem dX11_drawn_29 : decode cX11_drawn 29 = .ok (.ireturn, 1) := by decide +kernel
theorem dX11_drawn_8 : decode cX11_drawn 8 = .ok (.iload 4, 2) := by decide +kernel
theorem dX11_drawn_10 : decode cX11_drawn 10 = .ok (.ifCond .lt 17, 3) := by decide +kernel
theorem dX11_drawn_13 : decode cX11_drawn 13 = .ok (.iload 4, 2) := by decide +kernel
theorem dX11_drawn_15 : decode cX11_drawn 15 = .ok (.iconst 2, 1) := by decide +kernel
theorem dX11_drawn_16 : decode cX11_drawn 16 = .ok (.if_icmp .gt 11, 3) := by decide +kernel
theorem dX11_drawn_19 : decode cX11_drawn 19 = .ok (.aload_n 0, 1) := by decide +kernel
theorem dX11_drawn_20 : decode cX11_drawn 20 = .ok (.iload_n 2, 1) := by decide +kernel
theorem dX11_drawn_21 : decode cX11_drawn 21 = .ok (.invokevirtual 152, 3) := by decide +kernel
theorem dX11_drawn_24 : decode cX11_drawn 24 = .ok (.ifCond .ne 6, 3) := by decide +kernel
theorem dX11_luck_0 : decode cX11_luck 0 = .ok (.iload_n 1, 1) := by decide +kernel
theorem dX11_luck_1 : decode cX11_luck 1 = .ok (.iload 4, 2) := by decide +kernel
theorem dX11_luck_3 : decode cX11_luck 3 = .ok (.invokestatic 328, 3) := by decide +kernel
theorem dX11_luck_6 : decode cX11_luck 6 = .ok (.ifCond .eq 25, 3) := by decide +kernel
theorem dX11_luck_31 : decode cX11_luck 31 = .ok (.bipush (-2), 2) := by decide +kernel
theorem dX11_luck_33 : decode cX11_luck 33 = .ok (.ireturn, 1) := by decide +kernel
theorem dX11_luck_9 : decode cX11_luck 9 = .ok (.iload_n 2, 1) := by decide +kernel
theorem dX11_luck_10 : decode cX11_luck 10 = .ok (.iconst 1, 1) := by decide +kernel
theorem dX11_luck_11 : decode cX11_luck 11 = .ok (.if_icmp .lt 20, 3) := by decide +kernel
theorem dX11_luck_14 : decode cX11_luck 14 = .ok (.iload_n 2, 1) := by decide +kernel
theorem dX11_luck_15 : decode cX11_luck 15 = .ok (.bipush 20, 2) := by decide +kernel
theorem dX11_luck_17 : decode cX11_luck 17 = .ok (.if_icmp .gt 14, 3) := by decide +kernel
theorem dX11_luck_20 : decode cX11_luck 20 = .ok (.aload_n 0, 1) := by decide +kernel
theorem dX11_luck_21 : decode cX11_luck 21 = .ok (.getfield 19, 3) := by decide +kernel
theorem dX11_luck_24 : decode cX11_luck 24 = .ok (.iload_n 3, 1) := by decide +kernel
theorem dX11_luck_25 : decode cX11_luck 25 = .ok (.invokevirtual 334, 3) := by decide +kernel
theorem dX11_luck_28 : decode cX11_luck 28 = .ok (.ifCond .ne 6, 3) := by decide +kernel
theorem dX11_fault_0 : decode cX11_fault 0 = .ok (.iload_n 1, 1) := by decide +kernel
theorem dX11_fault_1 : decode cX11_fault 1 = .ok (.ifCond .ne 11, 3) := by decide +kernel
theorem dX11_fault_12 : decode cX11_fault 12 = .ok (.iload_n 1, 1) := by decide +kernel
theorem dX11_fault_13 : decode cX11_fault 13 = .ok (.iconst 1, 1) := by decide +kernel
theorem dX11_fault_14 : decode cX11_fault 14 = .ok (.if_icmp .ne 13, 3) := by decide +kernel
theorem dX11_fault_27 : decode cX11_fault 27 = .ok (.iconst (-1), 1) := by decide +kernel
theorem dX11_fault_28 : decode cX11_fault 28 = .ok (.ireturn, 1) := by decide +kernel
theorem dX11_fault_17 : decode cX11_fault 17 = .ok (.aload_n 0, 1) := by decide +kernel
theorem dX11_fault_18 : decode cX11_fault 18 = .ok (.getfield 12, 3) := by decide +kernel
theorem dX11_fault_21 : decode cX11_fault 21 = .ok (.getfield 123, 3) := by decide +kernel
theorem dX11_fault_24 : decode cX11_fault 24 = .ok (.goto 4, 3) := by decide +kernel
theorem dX11_fault_4 : decode cX11_fault 4 = .ok (.aload_n 0, 1) := by decide +kernel
theorem dX11_fault_5 : decode cX11_fault 5 = .ok (.getfield 12, 3) := by decide +kernel
theorem dX11_fault_8 : decode cX11_fault 8 = .ok (.getfield 120, 3) := by decide +kernel
theorem dX11_fault_11 : decode cX11_fault 11 = .ok (.ireturn, 1) := by decide +kernel
theorem dX11_count_0 : decode cX11_count 0 = .ok (.iload_n 1, 1) := by decide +kernel
theorem dX11_count_1 : decode cX11_count 1 = .ok (.tableswitch 126 0 8 #[51, 59, 67, 78, 86, 94, 102, 110, 118], 51) := by decide +kernel
theorem dX11_count_52 : decode cX11_count 52 = .ok (.aload_n 0, 1) := by decide +kernel
theorem dX11_count_53 : decode cX11_count 53 = .ok (.getfield 19, 3) := by decide +kernel
theorem dX11_count_56 : decode cX11_count 56 = .ok (.getfield 233, 3) := by decide +kernel
theorem dX11_count_59 : decode cX11_count 59 = .ok (.ireturn, 1) := by decide +kernel
theorem dX11_count_60 : decode cX11_count 60 = .ok (.aload_n 0, 1) := by decide +kernel
theorem dX11_count_61 : decode cX11_count 61 = .ok (.getfield 19, 3) := by decide +kernel
theorem dX11_count_64 : decode cX11_count 64 = .ok (.invokevirtual 337, 3) := by decide +kernel
theorem dX11_count_67 : decode cX11_count 67 = .ok (.ireturn, 1) := by decide +kernel
theorem dX11_count_68 : decode cX11_count 68 = .ok (.aload_n 0, 1) := by decide +kernel
theorem dX11_count_69 : decode cX11_count 69 = .ok (.getfield 19, 3) := by decide +kernel
theorem dX11_count_72 : decode cX11_count 72 = .ok (.invokevirtual 340, 3) := by decide +kernel
theorem dX11_count_75 : decode cX11_count 75 = .ok (.invokestatic 251, 3) := by decide +kernel
theorem dX11_count_78 : decode cX11_count 78 = .ok (.ireturn, 1) := by decide +kernel
theorem dX11_count_79 : decode cX11_count 79 = .ok (.aload_n 0, 1) := by decide +kernel
theorem dX11_count_80 : decode cX11_count 80 = .ok (.getfield 19, 3) := by decide +kernel
theorem dX11_count_83 : decode cX11_count 83 = .ok (.getfield 343, 3) := by decide +kernel
theorem dX11_count_86 : decode cX11_count 86 = .ok (.ireturn, 1) := by decide +kernel
theorem dX11_count_87 : decode cX11_count 87 = .ok (.aload_n 0, 1) := by decide +kernel
theorem dX11_count_88 : decode cX11_count 88 = .ok (.getfield 19, 3) := by decide +kernel
theorem dX11_count_91 : decode cX11_count 91 = .ok (.getfield 291, 3) := by decide +kernel
theorem dX11_count_94 : decode cX11_count 94 = .ok (.ireturn, 1) := by decide +kernel
theorem dX11_count_95 : decode cX11_count 95 = .ok (.aload_n 0, 1) := by decide +kernel
end
section
theorem dX11_count_96 : decode cX11_count 96 = .ok (.getfield 19, 3) := by decide +kernel
theorem dX11_count_99 : decode cX11_count 99 = .ok (.getfield 117, 3) := by decide +kernel
theorem dX11_count_102 : decode cX11_count 102 = .ok (.ireturn, 1) := by decide +kernel
theorem dX11_count_103 : decode cX11_count 103 = .ok (.aload_n 0, 1) := by decide +kernel
theorem dX11_count_104 : decode cX11_count 104 = .ok (.getfield 12, 3) := by decide +kernel
theorem dX11_count_107 : decode cX11_count 107 = .ok (.getfield 95, 3) := by decide +kernel
theorem dX11_count_110 : decode cX11_count 110 = .ok (.ireturn, 1) := by decide +kernel
theorem dX11_count_111 : decode cX11_count 111 = .ok (.aload_n 0, 1) := by decide +kernel
theorem dX11_count_112 : decode cX11_count 112 = .ok (.getfield 26, 3) := by decide +kernel
theorem dX11_count_115 : decode cX11_count 115 = .ok (.getfield 174, 3) := by decide +kernel
theorem dX11_count_118 : decode cX11_count 118 = .ok (.ireturn, 1) := by decide +kernel
theorem dX11_count_119 : decode cX11_count 119 = .ok (.aload_n 0, 1) := by decide +kernel
theorem dX11_count_120 : decode cX11_count 120 = .ok (.getfield 40, 3) := by decide +kernel
theorem dX11_count_123 : decode cX11_count 123 = .ok (.invokevirtual 346, 3) := by decide +kernel
theorem dX11_count_126 : decode cX11_count 126 = .ok (.ireturn, 1) := by decide +kernel
theorem dX11_count_127 : decode cX11_count 127 = .ok (.iconst (-1), 1) := by decide +kernel
theorem dX11_count_128 : decode cX11_count 128 = .ok (.ireturn, 1) := by decide +kernel
theorem dX11_back_0 : decode cX11_back 0 = .ok (.iload_n 1, 1) := by decide +kernel
theorem dX11_back_1 : decode cX11_back 1 = .ok (.ifCond .lt 8, 3) := by decide +kernel
theorem dX11_back_9 : decode cX11_back 9 = .ok (.bipush (-2), 2) := by decide +kernel
theorem dX11_back_11 : decode cX11_back 11 = .ok (.ireturn, 1) := by decide +kernel
theorem dX11_back_4 : decode cX11_back 4 = .ok (.iload_n 1, 1) := by decide +kernel
theorem dX11_back_5 : decode cX11_back 5 = .ok (.iconst 3, 1) := by decide +kernel
theorem dX11_back_6 : decode cX11_back 6 = .ok (.if_icmp .lt 6, 3) := by decide +kernel
theorem dX11_back_12 : decode cX11_back 12 = .ok (.aload_n 0, 1) := by decide +kernel
theorem dX11_back_13 : decode cX11_back 13 = .ok (.getfield 79, 3) := by decide +kernel
theorem dX11_back_16 : decode cX11_back 16 = .ok (.iload_n 1, 1) := by decide +kernel
theorem dX11_back_17 : decode cX11_back 17 = .ok (.aaload, 1) := by decide +kernel
theorem dX11_back_18 : decode cX11_back 18 = .ok (.ifnull 12, 3) := by decide +kernel
theorem dX11_back_30 : decode cX11_back 30 = .ok (.bipush (-6), 2) := by decide +kernel
theorem dX11_back_32 : decode cX11_back 32 = .ok (.ireturn, 1) := by decide +kernel
theorem dX11_write_0 : decode cX11_write 0 = .ok (.iload_n 1, 1) := by decide +kernel
theorem dX11_write_1 : decode cX11_write 1 = .ok (.invokestatic 352, 3) := by decide +kernel
theorem dX11_write_4 : decode cX11_write 4 = .ok (.ifCond .ne 6, 3) := by decide +kernel
theorem dX11_write_10 : decode cX11_write 10 = .ok (.aload_n 0, 1) := by decide +kernel
theorem dX11_write_11 : decode cX11_write 11 = .ok (.getfield 40, 3) := by decide +kernel
theorem dX11_write_14 : decode cX11_write 14 = .ok (.iload_n 1, 1) := by decide +kernel
theorem dX11_write_15 : decode cX11_write 15 = .ok (.invokevirtual 358, 3) := by decide +kernel
theorem dX11_write_18 : decode cX11_write 18 = .ok (.ifCond .ne 6, 3) := by decide +kernel
theorem dX11_write_21 : decode cX11_write 21 = .ok (.bipush (-6), 2) := by decide +kernel
theorem dX11_write_23 : decode cX11_write 23 = .ok (.ireturn, 1) := by decide +kernel
theorem dX11_write_7 : decode cX11_write 7 = .ok (.bipush (-2), 2) := by decide +kernel
theorem dX11_write_9 : decode cX11_write 9 = .ok (.ireturn, 1) := by decide +kernel
theorem dX11_paste_0 : decode cX11_paste 0 = .ok (.iload_n 1, 1) := by decide +kernel
theorem dX11_paste_1 : decode cX11_paste 1 = .ok (.invokestatic 352, 3) := by decide +kernel
theorem dX11_paste_4 : decode cX11_paste 4 = .ok (.ifCond .eq 10, 3) := by decide +kernel
theorem dX11_paste_7 : decode cX11_paste 7 = .ok (.iload_n 3, 1) := by decide +kernel
theorem dX11_paste_8 : decode cX11_paste 8 = .ok (.invokestatic 352, 3) := by decide +kernel
theorem dX11_paste_11 : decode cX11_paste 11 = .ok (.ifCond .ne 6, 3) := by decide +kernel
theorem dX11_paste_17 : decode cX11_paste 17 = .ok (.aload_n 0, 1) := by decide +kernel
theorem dX11_paste_18 : decode cX11_paste 18 = .ok (.getfield 40, 3) := by decide +kernel
theorem dX11_paste_21 : decode cX11_paste 21 = .ok (.iload_n 1, 1) := by decide +kernel
theorem dX11_paste_22 : decode cX11_paste 22 = .ok (.invokevirtual 358, 3) := by decide +kernel
theorem dX11_paste_25 : decode cX11_paste 25 = .ok (.ifCond .eq 14, 3) := by decide +kernel
theorem dX11_paste_39 : decode cX11_paste 39 = .ok (.bipush (-6), 2) := by decide +kernel
theorem dX11_paste_41 : decode cX11_paste 41 = .ok (.ireturn, 1) := by decide +kernel
theorem dX11_paste_14 : decode cX11_paste 14 = .ok (.bipush (-2), 2) := by decide +kernel
theorem dX11_paste_16 : decode cX11_paste 16 = .ok (.ireturn, 1) := by decide +kernel
theorem dX12_in_0 : decode cX12_in 0 = .ok (.lload_n 0, 1) := by decide +kernel
theorem dX12_in_1 : decode cX12_in 1 = .ok (.lload_n 2, 1) := by decide +kernel
theorem dX12_in_2 : decode cX12_in 2 = .ok (.lcmp, 1) := by decide +kernel
theorem dX12_in_3 : decode cX12_in 3 = .ok (.ifCond .lt 14, 3) := by decide +kernel
theorem dX12_in_17 : decode cX12_in 17 = .ok (.iconst 0, 1) := by decide +kernel
theorem dX12_in_18 : decode cX12_in 18 = .ok (.ireturn, 1) := by decide +kernel
theorem dX12_in_6 : decode cX12_in 6 = .ok (.lload_n 0, 1) := by decide +kernel
theorem dX12_in_7 : decode cX12_in 7 = .ok (.lload 4, 2) := by decide +kernel
theorem dX12_in_9 : decode cX12_in 9 = .ok (.lcmp, 1) := by decide +kernel
theorem dX12_in_10 : decode cX12_in 10 = .ok (.ifCond .gt 7, 3) := by decide +kernel
theorem dX12_in_13 : decode cX12_in 13 = .ok (.iconst 1, 1) := by decide +kernel
theorem dX12_in_14 : decode cX12_in 14 = .ok (.goto 4, 3) := by decide +kernel
theorem dX12_isWood_0 : decode cX12_isWood 0 = .ok (.aload_n 0, 1) := by decide +kernel
theorem dX12_isWood_1 : decode cX12_isWood 1 = .ok (.getfield 9, 3) := by decide +kernel
theorem dX12_isWood_4 : decode cX12_isWood 4 = .ok (.iconst 3, 1) := by decide +kernel
theorem dX12_isWood_5 : decode cX12_isWood 5 = .ok (.iaload, 1) := by decide +kernel
theorem dX12_isWood_6 : decode cX12_isWood 6 = .ok (.ifCond .le 7, 3) := by decide +kernel
theorem dX12_isWood_13 : decode cX12_isWood 13 = .ok (.iconst 0, 1) := by decide +kernel
theorem dX12_isWood_14 : decode cX12_isWood 14 = .ok (.ireturn, 1) := by decide +kernel
theorem dX12_isPlace_0 : decode cX12_isPlace 0 = .ok (.lload_n 1, 1) := by decide +kernel
theorem dX12_isPlace_1 : decode cX12_isPlace 1 = .ok (.lconst 0, 1) := by decide +kernel
theorem dX12_isPlace_2 : decode cX12_isPlace 2 = .ok (.aload_n 0, 1) := by decide +kernel
theorem dX12_isPlace_3 : decode cX12_isPlace 3 = .ok (.getfield 9, 3) := by decide +kernel
theorem dX12_isPlace_6 : decode cX12_isPlace 6 = .ok (.iconst 0, 1) := by decide +kernel
theorem dX12_isPlace_7 : decode cX12_isPlace 7 = .ok (.iaload, 1) := by decide +kernel
theorem dX12_isPlace_8 : decode cX12_isPlace 8 = .ok (.iconst 1, 1) := by decide +kernel
theorem dX12_isPlace_9 : decode cX12_isPlace 9 = .ok (.isub, 1) := by decide +kernel
theorem dX12_isPlace_10 : decode cX12_isPlace 10 = .ok (.i2l, 1) := by decide +kernel
theorem dX12_isPlace_11 : decode cX12_isPlace 11 = .ok (.invokestatic 115, 3) := by decide +kernel
theorem dX12_isPlace_14 : decode cX12_isPlace 14 = .ok (.ireturn, 1) := by decide +kernel
theorem dX12_areTwo_0 : decode cX12_areTwo 0 = .ok (.aload_n 0, 1) := by decide +kernel
theorem dX12_areTwo_1 : decode cX12_areTwo 1 = .ok (.iload_n 1, 1) := by decide +kernel
theorem dX12_areTwo_2 : decode cX12_areTwo 2 = .ok (.i2l, 1) := by decide +kernel
theorem dX12_areTwo_3 : decode cX12_areTwo 3 = .ok (.invokevirtual 119, 3) := by decide +kernel
theorem dX12_areTwo_6 : decode cX12_areTwo 6 = .ok (.ifCond .eq 16, 3) := by decide +kernel
theorem dX12_areTwo_22 : decode cX12_areTwo 22 = .ok (.iconst 0, 1) := by decide +kernel
theorem dX12_areTwo_23 : decode cX12_areTwo 23 = .ok (.ireturn, 1) := by decide +kernel
theorem dX12_isWind_0 : decode cX12_isWind 0 = .ok (.lload_n 0, 1) := by decide +kernel
theorem dX12_isWind_1 : decode cX12_isWind 1 = .ok (.lconst 0, 1) := by decide +kernel
theorem dX12_isWind_2 : decode cX12_isWind 2 = .ok (.ldc2_w 123, 3) := by decide +kernel
theorem dX12_isWind_5 : decode cX12_isWind 5 = .ok (.invokestatic 115, 3) := by decide +kernel
theorem dX12_isWind_8 : decode cX12_isWind 8 = .ok (.ireturn, 1) := by decide +kernel
theorem dX12_isPupil_0 : decode cX12_isPupil 0 = .ok (.iload_n 1, 1) := by decide +kernel
theorem dX12_isPupil_1 : decode cX12_isPupil 1 = .ok (.i2l, 1) := by decide +kernel
theorem dX12_isPupil_2 : decode cX12_isPupil 2 = .ok (.lconst 0, 1) := by decide +kernel
theorem dX12_isPupil_3 : decode cX12_isPupil 3 = .ok (.aload_n 0, 1) := by decide +kernel
theorem dX12_isPupil_4 : decode cX12_isPupil 4 = .ok (.getfield 9, 3) := by decide +kernel
theorem dX12_isPupil_7 : decode cX12_isPupil 7 = .ok (.iconst 1, 1) := by decide +kernel
theorem dX12_isPupil_8 : decode cX12_isPupil 8 = .ok (.iaload, 1) := by decide +kernel
theorem dX12_isPupil_9 : decode cX12_isPupil 9 = .ok (.iconst 1, 1) := by decide +kernel
theorem dX12_isPupil_10 : decode cX12_isPupil 10 = .ok (.isub, 1) := by decide +kernel
theorem dX12_isPupil_11 : decode cX12_isPupil 11 = .ok (.i2l, 1) := by decide +kernel
theorem dX12_isPupil_12 : decode cX12_isPupil 12 = .ok (.invokestatic 115, 3) := by decide +kernel
theorem dX12_isPupil_15 : decode cX12_isPupil 15 = .ok (.ireturn, 1) := by decide +kernel
theorem dX12_allPlaces_0 : decode cX12_allPlaces 0 = .ok (.iconst 1, 1) := by decide +kernel
theorem dX12_allPlaces_1 : decode cX12_allPlaces 1 = .ok (.aload_n 0, 1) := by decide +kernel
theorem dX12_allPlaces_2 : decode cX12_allPlaces 2 = .ok (.getfield 9, 3) := by decide +kernel
theorem dX12_allPlaces_5 : decode cX12_allPlaces 5 = .ok (.iconst 0, 1) := by decide +kernel
theorem dX12_allPlaces_6 : decode cX12_allPlaces 6 = .ok (.iaload, 1) := by decide +kernel
theorem dX12_allPlaces_7 : decode cX12_allPlaces 7 = .ok (.ishl, 1) := by decide +kernel
theorem dX12_allPlaces_8 : decode cX12_allPlaces 8 = .ok (.iconst 1, 1) := by decide +kernel
theorem dX12_allPlaces_9 : decode cX12_allPlaces 9 = .ok (.isub, 1) := by decide +kernel
theorem dX12_allPlaces_10 : decode cX12_allPlaces 10 = .ok (.ireturn, 1) := by decide +kernel
theorem dX12_isSet_0 : decode cX12_isSet 0 = .ok (.aload_n 0, 1) := by decide +kernel
theorem dX12_isSet_1 : decode cX12_isSet 1 = .ok (.invokevirtual 125, 3) := by decide +kernel
theorem dX12_isSet_4 : decode cX12_isSet 4 = .ok (.ifCond .eq 21, 3) := by decide +kernel
theorem dX12_isSet_25 : decode cX12_isSet 25 = .ok (.iconst 0, 1) := by decide +kernel
theorem dX12_isSet_26 : decode cX12_isSet 26 = .ok (.ireturn, 1) := by decide +kernel
theorem dX12_isSlot_0 : decode cX12_isSlot 0 = .ok (.iload_n 0, 1) := by decide +kernel
theorem dX12_isSlot_1 : decode cX12_isSlot 1 = .ok (.i2l, 1) := by decide +kernel
theorem dX12_isSlot_2 : decode cX12_isSlot 2 = .ok (.lconst 0, 1) := by decide +kernel
theorem dX12_isSlot_3 : decode cX12_isSlot 3 = .ok (.ldc2_w 123, 3) := by decide +kernel
theorem dX12_isSlot_6 : decode cX12_isSlot 6 = .ok (.invokestatic 115, 3) := by decide +kernel
theorem dX12_isSlot_9 : decode cX12_isSlot 9 = .ok (.ireturn, 1) := by decide +kernel
theorem dX12_asksWalk_0 : decode cX12_asksWalk 0 = .ok (.iload_n 1, 1) := by decide +kernel
theorem dX12_asksWalk_1 : decode cX12_asksWalk 1 = .ok (.invokestatic 334, 3) := by decide +kernel
theorem dX12_asksWalk_4 : decode cX12_asksWalk 4 = .ok (.ifCond .eq 11, 3) := by decide +kernel
theorem dX12_asksWalk_7 : decode cX12_asksWalk 7 = .ok (.aload_n 0, 1) := by decide +kernel
theorem dX12_asksWalk_8 : decode cX12_asksWalk 8 = .ok (.iload_n 2, 1) := by decide +kernel
theorem dX12_asksWalk_9 : decode cX12_asksWalk 9 = .ok (.invokevirtual 310, 3) := by decide +kernel
theorem dX12_asksWalk_12 : decode cX12_asksWalk 12 = .ok (.ifCond .ne 6, 3) := by decide +kernel
theorem dX12_asksWalk_15 : decode cX12_asksWalk 15 = .ok (.bipush (-2), 2) := by decide +kernel
theorem dX12_asksWalk_17 : decode cX12_asksWalk 17 = .ok (.ireturn, 1) := by decide +kernel
theorem dX12_asksRead_0 : decode cX12_asksRead 0 = .ok (.iload_n 1, 1) := by decide +kernel
theorem dX12_asksRead_1 : decode cX12_asksRead 1 = .ok (.invokestatic 334, 3) := by decide +kernel
theorem dX12_asksRead_4 : decode cX12_asksRead 4 = .ok (.ifCond .eq 10, 3) := by decide +kernel
theorem dX12_asksRead_7 : decode cX12_asksRead 7 = .ok (.aload_n 0, 1) := by decide +kernel
theorem dX12_asksRead_8 : decode cX12_asksRead 8 = .ok (.invokevirtual 125, 3) := by decide +kernel
theorem dX12_asksRead_11 : decode cX12_asksRead 11 = .ok (.ifCond .ne 6, 3) := by decide +kernel
theorem dX12_asksRead_14 : decode cX12_asksRead 14 = .ok (.bipush (-2), 2) := by decide +kernel
theorem dX12_asksRead_16 : decode cX12_asksRead 16 = .ok (.ireturn, 1) := by decide +kernel
theorem dX12_isDrawn_0 : decode cX12_isDrawn 0 = .ok (.iload_n 1, 1) := by decide +kernel
theorem dX12_isDrawn_1 : decode cX12_isDrawn 1 = .ok (.i2l, 1) := by decide +kernel
theorem dX12_isDrawn_2 : decode cX12_isDrawn 2 = .ok (.lconst 0, 1) := by decide +kernel
theorem dX12_isDrawn_3 : decode cX12_isDrawn 3 = .ok (.ldc2_w 481, 3) := by decide +kernel
theorem dX12_isDrawn_6 : decode cX12_isDrawn 6 = .ok (.invokestatic 115, 3) := by decide +kernel
theorem dX12_isDrawn_9 : decode cX12_isDrawn 9 = .ok (.ifCond .eq 27, 3) := by decide +kernel
theorem dX12_isDrawn_12 : decode cX12_isDrawn 12 = .ok (.aload_n 0, 1) := by decide +kernel
theorem dX12_isDrawn_13 : decode cX12_isDrawn 13 = .ok (.iload_n 2, 1) := by decide +kernel
theorem dX12_isDrawn_14 : decode cX12_isDrawn 14 = .ok (.invokevirtual 310, 3) := by decide +kernel
theorem dX12_isDrawn_17 : decode cX12_isDrawn 17 = .ok (.ifCond .eq 19, 3) := by decide +kernel
theorem dX12_isDrawn_36 : decode cX12_isDrawn 36 = .ok (.iconst 0, 1) := by decide +kernel
theorem dX12_isDrawn_37 : decode cX12_isDrawn 37 = .ok (.ireturn, 1) := by decide +kernel
theorem dX12_leads_0 : decode cX12_leads 0 = .ok (.aload_n 0, 1) := by decide +kernel
theorem dX12_leads_1 : decode cX12_leads 1 = .ok (.iload_n 1, 1) := by decide +kernel
theorem dX12_leads_2 : decode cX12_leads 2 = .ok (.i2l, 1) := by decide +kernel
theorem dX12_leads_3 : decode cX12_leads 3 = .ok (.invokevirtual 119, 3) := by decide +kernel
theorem dX12_leads_6 : decode cX12_leads 6 = .ok (.ifCond .eq 20, 3) := by decide +kernel
theorem dX12_leads_26 : decode cX12_leads 26 = .ok (.bipush (-2), 2) := by decide +kernel
theorem dX12_leads_28 : decode cX12_leads 28 = .ok (.ireturn, 1) := by decide +kernel
theorem dX12_mark_0 : decode cX12_mark 0 = .ok (.aload_n 0, 1) := by decide +kernel
theorem dX12_mark_1 : decode cX12_mark 1 = .ok (.iload_n 1, 1) := by decide +kernel
theorem dX12_mark_2 : decode cX12_mark 2 = .ok (.i2l, 1) := by decide +kernel
theorem dX12_mark_3 : decode cX12_mark 3 = .ok (.invokevirtual 119, 3) := by decide +kernel
theorem dX12_mark_6 : decode cX12_mark 6 = .ok (.ifCond .eq 11, 3) := by decide +kernel
theorem dX12_mark_17 : decode cX12_mark 17 = .ok (.bipush (-2), 2) := by decide +kernel
theorem dX12_mark_19 : decode cX12_mark 19 = .ok (.ireturn, 1) := by decide +kernel
theorem dX12_becomes_0 : decode cX12_becomes 0 = .ok (.aload_n 0, 1) := by decide +kernel
theorem dX12_becomes_1 : decode cX12_becomes 1 = .ok (.iload_n 1, 1) := by decide +kernel
theorem dX12_becomes_2 : decode cX12_becomes 2 = .ok (.invokevirtual 282, 3) := by decide +kernel
theorem dX12_becomes_5 : decode cX12_becomes 5 = .ok (.ifCond .eq 20, 3) := by decide +kernel
theorem dX12_becomes_25 : decode cX12_becomes 25 = .ok (.bipush (-2), 2) := by decide +kernel
theorem dX12_becomes_27 : decode cX12_becomes 27 = .ok (.ireturn, 1) := by decide +kernel
theorem dX12_seen_0 : decode cX12_seen 0 = .ok (.aload_n 0, 1) := by decide +kernel
theorem dX12_seen_1 : decode cX12_seen 1 = .ok (.iload_n 1, 1) := by decide +kernel
theorem dX12_seen_2 : decode cX12_seen 2 = .ok (.invokevirtual 282, 3) := by decide +kernel
theorem dX12_seen_5 : decode cX12_seen 5 = .ok (.ifCond .eq 24, 3) := by decide +kernel
theorem dX12_seen_29 : decode cX12_seen 29 = .ok (.bipush (-2), 2) := by decide +kernel
theorem dX12_seen_31 : decode cX12_seen 31 = .ok (.ireturn, 1) := by decide +kernel
theorem dX12_where_0 : decode cX12_where 0 = .ok (.aload_n 0, 1) := by decide +kernel
theorem dX12_where_1 : decode cX12_where 1 = .ok (.iload_n 1, 1) := by decide +kernel
theorem dX12_where_2 : decode cX12_where 2 = .ok (.invokevirtual 310, 3) := by decide +kernel
theorem dX12_where_5 : decode cX12_where 5 = .ok (.ifCond .eq 11, 3) := by decide +kernel
theorem dX12_where_16 : decode cX12_where 16 = .ok (.bipush (-2), 2) := by decide +kernel
theorem dX12_where_18 : decode cX12_where 18 = .ok (.ireturn, 1) := by decide +kernel
theorem dX12_thinks_0 : decode cX12_thinks 0 = .ok (.aload_n 0, 1) := by decide +kernel
theorem dX12_thinks_1 : decode cX12_thinks 1 = .ok (.iload_n 1, 1) := by decide +kernel
theorem dX12_thinks_2 : decode cX12_thinks 2 = .ok (.invokevirtual 310, 3) := by decide +kernel
theorem dX12_thinks_5 : decode cX12_thinks 5 = .ok (.ifCond .eq 11, 3) := by decide +kernel
theorem dX12_thinks_16 : decode cX12_thinks 16 = .ok (.bipush (-2), 2) := by decide +kernel
theorem dX12_thinks_18 : decode cX12_thinks 18 = .ok (.ireturn, 1) := by decide +kernel
theorem dX12_pupil_0 : decode cX12_pupil 0 = .ok (.aload_n 0, 1) := by decide +kernel
theorem dX12_pupil_1 : decode cX12_pupil 1 = .ok (.iload_n 1, 1) := by decide +kernel
theorem dX12_pupil_2 : decode cX12_pupil 2 = .ok (.invokevirtual 310, 3) := by decide +kernel
theorem dX12_pupil_5 : decode cX12_pupil 5 = .ok (.ifCond .eq 15, 3) := by decide +kernel
theorem dX12_pupil_20 : decode cX12_pupil 20 = .ok (.bipush (-2), 2) := by decide +kernel
theorem dX12_pupil_22 : decode cX12_pupil 22 = .ok (.ireturn, 1) := by decide +kernel
theorem dX12_goes_0 : decode cX12_goes 0 = .ok (.aload_n 0, 1) := by decide +kernel
theorem dX12_goes_1 : decode cX12_goes 1 = .ok (.iload_n 1, 1) := by decide +kernel
theorem dX12_goes_2 : decode cX12_goes 2 = .ok (.invokevirtual 310, 3) := by decide +kernel
theorem dX12_goes_5 : decode cX12_goes 5 = .ok (.ifCond .eq 11, 3) := by decide +kernel
theorem dX12_goes_16 : decode cX12_goes 16 = .ok (.bipush (-2), 2) := by decide +kernel
theorem dX12_goes_18 : decode cX12_goes 18 = .ok (.ireturn, 1) := by decide +kernel
theorem dX12_most_0 : decode cX12_most 0 = .ok (.aload_n 0, 1) := by decide +kernel
theorem dX12_most_1 : decode cX12_most 1 = .ok (.invokevirtual 125, 3) := by decide +kernel
theorem dX12_most_4 : decode cX12_most 4 = .ok (.ifCond .ne 6, 3) := by decide +kernel
theorem dX12_most_7 : decode cX12_most 7 = .ok (.bipush (-2), 2) := by decide +kernel
theorem dX12_most_9 : decode cX12_most 9 = .ok (.ireturn, 1) := by decide +kernel
theorem dX12_who_0 : decode cX12_who 0 = .ok (.aload_n 0, 1) := by decide +kernel
theorem dX12_who_1 : decode cX12_who 1 = .ok (.invokevirtual 125, 3) := by decide +kernel
theorem dX12_who_4 : decode cX12_who 4 = .ok (.ifCond .eq 13, 3) := by decide +kernel
theorem dX12_who_17 : decode cX12_who 17 = .ok (.bipush (-2), 2) := by decide +kernel
theorem dX12_who_19 : decode cX12_who 19 = .ok (.ireturn, 1) := by decide +kernel
theorem dX12_undo_0 : decode cX12_undo 0 = .ok (.aload_n 0, 1) := by decide +kernel
theorem dX12_undo_1 : decode cX12_undo 1 = .ok (.invokevirtual 125, 3) := by decide +kernel
theorem dX12_undo_4 : decode cX12_undo 4 = .ok (.ifCond .ne 6, 3) := by decide +kernel
theorem dX12_undo_7 : decode cX12_undo 7 = .ok (.bipush (-2), 2) := by decide +kernel
theorem dX12_undo_9 : decode cX12_undo 9 = .ok (.ireturn, 1) := by decide +kernel
theorem dX12_anew_0 : decode cX12_anew 0 = .ok (.aload_n 0, 1) := by decide +kernel
theorem dX12_anew_1 : decode cX12_anew 1 = .ok (.invokevirtual 125, 3) := by decide +kernel
theorem dX12_anew_4 : decode cX12_anew 4 = .ok (.ifCond .ne 6, 3) := by decide +kernel
theorem dX12_anew_7 : decode cX12_anew 7 = .ok (.bipush (-2), 2) := by decide +kernel
theorem dX12_anew_9 : decode cX12_anew 9 = .ok (.ireturn, 1) := by decide +kernel
theorem dX12_would_0 : decode cX12_would 0 = .ok (.aload_n 0, 1) := by decide +kernel
theorem dX12_would_1 : decode cX12_would 1 = .ok (.iload_n 1, 1) := by decide +kernel
theorem dX12_would_2 : decode cX12_would 2 = .ok (.iload_n 2, 1) := by decide +kernel
theorem dX12_would_3 : decode cX12_would 3 = .ok (.invokevirtual 353, 3) := by decide +kernel
theorem dX12_would_6 : decode cX12_would 6 = .ok (.istore_n 3, 1) := by decide +kernel
theorem dX12_would_7 : decode cX12_would 7 = .ok (.iload_n 3, 1) := by decide +kernel
theorem dX12_would_8 : decode cX12_would 8 = .ok (.ifCond .ge 5, 3) := by decide +kernel
theorem dX12_would_11 : decode cX12_would 11 = .ok (.iload_n 3, 1) := by decide +kernel
theorem dX12_would_12 : decode cX12_would 12 = .ok (.ireturn, 1) := by decide +kernel
theorem dX12_think_0 : decode cX12_think 0 = .ok (.aload_n 0, 1) := by decide +kernel
theorem dX12_think_1 : decode cX12_think 1 = .ok (.iload_n 1, 1) := by decide +kernel
theorem dX12_think_2 : decode cX12_think 2 = .ok (.iload_n 2, 1) := by decide +kernel
theorem dX12_think_3 : decode cX12_think 3 = .ok (.invokevirtual 353, 3) := by decide +kernel
theorem dX12_think_6 : decode cX12_think 6 = .ok (.istore_n 3, 1) := by decide +kernel
theorem dX12_think_7 : decode cX12_think 7 = .ok (.iload_n 3, 1) := by decide +kernel
theorem dX12_think_8 : decode cX12_think 8 = .ok (.ifCond .ge 5, 3) := by decide +kernel
theorem dX12_think_11 : decode cX12_think 11 = .ok (.iload_n 3, 1) := by decide +kernel
theorem dX12_think_12 : decode cX12_think 12 = .ok (.ireturn, 1) := by decide +kernel
theorem dX12_knows_0 : decode cX12_knows 0 = .ok (.aload_n 0, 1) := by decide +kernel
theorem dX12_knows_1 : decode cX12_knows 1 = .ok (.iload_n 1, 1) := by decide +kernel
theorem dX12_knows_2 : decode cX12_knows 2 = .ok (.iload_n 2, 1) := by decide +kernel
theorem dX12_knows_3 : decode cX12_knows 3 = .ok (.invokevirtual 353, 3) := by decide +kernel
theorem dX12_knows_6 : decode cX12_knows 6 = .ok (.istore_n 3, 1) := by decide +kernel
theorem dX12_knows_7 : decode cX12_knows 7 = .ok (.iload_n 3, 1) := by decide +kernel
theorem dX12_knows_8 : decode cX12_knows 8 = .ok (.ifCond .ge 5, 3) := by decide +kernel
theorem dX12_knows_11 : decode cX12_knows 11 = .ok (.iload_n 3, 1) := by decide +kernel
theorem dX12_knows_12 : decode cX12_knows 12 = .ok (.ireturn, 1) := by decide +kernel
theorem dX12_loses_0 : decode cX12_loses 0 = .ok (.aload_n 0, 1) := by decide +kernel
theorem dX12_loses_1 : decode cX12_loses 1 = .ok (.iload_n 1, 1) := by decide +kernel
theorem dX12_loses_2 : decode cX12_loses 2 = .ok (.iload_n 2, 1) := by decide +kernel
theorem dX12_loses_3 : decode cX12_loses 3 = .ok (.invokevirtual 353, 3) := by decide +kernel
theorem dX12_loses_6 : decode cX12_loses 6 = .ok (.istore_n 3, 1) := by decide +kernel
theorem dX12_loses_7 : decode cX12_loses 7 = .ok (.iload_n 3, 1) := by decide +kernel
theorem dX12_loses_8 : decode cX12_loses 8 = .ok (.ifCond .ge 5, 3) := by decide +kernel
theorem dX12_loses_11 : decode cX12_loses 11 = .ok (.iload_n 3, 1) := by decide +kernel
theorem dX12_loses_12 : decode cX12_loses 12 = .ok (.ireturn, 1) := by decide +kernel
theorem dX12_doubts_0 : decode cX12_doubts 0 = .ok (.aload_n 0, 1) := by decide +kernel
theorem dX12_doubts_1 : decode cX12_doubts 1 = .ok (.iload_n 1, 1) := by decide +kernel
theorem dX12_doubts_2 : decode cX12_doubts 2 = .ok (.iload_n 2, 1) := by decide +kernel
theorem dX12_doubts_3 : decode cX12_doubts 3 = .ok (.invokevirtual 353, 3) := by decide +kernel
theorem dX12_doubts_6 : decode cX12_doubts 6 = .ok (.istore_n 3, 1) := by decide +kernel
theorem dX12_doubts_7 : decode cX12_doubts 7 = .ok (.iload_n 3, 1) := by decide +kernel
theorem dX12_doubts_8 : decode cX12_doubts 8 = .ok (.ifCond .ge 5, 3) := by decide +kernel
theorem dX12_doubts_11 : decode cX12_doubts 11 = .ok (.iload_n 3, 1) := by decide +kernel
theorem dX12_doubts_12 : decode cX12_doubts 12 = .ok (.ireturn, 1) := by decide +kernel
theorem dX12_blur_0 : decode cX12_blur 0 = .ok (.aload_n 0, 1) := by decide +kernel
theorem dX12_blur_1 : decode cX12_blur 1 = .ok (.iload_n 1, 1) := by decide +kernel
theorem dX12_blur_2 : decode cX12_blur 2 = .ok (.invokevirtual 310, 3) := by decide +kernel
theorem dX12_blur_5 : decode cX12_blur 5 = .ok (.ifCond .eq 22, 3) := by decide +kernel
theorem dX12_blur_27 : decode cX12_blur 27 = .ok (.bipush (-2), 2) := by decide +kernel
theorem dX12_blur_29 : decode cX12_blur 29 = .ok (.ireturn, 1) := by decide +kernel
theorem dX12_blurs_0 : decode cX12_blurs 0 = .ok (.aload_n 0, 1) := by decide +kernel
theorem dX12_blurs_1 : decode cX12_blurs 1 = .ok (.iload_n 1, 1) := by decide +kernel
theorem dX12_blurs_2 : decode cX12_blurs 2 = .ok (.invokevirtual 310, 3) := by decide +kernel
theorem dX12_blurs_5 : decode cX12_blurs 5 = .ok (.ifCond .eq 23, 3) := by decide +kernel
theorem dX12_blurs_28 : decode cX12_blurs 28 = .ok (.bipush (-2), 2) := by decide +kernel
theorem dX12_blurs_30 : decode cX12_blurs 30 = .ok (.ireturn, 1) := by decide +kernel
theorem dX12_stray_0 : decode cX12_stray 0 = .ok (.aload_n 0, 1) := by decide +kernel
theorem dX12_stray_1 : decode cX12_stray 1 = .ok (.iload_n 1, 1) := by decide +kernel
theorem dX12_stray_2 : decode cX12_stray 2 = .ok (.invokevirtual 310, 3) := by decide +kernel
theorem dX12_stray_5 : decode cX12_stray 5 = .ok (.ifCond .eq 17, 3) := by decide +kernel
theorem dX12_stray_22 : decode cX12_stray 22 = .ok (.bipush (-2), 2) := by decide +kernel
theorem dX12_stray_24 : decode cX12_stray 24 = .ok (.ireturn, 1) := by decide +kernel
theorem dX12_strays_0 : decode cX12_strays 0 = .ok (.aload_n 0, 1) := by decide +kernel
theorem dX12_strays_1 : decode cX12_strays 1 = .ok (.iload_n 1, 1) := by decide +kernel
theorem dX12_strays_2 : decode cX12_strays 2 = .ok (.invokevirtual 310, 3) := by decide +kernel
theorem dX12_strays_5 : decode cX12_strays 5 = .ok (.ifCond .eq 18, 3) := by decide +kernel
theorem dX12_strays_23 : decode cX12_strays 23 = .ok (.bipush (-2), 2) := by decide +kernel
theorem dX12_strays_25 : decode cX12_strays 25 = .ok (.ireturn, 1) := by decide +kernel
theorem dX12_home_0 : decode cX12_home 0 = .ok (.aload_n 0, 1) := by decide +kernel
theorem dX12_home_1 : decode cX12_home 1 = .ok (.iload_n 1, 1) := by decide +kernel
theorem dX12_home_2 : decode cX12_home 2 = .ok (.invokevirtual 310, 3) := by decide +kernel
theorem dX12_home_5 : decode cX12_home 5 = .ok (.ifCond .eq 17, 3) := by decide +kernel
theorem dX12_home_22 : decode cX12_home 22 = .ok (.bipush (-2), 2) := by decide +kernel
theorem dX12_home_24 : decode cX12_home 24 = .ok (.ireturn, 1) := by decide +kernel
theorem dX12_homes_0 : decode cX12_homes 0 = .ok (.aload_n 0, 1) := by decide +kernel
theorem dX12_homes_1 : decode cX12_homes 1 = .ok (.iload_n 1, 1) := by decide +kernel
theorem dX12_homes_2 : decode cX12_homes 2 = .ok (.invokevirtual 310, 3) := by decide +kernel
theorem dX12_homes_5 : decode cX12_homes 5 = .ok (.ifCond .eq 18, 3) := by decide +kernel
theorem dX12_homes_23 : decode cX12_homes 23 = .ok (.bipush (-2), 2) := by decide +kernel
theorem dX12_homes_25 : decode cX12_homes 25 = .ok (.ireturn, 1) := by decide +kernel
theorem dX12_states_0 : decode cX12_states 0 = .ok (.aload_n 0, 1) := by decide +kernel
theorem dX12_states_1 : decode cX12_states 1 = .ok (.iload_n 1, 1) := by decide +kernel
theorem dX12_states_2 : decode cX12_states 2 = .ok (.invokevirtual 310, 3) := by decide +kernel
theorem dX12_states_5 : decode cX12_states 5 = .ok (.ifCond .ne 6, 3) := by decide +kernel
theorem dX12_states_8 : decode cX12_states 8 = .ok (.bipush (-2), 2) := by decide +kernel
theorem dX12_states_10 : decode cX12_states 10 = .ok (.ireturn, 1) := by decide +kernel
theorem dX12_plan_0 : decode cX12_plan 0 = .ok (.aload_n 0, 1) := by decide +kernel
theorem dX12_plan_1 : decode cX12_plan 1 = .ok (.iload_n 1, 1) := by decide +kernel
theorem dX12_plan_2 : decode cX12_plan 2 = .ok (.invokevirtual 282, 3) := by decide +kernel
theorem dX12_plan_5 : decode cX12_plan 5 = .ok (.ifCond .ne 6, 3) := by decide +kernel
theorem dX12_plan_8 : decode cX12_plan 8 = .ok (.bipush (-2), 2) := by decide +kernel
theorem dX12_plan_10 : decode cX12_plan 10 = .ok (.ireturn, 1) := by decide +kernel
theorem dX12_first_0 : decode cX12_first 0 = .ok (.aload_n 0, 1) := by decide +kernel
theorem dX12_first_1 : decode cX12_first 1 = .ok (.iload_n 1, 1) := by decide +kernel
theorem dX12_first_2 : decode cX12_first 2 = .ok (.invokevirtual 282, 3) := by decide +kernel
theorem dX12_first_5 : decode cX12_first 5 = .ok (.ifCond .ne 6, 3) := by decide +kernel
theorem dX12_first_8 : decode cX12_first 8 = .ok (.bipush (-2), 2) := by decide +kernel
theorem dX12_first_10 : decode cX12_first 10 = .ok (.ireturn, 1) := by decide +kernel
theorem dX12_hardest_0 : decode cX12_hardest 0 = .ok (.aload_n 0, 1) := by decide +kernel
theorem dX12_hardest_1 : decode cX12_hardest 1 = .ok (.invokevirtual 125, 3) := by decide +kernel
theorem dX12_hardest_4 : decode cX12_hardest 4 = .ok (.ifCond .ne 6, 3) := by decide +kernel
theorem dX12_hardest_7 : decode cX12_hardest 7 = .ok (.bipush (-2), 2) := by decide +kernel
theorem dX12_hardest_9 : decode cX12_hardest 9 = .ok (.ireturn, 1) := by decide +kernel
theorem dX12_alike_0 : decode cX12_alike 0 = .ok (.aload_n 0, 1) := by decide +kernel
theorem dX12_alike_1 : decode cX12_alike 1 = .ok (.iload_n 1, 1) := by decide +kernel
theorem dX12_alike_2 : decode cX12_alike 2 = .ok (.iload_n 2, 1) := by decide +kernel
theorem dX12_alike_3 : decode cX12_alike 3 = .ok (.invokevirtual 394, 3) := by decide +kernel
theorem dX12_alike_6 : decode cX12_alike 6 = .ok (.ifCond .ne 6, 3) := by decide +kernel
theorem dX12_alike_9 : decode cX12_alike 9 = .ok (.bipush (-2), 2) := by decide +kernel
theorem dX12_alike_11 : decode cX12_alike 11 = .ok (.ireturn, 1) := by decide +kernel
theorem dX12_kinds_0 : decode cX12_kinds 0 = .ok (.aload_n 0, 1) := by decide +kernel
theorem dX12_kinds_1 : decode cX12_kinds 1 = .ok (.invokevirtual 125, 3) := by decide +kernel
theorem dX12_kinds_4 : decode cX12_kinds 4 = .ok (.ifCond .eq 11, 3) := by decide +kernel
theorem dX12_kinds_15 : decode cX12_kinds 15 = .ok (.bipush (-2), 2) := by decide +kernel
theorem dX12_kinds_17 : decode cX12_kinds 17 = .ok (.ireturn, 1) := by decide +kernel
theorem dX12_tells_0 : decode cX12_tells 0 = .ok (.aload_n 0, 1) := by decide +kernel
theorem dX12_tells_1 : decode cX12_tells 1 = .ok (.iload_n 1, 1) := by decide +kernel
theorem dX12_tells_2 : decode cX12_tells 2 = .ok (.iload_n 2, 1) := by decide +kernel
theorem dX12_tells_3 : decode cX12_tells 3 = .ok (.invokevirtual 394, 3) := by decide +kernel
theorem dX12_tells_6 : decode cX12_tells 6 = .ok (.ifCond .ne 6, 3) := by decide +kernel
theorem dX12_tells_9 : decode cX12_tells 9 = .ok (.bipush (-2), 2) := by decide +kernel
theorem dX12_tells_11 : decode cX12_tells 11 = .ok (.ireturn, 1) := by decide +kernel
theorem dX12_told__0 : decode cX12_told_ 0 = .ok (.aload_n 0, 1) := by decide +kernel
theorem dX12_told__1 : decode cX12_told_ 1 = .ok (.iload_n 1, 1) := by decide +kernel
theorem dX12_told__2 : decode cX12_told_ 2 = .ok (.iload_n 2, 1) := by decide +kernel
theorem dX12_told__3 : decode cX12_told_ 3 = .ok (.invokevirtual 394, 3) := by decide +kernel
theorem dX12_told__6 : decode cX12_told_ 6 = .ok (.ifCond .ne 6, 3) := by decide +kernel
theorem dX12_told__9 : decode cX12_told_ 9 = .ok (.bipush (-2), 2) := by decide +kernel
theorem dX12_told__11 : decode cX12_told_ 11 = .ok (.ireturn, 1) := by decide +kernel
theorem dX12_bares_0 : decode cX12_bares 0 = .ok (.aload_n 0, 1) := by decide +kernel
theorem dX12_bares_1 : decode cX12_bares 1 = .ok (.iload_n 1, 1) := by decide +kernel
theorem dX12_bares_2 : decode cX12_bares 2 = .ok (.iload_n 2, 1) := by decide +kernel
theorem dX12_bares_3 : decode cX12_bares 3 = .ok (.invokevirtual 394, 3) := by decide +kernel
theorem dX12_bares_6 : decode cX12_bares 6 = .ok (.ifCond .eq 15, 3) := by decide +kernel
theorem dX12_bares_21 : decode cX12_bares 21 = .ok (.bipush (-2), 2) := by decide +kernel
theorem dX12_bares_23 : decode cX12_bares 23 = .ok (.ireturn, 1) := by decide +kernel
theorem dX12_bared_0 : decode cX12_bared 0 = .ok (.aload_n 0, 1) := by decide +kernel
theorem dX12_bared_1 : decode cX12_bared 1 = .ok (.iload_n 1, 1) := by decide +kernel
theorem dX12_bared_2 : decode cX12_bared 2 = .ok (.iload_n 2, 1) := by decide +kernel
theorem dX12_bared_3 : decode cX12_bared 3 = .ok (.invokevirtual 394, 3) := by decide +kernel
theorem dX12_bared_6 : decode cX12_bared 6 = .ok (.ifCond .eq 12, 3) := by decide +kernel
theorem dX12_bared_18 : decode cX12_bared 18 = .ok (.bipush (-2), 2) := by decide +kernel
theorem dX12_bared_20 : decode cX12_bared 20 = .ok (.ireturn, 1) := by decide +kernel
theorem dX12_gather_0 : decode cX12_gather 0 = .ok (.aload_n 0, 1) := by decide +kernel
theorem dX12_gather_1 : decode cX12_gather 1 = .ok (.iload_n 1, 1) := by decide +kernel
theorem dX12_gather_2 : decode cX12_gather 2 = .ok (.invokevirtual 282, 3) := by decide +kernel
theorem dX12_gather_5 : decode cX12_gather 5 = .ok (.ifCond .ne 6, 3) := by decide +kernel
theorem dX12_gather_8 : decode cX12_gather 8 = .ok (.bipush (-2), 2) := by decide +kernel
theorem dX12_gather_10 : decode cX12_gather 10 = .ok (.ireturn, 1) := by decide +kernel
theorem dX12_gathers_0 : decode cX12_gathers 0 = .ok (.aload_n 0, 1) := by decide +kernel
theorem dX12_gathers_1 : decode cX12_gathers 1 = .ok (.iload_n 1, 1) := by decide +kernel
theorem dX12_gathers_2 : decode cX12_gathers 2 = .ok (.invokevirtual 282, 3) := by decide +kernel
theorem dX12_gathers_5 : decode cX12_gathers 5 = .ok (.ifCond .ne 6, 3) := by decide +kernel
theorem dX12_gathers_8 : decode cX12_gathers 8 = .ok (.bipush (-2), 2) := by decide +kernel
theorem dX12_gathers_10 : decode cX12_gathers 10 = .ok (.ireturn, 1) := by decide +kernel
theorem dX12_roundabout_0 : decode cX12_roundabout 0 = .ok (.aload_n 0, 1) := by decide +kernel
theorem dX12_roundabout_1 : decode cX12_roundabout 1 = .ok (.iload_n 1, 1) := by decide +kernel
theorem dX12_roundabout_2 : decode cX12_roundabout 2 = .ok (.invokevirtual 282, 3) := by decide +kernel
theorem dX12_roundabout_5 : decode cX12_roundabout 5 = .ok (.ifCond .ne 6, 3) := by decide +kernel
theorem dX12_roundabout_8 : decode cX12_roundabout 8 = .ok (.bipush (-2), 2) := by decide +kernel
theorem dX12_roundabout_10 : decode cX12_roundabout 10 = .ok (.ireturn, 1) := by decide +kernel
theorem dX12_meet_0 : decode cX12_meet 0 = .ok (.aload_n 0, 1) := by decide +kernel
theorem dX12_meet_1 : decode cX12_meet 1 = .ok (.iload_n 1, 1) := by decide +kernel
theorem dX12_meet_2 : decode cX12_meet 2 = .ok (.iload_n 2, 1) := by decide +kernel
theorem dX12_meet_3 : decode cX12_meet 3 = .ok (.invokevirtual 394, 3) := by decide +kernel
theorem dX12_meet_6 : decode cX12_meet 6 = .ok (.ifCond .ne 6, 3) := by decide +kernel
theorem dX12_meet_9 : decode cX12_meet 9 = .ok (.bipush (-2), 2) := by decide +kernel
theorem dX12_meet_11 : decode cX12_meet 11 = .ok (.ireturn, 1) := by decide +kernel
theorem dX12_met_0 : decode cX12_met 0 = .ok (.aload_n 0, 1) := by decide +kernel
theorem dX12_met_1 : decode cX12_met 1 = .ok (.iload_n 1, 1) := by decide +kernel
theorem dX12_met_2 : decode cX12_met 2 = .ok (.iload_n 2, 1) := by decide +kernel
theorem dX12_met_3 : decode cX12_met 3 = .ok (.invokevirtual 394, 3) := by decide +kernel
theorem dX12_met_6 : decode cX12_met 6 = .ok (.ifCond .ne 6, 3) := by decide +kernel
theorem dX12_met_9 : decode cX12_met 9 = .ok (.bipush (-2), 2) := by decide +kernel
theorem dX12_met_11 : decode cX12_met 11 = .ok (.ireturn, 1) := by decide +kernel
theorem dX12_read_0 : decode cX12_read 0 = .ok (.aload_n 0, 1) := by decide +kernel
theorem dX12_read_1 : decode cX12_read 1 = .ok (.iload_n 1, 1) := by decide +kernel
theorem dX12_read_2 : decode cX12_read 2 = .ok (.invokevirtual 426, 3) := by decide +kernel
theorem dX12_read_5 : decode cX12_read 5 = .ok (.istore_n 2, 1) := by decide +kernel
theorem dX12_read_6 : decode cX12_read 6 = .ok (.iload_n 2, 1) := by decide +kernel
theorem dX12_read_7 : decode cX12_read 7 = .ok (.ifCond .ge 7, 3) := by decide +kernel
theorem dX12_read_10 : decode cX12_read 10 = .ok (.iload_n 2, 1) := by decide +kernel
theorem dX12_read_11 : decode cX12_read 11 = .ok (.goto 12, 3) := by decide +kernel
theorem dX12_read_23 : decode cX12_read 23 = .ok (.ireturn, 1) := by decide +kernel
theorem dX12_began_0 : decode cX12_began 0 = .ok (.aload_n 0, 1) := by decide +kernel
theorem dX12_began_1 : decode cX12_began 1 = .ok (.iload_n 1, 1) := by decide +kernel
theorem dX12_began_2 : decode cX12_began 2 = .ok (.invokevirtual 426, 3) := by decide +kernel
theorem dX12_began_5 : decode cX12_began 5 = .ok (.istore_n 2, 1) := by decide +kernel
theorem dX12_began_6 : decode cX12_began 6 = .ok (.iload_n 2, 1) := by decide +kernel
theorem dX12_began_7 : decode cX12_began 7 = .ok (.ifCond .ge 5, 3) := by decide +kernel
theorem dX12_began_10 : decode cX12_began 10 = .ok (.iload_n 2, 1) := by decide +kernel
theorem dX12_began_11 : decode cX12_began 11 = .ok (.ireturn, 1) := by decide +kernel
theorem dX12_ask_0 : decode cX12_ask 0 = .ok (.aload_n 0, 1) := by decide +kernel
theorem dX12_ask_1 : decode cX12_ask 1 = .ok (.iload_n 1, 1) := by decide +kernel
theorem dX12_ask_2 : decode cX12_ask 2 = .ok (.invokevirtual 426, 3) := by decide +kernel
theorem dX12_ask_5 : decode cX12_ask 5 = .ok (.istore_n 2, 1) := by decide +kernel
theorem dX12_ask_6 : decode cX12_ask 6 = .ok (.iload_n 2, 1) := by decide +kernel
theorem dX12_ask_7 : decode cX12_ask 7 = .ok (.ifCond .ge 7, 3) := by decide +kernel
theorem dX12_ask_10 : decode cX12_ask 10 = .ok (.iload_n 2, 1) := by decide +kernel
theorem dX12_ask_11 : decode cX12_ask 11 = .ok (.goto 16, 3) := by decide +kernel
theorem dX12_ask_27 : decode cX12_ask 27 = .ok (.ireturn, 1) := by decide +kernel
theorem dX12_leaves_0 : decode cX12_leaves 0 = .ok (.aload_n 0, 1) := by decide +kernel
theorem dX12_leaves_1 : decode cX12_leaves 1 = .ok (.iload_n 1, 1) := by decide +kernel
theorem dX12_leaves_2 : decode cX12_leaves 2 = .ok (.invokevirtual 426, 3) := by decide +kernel
theorem dX12_leaves_5 : decode cX12_leaves 5 = .ok (.istore_n 2, 1) := by decide +kernel
theorem dX12_leaves_6 : decode cX12_leaves 6 = .ok (.iload_n 2, 1) := by decide +kernel
theorem dX12_leaves_7 : decode cX12_leaves 7 = .ok (.ifCond .ge 5, 3) := by decide +kernel
theorem dX12_leaves_10 : decode cX12_leaves 10 = .ok (.iload_n 2, 1) := by decide +kernel
theorem dX12_leaves_11 : decode cX12_leaves 11 = .ok (.ireturn, 1) := by decide +kernel
theorem dX12_course_0 : decode cX12_course 0 = .ok (.aload_n 0, 1) := by decide +kernel
theorem dX12_course_1 : decode cX12_course 1 = .ok (.iload_n 1, 1) := by decide +kernel
theorem dX12_course_2 : decode cX12_course 2 = .ok (.iload_n 2, 1) := by decide +kernel
theorem dX12_course_3 : decode cX12_course 3 = .ok (.invokevirtual 353, 3) := by decide +kernel
theorem dX12_course_6 : decode cX12_course 6 = .ok (.istore_n 3, 1) := by decide +kernel
theorem dX12_course_7 : decode cX12_course 7 = .ok (.iload_n 3, 1) := by decide +kernel
theorem dX12_course_8 : decode cX12_course 8 = .ok (.ifCond .ge 5, 3) := by decide +kernel
theorem dX12_course_11 : decode cX12_course 11 = .ok (.iload_n 3, 1) := by decide +kernel
theorem dX12_course_12 : decode cX12_course 12 = .ok (.ireturn, 1) := by decide +kernel
theorem dX12_lesson_0 : decode cX12_lesson 0 = .ok (.aload_n 0, 1) := by decide +kernel
theorem dX12_lesson_1 : decode cX12_lesson 1 = .ok (.iload_n 1, 1) := by decide +kernel
theorem dX12_lesson_2 : decode cX12_lesson 2 = .ok (.iload_n 2, 1) := by decide +kernel
theorem dX12_lesson_3 : decode cX12_lesson 3 = .ok (.invokevirtual 353, 3) := by decide +kernel
theorem dX12_lesson_6 : decode cX12_lesson 6 = .ok (.istore 4, 2) := by decide +kernel
theorem dX12_lesson_8 : decode cX12_lesson 8 = .ok (.iload 4, 2) := by decide +kernel
theorem dX12_lesson_10 : decode cX12_lesson 10 = .ok (.ifCond .ge 6, 3) := by decide +kernel
theorem dX12_lesson_13 : decode cX12_lesson 13 = .ok (.iload 4, 2) := by decide +kernel
theorem dX12_lesson_15 : decode cX12_lesson 15 = .ok (.ireturn, 1) := by decide +kernel
theorem dX12_spoilt_0 : decode cX12_spoilt 0 = .ok (.aload_n 0, 1) := by decide +kernel
theorem dX12_spoilt_1 : decode cX12_spoilt 1 = .ok (.iload_n 1, 1) := by decide +kernel
theorem dX12_spoilt_2 : decode cX12_spoilt 2 = .ok (.iload_n 2, 1) := by decide +kernel
theorem dX12_spoilt_3 : decode cX12_spoilt 3 = .ok (.invokevirtual 353, 3) := by decide +kernel
theorem dX12_spoilt_6 : decode cX12_spoilt 6 = .ok (.istore_n 3, 1) := by decide +kernel
theorem dX12_spoilt_7 : decode cX12_spoilt 7 = .ok (.iload_n 3, 1) := by decide +kernel
theorem dX12_spoilt_8 : decode cX12_spoilt 8 = .ok (.ifCond .ge 5, 3) := by decide +kernel
theorem dX12_spoilt_11 : decode cX12_spoilt 11 = .ok (.iload_n 3, 1) := by decide +kernel
theorem dX12_spoilt_12 : decode cX12_spoilt 12 = .ok (.ireturn, 1) := by decide +kernel
theorem dX12_route_0 : decode cX12_route 0 = .ok (.aload_n 0, 1) := by decide +kernel
theorem dX12_route_1 : decode cX12_route 1 = .ok (.iload_n 1, 1) := by decide +kernel
theorem dX12_route_2 : decode cX12_route 2 = .ok (.iload_n 2, 1) := by decide +kernel
theorem dX12_route_3 : decode cX12_route 3 = .ok (.invokevirtual 394, 3) := by decide +kernel
theorem dX12_route_6 : decode cX12_route 6 = .ok (.ifCond .ne 6, 3) := by decide +kernel
theorem dX12_route_9 : decode cX12_route 9 = .ok (.bipush (-2), 2) := by decide +kernel
theorem dX12_route_11 : decode cX12_route 11 = .ok (.ireturn, 1) := by decide +kernel
theorem dX12_dark_0 : decode cX12_dark 0 = .ok (.aload_n 0, 1) := by decide +kernel
theorem dX12_dark_1 : decode cX12_dark 1 = .ok (.iload_n 1, 1) := by decide +kernel
theorem dX12_dark_2 : decode cX12_dark 2 = .ok (.iload_n 2, 1) := by decide +kernel
theorem dX12_dark_3 : decode cX12_dark 3 = .ok (.invokevirtual 394, 3) := by decide +kernel
theorem dX12_dark_6 : decode cX12_dark 6 = .ok (.ifCond .ne 6, 3) := by decide +kernel
theorem dX12_dark_9 : decode cX12_dark 9 = .ok (.bipush (-2), 2) := by decide +kernel
theorem dX12_dark_11 : decode cX12_dark 11 = .ok (.ireturn, 1) := by decide +kernel
theorem dX12_detour_0 : decode cX12_detour 0 = .ok (.aload_n 0, 1) := by decide +kernel
theorem dX12_detour_1 : decode cX12_detour 1 = .ok (.iload_n 1, 1) := by decide +kernel
theorem dX12_detour_2 : decode cX12_detour 2 = .ok (.iload_n 2, 1) := by decide +kernel
theorem dX12_detour_3 : decode cX12_detour 3 = .ok (.invokevirtual 394, 3) := by decide +kernel
theorem dX12_detour_6 : decode cX12_detour 6 = .ok (.ifCond .ne 6, 3) := by decide +kernel
theorem dX12_detour_9 : decode cX12_detour 9 = .ok (.bipush (-2), 2) := by decide +kernel
theorem dX12_detour_11 : decode cX12_detour 11 = .ok (.ireturn, 1) := by decide +kernel
theorem dX12_fog_0 : decode cX12_fog 0 = .ok (.aload_n 0, 1) := by decide +kernel
theorem dX12_fog_1 : decode cX12_fog 1 = .ok (.iload_n 1, 1) := by decide +kernel
theorem dX12_fog_2 : decode cX12_fog 2 = .ok (.iload_n 2, 1) := by decide +kernel
theorem dX12_fog_3 : decode cX12_fog 3 = .ok (.invokevirtual 394, 3) := by decide +kernel
theorem dX12_fog_6 : decode cX12_fog 6 = .ok (.ifCond .eq 26, 3) := by decide +kernel
theorem dX12_fog_32 : decode cX12_fog 32 = .ok (.bipush (-2), 2) := by decide +kernel
theorem dX12_fog_34 : decode cX12_fog 34 = .ok (.ireturn, 1) := by decide +kernel
theorem dX12_likely_0 : decode cX12_likely 0 = .ok (.aload_n 0, 1) := by decide +kernel
theorem dX12_likely_1 : decode cX12_likely 1 = .ok (.iload_n 1, 1) := by decide +kernel
theorem dX12_likely_2 : decode cX12_likely 2 = .ok (.i2l, 1) := by decide +kernel
theorem dX12_likely_3 : decode cX12_likely 3 = .ok (.invokevirtual 119, 3) := by decide +kernel
theorem dX12_likely_6 : decode cX12_likely 6 = .ok (.ifCond .eq 15, 3) := by decide +kernel
theorem dX12_likely_21 : decode cX12_likely 21 = .ok (.bipush (-2), 2) := by decide +kernel
theorem dX12_likely_23 : decode cX12_likely 23 = .ok (.ireturn, 1) := by decide +kernel
theorem dX12_can_0 : decode cX12_can 0 = .ok (.aload_n 0, 1) := by decide +kernel
theorem dX12_can_1 : decode cX12_can 1 = .ok (.iload_n 1, 1) := by decide +kernel
theorem dX12_can_2 : decode cX12_can 2 = .ok (.i2l, 1) := by decide +kernel
theorem dX12_can_3 : decode cX12_can 3 = .ok (.invokevirtual 119, 3) := by decide +kernel
theorem dX12_can_6 : decode cX12_can 6 = .ok (.ifCond .eq 15, 3) := by decide +kernel
theorem dX12_can_21 : decode cX12_can 21 = .ok (.bipush (-2), 2) := by decide +kernel
theorem dX12_can_23 : decode cX12_can 23 = .ok (.ireturn, 1) := by decide +kernel
theorem dX12_lead_0 : decode cX12_lead 0 = .ok (.aload_n 0, 1) := by decide +kernel
theorem dX12_lead_1 : decode cX12_lead 1 = .ok (.iload_n 1, 1) := by decide +kernel
theorem dX12_lead_2 : decode cX12_lead 2 = .ok (.iload_n 3, 1) := by decide +kernel
theorem dX12_lead_3 : decode cX12_lead 3 = .ok (.invokevirtual 394, 3) := by decide +kernel
theorem dX12_lead_6 : decode cX12_lead 6 = .ok (.ifCond .eq 11, 3) := by decide +kernel
theorem dX12_lead_17 : decode cX12_lead 17 = .ok (.bipush (-2), 2) := by decide +kernel
theorem dX12_lead_19 : decode cX12_lead 19 = .ok (.ireturn, 1) := by decide +kernel
theorem dX12_marks_0 : decode cX12_marks 0 = .ok (.aload_n 0, 1) := by decide +kernel
theorem dX12_marks_1 : decode cX12_marks 1 = .ok (.iload_n 1, 1) := by decide +kernel
theorem dX12_marks_2 : decode cX12_marks 2 = .ok (.i2l, 1) := by decide +kernel
theorem dX12_marks_3 : decode cX12_marks 3 = .ok (.invokevirtual 119, 3) := by decide +kernel
theorem dX12_marks_6 : decode cX12_marks 6 = .ok (.ifCond .eq 15, 3) := by decide +kernel
theorem dX12_marks_21 : decode cX12_marks 21 = .ok (.bipush (-2), 2) := by decide +kernel
theorem dX12_marks_23 : decode cX12_marks 23 = .ok (.ireturn, 1) := by decide +kernel
theorem dX12_drawn_0 : decode cX12_drawn 0 = .ok (.aload_n 0, 1) := by decide +kernel
theorem dX12_drawn_1 : decode cX12_drawn 1 = .ok (.iload_n 1, 1) := by decide +kernel
theorem dX12_drawn_2 : decode cX12_drawn 2 = .ok (.iload_n 2, 1) := by decide +kernel
theorem dX12_drawn_3 : decode cX12_drawn 3 = .ok (.iload_n 3, 1) := by decide +kernel
theorem dX12_drawn_4 : decode cX12_drawn 4 = .ok (.invokevirtual 485, 3) := by decide +kernel
theorem dX12_drawn_7 : decode cX12_drawn 7 = .ok (.ifCond .eq 16, 3) := by decide +kernel
theorem dX12_drawn_23 : decode cX12_drawn 23 = .ok (.bipush (-2), 2) := by decide +kernel
theorem dX12_drawn_25 : decode cX12_drawn 25 = .ok (.ireturn, 1) := by decide +kernel
theorem dX12_luck_0 : decode cX12_luck 0 = .ok (.aload_n 0, 1) := by decide +kernel
theorem dX12_luck_1 : decode cX12_luck 1 = .ok (.iload_n 1, 1) := by decide +kernel
theorem dX12_luck_2 : decode cX12_luck 2 = .ok (.iload_n 3, 1) := by decide +kernel
theorem dX12_luck_3 : decode cX12_luck 3 = .ok (.iload 4, 2) := by decide +kernel
theorem dX12_luck_5 : decode cX12_luck 5 = .ok (.invokevirtual 485, 3) := by decide +kernel
theorem dX12_luck_8 : decode cX12_luck 8 = .ok (.ifCond .eq 15, 3) := by decide +kernel
theorem dX12_luck_23 : decode cX12_luck 23 = .ok (.bipush (-2), 2) := by decide +kernel
theorem dX12_luck_25 : decode cX12_luck 25 = .ok (.ireturn, 1) := by decide +kernel
theorem dX12_fault_0 : decode cX12_fault 0 = .ok (.iload_n 1, 1) := by decide +kernel
theorem dX12_fault_1 : decode cX12_fault 1 = .ok (.ifCond .ne 10, 3) := by decide +kernel
theorem dX12_fault_11 : decode cX12_fault 11 = .ok (.iload_n 1, 1) := by decide +kernel
theorem dX12_fault_12 : decode cX12_fault 12 = .ok (.iconst 1, 1) := by decide +kernel
theorem dX12_fault_13 : decode cX12_fault 13 = .ok (.if_icmp .ne 10, 3) := by decide +kernel
theorem dX12_fault_23 : decode cX12_fault 23 = .ok (.iconst (-1), 1) := by decide +kernel
theorem dX12_fault_24 : decode cX12_fault 24 = .ok (.ireturn, 1) := by decide +kernel
theorem dX12_fault_16 : decode cX12_fault 16 = .ok (.aload_n 0, 1) := by decide +kernel
theorem dX12_fault_17 : decode cX12_fault 17 = .ok (.getfield 27, 3) := by decide +kernel
theorem dX12_fault_20 : decode cX12_fault 20 = .ok (.goto 4, 3) := by decide +kernel
theorem dX12_fault_4 : decode cX12_fault 4 = .ok (.aload_n 0, 1) := by decide +kernel
theorem dX12_fault_5 : decode cX12_fault 5 = .ok (.getfield 170, 3) := by decide +kernel
theorem dX12_fault_8 : decode cX12_fault 8 = .ok (.goto 16, 3) := by decide +kernel
theorem dX12_count_0 : decode cX12_count 0 = .ok (.iconst 0, 1) := by decide +kernel
theorem dX12_count_1 : decode cX12_count 1 = .ok (.istore_n 2, 1) := by decide +kernel
theorem dX12_count_2 : decode cX12_count 2 = .ok (.iload_n 1, 1) := by decide +kernel
theorem dX12_count_3 : decode cX12_count 3 = .ok (.tableswitch 212 0 8 #[49, 56, 110, 146, 153, 160, 167, 172, 179], 49) := by decide +kernel
theorem dX12_count_52 : decode cX12_count 52 = .ok (.aload_n 0, 1) := by decide +kernel
theorem dX12_count_53 : decode cX12_count 53 = .ok (.getfield 9, 3) := by decide +kernel
theorem dX12_count_56 : decode cX12_count 56 = .ok (.iconst 0, 1) := by decide +kernel
theorem dX12_count_57 : decode cX12_count 57 = .ok (.iaload, 1) := by decide +kernel
theorem dX12_count_58 : decode cX12_count 58 = .ok (.ireturn, 1) := by decide +kernel
theorem dX12_count_59 : decode cX12_count 59 = .ok (.iconst 0, 1) := by decide +kernel
theorem dX12_count_60 : decode cX12_count 60 = .ok (.istore_n 3, 1) := by decide +kernel
theorem dX12_count_61 : decode cX12_count 61 = .ok (.iload_n 3, 1) := by decide +kernel
theorem dX12_count_62 : decode cX12_count 62 = .ok (.aload_n 0, 1) := by decide +kernel
theorem dX12_count_63 : decode cX12_count 63 = .ok (.getfield 9, 3) := by decide +kernel
theorem dX12_count_66 : decode cX12_count 66 = .ok (.iconst 0, 1) := by decide +kernel
theorem dX12_count_67 : decode cX12_count 67 = .ok (.iaload, 1) := by decide +kernel
theorem dX12_count_68 : decode cX12_count 68 = .ok (.if_icmp .ge 43, 3) := by decide +kernel
theorem dX12_count_111 : decode cX12_count 111 = .ok (.iload_n 2, 1) := by decide +kernel
theorem dX12_count_112 : decode cX12_count 112 = .ok (.ireturn, 1) := by decide +kernel
theorem dX12_count_113 : decode cX12_count 113 = .ok (.iconst 0, 1) := by decide +kernel
theorem dX12_count_114 : decode cX12_count 114 = .ok (.istore_n 3, 1) := by decide +kernel
theorem dX12_count_115 : decode cX12_count 115 = .ok (.iload_n 3, 1) := by decide +kernel
theorem dX12_count_116 : decode cX12_count 116 = .ok (.aload_n 0, 1) := by decide +kernel
theorem dX12_count_117 : decode cX12_count 117 = .ok (.getfield 9, 3) := by decide +kernel
theorem dX12_count_120 : decode cX12_count 120 = .ok (.iconst 0, 1) := by decide +kernel
theorem dX12_count_121 : decode cX12_count 121 = .ok (.iaload, 1) := by decide +kernel
theorem dX12_count_122 : decode cX12_count 122 = .ok (.if_icmp .ge 25, 3) := by decide +kernel
theorem dX12_count_147 : decode cX12_count 147 = .ok (.iload_n 2, 1) := by decide +kernel
theorem dX12_count_148 : decode cX12_count 148 = .ok (.ireturn, 1) := by decide +kernel
theorem dX12_count_149 : decode cX12_count 149 = .ok (.aload_n 0, 1) := by decide +kernel
theorem dX12_count_150 : decode cX12_count 150 = .ok (.getfield 9, 3) := by decide +kernel
theorem dX12_count_153 : decode cX12_count 153 = .ok (.iconst 1, 1) := by decide +kernel
theorem dX12_count_154 : decode cX12_count 154 = .ok (.iaload, 1) := by decide +kernel
theorem dX12_count_155 : decode cX12_count 155 = .ok (.ireturn, 1) := by decide +kernel
theorem dX12_count_156 : decode cX12_count 156 = .ok (.aload_n 0, 1) := by decide +kernel
theorem dX12_count_157 : decode cX12_count 157 = .ok (.getfield 9, 3) := by decide +kernel
theorem dX12_count_160 : decode cX12_count 160 = .ok (.iconst 2, 1) := by decide +kernel
theorem dX12_count_161 : decode cX12_count 161 = .ok (.iaload, 1) := by decide +kernel
theorem dX12_count_162 : decode cX12_count 162 = .ok (.ireturn, 1) := by decide +kernel
theorem dX12_count_163 : decode cX12_count 163 = .ok (.aload_n 0, 1) := by decide +kernel
theorem dX12_count_164 : decode cX12_count 164 = .ok (.getfield 9, 3) := by decide +kernel
theorem dX12_count_167 : decode cX12_count 167 = .ok (.iconst 3, 1) := by decide +kernel
theorem dX12_count_168 : decode cX12_count 168 = .ok (.iaload, 1) := by decide +kernel
theorem dX12_count_169 : decode cX12_count 169 = .ok (.ireturn, 1) := by decide +kernel
theorem dX12_count_170 : decode cX12_count 170 = .ok (.aload_n 0, 1) := by decide +kernel
theorem dX12_count_171 : decode cX12_count 171 = .ok (.getfield 133, 3) := by decide +kernel
theorem dX12_count_174 : decode cX12_count 174 = .ok (.ireturn, 1) := by decide +kernel
theorem dX12_count_175 : decode cX12_count 175 = .ok (.aload_n 0, 1) := by decide +kernel
theorem dX12_count_176 : decode cX12_count 176 = .ok (.getfield 9, 3) := by decide +kernel
theorem dX12_count_179 : decode cX12_count 179 = .ok (.iconst 4, 1) := by decide +kernel
theorem dX12_count_180 : decode cX12_count 180 = .ok (.iaload, 1) := by decide +kernel
theorem dX12_count_181 : decode cX12_count 181 = .ok (.ireturn, 1) := by decide +kernel
theorem dX12_count_182 : decode cX12_count 182 = .ok (.iconst 0, 1) := by decide +kernel
theorem dX12_count_183 : decode cX12_count 183 = .ok (.istore_n 3, 1) := by decide +kernel
theorem dX12_count_184 : decode cX12_count 184 = .ok (.iload_n 3, 1) := by decide +kernel
theorem dX12_count_185 : decode cX12_count 185 = .ok (.iconst 4, 1) := by decide +kernel
theorem dX12_count_186 : decode cX12_count 186 = .ok (.if_icmp .ge 27, 3) := by decide +kernel
theorem dX12_count_189 : decode cX12_count 189 = .ok (.iload_n 2, 1) := by decide +kernel
theorem dX12_count_190 : decode cX12_count 190 = .ok (.aload_n 0, 1) := by decide +kernel
theorem dX12_count_191 : decode cX12_count 191 = .ok (.getfield 97, 3) := by decide +kernel
theorem dX12_count_194 : decode cX12_count 194 = .ok (.iload_n 3, 1) := by decide +kernel
theorem dX12_count_195 : decode cX12_count 195 = .ok (.iaload, 1) := by decide +kernel
theorem dX12_count_196 : decode cX12_count 196 = .ok (.iconst (-1), 1) := by decide +kernel
theorem dX12_count_197 : decode cX12_count 197 = .ok (.if_icmp .ne 7, 3) := by decide +kernel
theorem dX12_count_200 : decode cX12_count 200 = .ok (.iconst 0, 1) := by decide +kernel
theorem dX12_count_201 : decode cX12_count 201 = .ok (.goto 4, 3) := by decide +kernel
theorem dX12_count_205 : decode cX12_count 205 = .ok (.iadd, 1) := by decide +kernel
theorem dX12_count_206 : decode cX12_count 206 = .ok (.istore_n 2, 1) := by decide +kernel
theorem dX12_count_207 : decode cX12_count 207 = .ok (.iinc 3 1, 3) := by decide +kernel
theorem dX12_count_210 : decode cX12_count 210 = .ok (.goto (-26), 3) := by decide +kernel
theorem dX12_count_213 : decode cX12_count 213 = .ok (.iload_n 2, 1) := by decide +kernel
theorem dX12_count_214 : decode cX12_count 214 = .ok (.ireturn, 1) := by decide +kernel
theorem dX12_count_215 : decode cX12_count 215 = .ok (.iconst (-1), 1) := by decide +kernel
theorem dX12_count_216 : decode cX12_count 216 = .ok (.ireturn, 1) := by decide +kernel
theorem dX12_back_0 : decode cX12_back 0 = .ok (.iload_n 1, 1) := by decide +kernel
theorem dX12_back_1 : decode cX12_back 1 = .ok (.i2l, 1) := by decide +kernel
theorem dX12_back_2 : decode cX12_back 2 = .ok (.lconst 0, 1) := by decide +kernel
theorem dX12_back_3 : decode cX12_back 3 = .ok (.ldc2_w 113, 3) := by decide +kernel
theorem dX12_back_6 : decode cX12_back 6 = .ok (.invokestatic 115, 3) := by decide +kernel
theorem dX12_back_9 : decode cX12_back 9 = .ok (.ifCond .ne 6, 3) := by decide +kernel
theorem dX12_back_15 : decode cX12_back 15 = .ok (.aload_n 0, 1) := by decide +kernel
theorem dX12_back_16 : decode cX12_back 16 = .ok (.getfield 16, 3) := by decide +kernel
theorem dX12_back_19 : decode cX12_back 19 = .ok (.iload_n 1, 1) := by decide +kernel
theorem dX12_back_20 : decode cX12_back 20 = .ok (.baload, 1) := by decide +kernel
theorem dX12_back_21 : decode cX12_back 21 = .ok (.ifCond .ne 6, 3) := by decide +kernel
theorem dX12_back_24 : decode cX12_back 24 = .ok (.bipush (-6), 2) := by decide +kernel
theorem dX12_back_26 : decode cX12_back 26 = .ok (.ireturn, 1) := by decide +kernel
theorem dX12_back_12 : decode cX12_back 12 = .ok (.bipush (-2), 2) := by decide +kernel
theorem dX12_back_14 : decode cX12_back 14 = .ok (.ireturn, 1) := by decide +kernel
theorem dX12_write_0 : decode cX12_write 0 = .ok (.iload_n 1, 1) := by decide +kernel
theorem dX12_write_1 : decode cX12_write 1 = .ok (.invokestatic 334, 3) := by decide +kernel
theorem dX12_write_4 : decode cX12_write 4 = .ok (.ifCond .ne 6, 3) := by decide +kernel
theorem dX12_write_10 : decode cX12_write 10 = .ok (.aload_n 0, 1) := by decide +kernel
theorem dX12_write_11 : decode cX12_write 11 = .ok (.getfield 97, 3) := by decide +kernel
theorem dX12_write_14 : decode cX12_write 14 = .ok (.iload_n 1, 1) := by decide +kernel
theorem dX12_write_15 : decode cX12_write 15 = .ok (.iaload, 1) := by decide +kernel
theorem dX12_write_16 : decode cX12_write 16 = .ok (.iconst (-1), 1) := by decide +kernel
theorem dX12_write_17 : decode cX12_write 17 = .ok (.if_icmp .ne 6, 3) := by decide +kernel
theorem dX12_write_20 : decode cX12_write 20 = .ok (.bipush (-6), 2) := by decide +kernel
theorem dX12_write_22 : decode cX12_write 22 = .ok (.ireturn, 1) := by decide +kernel
theorem dX12_write_7 : decode cX12_write 7 = .ok (.bipush (-2), 2) := by decide +kernel
theorem dX12_write_9 : decode cX12_write 9 = .ok (.ireturn, 1) := by decide +kernel
theorem dX12_paste_0 : decode cX12_paste 0 = .ok (.iload_n 1, 1) := by decide +kernel
theorem dX12_paste_1 : decode cX12_paste 1 = .ok (.invokestatic 334, 3) := by decide +kernel
theorem dX12_paste_4 : decode cX12_paste 4 = .ok (.ifCond .eq 10, 3) := by decide +kernel
theorem dX12_paste_7 : decode cX12_paste 7 = .ok (.iload_n 3, 1) := by decide +kernel
theorem dX12_paste_8 : decode cX12_paste 8 = .ok (.invokestatic 334, 3) := by decide +kernel
theorem dX12_paste_11 : decode cX12_paste 11 = .ok (.ifCond .ne 6, 3) := by decide +kernel
theorem dX12_paste_17 : decode cX12_paste 17 = .ok (.aload_n 0, 1) := by decide +kernel
theorem dX12_paste_18 : decode cX12_paste 18 = .ok (.getfield 97, 3) := by decide +kernel
theorem dX12_paste_21 : decode cX12_paste 21 = .ok (.iload_n 1, 1) := by decide +kernel
theorem dX12_paste_22 : decode cX12_paste 22 = .ok (.iaload, 1) := by decide +kernel
theorem dX12_paste_23 : decode cX12_paste 23 = .ok (.iconst (-1), 1) := by decide +kernel
theorem dX12_paste_24 : decode cX12_paste 24 = .ok (.if_icmp .eq 13, 3) := by decide +kernel
theorem dX12_paste_37 : decode cX12_paste 37 = .ok (.bipush (-6), 2) := by decide +kernel
theorem dX12_paste_39 : decode cX12_paste 39 = .ok (.ireturn, 1) := by decide +kernel
theorem dX12_paste_14 : decode cX12_paste 14 = .ok (.bipush (-2), 2) := by decide +kernel
theorem dX12_paste_16 : decode cX12_paste 16 = .ok (.ireturn, 1) := by decide +kernel
end
section
/-- the fresh object's cells -/
abbrev fxL (K : Nat → ClassId) (x : Nat → Nat) (fs : Nat → Int32) : va_W := [(x 0, .inr (10, [.ref (x 1), .ref (x 2), .ref (x 3), .ref (x 40), .ref (x 4), .ref (x 41), .ref (x 42), .ref (x 5), .ref (x 43), .ref (x 44), .ref (x 6), .ref (x 7)])),
  (x 1, .inr (4, [.ref (x 8), .int 0, .int 0, .int (-1), .ref (x 9), .int 0, .int 0, .int 0, .int 0, .int 0])),
  (x 2, .inr (9, [.ref (x 10), .ref (x 11), .ref (x 12), .ref (x 13), .ref (x 14), .ref (x 15), .ref (x 16), .ref (x 17), .int 0, .int 0, .int 0, .int 0])),
  (x 3, .inr (2, [.ref (x 18), .ref (x 19), .ref (x 20), .ref (x 21), .ref (x 22), .int 0])),
  (x 4, .inr (5, [.ref (x 23), .ref (x 24), .ref (x 25)])),
  (x 5, .inr (3, [.ref (x 45), .ref (x 46), .ref (x 47), .int 0, .int 0])),
  (x 6, .inl (K 4, 3, .inr (.inr (.inr (.inr (fun _ => none)))))),
  (x 7, .inl (K 5, 3, .inr (.inr (.inr (.inr (fun _ => none)))))),
  (x 8, .inl (K 0, 1000, .inl (fun _ => 0))),
  (x 9, .inr (9, [.ref (x 26), .ref (x 27), .ref (x 28), .ref (x 29), .ref (x 30), .ref (x 31), .ref (x 32), .ref (x 33), .int 0, .int 0, .int 0, .int 0])),
  (x 10, .inl (K 1, 40, .inl (fun _ => 0))),
  (x 11, .inl (K 1, 10, .inl (fun _ => 0))),
  (x 12, .inl (K 1, 4, .inl (fun _ => 0))),
  (x 13, .inl (K 1, 4, .inl (fun _ => 0))),
  (x 14, .inl (K 1, 4, .inl (fun _ => 0))),
  (x 15, .inl (K 1, 5, .inl (fun _ => 0))),
  (x 16, .inl (K 1, 5, .inl (fun _ => 0))),
  (x 17, .inl (K 1, 5, .inl (fun _ => 0))),
  (x 18, .inl (K 1, 4, .inl (fun _ => 0))),
  (x 19, .inl (K 1, 4, .inl (fun _ => 0))),
  (x 20, .inl (K 1, 60, .inl (fun _ => 0))),
  (x 21, .inl (K 1, 60, .inl (fun _ => 0))),
  (x 22, .inl (K 1, 60, .inl (fun _ => 0))),
  (x 23, .inl (K 2, 240, .inr (.inl (fun _ => 0)))),
  (x 24, .inl (K 1, 4, .inl (fun _ => 0))),
  (x 25, .inl (K 1, 4, .inl fs)),
  (x 26, .inl (K 1, 40, .inl (fun _ => 0))),
  (x 27, .inl (K 1, 10, .inl (fun _ => 0))),
  (x 28, .inl (K 1, 4, .inl (fun _ => 0))),
  (x 29, .inl (K 1, 4, .inl (fun _ => 0))),
  (x 30, .inl (K 1, 4, .inl (fun _ => 0))),
  (x 31, .inl (K 1, 5, .inl (fun _ => 0))),
  (x 32, .inl (K 1, 5, .inl (fun _ => 0))),
  (x 33, .inl (K 1, 5, .inl (fun _ => 0)))]
/-- the fresh reference's cells -/
abbrev mdL (K : Nat → ClassId) (y : Nat → Nat) (fm : Nat → Int32) : va_W := [(y 0, .inr (11, [.int 0, .ref (y 1), .ref (y 2), .ref (y 3), .ref (y 4), .int 0, .ref (y 5), .int 0, .int 0, .int 0, .int 0, .int 0, .int 0, .int (-1), .ref (y 6), .int 0, .int 0, .int 0, .int 0, .int 0, .int 0, .ref (y 121), .ref (y 122), .ref (y 123), .ref (y 124), .int 0, .ref (y 126), .ref (y 127), .ref (y 128), .ref (y 129), .ref (y 130), .ref (y 131), .ref (y 132), .ref (y 133), .ref (y 134), .ref (y 135), .ref (y 136), .int 0, .int 0, .int 0, .ref (y 140), .ref (y 141), .ref (y 142), .int 0, .int 0, .ref (y 145), .ref (y 146), .ref (y 147), .int 0, .ref (y 7), .ref (y 8), .ref (y 9), .ref (y 152)])),
  (y 1, .inl (K 1, 262, .inl (fun _ => 0))),
  (y 2, .inl (K 1, 786, .inl (fun _ => 0))),
  (y 3, .inl (K 3, 3, .inl (fun _ => 0))),
  (y 4, .inl (K 0, 1000, .inl (fun _ => 0))),
  (y 5, .inl (K 1, 5, .inl (fun _ => 0))),
  (y 6, .inl (K 1, 262, .inl (fun _ => 0))),
  (y 7, .inl (K 1, 4, .inl fm)),
  (y 8, .inl (K 1, 4, .inl (fun _ => 0))),
  (y 9, .inl (K 2, 240, .inr (.inl (fun _ => 0))))]
theorem in_c {i : Int32} {n : Nat} (h : (decide (0 ≤ i.toInt) && decide (i.toInt < n)) = true) : vp_in i n := by
  rw [Bool.and_eq_true, decide_eq_true_eq, decide_eq_true_eq] at h
  exact vp_in_iff.mpr h
theorem in_lt {i : Int32} {n : Nat} (h : vp_in i n) : i.toNatClampNeg < n := Nat.not_le.mp (fun q => h (Or.inr q))
theorem in_le {i : Int32} {n m : Nat} (h : vp_in i n) (hm : n ≤ m) : vp_in i m := by rw [vp_in_iff] at h ⊢; omega
theorem in_no {v lo hi : Int64} (h : hi < lo) : ¬ (lo ≤ v ∧ v ≤ hi) := fun q => by
  have h1 := q.1; have h2 := q.2
  rw [Int64.le_iff_toInt_le] at h1 h2; rw [Int64.lt_iff_toInt_lt] at h; omega
theorem iy64 {k : Int32} {hi : Int64} {n : Nat} (hh : hi.toInt + 1 = n) (h : 0 ≤ k.toInt64 ∧ k.toInt64 ≤ hi) : vp_in k n := by
  obtain ⟨h1, h2⟩ := h
  rw [Int64.le_iff_toInt_le, Int32.toInt_toInt64] at h1 h2; rw [Int64.toInt_zero] at h1; rw [vp_in_iff]; omega
theorem in64 {k : Int32} {hi : Int64} {n : Nat} (hh : hi.toInt + 1 = n) (h : ¬ (0 ≤ k.toInt64 ∧ k.toInt64 ≤ hi)) : ¬ vp_in k n := by
  intro q
  rw [vp_in_iff] at q
  apply h
  rw [Int64.le_iff_toInt_le, Int64.le_iff_toInt_le, Int32.toInt_toInt64, Int64.toInt_zero]; omega
theorem tab_out {x : Int32} {n : Nat} (h : ¬ vp_in x (n + 1)) : x.toInt < 0 ∨ (n : Int) < x.toInt := by rw [vp_in_iff] at h; omega
theorem lc_lt {x y : Int64} (h : lg_cmp x y < 0) : x < y := (lg_cmp_lt x y).mp h
theorem lc_nlt {x y : Int64} (h : ¬ lg_cmp x y < 0) : y ≤ x := by
  rw [lg_cmp_lt, Int64.lt_iff_toInt_lt] at h; rw [Int64.le_iff_toInt_le]; omega
theorem lc_gt {x y : Int64} (h : 0 < lg_cmp x y) : y < x := (lg_cmp_gt x y).mp h
theorem lc_ngt {x y : Int64} (h : ¬ 0 < lg_cmp x y) : x ≤ y := by
  rw [lg_cmp_gt, Int64.lt_iff_toInt_lt] at h; rw [Int64.le_iff_toInt_le]; omega
end
section
set_option maxRecDepth 20000 in
theorem c_X11_isWind (l : Launch) (D : va_G) (K : Nat → ClassId) (p0 : Int32) : Ro l D K yX11_isWind cX11_isWind 1 (some .boolean) 0 0 [.int p0] [] (fun _ => True) := by
  refine ro_of (by decide) (Nat.le_of_ble_eq_true rfl) ?_
  intro p e s m below meth c hC hr hk hE hP ls hl
  have hC : CallFix p m c cX11_isWind 1 s [.int p0].toArray wl RX11 := hC
  have hx := hC.1
  have hb := hC.2.1
  have hml := hC.2.2.1
  have hown := hC.2.2.2.1
  have hts := hC.2.2.2.2
  have hl : lv_has ls 1 [(0, .int p0)] := hl
  refine lv_iload_n hx hb dX11_isWind_0 rfl (lv_at hl 0 rfl) ?_
  refine lv_if_lt (tgt := 13) hx hb dX11_isWind_1 (by decide) (fun c1 => ?_) (fun c1 => ?_)
  · refine lv_iconst (v := 0) hx hb dX11_isWind_13 (by decide) ?_
    exact ro_zret hC hr hk dX11_isWind_14 rfl trivial
  · refine lv_iload_n hx hb dX11_isWind_4 rfl (lv_at hl 0 rfl) ?_
    refine lv_iconst (v := 4) hx hb dX11_isWind_5 (by decide) ?_
    refine lv_icmp_ge (tgt := 13) hx hb dX11_isWind_6 (by decide) (fun c2 => ?_) (fun c2 => ?_)
    · refine lv_iconst (v := 0) hx hb dX11_isWind_13 (by decide) ?_
      exact ro_zret hC hr hk dX11_isWind_14 rfl trivial
    · refine lv_iconst (v := 1) hx hb dX11_isWind_9 (by decide) ?_
      refine lv_goto (tgt := 14) hx hb dX11_isWind_10 (by decide) ?_
      exact ro_zret hC hr hk dX11_isWind_14 rfl trivial
set_option maxRecDepth 20000 in
theorem c_X11_isMark (l : Launch) (D : va_G) (K : Nat → ClassId) (p0 : Int32) : Ro l D K yX11_isMark cX11_isMark 1 (some .boolean) 0 0 [.int p0] [] (fun _ => True) := by
  refine ro_of (by decide) (Nat.le_of_ble_eq_true rfl) ?_
  intro p e s m below meth c hC hr hk hE hP ls hl
  have hC : CallFix p m c cX11_isMark 1 s [.int p0].toArray wl RX11 := hC
  have hx := hC.1
  have hb := hC.2.1
  have hml := hC.2.2.1
  have hown := hC.2.2.2.1
  have hts := hC.2.2.2.2
  have hl : lv_has ls 1 [(0, .int p0)] := hl
  refine lv_iload_n hx hb dX11_isMark_0 rfl (lv_at hl 0 rfl) ?_
  refine lv_if_lt (tgt := 14) hx hb dX11_isMark_1 (by decide) (fun c3 => ?_) (fun c3 => ?_)
  · refine lv_iconst (v := 0) hx hb dX11_isMark_14 (by decide) ?_
    exact ro_zret hC hr hk dX11_isMark_15 rfl trivial
  · refine lv_iload_n hx hb dX11_isMark_4 rfl (lv_at hl 0 rfl) ?_
    refine lv_bipush (v := 10) hx hb dX11_isMark_5 (by decide) ?_
    refine lv_icmp_ge (tgt := 14) hx hb dX11_isMark_7 (by decide) (fun c4 => ?_) (fun c4 => ?_)
    · refine lv_iconst (v := 0) hx hb dX11_isMark_14 (by decide) ?_
      exact ro_zret hC hr hk dX11_isMark_15 rfl trivial
    · refine lv_iconst (v := 1) hx hb dX11_isMark_10 (by decide) ?_
      refine lv_goto (tgt := 15) hx hb dX11_isMark_11 (by decide) ?_
      exact ro_zret hC hr hk dX11_isMark_15 rfl trivial
set_option maxRecDepth 20000 in
theorem c_X11_isFogLength (l : Launch) (D : va_G) (K : Nat → ClassId) (p0 : Int32) : Ro l D K yX11_isFogLength cX11_isFogLength 1 (some .boolean) 0 0 [.int p0] [] (fun _ => True) := by
  refine ro_of (by decide) (Nat.le_of_ble_eq_true rfl) ?_
  intro p e s m below meth c hC hr hk hE hP ls hl
  have hC : CallFix p m c cX11_isFogLength 1 s [.int p0].toArray wl RX11 := hC
  have hx := hC.1
  have hb := hC.2.1
  have hml := hC.2.2.1
  have hown := hC.2.2.2.1
  have hts := hC.2.2.2.2
  have hl : lv_has ls 1 [(0, .int p0)] := hl
  refine lv_iload_n hx hb dX11_isFogLength_0 rfl (lv_at hl 0 rfl) ?_
  refine lv_if_lt (tgt := 14) hx hb dX11_isFogLength_1 (by decide) (fun c5 => ?_) (fun c5 => ?_)
  · refine lv_iconst (v := 0) hx hb dX11_isFogLength_14 (by decide) ?_
    exact ro_zret hC hr hk dX11_isFogLength_15 rfl trivial
  · refine lv_iload_n hx hb dX11_isFogLength_4 rfl (lv_at hl 0 rfl) ?_
    refine lv_bipush (v := 15) hx hb dX11_isFogLength_5 (by decide) ?_
    refine lv_icmp_gt (tgt := 14) hx hb dX11_isFogLength_7 (by decide) (fun c6 => ?_) (fun c6 => ?_)
    · refine lv_iconst (v := 0) hx hb dX11_isFogLength_14 (by decide) ?_
      exact ro_zret hC hr hk dX11_isFogLength_15 rfl trivial
    · refine lv_iconst (v := 1) hx hb dX11_isFogLength_10 (by decide) ?_
      refine lv_goto (tgt := 15) hx hb dX11_isFogLength_11 (by decide) ?_
      exact ro_zret hC hr hk dX11_isFogLength_15 rfl trivial
set_option maxRecDepth 20000 in
theorem c_X11_isDraw (l : Launch) (D : va_G) (K : Nat → ClassId) (p0 : Int32) (p1 : Int32) : Ro l D K yX11_isDraw cX11_isDraw 2 (some .boolean) 0 0 [.int p0, .int p1] [] (fun _ => True) := by
  refine ro_of (by decide) (Nat.le_of_ble_eq_true rfl) ?_
  intro p e s m below meth c hC hr hk hE hP ls hl
  have hC : CallFix p m c cX11_isDraw 2 s [.int p0, .int p1].toArray wl RX11 := hC
  have hx := hC.1
  have hb := hC.2.1
  have hml := hC.2.2.1
  have hown := hC.2.2.2.1
  have hts := hC.2.2.2.2
  have hl : lv_has ls 2 [(0, .int p0), (1, .int p1)] := hl
  refine lv_iload_n hx hb dX11_isDraw_0 rfl (lv_at hl 0 rfl) ?_
  refine lv_if_lt (tgt := 25) hx hb dX11_isDraw_1 (by decide) (fun c7 => ?_) (fun c7 => ?_)
  · refine lv_iconst (v := 0) hx hb dX11_isDraw_25 (by decide) ?_
    exact ro_zret hC hr hk dX11_isDraw_26 rfl trivial
  · refine lv_iload_n hx hb dX11_isDraw_4 rfl (lv_at hl 0 rfl) ?_
    refine lv_ldcw (v := 2000000000) hx hb hown (hts _ w_0) dX11_isDraw_5 ?_
    refine lv_icmp_gt (tgt := 25) hx hb dX11_isDraw_8 (by decide) (fun c8 => ?_) (fun c8 => ?_)
    · refine lv_iconst (v := 0) hx hb dX11_isDraw_25 (by decide) ?_
      exact ro_zret hC hr hk dX11_isDraw_26 rfl trivial
    · refine lv_iload_n hx hb dX11_isDraw_11 rfl (lv_at hl 1 rfl) ?_
      refine lv_if_lt (tgt := 25) hx hb dX11_isDraw_12 (by decide) (fun c9 => ?_) (fun c9 => ?_)
      · refine lv_iconst (v := 0) hx hb dX11_isDraw_25 (by decide) ?_
        exact ro_zret hC hr hk dX11_isDraw_26 rfl trivial
      · refine lv_iload_n hx hb dX11_isDraw_15 rfl (lv_at hl 1 rfl) ?_
        refine lv_bipush (v := 40) hx hb dX11_isDraw_16 (by decide) ?_
        refine lv_icmp_gt (tgt := 25) hx hb dX11_isDraw_18 (by decide) (fun c10 => ?_) (fun c10 => ?_)
        · refine lv_iconst (v := 0) hx hb dX11_isDraw_25 (by decide) ?_
          exact ro_zret hC hr hk dX11_isDraw_26 rfl trivial
        · refine lv_iconst (v := 1) hx hb dX11_isDraw_21 (by decide) ?_
          refine lv_goto (tgt := 26) hx hb dX11_isDraw_22 (by decide) ?_
          exact ro_zret hC hr hk dX11_isDraw_26 rfl trivial
set_option maxRecDepth 20000 in
theorem c_X11_isSlot (l : Launch) (D : va_G) (K : Nat → ClassId) (p0 : Int32) : Ro l D K yX11_isSlot cX11_isSlot 1 (some .boolean) 0 0 [.int p0] [] (fun r => (vp_in p0 4 ∧ r = 1) ∨ (¬ vp_in p0 4 ∧ r = 0)) := by
  refine ro_of (by decide) (Nat.le_of_ble_eq_true rfl) ?_
  intro p e s m below meth c hC hr hk hE hP ls hl
  have hC : CallFix p m c cX11_isSlot 1 s [.int p0].toArray wl RX11 := hC
  have hx := hC.1
  have hb := hC.2.1
  have hml := hC.2.2.1
  have hown := hC.2.2.2.1
  have hts := hC.2.2.2.2
  have hl : lv_has ls 1 [(0, .int p0)] := hl
  refine lv_iload_n hx hb dX11_isSlot_0 rfl (lv_at hl 0 rfl) ?_
  refine lv_if_lt (tgt := 13) hx hb dX11_isSlot_1 (by decide) (fun c11 => ?_) (fun c11 => ?_)
  · refine lv_iconst (v := 0) hx hb dX11_isSlot_13 (by decide) ?_
    exact ro_zret hC hr hk dX11_isSlot_14 rfl (Or.inr (⟨(no1 c11), rfl⟩))
  · refine lv_iload_n hx hb dX11_isSlot_4 rfl (lv_at hl 0 rfl) ?_
    refine lv_iconst (v := 4) hx hb dX11_isSlot_5 (by decide) ?_
    refine lv_icmp_ge (tgt := 13) hx hb dX11_isSlot_6 (by decide) (fun c12 => ?_) (fun c12 => ?_)
    · refine lv_iconst (v := 0) hx hb dX11_isSlot_13 (by decide) ?_
      exact ro_zret hC hr hk dX11_isSlot_14 rfl (Or.inr (⟨(no2 (k := 4) (by decide) c12), rfl⟩))
    · refine lv_iconst (v := 1) hx hb dX11_isSlot_9 (by decide) ?_
      refine lv_goto (tgt := 14) hx hb dX11_isSlot_10 (by decide) ?_
      exact ro_zret hC hr hk dX11_isSlot_14 rfl (Or.inl ⟨(yes2 (k := 4) (by decide) c11 c12), rfl⟩)
set_option maxRecDepth 20000 in
theorem c_J6_bitCount_0f7a4 (l : Launch) (D : va_G) (K : Nat → ClassId) : Ro l D K yJ6_bitCount_0f7a4 cJ6_bitCount_0f7a4 1 (some .int) 0 0 [.int 0] [] (fun r => r = 0) := by
  refine ro_of (by decide) (Nat.le_of_ble_eq_true rfl) ?_
  intro p e s m below meth c hC hr hk hE hP ls hl
  have hC : CallFix p m c cJ6_bitCount_0f7a4 1 s [.int 0].toArray wl RJ6 := hC
  have hx := hC.1
  have hb := hC.2.1
  have hml := hC.2.2.1
  have hown := hC.2.2.2.1
  have hts := hC.2.2.2.2
  have hl : lv_has ls 1 [(0, .int 0)] := hl
  refine lv_iload_n hx hb dJ6_bitCount_0f7a4_0 rfl (lv_at hl 0 rfl) ?_
  refine lv_iload_n hx hb dJ6_bitCount_0f7a4_1 rfl (lv_at hl 0 rfl) ?_
  refine lv_iconst (v := 1) hx hb dJ6_bitCount_0f7a4_2 (by decide) ?_
  refine lv_iushr (v := 0) hx hb dJ6_bitCount_0f7a4_3 (by decide) ?_
  refine lv_ldcw (v := 1431655765) hx hb hown (hts _ w_1) dJ6_bitCount_0f7a4_4 ?_
  refine lv_iand hx hb dJ6_bitCount_0f7a4_7 ?_
  refine tc (y := 0) (by decide) ?_
  refine lv_isub hx hb dJ6_bitCount_0f7a4_8 ?_
  refine tc (y := 0) (by decide) ?_
  refine lv_istore_n (lv' := [(0, .int 0)]) hx hb dJ6_bitCount_0f7a4_9 rfl hl (by decide) rfl (fun ls hl => ?_)
  refine lv_iload_n hx hb dJ6_bitCount_0f7a4_10 rfl (lv_at hl 0 rfl) ?_
  refine lv_ldcw (v := 858993459) hx hb hown (hts _ w_2) dJ6_bitCount_0f7a4_11 ?_
  refine lv_iand hx hb dJ6_bitCount_0f7a4_14 ?_
  refine tc (y := 0) (by decide) ?_
  refine lv_iload_n hx hb dJ6_bitCount_0f7a4_15 rfl (lv_at hl 0 rfl) ?_
  refine lv_iconst (v := 2) hx hb dJ6_bitCount_0f7a4_16 (by decide) ?_
  refine lv_iushr (v := 0) hx hb dJ6_bitCount_0f7a4_17 (by decide) ?_
  refine lv_ldcw (v := 858993459) hx hb hown (hts _ w_2) dJ6_bitCount_0f7a4_18 ?_
  refine lv_iand hx hb dJ6_bitCount_0f7a4_21 ?_
  refine tc (y := 0) (by decide) ?_
  refine lv_iadd hx hb dJ6_bitCount_0f7a4_22 ?_
  refine tc (y := 0) (by decide) ?_
  refine lv_istore_n (lv' := [(0, .int 0)]) hx hb dJ6_bitCount_0f7a4_23 rfl hl (by decide) rfl (fun ls hl => ?_)
  refine lv_iload_n hx hb dJ6_bitCount_0f7a4_24 rfl (lv_at hl 0 rfl) ?_
  refine lv_iload_n hx hb dJ6_bitCount_0f7a4_25 rfl (lv_at hl 0 rfl) ?_
  refine lv_iconst (v := 4) hx hb dJ6_bitCount_0f7a4_26 (by decide) ?_
  refine lv_iushr (v := 0) hx hb dJ6_bitCount_0f7a4_27 (by decide) ?_
  refine lv_iadd hx hb dJ6_bitCount_0f7a4_28 ?_
  refine tc (y := 0) (by decide) ?_
  refine lv_ldcw (v := 252645135) hx hb hown (hts _ w_3) dJ6_bitCount_0f7a4_29 ?_
  refine lv_iand hx hb dJ6_bitCount_0f7a4_32 ?_
  refine tc (y := 0) (by decide) ?_
  refine lv_istore_n (lv' := [(0, .int 0)]) hx hb dJ6_bitCount_0f7a4_33 rfl hl (by decide) rfl (fun ls hl => ?_)
  refine lv_iload_n hx hb dJ6_bitCount_0f7a4_34 rfl (lv_at hl 0 rfl) ?_
  refine lv_iload_n hx hb dJ6_bitCount_0f7a4_35 rfl (lv_at hl 0 rfl) ?_
  refine lv_bipush (v := 8) hx hb dJ6_bitCount_0f7a4_36 (by decide) ?_
  refine lv_iushr (v := 0) hx hb dJ6_bitCount_0f7a4_38 (by decide) ?_
  refine lv_iadd hx hb dJ6_bitCount_0f7a4_39 ?_
  refine tc (y := 0) (by decide) ?_
  refine lv_istore_n (lv' := [(0, .int 0)]) hx hb dJ6_bitCount_0f7a4_40 rfl hl (by decide) rfl (fun ls hl => ?_)
  refine lv_iload_n hx hb dJ6_bitCount_0f7a4_41 rfl (lv_at hl 0 rfl) ?_
  refine lv_iload_n hx hb dJ6_bitCount_0f7a4_42 rfl (lv_at hl 0 rfl) ?_
  refine lv_bipush (v := 16) hx hb dJ6_bitCount_0f7a4_43 (by decide) ?_
  refine lv_iushr (v := 0) hx hb dJ6_bitCount_0f7a4_45 (by decide) ?_
  refine lv_iadd hx hb dJ6_bitCount_0f7a4_46 ?_
  refine tc (y := 0) (by decide) ?_
  refine lv_istore_n (lv' := [(0, .int 0)]) hx hb dJ6_bitCount_0f7a4_47 rfl hl (by decide) rfl (fun ls hl => ?_)
  refine lv_iload_n hx hb dJ6_bitCount_0f7a4_48 rfl (lv_at hl 0 rfl) ?_
  refine lv_bipush (v := 63) hx hb dJ6_bitCount_0f7a4_49 (by decide) ?_
  refine lv_iand hx hb dJ6_bitCount_0f7a4_51 ?_
  refine tc (y := 0) (by decide) ?_
  exact ro_ret hC hr hk dJ6_bitCount_0f7a4_52 rfl
set_option maxRecDepth 20000 in
theorem c_X10_hasPlace (l : Launch) (D : va_G) (K : Nat → ClassId) (w : Nat) (a : Nat → Nat) (p0 : Int32) : Ro l D K yX10_hasPlace cX10_hasPlace 2 (some .boolean) 0 0 [.ref w, .int p0] [(w, .inr (9, [.ref (a 0), .ref (a 1), .ref (a 2), .ref (a 3), .ref (a 4), .ref (a 5), .ref (a 6), .ref (a 7), .int 0, .int 0, .int 0, .int 0]))] (fun r => r = 0) := by
  refine ro_of (by decide) (Nat.le_of_ble_eq_true rfl) ?_
  intro p e s m below meth c hC hr hk hE hP ls hl
  have hC : CallFix p m c cX10_hasPlace 2 s [.ref w, .int p0].toArray wl RX10 := hC
  have hx := hC.1
  have hb := hC.2.1
  have hml := hC.2.2.1
  have hown := hC.2.2.2.1
  have hts := hC.2.2.2.2
  have hl : lv_has ls 2 [(0, .ref w), (1, .int p0)] := hl
  refine lv_iload_n hx hb dX10_hasPlace_0 rfl (lv_at hl 1 rfl) ?_
  refine lv_if_lt (tgt := 22) hx hb dX10_hasPlace_1 (by decide) (fun c13 => ?_) (fun c13 => ?_)
  · refine lv_iconst (v := 0) hx hb dX10_hasPlace_22 (by decide) ?_
    exact ro_zret hC hr hk dX10_hasPlace_23 rfl rfl
  · refine lv_iload_n hx hb dX10_hasPlace_4 rfl (lv_at hl 1 rfl) ?_
    refine lv_aload_n hx hb dX10_hasPlace_5 rfl (lv_at hl 0 rfl) ?_
    refine va_get (D := D) (ci := 9) (v := .int 0) (C := RX10) (T := TX10) (N := 12) hx hb hts in_X10 hown hE.1 hP 0 rfl rfl 8 (by decide) (hts _ w_16) (fun _ h9 => h9) rfl dX10_hasPlace_6 ?_
    refine lv_icmp_ge (tgt := 22) hx hb dX10_hasPlace_9 (by decide) (fun _ => ?_) (fun h => absurd (nlt0 c13) h)
    refine lv_iconst (v := 0) hx hb dX10_hasPlace_22 (by decide) ?_
    exact ro_zret hC hr hk dX10_hasPlace_23 rfl rfl
set_option maxRecDepth 20000 in
theorem c_X10_hasPupil (l : Launch) (D : va_G) (K : Nat → ClassId) (w : Nat) (a : Nat → Nat) (p0 : Int32) : Ro l D K yX10_hasPupil cX10_hasPupil 2 (some .boolean) 0 0 [.ref w, .int p0] [(w, .inr (9, [.ref (a 0), .ref (a 1), .ref (a 2), .ref (a 3), .ref (a 4), .ref (a 5), .ref (a 6), .ref (a 7), .int 0, .int 0, .int 0, .int 0]))] (fun r => r = 0) := by
  refine ro_of (by decide) (Nat.le_of_ble_eq_true rfl) ?_
  intro p e s m below meth c hC hr hk hE hP ls hl
  have hC : CallFix p m c cX10_hasPupil 2 s [.ref w, .int p0].toArray wl RX10 := hC
  have hx := hC.1
  have hb := hC.2.1
  have hml := hC.2.2.1
  have hown := hC.2.2.2.1
  have hts := hC.2.2.2.2
  have hl : lv_has ls 2 [(0, .ref w), (1, .int p0)] := hl
  refine lv_iload_n hx hb dX10_hasPupil_0 rfl (lv_at hl 1 rfl) ?_
  refine lv_if_lt (tgt := 21) hx hb dX10_hasPupil_1 (by decide) (fun c14 => ?_) (fun c14 => ?_)
  · refine lv_iconst (v := 0) hx hb dX10_hasPupil_21 (by decide) ?_
    exact ro_zret hC hr hk dX10_hasPupil_22 rfl rfl
  · refine lv_iload_n hx hb dX10_hasPupil_4 rfl (lv_at hl 1 rfl) ?_
    refine lv_aload_n hx hb dX10_hasPupil_5 rfl (lv_at hl 0 rfl) ?_
    refine va_get (D := D) (ci := 9) (v := .int 0) (C := RX10) (T := TX10) (N := 12) hx hb hts in_X10 hown hE.1 hP 0 rfl rfl 9 (by decide) (hts _ w_17) (fun _ h9 => h9) rfl dX10_hasPupil_6 ?_
    refine lv_icmp_ge (tgt := 21) hx hb dX10_hasPupil_9 (by decide) (fun _ => ?_) (fun h => absurd (nlt0 c14) h)
    refine lv_iconst (v := 0) hx hb dX10_hasPupil_21 (by decide) ?_
    exact ro_zret hC hr hk dX10_hasPupil_22 rfl rfl
set_option maxRecDepth 20000 in
theorem c_X10_stands (l : Launch) (D : va_G) (K : Nat → ClassId) (w : Nat) (a : Nat → Nat) : Ro l D K yX10_stands cX10_stands 1 (some .boolean) 0 0 [.ref w] [(w, .inr (9, [.ref (a 0), .ref (a 1), .ref (a 2), .ref (a 3), .ref (a 4), .ref (a 5), .ref (a 6), .ref (a 7), .int 0, .int 0, .int 0, .int 0]))] (fun r => r = 0) := by
  refine ro_of (by decide) (Nat.le_of_ble_eq_true rfl) ?_
  intro p e s m below meth c hC hr hk hE hP ls hl
  have hC : CallFix p m c cX10_stands 1 s [.ref w].toArray wl RX10 := hC
  have hx := hC.1
  have hb := hC.2.1
  have hml := hC.2.2.1
  have hown := hC.2.2.2.1
  have hts := hC.2.2.2.2
  have hl : lv_has ls 1 [(0, .ref w)] := hl
  refine lv_aload_n hx hb dX10_stands_0 rfl (lv_at hl 0 rfl) ?_
  refine va_get (D := D) (ci := 9) (v := .int 0) (C := RX10) (T := TX10) (N := 12) hx hb hts in_X10 hown hE.1 hP 0 rfl rfl 11 (by decide) (hts _ w_18) (fun _ h9 => h9) rfl dX10_stands_1 ?_
  refine lv_if_le (tgt := 11) hx hb dX10_stands_4 (by decide) (fun _ => ?_) (fun h => absurd h (by decide))
  refine lv_iconst (v := 0) hx hb dX10_stands_11 (by decide) ?_
  exact ro_zret hC hr hk dX10_stands_12 rfl rfl
set_option maxRecDepth 20000 in
theorem c_X10_all (l : Launch) (D : va_G) (K : Nat → ClassId) (w : Nat) (a : Nat → Nat) : Ro l D K yX10_all cX10_all 1 (some .int) 0 0 [.ref w] [(w, .inr (9, [.ref (a 0), .ref (a 1), .ref (a 2), .ref (a 3), .ref (a 4), .ref (a 5), .ref (a 6), .ref (a 7), .int 0, .int 0, .int 0, .int 0]))] (fun r => r = 0) := by
  refine ro_of (by decide) (Nat.le_of_ble_eq_true rfl) ?_
  intro p e s m below meth c hC hr hk hE hP ls hl
  have hC : CallFix p m c cX10_all 1 s [.ref w].toArray wl RX10 := hC
  have hx := hC.1
  have hb := hC.2.1
  have hml := hC.2.2.1
  have hown := hC.2.2.2.1
  have hts := hC.2.2.2.2
  have hl : lv_has ls 1 [(0, .ref w)] := hl
  refine lv_iconst (v := 1) hx hb dX10_all_0 (by decide) ?_
  refine lv_aload_n hx hb dX10_all_1 rfl (lv_at hl 0 rfl) ?_
  refine va_get (D := D) (ci := 9) (v := .int 0) (C := RX10) (T := TX10) (N := 12) hx hb hts in_X10 hown hE.1 hP 0 rfl rfl 8 (by decide) (hts _ w_16) (fun _ h9 => h9) rfl dX10_all_2 ?_
  refine lv_ishl hx hb dX10_all_5 ?_
  refine tc (y := 1) (by decide) ?_
  refine lv_iconst (v := 1) hx hb dX10_all_6 (by decide) ?_
  refine lv_isub hx hb dX10_all_7 ?_
  refine tc (y := 0) (by decide) ?_
  exact ro_ret hC hr hk dX10_all_8 rfl
set_option maxRecDepth 20000 in
theorem c_X10_hasSet (l : Launch) (D : va_G) (K : Nat → ClassId) (w : Nat) (a : Nat → Nat) (p0 : Int32) : Ro l D K yX10_hasSet cX10_hasSet 2 (some .boolean) 1 20 [.ref w, .int p0] [(w, .inr (9, [.ref (a 0), .ref (a 1), .ref (a 2), .ref (a 3), .ref (a 4), .ref (a 5), .ref (a 6), .ref (a 7), .int 0, .int 0, .int 0, .int 0]))] (fun r => r = 0) := by
  refine ro_of (by decide) (Nat.le_of_ble_eq_true rfl) ?_
  intro p e s m below meth c hC hr hk hE hP ls hl
  have hC : CallFix p m c cX10_hasSet 2 s [.ref w, .int p0].toArray wl RX10 := hC
  have hx := hC.1
  have hb := hC.2.1
  have hml := hC.2.2.1
  have hown := hC.2.2.2.1
  have hts := hC.2.2.2.2
  have hl : lv_has ls 2 [(0, .ref w), (1, .int p0)] := hl
  refine lv_iload_n hx hb dX10_hasSet_0 rfl (lv_at hl 1 rfl) ?_
  refine lv_iconst (v := 1) hx hb dX10_hasSet_1 (by decide) ?_
  refine lv_icmp_lt (tgt := 17) hx hb dX10_hasSet_2 (by decide) (fun c15 => ?_) (fun c15 => ?_)
  · refine lv_iconst (v := 0) hx hb dX10_hasSet_17 (by decide) ?_
    exact ro_zret hC hr hk dX10_hasSet_18 rfl rfl
  · refine lv_iload_n hx hb dX10_hasSet_5 rfl (lv_at hl 1 rfl) ?_
    refine lv_aload_n hx hb dX10_hasSet_6 rfl (lv_at hl 0 rfl) ?_
    refine ro_V (As := []) (rest := [.int p0]) hC hE kV_X10_61 (c_X10_all l D K w a) hP 0 9 rfl rfl rfl hl.1 rfl (Nat.le_of_ble_eq_true rfl) (by decide) (by decide) dX10_hasSet_7 (fun r hq => ?_)
    subst hq
    refine lv_icmp_gt (tgt := 17) hx hb dX10_hasSet_10 (by decide) (fun _ => ?_) (fun h => absurd (nlt1 c15) h)
    refine lv_iconst (v := 0) hx hb dX10_hasSet_17 (by decide) ?_
    exact ro_zret hC hr hk dX10_hasSet_18 rfl rfl
set_option maxRecDepth 20000 in
theorem c_X10_showing (l : Launch) (D : va_G) (K : Nat → ClassId) (w : Nat) (a : Nat → Nat) (p0 : Int32) (p1 : Int32) : Ro l D K yX10_showing cX10_showing 5 (some .int) 0 0 [.ref w, .int p0, .int p1] [(w, .inr (9, [.ref (a 0), .ref (a 1), .ref (a 2), .ref (a 3), .ref (a 4), .ref (a 5), .ref (a 6), .ref (a 7), .int 0, .int 0, .int 0, .int 0]))] (fun r => r = 0) := by
  refine ro_of (by decide) (Nat.le_of_ble_eq_true rfl) ?_
  intro p e s m below meth c hC hr hk hE hP ls hl
  have hC : CallFix p m c cX10_showing 5 s [.ref w, .int p0, .int p1].toArray wl RX10 := hC
  have hx := hC.1
  have hb := hC.2.1
  have hml := hC.2.2.1
  have hown := hC.2.2.2.1
  have hts := hC.2.2.2.2
  have hl : lv_has ls 5 [(0, .ref w), (1, .int p0), (2, .int p1)] := hl
  refine lv_iconst (v := 0) hx hb dX10_showing_0 (by decide) ?_
  refine lv_istore_n (lv' := [(3, .int 0), (0, .ref w), (1, .int p0), (2, .int p1)]) hx hb dX10_showing_1 rfl hl (by decide) rfl (fun ls hl => ?_)
  refine lv_iconst (v := 0) hx hb dX10_showing_2 (by decide) ?_
  refine lv_istore (lv' := [(4, .int 0), (3, .int 0), (0, .ref w), (1, .int p0), (2, .int p1)]) hx hb dX10_showing_3 hl (by decide) rfl (fun ls hl => ?_)
  refine lv_iload hx hb dX10_showing_5 (lv_at hl 0 rfl) ?_
  refine lv_aload_n hx hb dX10_showing_7 rfl (lv_at hl 2 rfl) ?_
  refine va_get (D := D) (ci := 9) (v := .int 0) (C := RX10) (T := TX10) (N := 12) hx hb hts in_X10 hown hE.1 hP 0 rfl rfl 8 (by decide) (hts _ w_16) (fun _ h9 => h9) rfl dX10_showing_8 ?_
  refine lv_icmp_ge (tgt := 54) hx hb dX10_showing_11 (by decide) (fun _ => ?_) (fun h => absurd h (by decide))
  refine lv_iload_n hx hb dX10_showing_54 rfl (lv_at hl 1 rfl) ?_
  exact ro_ret hC hr hk dX10_showing_55 rfl
set_option maxRecDepth 20000 in
theorem c_X10_marked (l : Launch) (D : va_G) (K : Nat → ClassId) (w : Nat) (a : Nat → Nat) : Ro l D K yX10_marked cX10_marked 1 (some .int) 1 24 [.ref w] [(w, .inr (9, [.ref (a 0), .ref (a 1), .ref (a 2), .ref (a 3), .ref (a 4), .ref (a 5), .ref (a 6), .ref (a 7), .int 0, .int 0, .int 0, .int 0]))] (fun r => r = 0) := by
  refine ro_of (by decide) (Nat.le_of_ble_eq_true rfl) ?_
  intro p e s m below meth c hC hr hk hE hP ls hl
  have hC : CallFix p m c cX10_marked 1 s [.ref w].toArray wl RX10 := hC
  have hx := hC.1
  have hb := hC.2.1
  have hml := hC.2.2.1
  have hown := hC.2.2.2.1
  have hts := hC.2.2.2.2
  have hl : lv_has ls 1 [(0, .ref w)] := hl
  refine lv_aload_n hx hb dX10_marked_0 rfl (lv_at hl 0 rfl) ?_
  refine ro_V (As := []) (rest := []) hC hE kV_X10_61 (c_X10_all l D K w a) hP 0 9 rfl rfl rfl hl.1 rfl (Nat.le_of_ble_eq_true rfl) (by decide) (by decide) dX10_marked_1 (fun r hq => ?_)
  subst hq
  refine lv_aload_n hx hb dX10_marked_4 rfl (lv_at hl 0 rfl) ?_
  refine lv_aload_n hx hb dX10_marked_5 rfl (lv_at hl 0 rfl) ?_
  refine ro_V (As := []) (rest := [.ref w, .int 0]) hC hE kV_X10_61 (c_X10_all l D K w a) hP 0 9 rfl rfl rfl hl.1 rfl (Nat.le_of_ble_eq_true rfl) (by decide) (by decide) dX10_marked_6 (fun r hq => ?_)
  subst hq
  refine lv_iconst (v := 0) hx hb dX10_marked_9 (by decide) ?_
  refine ro_V (As := [.int 0, .int 0]) (rest := [.int 0]) hC hE kV_X10_76 (c_X10_showing l D K w a 0 0) hP 0 9 rfl rfl rfl hl.1 rfl (Nat.le_of_ble_eq_true rfl) (by decide) (by decide) dX10_marked_10 (fun r hq => ?_)
  subst hq
  refine lv_iconst (v := (-1)) hx hb dX10_marked_13 (by decide) ?_
  refine lv_ixor hx hb dX10_marked_14 ?_
  refine tc (y := (-1)) (by decide) ?_
  refine lv_iand hx hb dX10_marked_15 ?_
  refine tc (y := 0) (by decide) ?_
  exact ro_ret hC hr hk dX10_marked_16 rfl
set_option maxRecDepth 20000 in
theorem c_X10_waysElsewhere (l : Launch) (D : va_G) (K : Nat → ClassId) (w : Nat) (a : Nat → Nat) : Ro l D K yX10_waysElsewhere cX10_waysElsewhere 4 (some .int) 0 0 [.ref w] [(w, .inr (9, [.ref (a 0), .ref (a 1), .ref (a 2), .ref (a 3), .ref (a 4), .ref (a 5), .ref (a 6), .ref (a 7), .int 0, .int 0, .int 0, .int 0]))] (fun r => r = 0) := by
  refine ro_of (by decide) (Nat.le_of_ble_eq_true rfl) ?_
  intro p e s m below meth c hC hr hk hE hP ls hl
  have hC : CallFix p m c cX10_waysElsewhere 4 s [.ref w].toArray wl RX10 := hC
  have hx := hC.1
  have hb := hC.2.1
  have hml := hC.2.2.1
  have hown := hC.2.2.2.1
  have hts := hC.2.2.2.2
  have hl : lv_has ls 4 [(0, .ref w)] := hl
  refine lv_iconst (v := 0) hx hb dX10_waysElsewhere_0 (by decide) ?_
  refine lv_istore_n (lv' := [(1, .int 0), (0, .ref w)]) hx hb dX10_waysElsewhere_1 rfl hl (by decide) rfl (fun ls hl => ?_)
  refine lv_iconst (v := 0) hx hb dX10_waysElsewhere_2 (by decide) ?_
  refine lv_istore_n (lv' := [(2, .int 0), (1, .int 0), (0, .ref w)]) hx hb dX10_waysElsewhere_3 rfl hl (by decide) rfl (fun ls hl => ?_)
  refine lv_iload_n hx hb dX10_waysElsewhere_4 rfl (lv_at hl 0 rfl) ?_
  refine lv_aload_n hx hb dX10_waysElsewhere_5 rfl (lv_at hl 2 rfl) ?_
  refine va_get (D := D) (ci := 9) (v := .int 0) (C := RX10) (T := TX10) (N := 12) hx hb hts in_X10 hown hE.1 hP 0 rfl rfl 8 (by decide) (hts _ w_16) (fun _ h9 => h9) rfl dX10_waysElsewhere_6 ?_
  refine lv_icmp_ge (tgt := 49) hx hb dX10_waysElsewhere_9 (by decide) (fun _ => ?_) (fun h => absurd h (by decide))
  refine lv_iload_n hx hb dX10_waysElsewhere_49 rfl (lv_at hl 1 rfl) ?_
  exact ro_ret hC hr hk dX10_waysElsewhere_50 rfl
set_option maxRecDepth 20000 in
theorem c_X5_has (l : Launch) (D : va_G) (K : Nat → ClassId) (w : Nat) (a : Nat → Nat) (fs : Nat → Int32) (hfs : ∀ j, j < 4 → fs j = -1) (p0 : Int32) : Ro l D K yX5_has cX5_has 2 (some .boolean) 1 20 [.ref w, .int p0] [(w, .inr (5, [.ref (a 0), .ref (a 1), .ref (a 2)])), (a 2, .inl (K 1, 4, .inl fs))] (fun r => r = 0) := by
  refine ro_of (by decide) (Nat.le_of_ble_eq_true rfl) ?_
  intro p e s m below meth c hC hr hk hE hP ls hl
  have hC : CallFix p m c cX5_has 2 s [.ref w, .int p0].toArray wl RX5 := hC
  have hx := hC.1
  have hb := hC.2.1
  have hml := hC.2.2.1
  have hown := hC.2.2.2.1
  have hts := hC.2.2.2.2
  have hl : lv_has ls 2 [(0, .ref w), (1, .int p0)] := hl
  refine lv_iload_n hx hb dX5_has_0 rfl (lv_at hl 1 rfl) ?_
  refine ro_SN (As := [.int p0]) (rest := []) hC hE kSN_X5_28 (c_X11_isSlot l D K p0) (hP.sub (ws' := []) [] rfl) rfl hl.1 rfl (Nat.le_of_ble_eq_true rfl) (by decide) (by decide) dX5_has_1 (fun r hq => ?_)
  rcases hq with ⟨h16, rfl⟩ | ⟨h17, rfl⟩
  · refine lv_if_eq (tgt := 21) hx hb dX5_has_4 (by decide) (fun h => absurd h (by decide)) (fun _ => ?_)
    refine lv_aload_n hx hb dX5_has_7 rfl (lv_at hl 0 rfl) ?_
    refine va_get (D := D) (ci := 5) (v := .ref (a 2)) (C := RX5) (T := TX5) (N := 3) hx hb hts in_X5 hown hE.1 hP 0 rfl rfl 2 (by decide) (hts _ w_34) (fun _ h9 => h9) rfl dX5_has_8 ?_
    refine lv_iload_n hx hb dX5_has_11 rfl (lv_at hl 1 rfl) ?_
    refine va_iald hx hb hE.1 hP 1 1 rfl rfl h16 dX5_has_12 ?_
    refine tc (y := (-1)) (hfs _ (in_lt h16)) ?_
    refine lv_iconst (v := (-1)) hx hb dX5_has_13 (by decide) ?_
    refine lv_icmp_eq (tgt := 21) hx hb dX5_has_14 (by decide) (fun _ => ?_) (fun h => absurd h (by decide))
    refine lv_iconst (v := 0) hx hb dX5_has_21 (by decide) ?_
    exact ro_zret hC hr hk dX5_has_22 rfl rfl
  · refine lv_if_eq (tgt := 21) hx hb dX5_has_4 (by decide) (fun _ => ?_) (fun h => absurd h (by decide))
    refine lv_iconst (v := 0) hx hb dX5_has_21 (by decide) ?_
    exact ro_zret hC hr hk dX5_has_22 rfl rfl
set_option maxRecDepth 20000 in
theorem c_X5_kept (l : Launch) (D : va_G) (K : Nat → ClassId) (w : Nat) (a : Nat → Nat) (fs : Nat → Int32) (hfs : ∀ j, j < 4 → fs j = -1) : Ro l D K yX5_kept cX5_kept 3 (some .int) 2 41 [.ref w] [(w, .inr (5, [.ref (a 0), .ref (a 1), .ref (a 2)])), (a 2, .inl (K 1, 4, .inl fs))] (fun r => r = 0) := by
  refine ro_of (by decide) (Nat.le_of_ble_eq_true rfl) ?_
  intro p e s m below meth c hC hr hk hE hP ls hl
  have hC : CallFix p m c cX5_kept 3 s [.ref w].toArray wl RX5 := hC
  have hx := hC.1
  have hb := hC.2.1
  have hml := hC.2.2.1
  have hown := hC.2.2.2.1
  have hts := hC.2.2.2.2
  have hl : lv_has ls 3 [(0, .ref w)] := hl
  refine lv_iconst (v := 0) hx hb dX5_kept_0 (by decide) ?_
  refine lv_istore_n (lv' := [(1, .int 0), (0, .ref w)]) hx hb dX5_kept_1 rfl hl (by decide) rfl (fun ls hl => ?_)
  refine lv_iconst (v := 0) hx hb dX5_kept_2 (by decide) ?_
  refine lv_istore_n (lv' := [(2, .int 0), (1, .int 0), (0, .ref w)]) hx hb dX5_kept_3 rfl hl (by decide) rfl (fun ls hl => ?_)
  refine lv_iload_n hx hb dX5_kept_4 rfl (lv_at hl 0 rfl) ?_
  refine lv_iconst (v := 4) hx hb dX5_kept_5 (by decide) ?_
  refine lv_icmp_ge (tgt := 31) hx hb dX5_kept_6 (by decide) (fun h => absurd h (by decide)) (fun _ => ?_)
  refine lv_iload_n hx hb dX5_kept_9 rfl (lv_at hl 1 rfl) ?_
  refine lv_aload_n hx hb dX5_kept_10 rfl (lv_at hl 2 rfl) ?_
  refine lv_iload_n hx hb dX5_kept_11 rfl (lv_at hl 0 rfl) ?_
  refine ro_V (As := [.int 0]) (rest := [.int 0]) hC hE kV_X5_35 (c_X5_has l D K w a fs hfs 0) hP 0 5 rfl rfl rfl hl.1 rfl (Nat.le_of_ble_eq_true rfl) (by decide) (by decide) dX5_kept_12 (fun r hq => ?_)
  subst hq
  refine lv_if_eq (tgt := 22) hx hb dX5_kept_15 (by decide) (fun _ => ?_) (fun h => absurd h (by decide))
  refine lv_iconst (v := 0) hx hb dX5_kept_22 (by decide) ?_
  refine lv_iadd hx hb dX5_kept_23 ?_
  refine tc (y := 0) (by decide) ?_
  refine lv_istore_n (lv' := [(1, .int 0), (2, .int 0), (0, .ref w)]) hx hb dX5_kept_24 rfl hl (by decide) rfl (fun ls hl => ?_)
  refine lv_iinc (v := 1) (lv' := [(2, .int 1), (1, .int 0), (0, .ref w)]) hx hb dX5_kept_25 hl (k := 1) rfl (by decide) (by decide) rfl (fun ls hl => ?_)
  refine lv_goto (tgt := 4) hx hb dX5_kept_28 (by decide) ?_
  refine lv_iload_n hx hb dX5_kept_4 rfl (lv_at hl 0 rfl) ?_
  refine lv_iconst (v := 4) hx hb dX5_kept_5 (by decide) ?_
  refine lv_icmp_ge (tgt := 31) hx hb dX5_kept_6 (by decide) (fun h => absurd h (by decide)) (fun _ => ?_)
  refine lv_iload_n hx hb dX5_kept_9 rfl (lv_at hl 1 rfl) ?_
  refine lv_aload_n hx hb dX5_kept_10 rfl (lv_at hl 2 rfl) ?_
  refine lv_iload_n hx hb dX5_kept_11 rfl (lv_at hl 0 rfl) ?_
  refine ro_V (As := [.int 1]) (rest := [.int 0]) hC hE kV_X5_35 (c_X5_has l D K w a fs hfs 1) hP 0 5 rfl rfl rfl hl.1 rfl (Nat.le_of_ble_eq_true rfl) (by decide) (by decide) dX5_kept_12 (fun r hq => ?_)
  subst hq
  refine lv_if_eq (tgt := 22) hx hb dX5_kept_15 (by decide) (fun _ => ?_) (fun h => absurd h (by decide))
  refine lv_iconst (v := 0) hx hb dX5_kept_22 (by decide) ?_
  refine lv_iadd hx hb dX5_kept_23 ?_
  refine tc (y := 0) (by decide) ?_
  refine lv_istore_n (lv' := [(1, .int 0), (2, .int 1), (0, .ref w)]) hx hb dX5_kept_24 rfl hl (by decide) rfl (fun ls hl => ?_)
  refine lv_iinc (v := 2) (lv' := [(2, .int 2), (1, .int 0), (0, .ref w)]) hx hb dX5_kept_25 hl (k := 1) rfl (by decide) (by decide) rfl (fun ls hl => ?_)
  refine lv_goto (tgt := 4) hx hb dX5_kept_28 (by decide) ?_
  refine lv_iload_n hx hb dX5_kept_4 rfl (lv_at hl 0 rfl) ?_
  refine lv_iconst (v := 4) hx hb dX5_kept_5 (by decide) ?_
  refine lv_icmp_ge (tgt := 31) hx hb dX5_kept_6 (by decide) (fun h => absurd h (by decide)) (fun _ => ?_)
  refine lv_iload_n hx hb dX5_kept_9 rfl (lv_at hl 1 rfl) ?_
  refine lv_aload_n hx hb dX5_kept_10 rfl (lv_at hl 2 rfl) ?_
  refine lv_iload_n hx hb dX5_kept_11 rfl (lv_at hl 0 rfl) ?_
  refine ro_V (As := [.int 2]) (rest := [.int 0]) hC hE kV_X5_35 (c_X5_has l D K w a fs hfs 2) hP 0 5 rfl rfl rfl hl.1 rfl (Nat.le_of_ble_eq_true rfl) (by decide) (by decide) dX5_kept_12 (fun r hq => ?_)
  subst hq
  refine lv_if_eq (tgt := 22) hx hb dX5_kept_15 (by decide) (fun _ => ?_) (fun h => absurd h (by decide))
  refine lv_iconst (v := 0) hx hb dX5_kept_22 (by decide) ?_
  refine lv_iadd hx hb dX5_kept_23 ?_
  refine tc (y := 0) (by decide) ?_
  refine lv_istore_n (lv' := [(1, .int 0), (2, .int 2), (0, .ref w)]) hx hb dX5_kept_24 rfl hl (by decide) rfl (fun ls hl => ?_)
  refine lv_iinc (v := 3) (lv' := [(2, .int 3), (1, .int 0), (0, .ref w)]) hx hb dX5_kept_25 hl (k := 1) rfl (by decide) (by decide) rfl (fun ls hl => ?_)
  refine lv_goto (tgt := 4) hx hb dX5_kept_28 (by decide) ?_
  refine lv_iload_n hx hb dX5_kept_4 rfl (lv_at hl 0 rfl) ?_
  refine lv_iconst (v := 4) hx hb dX5_kept_5 (by decide) ?_
  refine lv_icmp_ge (tgt := 31) hx hb dX5_kept_6 (by decide) (fun h => absurd h (by decide)) (fun _ => ?_)
  refine lv_iload_n hx hb dX5_kept_9 rfl (lv_at hl 1 rfl) ?_
  refine lv_aload_n hx hb dX5_kept_10 rfl (lv_at hl 2 rfl) ?_
  refine lv_iload_n hx hb dX5_kept_11 rfl (lv_at hl 0 rfl) ?_
  refine ro_V (As := [.int 3]) (rest := [.int 0]) hC hE kV_X5_35 (c_X5_has l D K w a fs hfs 3) hP 0 5 rfl rfl rfl hl.1 rfl (Nat.le_of_ble_eq_true rfl) (by decide) (by decide) dX5_kept_12 (fun r hq => ?_)
  subst hq
  refine lv_if_eq (tgt := 22) hx hb dX5_kept_15 (by decide) (fun _ => ?_) (fun h => absurd h (by decide))
  refine lv_iconst (v := 0) hx hb dX5_kept_22 (by decide) ?_
  refine lv_iadd hx hb dX5_kept_23 ?_
  refine tc (y := 0) (by decide) ?_
  refine lv_istore_n (lv' := [(1, .int 0), (2, .int 3), (0, .ref w)]) hx hb dX5_kept_24 rfl hl (by decide) rfl (fun ls hl => ?_)
  refine lv_iinc (v := 4) (lv' := [(2, .int 4), (1, .int 0), (0, .ref w)]) hx hb dX5_kept_25 hl (k := 1) rfl (by decide) (by decide) rfl (fun ls hl => ?_)
  refine lv_goto (tgt := 4) hx hb dX5_kept_28 (by decide) ?_
  refine lv_iload_n hx hb dX5_kept_4 rfl (lv_at hl 0 rfl) ?_
  refine lv_iconst (v := 4) hx hb dX5_kept_5 (by decide) ?_
  refine lv_icmp_ge (tgt := 31) hx hb dX5_kept_6 (by decide) (fun _ => ?_) (fun h => absurd h (by decide))
  refine lv_iload_n hx hb dX5_kept_31 rfl (lv_at hl 1 rfl) ?_
  exact ro_ret hC hr hk dX5_kept_32 rfl
set_option maxRecDepth 20000 in
theorem c_X11_arePlaces (l : Launch) (D : va_G) (K : Nat → ClassId) (x : Nat → Nat) (fs : Nat → Int32) (hfs : ∀ j, j < 4 → fs j = -1) (p0 : Int32) (p1 : Int32) : Ro l D K yX11_arePlaces cX11_arePlaces 3 (some .boolean) 1 21 [.ref (x 0), .int p0, .int p1] (fxL K x fs) (fun r => r = 0) := by
  refine ro_of (by decide) (Nat.le_of_ble_eq_true rfl) ?_
  intro p e s m below meth c hC hr hk hE hP ls hl
  have hC : CallFix p m c cX11_arePlaces 3 s [.ref (x 0), .int p0, .int p1].toArray wl RX11 := hC
  have hx := hC.1
  have hb := hC.2.1
  have hml := hC.2.2.1
  have hown := hC.2.2.2.1
  have hts := hC.2.2.2.2
  have hl : lv_has ls 3 [(0, .ref (x 0)), (1, .int p0), (2, .int p1)] := hl
  refine lv_aload_n hx hb dX11_arePlaces_0 rfl (lv_at hl 0 rfl) ?_
  refine va_get (D := D) (ci := 10) (v := .ref (x 2)) (C := RX11) (T := TX11) (N := 12) hx hb hts in_X11 hown hE.1 hP 0 rfl rfl 1 (by decide) (hts _ w_52) (fun _ h9 => h9) rfl dX11_arePlaces_1 ?_
  refine lv_iload_n hx hb dX11_arePlaces_4 rfl (lv_at hl 1 rfl) ?_
  refine ro_V (As := [.int p0]) (rest := []) hC hE kV_X11_126 (c_X10_hasPlace l D K (x 2) (fun k => x (10 + k)) p0) (hP.sub (ws' := [(x 2, .inr (9, [.ref (x 10), .ref (x 11), .ref (x 12), .ref (x 13), .ref (x 14), .ref (x 15), .ref (x 16), .ref (x 17), .int 0, .int 0, .int 0, .int 0]))]) [2] rfl) 0 9 rfl rfl rfl hl.1 rfl (Nat.le_of_ble_eq_true rfl) (by decide) (by decide) dX11_arePlaces_5 (fun r hq => ?_)
  subst hq
  refine lv_if_eq (tgt := 26) hx hb dX11_arePlaces_8 (by decide) (fun _ => ?_) (fun h => absurd h (by decide))
  refine lv_iconst (v := 0) hx hb dX11_arePlaces_26 (by decide) ?_
  exact ro_zret hC hr hk dX11_arePlaces_27 rfl rfl
set_option maxRecDepth 20000 in
theorem c_X11_stand (l : Launch) (D : va_G) (K : Nat → ClassId) (x : Nat → Nat) (fs : Nat → Int32) (hfs : ∀ j, j < 4 → fs j = -1) (p0 : Int32) : Ro l D K yX11_stand cX11_stand 2 (some .boolean) 1 21 [.ref (x 0), .int p0] (fxL K x fs) (fun r => r = 0) := by
  refine ro_of (by decide) (Nat.le_of_ble_eq_true rfl) ?_
  intro p e s m below meth c hC hr hk hE hP ls hl
  have hC : CallFix p m c cX11_stand 2 s [.ref (x 0), .int p0].toArray wl RX11 := hC
  have hx := hC.1
  have hb := hC.2.1
  have hml := hC.2.2.1
  have hown := hC.2.2.2.1
  have hts := hC.2.2.2.2
  have hl : lv_has ls 2 [(0, .ref (x 0)), (1, .int p0)] := hl
  refine lv_aload_n hx hb dX11_stand_0 rfl (lv_at hl 0 rfl) ?_
  refine va_get (D := D) (ci := 10) (v := .ref (x 2)) (C := RX11) (T := TX11) (N := 12) hx hb hts in_X11 hown hE.1 hP 0 rfl rfl 1 (by decide) (hts _ w_52) (fun _ h9 => h9) rfl dX11_stand_1 ?_
  refine lv_iload_n hx hb dX11_stand_4 rfl (lv_at hl 1 rfl) ?_
  refine ro_V (As := [.int p0]) (rest := []) hC hE kV_X11_334 (c_X10_hasPupil l D K (x 2) (fun k => x (10 + k)) p0) (hP.sub (ws' := [(x 2, .inr (9, [.ref (x 10), .ref (x 11), .ref (x 12), .ref (x 13), .ref (x 14), .ref (x 15), .ref (x 16), .ref (x 17), .int 0, .int 0, .int 0, .int 0]))]) [2] rfl) 0 9 rfl rfl rfl hl.1 rfl (Nat.le_of_ble_eq_true rfl) (by decide) (by decide) dX11_stand_5 (fun r hq => ?_)
  subst hq
  refine lv_if_ne (tgt := 13) hx hb dX11_stand_8 (by decide) (fun h => absurd h (by decide)) (fun _ => ?_)
  refine lv_iconst (v := 0) hx hb dX11_stand_11 (by decide) ?_
  exact ro_zret hC hr hk dX11_stand_12 rfl rfl
set_option maxRecDepth 20000 in
theorem c_X11_refuseWalk (l : Launch) (D : va_G) (K : Nat → ClassId) (x : Nat → Nat) (fs : Nat → Int32) (hfs : ∀ j, j < 4 → fs j = -1) (p0 : Int32) (p1 : Int32) : Ro l D K yX11_refuseWalk cX11_refuseWalk 4 (some .int) 2 42 [.ref (x 0), .int p0, .int p1] (fxL K x fs) (fun r => r = (-2)) := by
  refine ro_of (by decide) (Nat.le_of_ble_eq_true rfl) ?_
  intro p e s m below meth c hC hr hk hE hP ls hl
  have hC : CallFix p m c cX11_refuseWalk 4 s [.ref (x 0), .int p0, .int p1].toArray wl RX11 := hC
  have hx := hC.1
  have hb := hC.2.1
  have hml := hC.2.2.1
  have hown := hC.2.2.2.1
  have hts := hC.2.2.2.2
  have hl : lv_has ls 4 [(0, .ref (x 0)), (1, .int p0), (2, .int p1)] := hl
  refine lv_iload_n hx hb dX11_refuseWalk_0 rfl (lv_at hl 1 rfl) ?_
  refine ro_S (As := [.int p0]) (rest := []) hC hE kS_X11_352 (c_X11_isSlot l D K p0) (hP.sub (ws' := []) [] rfl) rfl hl.1 rfl (Nat.le_of_ble_eq_true rfl) (by decide) (by decide) dX11_refuseWalk_1 (fun r hq => ?_)
  rcases hq with ⟨h18, rfl⟩ | ⟨h19, rfl⟩
  · refine lv_if_eq (tgt := 15) hx hb dX11_refuseWalk_4 (by decide) (fun h => absurd h (by decide)) (fun _ => ?_)
    refine lv_aload_n hx hb dX11_refuseWalk_7 rfl (lv_at hl 0 rfl) ?_
    refine lv_iload_n hx hb dX11_refuseWalk_8 rfl (lv_at hl 2 rfl) ?_
    refine ro_V (As := [.int p1]) (rest := []) hC hE kV_X11_152 (c_X11_stand l D K x fs hfs p1) hP 0 10 rfl rfl rfl hl.1 rfl (Nat.le_of_ble_eq_true rfl) (by decide) (by decide) dX11_refuseWalk_9 (fun r hq => ?_)
    subst hq
    refine lv_if_ne (tgt := 18) hx hb dX11_refuseWalk_12 (by decide) (fun h => absurd h (by decide)) (fun _ => ?_)
    refine lv_bipush (v := (-2)) hx hb dX11_refuseWalk_15 (by decide) ?_
    exact ro_ret hC hr hk dX11_refuseWalk_17 rfl
  · refine lv_if_eq (tgt := 15) hx hb dX11_refuseWalk_4 (by decide) (fun _ => ?_) (fun h => absurd h (by decide))
    refine lv_bipush (v := (-2)) hx hb dX11_refuseWalk_15 (by decide) ?_
    exact ro_ret hC hr hk dX11_refuseWalk_17 rfl
set_option maxRecDepth 20000 in
theorem c_X11_refuseReading (l : Launch) (D : va_G) (K : Nat → ClassId) (x : Nat → Nat) (fs : Nat → Int32) (hfs : ∀ j, j < 4 → fs j = -1) (p0 : Int32) : Ro l D K yX11_refuseReading cX11_refuseReading 3 (some .int) 1 20 [.ref (x 0), .int p0] (fxL K x fs) (fun r => r = (-2)) := by
  refine ro_of (by decide) (Nat.le_of_ble_eq_true rfl) ?_
  intro p e s m below meth c hC hr hk hE hP ls hl
  have hC : CallFix p m c cX11_refuseReading 3 s [.ref (x 0), .int p0].toArray wl RX11 := hC
  have hx := hC.1
  have hb := hC.2.1
  have hml := hC.2.2.1
  have hown := hC.2.2.2.1
  have hts := hC.2.2.2.2
  have hl : lv_has ls 3 [(0, .ref (x 0)), (1, .int p0)] := hl
  refine lv_iload_n hx hb dX11_refuseReading_0 rfl (lv_at hl 1 rfl) ?_
  refine ro_S (As := [.int p0]) (rest := []) hC hE kS_X11_352 (c_X11_isSlot l D K p0) (hP.sub (ws' := []) [] rfl) rfl hl.1 rfl (Nat.le_of_ble_eq_true rfl) (by decide) (by decide) dX11_refuseReading_1 (fun r hq => ?_)
  rcases hq with ⟨h20, rfl⟩ | ⟨h21, rfl⟩
  · refine lv_if_eq (tgt := 17) hx hb dX11_refuseReading_4 (by decide) (fun h => absurd h (by decide)) (fun _ => ?_)
    refine lv_aload_n hx hb dX11_refuseReading_7 rfl (lv_at hl 0 rfl) ?_
    refine va_get (D := D) (ci := 10) (v := .ref (x 2)) (C := RX11) (T := TX11) (N := 12) hx hb hts in_X11 hown hE.1 hP 0 rfl rfl 1 (by decide) (hts _ w_52) (fun _ h9 => h9) rfl dX11_refuseReading_8 ?_
    refine ro_V (As := []) (rest := []) hC hE kV_X11_185 (c_X10_stands l D K (x 2) (fun k => x (10 + k))) (hP.sub (ws' := [(x 2, .inr (9, [.ref (x 10), .ref (x 11), .ref (x 12), .ref (x 13), .ref (x 14), .ref (x 15), .ref (x 16), .ref (x 17), .int 0, .int 0, .int 0, .int 0]))]) [2] rfl) 0 9 rfl rfl rfl hl.1 rfl (Nat.le_of_ble_eq_true rfl) (by decide) (by decide) dX11_refuseReading_11 (fun r hq => ?_)
    subst hq
    refine lv_if_ne (tgt := 20) hx hb dX11_refuseReading_14 (by decide) (fun h => absurd h (by decide)) (fun _ => ?_)
    refine lv_bipush (v := (-2)) hx hb dX11_refuseReading_17 (by decide) ?_
    exact ro_ret hC hr hk dX11_refuseReading_19 rfl
  · refine lv_if_eq (tgt := 17) hx hb dX11_refuseReading_4 (by decide) (fun _ => ?_) (fun h => absurd h (by decide))
    refine lv_bipush (v := (-2)) hx hb dX11_refuseReading_17 (by decide) ?_
    exact ro_ret hC hr hk dX11_refuseReading_19 rfl
set_option maxRecDepth 20000 in
theorem c_X11_seek (l : Launch) (D : va_G) (K : Nat → ClassId) (x : Nat → Nat) (fs : Nat → Int32) (hfs : ∀ j, j < 4 → fs j = -1) (p0 : Int32) (p1 : Int32) (p2 : Int32) : Ro l D K yX11_seek cX11_seek 4 (some .boolean) 2 42 [.ref (x 0), .int p0, .int p1, .int p2] (fxL K x fs) (fun r => r = 0) := by
  refine ro_of (by decide) (Nat.le_of_ble_eq_true rfl) ?_
  intro p e s m below meth c hC hr hk hE hP ls hl
  have hC : CallFix p m c cX11_seek 4 s [.ref (x 0), .int p0, .int p1, .int p2].toArray wl RX11 := hC
  have hx := hC.1
  have hb := hC.2.1
  have hml := hC.2.2.1
  have hown := hC.2.2.2.1
  have hts := hC.2.2.2.2
  have hl : lv_has ls 4 [(0, .ref (x 0)), (1, .int p0), (2, .int p1), (3, .int p2)] := hl
  refine lv_aload_n hx hb dX11_seek_0 rfl (lv_at hl 0 rfl) ?_
  refine lv_iload_n hx hb dX11_seek_1 rfl (lv_at hl 1 rfl) ?_
  refine ro_V (As := [.int p0]) (rest := []) hC hE kV_X11_152 (c_X11_stand l D K x fs hfs p0) hP 0 10 rfl rfl rfl hl.1 rfl (Nat.le_of_ble_eq_true rfl) (by decide) (by decide) dX11_seek_2 (fun r hq => ?_)
  subst hq
  refine lv_if_ne (tgt := 10) hx hb dX11_seek_5 (by decide) (fun h => absurd h (by decide)) (fun _ => ?_)
  refine lv_iconst (v := 0) hx hb dX11_seek_8 (by decide) ?_
  exact ro_zret hC hr hk dX11_seek_9 rfl rfl
set_option maxRecDepth 20000 in
theorem c_X11_leads (l : Launch) (D : va_G) (K : Nat → ClassId) (x : Nat → Nat) (fs : Nat → Int32) (hfs : ∀ j, j < 4 → fs j = -1) (p0 : Int32) (p1 : Int32) : Ro l D K yX11_leads cX11_leads 3 (some .int) 1 21 [.ref (x 0), .int p0, .int p1] (fxL K x fs) (fun r => r = (-2)) := by
  refine ro_of (by decide) (Nat.le_of_ble_eq_true rfl) ?_
  intro p e s m below meth c hC hr hk hE hP ls hl
  have hC : CallFix p m c cX11_leads 3 s [.ref (x 0), .int p0, .int p1].toArray wl RX11 := hC
  have hx := hC.1
  have hb := hC.2.1
  have hml := hC.2.2.1
  have hown := hC.2.2.2.1
  have hts := hC.2.2.2.2
  have hl : lv_has ls 3 [(0, .ref (x 0)), (1, .int p0), (2, .int p1)] := hl
  refine lv_aload_n hx hb dX11_leads_0 rfl (lv_at hl 0 rfl) ?_
  refine va_get (D := D) (ci := 10) (v := .ref (x 2)) (C := RX11) (T := TX11) (N := 12) hx hb hts in_X11 hown hE.1 hP 0 rfl rfl 1 (by decide) (hts _ w_52) (fun _ h9 => h9) rfl dX11_leads_1 ?_
  refine lv_iload_n hx hb dX11_leads_4 rfl (lv_at hl 1 rfl) ?_
  refine ro_V (As := [.int p0]) (rest := []) hC hE kV_X11_126 (c_X10_hasPlace l D K (x 2) (fun k => x (10 + k)) p0) (hP.sub (ws' := [(x 2, .inr (9, [.ref (x 10), .ref (x 11), .ref (x 12), .ref (x 13), .ref (x 14), .ref (x 15), .ref (x 16), .ref (x 17), .int 0, .int 0, .int 0, .int 0]))]) [2] rfl) 0 9 rfl rfl rfl hl.1 rfl (Nat.le_of_ble_eq_true rfl) (by decide) (by decide) dX11_leads_5 (fun r hq => ?_)
  subst hq
  refine lv_if_eq (tgt := 18) hx hb dX11_leads_8 (by decide) (fun _ => ?_) (fun h => absurd h (by decide))
  refine lv_bipush (v := (-2)) hx hb dX11_leads_18 (by decide) ?_
  exact ro_ret hC hr hk dX11_leads_20 rfl
set_option maxRecDepth 20000 in
theorem c_X11_mark (l : Launch) (D : va_G) (K : Nat → ClassId) (x : Nat → Nat) (fs : Nat → Int32) (hfs : ∀ j, j < 4 → fs j = -1) (p0 : Int32) : Ro l D K yX11_mark cX11_mark 2 (some .int) 1 21 [.ref (x 0), .int p0] (fxL K x fs) (fun r => r = (-2)) := by
  refine ro_of (by decide) (Nat.le_of_ble_eq_true rfl) ?_
  intro p e s m below meth c hC hr hk hE hP ls hl
  have hC : CallFix p m c cX11_mark 2 s [.ref (x 0), .int p0].toArray wl RX11 := hC
  have hx := hC.1
  have hb := hC.2.1
  have hml := hC.2.2.1
  have hown := hC.2.2.2.1
  have hts := hC.2.2.2.2
  have hl : lv_has ls 2 [(0, .ref (x 0)), (1, .int p0)] := hl
  refine lv_aload_n hx hb dX11_mark_0 rfl (lv_at hl 0 rfl) ?_
  refine va_get (D := D) (ci := 10) (v := .ref (x 2)) (C := RX11) (T := TX11) (N := 12) hx hb hts in_X11 hown hE.1 hP 0 rfl rfl 1 (by decide) (hts _ w_52) (fun _ h9 => h9) rfl dX11_mark_1 ?_
  refine lv_iload_n hx hb dX11_mark_4 rfl (lv_at hl 1 rfl) ?_
  refine ro_V (As := [.int p0]) (rest := []) hC hE kV_X11_126 (c_X10_hasPlace l D K (x 2) (fun k => x (10 + k)) p0) (hP.sub (ws' := [(x 2, .inr (9, [.ref (x 10), .ref (x 11), .ref (x 12), .ref (x 13), .ref (x 14), .ref (x 15), .ref (x 16), .ref (x 17), .int 0, .int 0, .int 0, .int 0]))]) [2] rfl) 0 9 rfl rfl rfl hl.1 rfl (Nat.le_of_ble_eq_true rfl) (by decide) (by decide) dX11_mark_5 (fun r hq => ?_)
  subst hq
  refine lv_if_eq (tgt := 22) hx hb dX11_mark_8 (by decide) (fun _ => ?_) (fun h => absurd h (by decide))
  refine lv_bipush (v := (-2)) hx hb dX11_mark_22 (by decide) ?_
  exact ro_ret hC hr hk dX11_mark_24 rfl
set_option maxRecDepth 20000 in
theorem c_X11_becomes (l : Launch) (D : va_G) (K : Nat → ClassId) (x : Nat → Nat) (fs : Nat → Int32) (hfs : ∀ j, j < 4 → fs j = -1) (p0 : Int32) (p1 : Int32) : Ro l D K yX11_becomes cX11_becomes 3 (some .int) 2 41 [.ref (x 0), .int p0, .int p1] (fxL K x fs) (fun r => r = (-2)) := by
  refine ro_of (by decide) (Nat.le_of_ble_eq_true rfl) ?_
  intro p e s m below meth c hC hr hk hE hP ls hl
  have hC : CallFix p m c cX11_becomes 3 s [.ref (x 0), .int p0, .int p1].toArray wl RX11 := hC
  have hx := hC.1
  have hb := hC.2.1
  have hml := hC.2.2.1
  have hown := hC.2.2.2.1
  have hts := hC.2.2.2.2
  have hl : lv_has ls 3 [(0, .ref (x 0)), (1, .int p0), (2, .int p1)] := hl
  refine lv_aload_n hx hb dX11_becomes_0 rfl (lv_at hl 0 rfl) ?_
  refine va_get (D := D) (ci := 10) (v := .ref (x 2)) (C := RX11) (T := TX11) (N := 12) hx hb hts in_X11 hown hE.1 hP 0 rfl rfl 1 (by decide) (hts _ w_52) (fun _ h9 => h9) rfl dX11_becomes_1 ?_
  refine lv_iload_n hx hb dX11_becomes_4 rfl (lv_at hl 1 rfl) ?_
  refine ro_V (As := [.int p0]) (rest := []) hC hE kV_X11_140 (c_X10_hasSet l D K (x 2) (fun k => x (10 + k)) p0) (hP.sub (ws' := [(x 2, .inr (9, [.ref (x 10), .ref (x 11), .ref (x 12), .ref (x 13), .ref (x 14), .ref (x 15), .ref (x 16), .ref (x 17), .int 0, .int 0, .int 0, .int 0]))]) [2] rfl) 0 9 rfl rfl rfl hl.1 rfl (Nat.le_of_ble_eq_true rfl) (by decide) (by decide) dX11_becomes_5 (fun r hq => ?_)
  subst hq
  refine lv_if_eq (tgt := 18) hx hb dX11_becomes_8 (by decide) (fun _ => ?_) (fun h => absurd h (by decide))
  refine lv_bipush (v := (-2)) hx hb dX11_becomes_18 (by decide) ?_
  exact ro_ret hC hr hk dX11_becomes_20 rfl
set_option maxRecDepth 20000 in
theorem c_X11_seen (l : Launch) (D : va_G) (K : Nat → ClassId) (x : Nat → Nat) (fs : Nat → Int32) (hfs : ∀ j, j < 4 → fs j = -1) (p0 : Int32) (p1 : Int32) : Ro l D K yX11_seen cX11_seen 3 (some .int) 2 41 [.ref (x 0), .int p0, .int p1] (fxL K x fs) (fun r => r = (-2)) := by
  refine ro_of (by decide) (Nat.le_of_ble_eq_true rfl) ?_
  intro p e s m below meth c hC hr hk hE hP ls hl
  have hC : CallFix p m c cX11_seen 3 s [.ref (x 0), .int p0, .int p1].toArray wl RX11 := hC
  have hx := hC.1
  have hb := hC.2.1
  have hml := hC.2.2.1
  have hown := hC.2.2.2.1
  have hts := hC.2.2.2.2
  have hl : lv_has ls 3 [(0, .ref (x 0)), (1, .int p0), (2, .int p1)] := hl
  refine lv_aload_n hx hb dX11_seen_0 rfl (lv_at hl 0 rfl) ?_
  refine va_get (D := D) (ci := 10) (v := .ref (x 2)) (C := RX11) (T := TX11) (N := 12) hx hb hts in_X11 hown hE.1 hP 0 rfl rfl 1 (by decide) (hts _ w_52) (fun _ h9 => h9) rfl dX11_seen_1 ?_
  refine lv_iload_n hx hb dX11_seen_4 rfl (lv_at hl 1 rfl) ?_
  refine ro_V (As := [.int p0]) (rest := []) hC hE kV_X11_140 (c_X10_hasSet l D K (x 2) (fun k => x (10 + k)) p0) (hP.sub (ws' := [(x 2, .inr (9, [.ref (x 10), .ref (x 11), .ref (x 12), .ref (x 13), .ref (x 14), .ref (x 15), .ref (x 16), .ref (x 17), .int 0, .int 0, .int 0, .int 0]))]) [2] rfl) 0 9 rfl rfl rfl hl.1 rfl (Nat.le_of_ble_eq_true rfl) (by decide) (by decide) dX11_seen_5 (fun r hq => ?_)
  subst hq
  refine lv_if_eq (tgt := 18) hx hb dX11_seen_8 (by decide) (fun _ => ?_) (fun h => absurd h (by decide))
  refine lv_bipush (v := (-2)) hx hb dX11_seen_18 (by decide) ?_
  exact ro_ret hC hr hk dX11_seen_20 rfl
set_option maxRecDepth 20000 in
theorem c_X11_where (l : Launch) (D : va_G) (K : Nat → ClassId) (x : Nat → Nat) (fs : Nat → Int32) (hfs : ∀ j, j < 4 → fs j = -1) (p0 : Int32) : Ro l D K yX11_where cX11_where 2 (some .int) 2 42 [.ref (x 0), .int p0] (fxL K x fs) (fun r => r = (-2)) := by
  refine ro_of (by decide) (Nat.le_of_ble_eq_true rfl) ?_
  intro p e s m below meth c hC hr hk hE hP ls hl
  have hC : CallFix p m c cX11_where 2 s [.ref (x 0), .int p0].toArray wl RX11 := hC
  have hx := hC.1
  have hb := hC.2.1
  have hml := hC.2.2.1
  have hown := hC.2.2.2.1
  have hts := hC.2.2.2.2
  have hl : lv_has ls 2 [(0, .ref (x 0)), (1, .int p0)] := hl
  refine lv_aload_n hx hb dX11_where_0 rfl (lv_at hl 0 rfl) ?_
  refine lv_iload_n hx hb dX11_where_1 rfl (lv_at hl 1 rfl) ?_
  refine ro_V (As := [.int p0]) (rest := []) hC hE kV_X11_152 (c_X11_stand l D K x fs hfs p0) hP 0 10 rfl rfl rfl hl.1 rfl (Nat.le_of_ble_eq_true rfl) (by decide) (by decide) dX11_where_2 (fun r hq => ?_)
  subst hq
  refine lv_if_eq (tgt := 18) hx hb dX11_where_5 (by decide) (fun _ => ?_) (fun h => absurd h (by decide))
  refine lv_bipush (v := (-2)) hx hb dX11_where_18 (by decide) ?_
  exact ro_ret hC hr hk dX11_where_20 rfl
set_option maxRecDepth 20000 in
theorem c_X11_thinks (l : Launch) (D : va_G) (K : Nat → ClassId) (x : Nat → Nat) (fs : Nat → Int32) (hfs : ∀ j, j < 4 → fs j = -1) (p0 : Int32) : Ro l D K yX11_thinks cX11_thinks 2 (some .int) 2 42 [.ref (x 0), .int p0] (fxL K x fs) (fun r => r = (-2)) := by
  refine ro_of (by decide) (Nat.le_of_ble_eq_true rfl) ?_
  intro p e s m below meth c hC hr hk hE hP ls hl
  have hC : CallFix p m c cX11_thinks 2 s [.ref (x 0), .int p0].toArray wl RX11 := hC
  have hx := hC.1
  have hb := hC.2.1
  have hml := hC.2.2.1
  have hown := hC.2.2.2.1
  have hts := hC.2.2.2.2
  have hl : lv_has ls 2 [(0, .ref (x 0)), (1, .int p0)] := hl
  refine lv_aload_n hx hb dX11_thinks_0 rfl (lv_at hl 0 rfl) ?_
  refine lv_iload_n hx hb dX11_thinks_1 rfl (lv_at hl 1 rfl) ?_
  refine ro_V (As := [.int p0]) (rest := []) hC hE kV_X11_152 (c_X11_stand l D K x fs hfs p0) hP 0 10 rfl rfl rfl hl.1 rfl (Nat.le_of_ble_eq_true rfl) (by decide) (by decide) dX11_thinks_2 (fun r hq => ?_)
  subst hq
  refine lv_if_eq (tgt := 18) hx hb dX11_thinks_5 (by decide) (fun _ => ?_) (fun h => absurd h (by decide))
  refine lv_bipush (v := (-2)) hx hb dX11_thinks_18 (by decide) ?_
  exact ro_ret hC hr hk dX11_thinks_20 rfl
set_option maxRecDepth 20000 in
theorem c_X11_pupil (l : Launch) (D : va_G) (K : Nat → ClassId) (x : Nat → Nat) (fs : Nat → Int32) (hfs : ∀ j, j < 4 → fs j = -1) (p0 : Int32) (p1 : Int32) : Ro l D K yX11_pupil cX11_pupil 3 (some .int) 2 42 [.ref (x 0), .int p0, .int p1] (fxL K x fs) (fun r => r = (-2)) := by
  refine ro_of (by decide) (Nat.le_of_ble_eq_true rfl) ?_
  intro p e s m below meth c hC hr hk hE hP ls hl
  have hC : CallFix p m c cX11_pupil 3 s [.ref (x 0), .int p0, .int p1].toArray wl RX11 := hC
  have hx := hC.1
  have hb := hC.2.1
  have hml := hC.2.2.1
  have hown := hC.2.2.2.1
  have hts := hC.2.2.2.2
  have hl : lv_has ls 3 [(0, .ref (x 0)), (1, .int p0), (2, .int p1)] := hl
  refine lv_aload_n hx hb dX11_pupil_0 rfl (lv_at hl 0 rfl) ?_
  refine lv_iload_n hx hb dX11_pupil_1 rfl (lv_at hl 1 rfl) ?_
  refine ro_V (As := [.int p0]) (rest := []) hC hE kV_X11_152 (c_X11_stand l D K x fs hfs p0) hP 0 10 rfl rfl rfl hl.1 rfl (Nat.le_of_ble_eq_true rfl) (by decide) (by decide) dX11_pupil_2 (fun r hq => ?_)
  subst hq
  refine lv_if_ne (tgt := 11) hx hb dX11_pupil_5 (by decide) (fun h => absurd h (by decide)) (fun _ => ?_)
  refine lv_bipush (v := (-2)) hx hb dX11_pupil_8 (by decide) ?_
  exact ro_ret hC hr hk dX11_pupil_10 rfl
set_option maxRecDepth 20000 in
theorem c_X11_goes (l : Launch) (D : va_G) (K : Nat → ClassId) (x : Nat → Nat) (fs : Nat → Int32) (hfs : ∀ j, j < 4 → fs j = -1) (p0 : Int32) (p1 : Int32) : Ro l D K yX11_goes cX11_goes 3 (some .int) 2 42 [.ref (x 0), .int p0, .int p1] (fxL K x fs) (fun r => r = (-2)) := by
  refine ro_of (by decide) (Nat.le_of_ble_eq_true rfl) ?_
  intro p e s m below meth c hC hr hk hE hP ls hl
  have hC : CallFix p m c cX11_goes 3 s [.ref (x 0), .int p0, .int p1].toArray wl RX11 := hC
  have hx := hC.1
  have hb := hC.2.1
  have hml := hC.2.2.1
  have hown := hC.2.2.2.1
  have hts := hC.2.2.2.2
  have hl : lv_has ls 3 [(0, .ref (x 0)), (1, .int p0), (2, .int p1)] := hl
  refine lv_iload_n hx hb dX11_goes_0 rfl (lv_at hl 2 rfl) ?_
  refine ro_S (As := [.int p1]) (rest := []) hC hE kS_X11_129 (c_X11_isWind l D K p1) (hP.sub (ws' := []) [] rfl) rfl hl.1 rfl (Nat.le_of_ble_eq_true rfl) (by decide) (by decide) dX11_goes_1 (fun r22 _ => ?_)
  refine lv_if_eq (tgt := 15) hx hb dX11_goes_4 (by decide) (fun c23 => ?_) (fun c23 => ?_)
  · refine lv_bipush (v := (-2)) hx hb dX11_goes_15 (by decide) ?_
    exact ro_ret hC hr hk dX11_goes_17 rfl
  · refine lv_aload_n hx hb dX11_goes_7 rfl (lv_at hl 0 rfl) ?_
    refine lv_iload_n hx hb dX11_goes_8 rfl (lv_at hl 1 rfl) ?_
    refine ro_V (As := [.int p0]) (rest := []) hC hE kV_X11_152 (c_X11_stand l D K x fs hfs p0) hP 0 10 rfl rfl rfl hl.1 rfl (Nat.le_of_ble_eq_true rfl) (by decide) (by decide) dX11_goes_9 (fun r hq => ?_)
    subst hq
    refine lv_if_ne (tgt := 18) hx hb dX11_goes_12 (by decide) (fun h => absurd h (by decide)) (fun _ => ?_)
    refine lv_bipush (v := (-2)) hx hb dX11_goes_15 (by decide) ?_
    exact ro_ret hC hr hk dX11_goes_17 rfl
set_option maxRecDepth 20000 in
theorem c_X11_most (l : Launch) (D : va_G) (K : Nat → ClassId) (x : Nat → Nat) (fs : Nat → Int32) (hfs : ∀ j, j < 4 → fs j = -1) : Ro l D K yX11_most cX11_most 5 (some .int) 1 20 [.ref (x 0)] (fxL K x fs) (fun r => r = (-2)) := by
  refine ro_of (by decide) (Nat.le_of_ble_eq_true rfl) ?_
  intro p e s m below meth c hC hr hk hE hP ls hl
  have hC : CallFix p m c cX11_most 5 s [.ref (x 0)].toArray wl RX11 := hC
  have hx := hC.1
  have hb := hC.2.1
  have hml := hC.2.2.1
  have hown := hC.2.2.2.1
  have hts := hC.2.2.2.2
  have hl : lv_has ls 5 [(0, .ref (x 0))] := hl
  refine lv_aload_n hx hb dX11_most_0 rfl (lv_at hl 0 rfl) ?_
  refine va_get (D := D) (ci := 10) (v := .ref (x 2)) (C := RX11) (T := TX11) (N := 12) hx hb hts in_X11 hown hE.1 hP 0 rfl rfl 1 (by decide) (hts _ w_52) (fun _ h9 => h9) rfl dX11_most_1 ?_
  refine ro_V (As := []) (rest := []) hC hE kV_X11_185 (c_X10_stands l D K (x 2) (fun k => x (10 + k))) (hP.sub (ws' := [(x 2, .inr (9, [.ref (x 10), .ref (x 11), .ref (x 12), .ref (x 13), .ref (x 14), .ref (x 15), .ref (x 16), .ref (x 17), .int 0, .int 0, .int 0, .int 0]))]) [2] rfl) 0 9 rfl rfl rfl hl.1 rfl (Nat.le_of_ble_eq_true rfl) (by decide) (by decide) dX11_most_4 (fun r hq => ?_)
  subst hq
  refine lv_if_ne (tgt := 13) hx hb dX11_most_7 (by decide) (fun h => absurd h (by decide)) (fun _ => ?_)
  refine lv_bipush (v := (-2)) hx hb dX11_most_10 (by decide) ?_
  exact ro_ret hC hr hk dX11_most_12 rfl
set_option maxRecDepth 20000 in
theorem c_X11_who (l : Launch) (D : va_G) (K : Nat → ClassId) (x : Nat → Nat) (fs : Nat → Int32) (hfs : ∀ j, j < 4 → fs j = -1) (p0 : Int32) : Ro l D K yX11_who cX11_who 4 (some .int) 1 20 [.ref (x 0), .int p0] (fxL K x fs) (fun r => r = (-2)) := by
  refine ro_of (by decide) (Nat.le_of_ble_eq_true rfl) ?_
  intro p e s m below meth c hC hr hk hE hP ls hl
  have hC : CallFix p m c cX11_who 4 s [.ref (x 0), .int p0].toArray wl RX11 := hC
  have hx := hC.1
  have hb := hC.2.1
  have hml := hC.2.2.1
  have hown := hC.2.2.2.1
  have hts := hC.2.2.2.2
  have hl : lv_has ls 4 [(0, .ref (x 0)), (1, .int p0)] := hl
  refine lv_aload_n hx hb dX11_who_0 rfl (lv_at hl 0 rfl) ?_
  refine va_get (D := D) (ci := 10) (v := .ref (x 2)) (C := RX11) (T := TX11) (N := 12) hx hb hts in_X11 hown hE.1 hP 0 rfl rfl 1 (by decide) (hts _ w_52) (fun _ h9 => h9) rfl dX11_who_1 ?_
  refine ro_V (As := []) (rest := []) hC hE kV_X11_185 (c_X10_stands l D K (x 2) (fun k => x (10 + k))) (hP.sub (ws' := [(x 2, .inr (9, [.ref (x 10), .ref (x 11), .ref (x 12), .ref (x 13), .ref (x 14), .ref (x 15), .ref (x 16), .ref (x 17), .int 0, .int 0, .int 0, .int 0]))]) [2] rfl) 0 9 rfl rfl rfl hl.1 rfl (Nat.le_of_ble_eq_true rfl) (by decide) (by decide) dX11_who_4 (fun r hq => ?_)
  subst hq
  refine lv_if_eq (tgt := 19) hx hb dX11_who_7 (by decide) (fun _ => ?_) (fun h => absurd h (by decide))
  refine lv_bipush (v := (-2)) hx hb dX11_who_19 (by decide) ?_
  exact ro_ret hC hr hk dX11_who_21 rfl
set_option maxRecDepth 20000 in
theorem c_X11_undo (l : Launch) (D : va_G) (K : Nat → ClassId) (x : Nat → Nat) (fs : Nat → Int32) (hfs : ∀ j, j < 4 → fs j = -1) : Ro l D K yX11_undo cX11_undo 1 (some .int) 1 20 [.ref (x 0)] (fxL K x fs) (fun r => r = (-2)) := by
  refine ro_of (by decide) (Nat.le_of_ble_eq_true rfl) ?_
  intro p e s m below meth c hC hr hk hE hP ls hl
  have hC : CallFix p m c cX11_undo 1 s [.ref (x 0)].toArray wl RX11 := hC
  have hx := hC.1
  have hb := hC.2.1
  have hml := hC.2.2.1
  have hown := hC.2.2.2.1
  have hts := hC.2.2.2.2
  have hl : lv_has ls 1 [(0, .ref (x 0))] := hl
  refine lv_aload_n hx hb dX11_undo_0 rfl (lv_at hl 0 rfl) ?_
  refine va_get (D := D) (ci := 10) (v := .ref (x 2)) (C := RX11) (T := TX11) (N := 12) hx hb hts in_X11 hown hE.1 hP 0 rfl rfl 1 (by decide) (hts _ w_52) (fun _ h9 => h9) rfl dX11_undo_1 ?_
  refine ro_V (As := []) (rest := []) hC hE kV_X11_185 (c_X10_stands l D K (x 2) (fun k => x (10 + k))) (hP.sub (ws' := [(x 2, .inr (9, [.ref (x 10), .ref (x 11), .ref (x 12), .ref (x 13), .ref (x 14), .ref (x 15), .ref (x 16), .ref (x 17), .int 0, .int 0, .int 0, .int 0]))]) [2] rfl) 0 9 rfl rfl rfl hl.1 rfl (Nat.le_of_ble_eq_true rfl) (by decide) (by decide) dX11_undo_4 (fun r hq => ?_)
  subst hq
  refine lv_if_ne (tgt := 13) hx hb dX11_undo_7 (by decide) (fun h => absurd h (by decide)) (fun _ => ?_)
  refine lv_bipush (v := (-2)) hx hb dX11_undo_10 (by decide) ?_
  exact ro_ret hC hr hk dX11_undo_12 rfl
set_option maxRecDepth 20000 in
theorem c_X11_anew (l : Launch) (D : va_G) (K : Nat → ClassId) (x : Nat → Nat) (fs : Nat → Int32) (hfs : ∀ j, j < 4 → fs j = -1) : Ro l D K yX11_anew cX11_anew 2 (some .int) 1 20 [.ref (x 0)] (fxL K x fs) (fun r => r = (-2)) := by
  refine ro_of (by decide) (Nat.le_of_ble_eq_true rfl) ?_
  intro p e s m below meth c hC hr hk hE hP ls hl
  have hC : CallFix p m c cX11_anew 2 s [.ref (x 0)].toArray wl RX11 := hC
  have hx := hC.1
  have hb := hC.2.1
  have hml := hC.2.2.1
  have hown := hC.2.2.2.1
  have hts := hC.2.2.2.2
  have hl : lv_has ls 2 [(0, .ref (x 0))] := hl
  refine lv_aload_n hx hb dX11_anew_0 rfl (lv_at hl 0 rfl) ?_
  refine va_get (D := D) (ci := 10) (v := .ref (x 2)) (C := RX11) (T := TX11) (N := 12) hx hb hts in_X11 hown hE.1 hP 0 rfl rfl 1 (by decide) (hts _ w_52) (fun _ h9 => h9) rfl dX11_anew_1 ?_
  refine ro_V (As := []) (rest := []) hC hE kV_X11_185 (c_X10_stands l D K (x 2) (fun k => x (10 + k))) (hP.sub (ws' := [(x 2, .inr (9, [.ref (x 10), .ref (x 11), .ref (x 12), .ref (x 13), .ref (x 14), .ref (x 15), .ref (x 16), .ref (x 17), .int 0, .int 0, .int 0, .int 0]))]) [2] rfl) 0 9 rfl rfl rfl hl.1 rfl (Nat.le_of_ble_eq_true rfl) (by decide) (by decide) dX11_anew_4 (fun r hq => ?_)
  subst hq
  refine lv_if_ne (tgt := 13) hx hb dX11_anew_7 (by decide) (fun h => absurd h (by decide)) (fun _ => ?_)
  refine lv_bipush (v := (-2)) hx hb dX11_anew_10 (by decide) ?_
  exact ro_ret hC hr hk dX11_anew_12 rfl
set_option maxRecDepth 20000 in
theorem c_X11_would (l : Launch) (D : va_G) (K : Nat → ClassId) (x : Nat → Nat) (fs : Nat → Int32) (hfs : ∀ j, j < 4 → fs j = -1) (p0 : Int32) (p1 : Int32) : Ro l D K yX11_would cX11_would 4 (some .int) 3 65 [.ref (x 0), .int p0, .int p1] (fxL K x fs) (fun r => r = (-2)) := by
  refine ro_of (by decide) (Nat.le_of_ble_eq_true rfl) ?_
  intro p e s m below meth c hC hr hk hE hP ls hl
  have hC : CallFix p m c cX11_would 4 s [.ref (x 0), .int p0, .int p1].toArray wl RX11 := hC
  have hx := hC.1
  have hb := hC.2.1
  have hml := hC.2.2.1
  have hown := hC.2.2.2.1
  have hts := hC.2.2.2.2
  have hl : lv_has ls 4 [(0, .ref (x 0)), (1, .int p0), (2, .int p1)] := hl
  refine lv_aload_n hx hb dX11_would_0 rfl (lv_at hl 0 rfl) ?_
  refine lv_iload_n hx hb dX11_would_1 rfl (lv_at hl 1 rfl) ?_
  refine lv_iload_n hx hb dX11_would_2 rfl (lv_at hl 2 rfl) ?_
  refine ro_V (As := [.int p0, .int p1]) (rest := []) hC hE kV_X11_191 (c_X11_refuseWalk l D K x fs hfs p0 p1) hP 0 10 rfl rfl rfl hl.1 rfl (Nat.le_of_ble_eq_true rfl) (by decide) (by decide) dX11_would_3 (fun r hq => ?_)
  subst hq
  refine lv_istore_n (lv' := [(3, .int (-2)), (0, .ref (x 0)), (1, .int p0), (2, .int p1)]) hx hb dX11_would_6 rfl hl (by decide) rfl (fun ls hl => ?_)
  refine lv_iload_n hx hb dX11_would_7 rfl (lv_at hl 0 rfl) ?_
  refine lv_if_eq (tgt := 13) hx hb dX11_would_8 (by decide) (fun h => absurd h (by decide)) (fun _ => ?_)
  refine lv_iload_n hx hb dX11_would_11 rfl (lv_at hl 0 rfl) ?_
  exact ro_ret hC hr hk dX11_would_12 rfl
set_option maxRecDepth 20000 in
theorem c_X11_think (l : Launch) (D : va_G) (K : Nat → ClassId) (x : Nat → Nat) (fs : Nat → Int32) (hfs : ∀ j, j < 4 → fs j = -1) (p0 : Int32) (p1 : Int32) : Ro l D K yX11_think cX11_think 4 (some .int) 3 65 [.ref (x 0), .int p0, .int p1] (fxL K x fs) (fun r => r = (-2)) := by
  refine ro_of (by decide) (Nat.le_of_ble_eq_true rfl) ?_
  intro p e s m below meth c hC hr hk hE hP ls hl
  have hC : CallFix p m c cX11_think 4 s [.ref (x 0), .int p0, .int p1].toArray wl RX11 := hC
  have hx := hC.1
  have hb := hC.2.1
  have hml := hC.2.2.1
  have hown := hC.2.2.2.1
  have hts := hC.2.2.2.2
  have hl : lv_has ls 4 [(0, .ref (x 0)), (1, .int p0), (2, .int p1)] := hl
  refine lv_aload_n hx hb dX11_think_0 rfl (lv_at hl 0 rfl) ?_
  refine lv_iload_n hx hb dX11_think_1 rfl (lv_at hl 1 rfl) ?_
  refine lv_iload_n hx hb dX11_think_2 rfl (lv_at hl 2 rfl) ?_
  refine ro_V (As := [.int p0, .int p1]) (rest := []) hC hE kV_X11_191 (c_X11_refuseWalk l D K x fs hfs p0 p1) hP 0 10 rfl rfl rfl hl.1 rfl (Nat.le_of_ble_eq_true rfl) (by decide) (by decide) dX11_think_3 (fun r hq => ?_)
  subst hq
  refine lv_istore_n (lv' := [(3, .int (-2)), (0, .ref (x 0)), (1, .int p0), (2, .int p1)]) hx hb dX11_think_6 rfl hl (by decide) rfl (fun ls hl => ?_)
  refine lv_iload_n hx hb dX11_think_7 rfl (lv_at hl 0 rfl) ?_
  refine lv_if_eq (tgt := 13) hx hb dX11_think_8 (by decide) (fun h => absurd h (by decide)) (fun _ => ?_)
  refine lv_iload_n hx hb dX11_think_11 rfl (lv_at hl 0 rfl) ?_
  exact ro_ret hC hr hk dX11_think_12 rfl
set_option maxRecDepth 20000 in
theorem c_X11_knows (l : Launch) (D : va_G) (K : Nat → ClassId) (x : Nat → Nat) (fs : Nat → Int32) (hfs : ∀ j, j < 4 → fs j = -1) (p0 : Int32) (p1 : Int32) : Ro l D K yX11_knows cX11_knows 4 (some .int) 3 65 [.ref (x 0), .int p0, .int p1] (fxL K x fs) (fun r => r = (-2)) := by
  refine ro_of (by decide) (Nat.le_of_ble_eq_true rfl) ?_
  intro p e s m below meth c hC hr hk hE hP ls hl
  have hC : CallFix p m c cX11_knows 4 s [.ref (x 0), .int p0, .int p1].toArray wl RX11 := hC
  have hx := hC.1
  have hb := hC.2.1
  have hml := hC.2.2.1
  have hown := hC.2.2.2.1
  have hts := hC.2.2.2.2
  have hl : lv_has ls 4 [(0, .ref (x 0)), (1, .int p0), (2, .int p1)] := hl
  refine lv_aload_n hx hb dX11_knows_0 rfl (lv_at hl 0 rfl) ?_
  refine lv_iload_n hx hb dX11_knows_1 rfl (lv_at hl 1 rfl) ?_
  refine lv_iload_n hx hb dX11_knows_2 rfl (lv_at hl 2 rfl) ?_
  refine ro_V (As := [.int p0, .int p1]) (rest := []) hC hE kV_X11_191 (c_X11_refuseWalk l D K x fs hfs p0 p1) hP 0 10 rfl rfl rfl hl.1 rfl (Nat.le_of_ble_eq_true rfl) (by decide) (by decide) dX11_knows_3 (fun r hq => ?_)
  subst hq
  refine lv_istore_n (lv' := [(3, .int (-2)), (0, .ref (x 0)), (1, .int p0), (2, .int p1)]) hx hb dX11_knows_6 rfl hl (by decide) rfl (fun ls hl => ?_)
  refine lv_iload_n hx hb dX11_knows_7 rfl (lv_at hl 0 rfl) ?_
  refine lv_if_eq (tgt := 15) hx hb dX11_knows_8 (by decide) (fun h => absurd h (by decide)) (fun _ => ?_)
  refine lv_iload_n hx hb dX11_knows_11 rfl (lv_at hl 0 rfl) ?_
  refine lv_goto (tgt := 21) hx hb dX11_knows_12 (by decide) ?_
  exact ro_ret hC hr hk dX11_knows_21 rfl
set_option maxRecDepth 20000 in
theorem c_X11_loses (l : Launch) (D : va_G) (K : Nat → ClassId) (x : Nat → Nat) (fs : Nat → Int32) (hfs : ∀ j, j < 4 → fs j = -1) (p0 : Int32) (p1 : Int32) : Ro l D K yX11_loses cX11_loses 4 (some .int) 3 65 [.ref (x 0), .int p0, .int p1] (fxL K x fs) (fun r => r = (-2)) := by
  refine ro_of (by decide) (Nat.le_of_ble_eq_true rfl) ?_
  intro p e s m below meth c hC hr hk hE hP ls hl
  have hC : CallFix p m c cX11_loses 4 s [.ref (x 0), .int p0, .int p1].toArray wl RX11 := hC
  have hx := hC.1
  have hb := hC.2.1
  have hml := hC.2.2.1
  have hown := hC.2.2.2.1
  have hts := hC.2.2.2.2
  have hl : lv_has ls 4 [(0, .ref (x 0)), (1, .int p0), (2, .int p1)] := hl
  refine lv_aload_n hx hb dX11_loses_0 rfl (lv_at hl 0 rfl) ?_
  refine lv_iload_n hx hb dX11_loses_1 rfl (lv_at hl 1 rfl) ?_
  refine lv_iload_n hx hb dX11_loses_2 rfl (lv_at hl 2 rfl) ?_
  refine ro_V (As := [.int p0, .int p1]) (rest := []) hC hE kV_X11_191 (c_X11_refuseWalk l D K x fs hfs p0 p1) hP 0 10 rfl rfl rfl hl.1 rfl (Nat.le_of_ble_eq_true rfl) (by decide) (by decide) dX11_loses_3 (fun r hq => ?_)
  subst hq
  refine lv_istore_n (lv' := [(3, .int (-2)), (0, .ref (x 0)), (1, .int p0), (2, .int p1)]) hx hb dX11_loses_6 rfl hl (by decide) rfl (fun ls hl => ?_)
  refine lv_iload_n hx hb dX11_loses_7 rfl (lv_at hl 0 rfl) ?_
  refine lv_if_eq (tgt := 15) hx hb dX11_loses_8 (by decide) (fun h => absurd h (by decide)) (fun _ => ?_)
  refine lv_iload_n hx hb dX11_loses_11 rfl (lv_at hl 0 rfl) ?_
  refine lv_goto (tgt := 21) hx hb dX11_loses_12 (by decide) ?_
  exact ro_ret hC hr hk dX11_loses_21 rfl
set_option maxRecDepth 20000 in
theorem c_X11_doubts (l : Launch) (D : va_G) (K : Nat → ClassId) (x : Nat → Nat) (fs : Nat → Int32) (hfs : ∀ j, j < 4 → fs j = -1) (p0 : Int32) (p1 : Int32) : Ro l D K yX11_doubts cX11_doubts 6 (some .int) 3 65 [.ref (x 0), .int p0, .int p1] (fxL K x fs) (fun r => r = (-2)) := by
  refine ro_of (by decide) (Nat.le_of_ble_eq_true rfl) ?_
  intro p e s m below meth c hC hr hk hE hP ls hl
  have hC : CallFix p m c cX11_doubts 6 s [.ref (x 0), .int p0, .int p1].toArray wl RX11 := hC
  have hx := hC.1
  have hb := hC.2.1
  have hml := hC.2.2.1
  have hown := hC.2.2.2.1
  have hts := hC.2.2.2.2
  have hl : lv_has ls 6 [(0, .ref (x 0)), (1, .int p0), (2, .int p1)] := hl
  refine lv_aload_n hx hb dX11_doubts_0 rfl (lv_at hl 0 rfl) ?_
  refine lv_iload_n hx hb dX11_doubts_1 rfl (lv_at hl 1 rfl) ?_
  refine lv_iload_n hx hb dX11_doubts_2 rfl (lv_at hl 2 rfl) ?_
  refine ro_V (As := [.int p0, .int p1]) (rest := []) hC hE kV_X11_191 (c_X11_refuseWalk l D K x fs hfs p0 p1) hP 0 10 rfl rfl rfl hl.1 rfl (Nat.le_of_ble_eq_true rfl) (by decide) (by decide) dX11_doubts_3 (fun r hq => ?_)
  subst hq
  refine lv_istore_n (lv' := [(3, .int (-2)), (0, .ref (x 0)), (1, .int p0), (2, .int p1)]) hx hb dX11_doubts_6 rfl hl (by decide) rfl (fun ls hl => ?_)
  refine lv_iload_n hx hb dX11_doubts_7 rfl (lv_at hl 0 rfl) ?_
  refine lv_if_eq (tgt := 13) hx hb dX11_doubts_8 (by decide) (fun h => absurd h (by decide)) (fun _ => ?_)
  refine lv_iload_n hx hb dX11_doubts_11 rfl (lv_at hl 0 rfl) ?_
  exact ro_ret hC hr hk dX11_doubts_12 rfl
set_option maxRecDepth 20000 in
theorem c_X11_blur (l : Launch) (D : va_G) (K : Nat → ClassId) (x : Nat → Nat) (fs : Nat → Int32) (hfs : ∀ j, j < 4 → fs j = -1) (p0 : Int32) (p1 : Int32) : Ro l D K yX11_blur cX11_blur 3 (some .int) 3 65 [.ref (x 0), .int p0, .int p1] (fxL K x fs) (fun r => r = (-2)) := by
  refine ro_of (by decide) (Nat.le_of_ble_eq_true rfl) ?_
  intro p e s m below meth c hC hr hk hE hP ls hl
  have hC : CallFix p m c cX11_blur 3 s [.ref (x 0), .int p0, .int p1].toArray wl RX11 := hC
  have hx := hC.1
  have hb := hC.2.1
  have hml := hC.2.2.1
  have hown := hC.2.2.2.1
  have hts := hC.2.2.2.2
  have hl : lv_has ls 3 [(0, .ref (x 0)), (1, .int p0), (2, .int p1)] := hl
  refine lv_iload_n hx hb dX11_blur_0 rfl (lv_at hl 2 rfl) ?_
  refine lv_iconst (v := 1) hx hb dX11_blur_1 (by decide) ?_
  refine lv_icmp_lt (tgt := 25) hx hb dX11_blur_2 (by decide) (fun c24 => ?_) (fun c24 => ?_)
  · refine lv_bipush (v := (-2)) hx hb dX11_blur_25 (by decide) ?_
    exact ro_ret hC hr hk dX11_blur_27 rfl
  · refine lv_aload_n hx hb dX11_blur_5 rfl (lv_at hl 0 rfl) ?_
    refine lv_iload_n hx hb dX11_blur_6 rfl (lv_at hl 1 rfl) ?_
    refine lv_iconst (v := 1) hx hb dX11_blur_7 (by decide) ?_
    refine lv_iload_n hx hb dX11_blur_8 rfl (lv_at hl 2 rfl) ?_
    refine ro_V (As := [.int p0, .int 1, .int p1]) (rest := []) hC hE kV_X11_212 (c_X11_seek l D K x fs hfs p0 1 p1) hP 0 10 rfl rfl rfl hl.1 rfl (Nat.le_of_ble_eq_true rfl) (by decide) (by decide) dX11_blur_9 (fun r hq => ?_)
    subst hq
    refine lv_if_eq (tgt := 25) hx hb dX11_blur_12 (by decide) (fun _ => ?_) (fun h => absurd h (by decide))
    refine lv_bipush (v := (-2)) hx hb dX11_blur_25 (by decide) ?_
    exact ro_ret hC hr hk dX11_blur_27 rfl
set_option maxRecDepth 20000 in
theorem c_X11_blurs (l : Launch) (D : va_G) (K : Nat → ClassId) (x : Nat → Nat) (fs : Nat → Int32) (hfs : ∀ j, j < 4 → fs j = -1) (p0 : Int32) (p1 : Int32) (p2 : Int32) : Ro l D K yX11_blurs cX11_blurs 4 (some .int) 3 65 [.ref (x 0), .int p0, .int p1, .int p2] (fxL K x fs) (fun r => r = (-2)) := by
  refine ro_of (by decide) (Nat.le_of_ble_eq_true rfl) ?_
  intro p e s m below meth c hC hr hk hE hP ls hl
  have hC : CallFix p m c cX11_blurs 4 s [.ref (x 0), .int p0, .int p1, .int p2].toArray wl RX11 := hC
  have hx := hC.1
  have hb := hC.2.1
  have hml := hC.2.2.1
  have hown := hC.2.2.2.1
  have hts := hC.2.2.2.2
  have hl : lv_has ls 4 [(0, .ref (x 0)), (1, .int p0), (2, .int p1), (3, .int p2)] := hl
  refine lv_iload_n hx hb dX11_blurs_0 rfl (lv_at hl 2 rfl) ?_
  refine lv_iconst (v := 1) hx hb dX11_blurs_1 (by decide) ?_
  refine lv_icmp_lt (tgt := 26) hx hb dX11_blurs_2 (by decide) (fun c25 => ?_) (fun c25 => ?_)
  · refine lv_bipush (v := (-2)) hx hb dX11_blurs_26 (by decide) ?_
    exact ro_ret hC hr hk dX11_blurs_28 rfl
  · refine lv_aload_n hx hb dX11_blurs_5 rfl (lv_at hl 0 rfl) ?_
    refine lv_iload_n hx hb dX11_blurs_6 rfl (lv_at hl 1 rfl) ?_
    refine lv_iconst (v := 1) hx hb dX11_blurs_7 (by decide) ?_
    refine lv_iload_n hx hb dX11_blurs_8 rfl (lv_at hl 2 rfl) ?_
    refine ro_V (As := [.int p0, .int 1, .int p1]) (rest := []) hC hE kV_X11_212 (c_X11_seek l D K x fs hfs p0 1 p1) hP 0 10 rfl rfl rfl hl.1 rfl (Nat.le_of_ble_eq_true rfl) (by decide) (by decide) dX11_blurs_9 (fun r hq => ?_)
    subst hq
    refine lv_if_eq (tgt := 26) hx hb dX11_blurs_12 (by decide) (fun _ => ?_) (fun h => absurd h (by decide))
    refine lv_bipush (v := (-2)) hx hb dX11_blurs_26 (by decide) ?_
    exact ro_ret hC hr hk dX11_blurs_28 rfl
end
section
set_option maxRecDepth 20000 in
theorem c_X11_stray (l : Launch) (D : va_G) (K : Nat → ClassId) (x : Nat → Nat) (fs : Nat → Int32) (hfs : ∀ j, j < 4 → fs j = -1) (p0 : Int32) : Ro l D K yX11_stray cX11_stray 2 (some .int) 3 65 [.ref (x 0), .int p0] (fxL K x fs) (fun r => r = (-2)) := by
  refine ro_of (by decide) (Nat.le_of_ble_eq_true rfl) ?_
  intro p e s m below meth c hC hr hk hE hP ls hl
  have hC : CallFix p m c cX11_stray 2 s [.ref (x 0), .int p0].toArray wl RX11 := hC
  have hx := hC.1
  have hb := hC.2.1
  have hml := hC.2.2.1
  have hown := hC.2.2.2.1
  have hts := hC.2.2.2.2
  have hl : lv_has ls 2 [(0, .ref (x 0)), (1, .int p0)] := hl
  refine lv_aload_n hx hb dX11_stray_0 rfl (lv_at hl 0 rfl) ?_
  refine lv_iload_n hx hb dX11_stray_1 rfl (lv_at hl 1 rfl) ?_
  refine lv_iconst (v := 2) hx hb dX11_stray_2 (by decide) ?_
  refine lv_iconst (v := 0) hx hb dX11_stray_3 (by decide) ?_
  refine ro_V (As := [.int p0, .int 2, .int 0]) (rest := []) hC hE kV_X11_212 (c_X11_seek l D K x fs hfs p0 2 0) hP 0 10 rfl rfl rfl hl.1 rfl (Nat.le_of_ble_eq_true rfl) (by decide) (by decide) dX11_stray_4 (fun r hq => ?_)
  subst hq
  refine lv_if_eq (tgt := 20) hx hb dX11_stray_7 (by decide) (fun _ => ?_) (fun h => absurd h (by decide))
  refine lv_bipush (v := (-2)) hx hb dX11_stray_20 (by decide) ?_
  exact ro_ret hC hr hk dX11_stray_22 rfl
set_option maxRecDepth 20000 in
theorem c_X11_strays (l : Launch) (D : va_G) (K : Nat → ClassId) (x : Nat → Nat) (fs : Nat → Int32) (hfs : ∀ j, j < 4 → fs j = -1) (p0 : Int32) (p1 : Int32) : Ro l D K yX11_strays cX11_strays 3 (some .int) 3 65 [.ref (x 0), .int p0, .int p1] (fxL K x fs) (fun r => r = (-2)) := by
  refine ro_of (by decide) (Nat.le_of_ble_eq_true rfl) ?_
  intro p e s m below meth c hC hr hk hE hP ls hl
  have hC : CallFix p m c cX11_strays 3 s [.ref (x 0), .int p0, .int p1].toArray wl RX11 := hC
  have hx := hC.1
  have hb := hC.2.1
  have hml := hC.2.2.1
  have hown := hC.2.2.2.1
  have hts := hC.2.2.2.2
  have hl : lv_has ls 3 [(0, .ref (x 0)), (1, .int p0), (2, .int p1)] := hl
  refine lv_aload_n hx hb dX11_strays_0 rfl (lv_at hl 0 rfl) ?_
  refine lv_iload_n hx hb dX11_strays_1 rfl (lv_at hl 1 rfl) ?_
  refine lv_iconst (v := 2) hx hb dX11_strays_2 (by decide) ?_
  refine lv_iconst (v := 0) hx hb dX11_strays_3 (by decide) ?_
  refine ro_V (As := [.int p0, .int 2, .int 0]) (rest := []) hC hE kV_X11_212 (c_X11_seek l D K x fs hfs p0 2 0) hP 0 10 rfl rfl rfl hl.1 rfl (Nat.le_of_ble_eq_true rfl) (by decide) (by decide) dX11_strays_4 (fun r hq => ?_)
  subst hq
  refine lv_if_eq (tgt := 21) hx hb dX11_strays_7 (by decide) (fun _ => ?_) (fun h => absurd h (by decide))
  refine lv_bipush (v := (-2)) hx hb dX11_strays_21 (by decide) ?_
  exact ro_ret hC hr hk dX11_strays_23 rfl
set_option maxRecDepth 20000 in
theorem c_X11_home (l : Launch) (D : va_G) (K : Nat → ClassId) (x : Nat → Nat) (fs : Nat → Int32) (hfs : ∀ j, j < 4 → fs j = -1) (p0 : Int32) : Ro l D K yX11_home cX11_home 2 (some .int) 3 65 [.ref (x 0), .int p0] (fxL K x fs) (fun r => r = (-2)) := by
  refine ro_of (by decide) (Nat.le_of_ble_eq_true rfl) ?_
  intro p e s m below meth c hC hr hk hE hP ls hl
  have hC : CallFix p m c cX11_home 2 s [.ref (x 0), .int p0].toArray wl RX11 := hC
  have hx := hC.1
  have hb := hC.2.1
  have hml := hC.2.2.1
  have hown := hC.2.2.2.1
  have hts := hC.2.2.2.2
  have hl : lv_has ls 2 [(0, .ref (x 0)), (1, .int p0)] := hl
  refine lv_aload_n hx hb dX11_home_0 rfl (lv_at hl 0 rfl) ?_
  refine lv_iload_n hx hb dX11_home_1 rfl (lv_at hl 1 rfl) ?_
  refine lv_iconst (v := 3) hx hb dX11_home_2 (by decide) ?_
  refine lv_iconst (v := 0) hx hb dX11_home_3 (by decide) ?_
  refine ro_V (As := [.int p0, .int 3, .int 0]) (rest := []) hC hE kV_X11_212 (c_X11_seek l D K x fs hfs p0 3 0) hP 0 10 rfl rfl rfl hl.1 rfl (Nat.le_of_ble_eq_true rfl) (by decide) (by decide) dX11_home_4 (fun r hq => ?_)
  subst hq
  refine lv_if_eq (tgt := 20) hx hb dX11_home_7 (by decide) (fun _ => ?_) (fun h => absurd h (by decide))
  refine lv_bipush (v := (-2)) hx hb dX11_home_20 (by decide) ?_
  exact ro_ret hC hr hk dX11_home_22 rfl
set_option maxRecDepth 20000 in
theorem c_X11_homes (l : Launch) (D : va_G) (K : Nat → ClassId) (x : Nat → Nat) (fs : Nat → Int32) (hfs : ∀ j, j < 4 → fs j = -1) (p0 : Int32) (p1 : Int32) : Ro l D K yX11_homes cX11_homes 3 (some .int) 3 65 [.ref (x 0), .int p0, .int p1] (fxL K x fs) (fun r => r = (-2)) := by
  refine ro_of (by decide) (Nat.le_of_ble_eq_true rfl) ?_
  intro p e s m below meth c hC hr hk hE hP ls hl
  have hC : CallFix p m c cX11_homes 3 s [.ref (x 0), .int p0, .int p1].toArray wl RX11 := hC
  have hx := hC.1
  have hb := hC.2.1
  have hml := hC.2.2.1
  have hown := hC.2.2.2.1
  have hts := hC.2.2.2.2
  have hl : lv_has ls 3 [(0, .ref (x 0)), (1, .int p0), (2, .int p1)] := hl
  refine lv_aload_n hx hb dX11_homes_0 rfl (lv_at hl 0 rfl) ?_
  refine lv_iload_n hx hb dX11_homes_1 rfl (lv_at hl 1 rfl) ?_
  refine lv_iconst (v := 3) hx hb dX11_homes_2 (by decide) ?_
  refine lv_iconst (v := 0) hx hb dX11_homes_3 (by decide) ?_
  refine ro_V (As := [.int p0, .int 3, .int 0]) (rest := []) hC hE kV_X11_212 (c_X11_seek l D K x fs hfs p0 3 0) hP 0 10 rfl rfl rfl hl.1 rfl (Nat.le_of_ble_eq_true rfl) (by decide) (by decide) dX11_homes_4 (fun r hq => ?_)
  subst hq
  refine lv_if_eq (tgt := 21) hx hb dX11_homes_7 (by decide) (fun _ => ?_) (fun h => absurd h (by decide))
  refine lv_bipush (v := (-2)) hx hb dX11_homes_21 (by decide) ?_
  exact ro_ret hC hr hk dX11_homes_23 rfl
set_option maxRecDepth 20000 in
theorem c_X11_states (l : Launch) (D : va_G) (K : Nat → ClassId) (x : Nat → Nat) (fs : Nat → Int32) (hfs : ∀ j, j < 4 → fs j = -1) (p0 : Int32) : Ro l D K yX11_states cX11_states 2 (some .int) 3 65 [.ref (x 0), .int p0] (fxL K x fs) (fun r => r = (-2)) := by
  refine ro_of (by decide) (Nat.le_of_ble_eq_true rfl) ?_
  intro p e s m below meth c hC hr hk hE hP ls hl
  have hC : CallFix p m c cX11_states 2 s [.ref (x 0), .int p0].toArray wl RX11 := hC
  have hx := hC.1
  have hb := hC.2.1
  have hml := hC.2.2.1
  have hown := hC.2.2.2.1
  have hts := hC.2.2.2.2
  have hl : lv_has ls 2 [(0, .ref (x 0)), (1, .int p0)] := hl
  refine lv_aload_n hx hb dX11_states_0 rfl (lv_at hl 0 rfl) ?_
  refine lv_iload_n hx hb dX11_states_1 rfl (lv_at hl 1 rfl) ?_
  refine lv_iconst (v := 0) hx hb dX11_states_2 (by decide) ?_
  refine lv_iconst (v := 0) hx hb dX11_states_3 (by decide) ?_
  refine ro_V (As := [.int p0, .int 0, .int 0]) (rest := []) hC hE kV_X11_212 (c_X11_seek l D K x fs hfs p0 0 0) hP 0 10 rfl rfl rfl hl.1 rfl (Nat.le_of_ble_eq_true rfl) (by decide) (by decide) dX11_states_4 (fun r hq => ?_)
  subst hq
  refine lv_if_eq (tgt := 20) hx hb dX11_states_7 (by decide) (fun _ => ?_) (fun h => absurd h (by decide))
  refine lv_bipush (v := (-2)) hx hb dX11_states_20 (by decide) ?_
  exact ro_ret hC hr hk dX11_states_22 rfl
set_option maxRecDepth 20000 in
theorem c_X11_plan (l : Launch) (D : va_G) (K : Nat → ClassId) (x : Nat → Nat) (fs : Nat → Int32) (hfs : ∀ j, j < 4 → fs j = -1) (p0 : Int32) : Ro l D K yX11_plan cX11_plan 2 (some .int) 2 41 [.ref (x 0), .int p0] (fxL K x fs) (fun r => r = (-2)) := by
  refine ro_of (by decide) (Nat.le_of_ble_eq_true rfl) ?_
  intro p e s m below meth c hC hr hk hE hP ls hl
  have hC : CallFix p m c cX11_plan 2 s [.ref (x 0), .int p0].toArray wl RX11 := hC
  have hx := hC.1
  have hb := hC.2.1
  have hml := hC.2.2.1
  have hown := hC.2.2.2.1
  have hts := hC.2.2.2.2
  have hl : lv_has ls 2 [(0, .ref (x 0)), (1, .int p0)] := hl
  refine lv_aload_n hx hb dX11_plan_0 rfl (lv_at hl 0 rfl) ?_
  refine va_get (D := D) (ci := 10) (v := .ref (x 2)) (C := RX11) (T := TX11) (N := 12) hx hb hts in_X11 hown hE.1 hP 0 rfl rfl 1 (by decide) (hts _ w_52) (fun _ h9 => h9) rfl dX11_plan_1 ?_
  refine lv_iload_n hx hb dX11_plan_4 rfl (lv_at hl 1 rfl) ?_
  refine ro_V (As := [.int p0]) (rest := []) hC hE kV_X11_140 (c_X10_hasSet l D K (x 2) (fun k => x (10 + k)) p0) (hP.sub (ws' := [(x 2, .inr (9, [.ref (x 10), .ref (x 11), .ref (x 12), .ref (x 13), .ref (x 14), .ref (x 15), .ref (x 16), .ref (x 17), .int 0, .int 0, .int 0, .int 0]))]) [2] rfl) 0 9 rfl rfl rfl hl.1 rfl (Nat.le_of_ble_eq_true rfl) (by decide) (by decide) dX11_plan_5 (fun r hq => ?_)
  subst hq
  refine lv_if_ne (tgt := 14) hx hb dX11_plan_8 (by decide) (fun h => absurd h (by decide)) (fun _ => ?_)
  refine lv_bipush (v := (-2)) hx hb dX11_plan_11 (by decide) ?_
  exact ro_ret hC hr hk dX11_plan_13 rfl
set_option maxRecDepth 20000 in
theorem c_X11_first (l : Launch) (D : va_G) (K : Nat → ClassId) (x : Nat → Nat) (fs : Nat → Int32) (hfs : ∀ j, j < 4 → fs j = -1) (p0 : Int32) : Ro l D K yX11_first cX11_first 2 (some .int) 2 41 [.ref (x 0), .int p0] (fxL K x fs) (fun r => r = (-2)) := by
  refine ro_of (by decide) (Nat.le_of_ble_eq_true rfl) ?_
  intro p e s m below meth c hC hr hk hE hP ls hl
  have hC : CallFix p m c cX11_first 2 s [.ref (x 0), .int p0].toArray wl RX11 := hC
  have hx := hC.1
  have hb := hC.2.1
  have hml := hC.2.2.1
  have hown := hC.2.2.2.1
  have hts := hC.2.2.2.2
  have hl : lv_has ls 2 [(0, .ref (x 0)), (1, .int p0)] := hl
  refine lv_aload_n hx hb dX11_first_0 rfl (lv_at hl 0 rfl) ?_
  refine va_get (D := D) (ci := 10) (v := .ref (x 2)) (C := RX11) (T := TX11) (N := 12) hx hb hts in_X11 hown hE.1 hP 0 rfl rfl 1 (by decide) (hts _ w_52) (fun _ h9 => h9) rfl dX11_first_1 ?_
  refine lv_iload_n hx hb dX11_first_4 rfl (lv_at hl 1 rfl) ?_
  refine ro_V (As := [.int p0]) (rest := []) hC hE kV_X11_140 (c_X10_hasSet l D K (x 2) (fun k => x (10 + k)) p0) (hP.sub (ws' := [(x 2, .inr (9, [.ref (x 10), .ref (x 11), .ref (x 12), .ref (x 13), .ref (x 14), .ref (x 15), .ref (x 16), .ref (x 17), .int 0, .int 0, .int 0, .int 0]))]) [2] rfl) 0 9 rfl rfl rfl hl.1 rfl (Nat.le_of_ble_eq_true rfl) (by decide) (by decide) dX11_first_5 (fun r hq => ?_)
  subst hq
  refine lv_if_ne (tgt := 14) hx hb dX11_first_8 (by decide) (fun h => absurd h (by decide)) (fun _ => ?_)
  refine lv_bipush (v := (-2)) hx hb dX11_first_11 (by decide) ?_
  exact ro_ret hC hr hk dX11_first_13 rfl
set_option maxRecDepth 20000 in
theorem c_X11_hardest (l : Launch) (D : va_G) (K : Nat → ClassId) (x : Nat → Nat) (fs : Nat → Int32) (hfs : ∀ j, j < 4 → fs j = -1) : Ro l D K yX11_hardest cX11_hardest 4 (some .int) 1 20 [.ref (x 0)] (fxL K x fs) (fun r => r = (-2)) := by
  refine ro_of (by decide) (Nat.le_of_ble_eq_true rfl) ?_
  intro p e s m below meth c hC hr hk hE hP ls hl
  have hC : CallFix p m c cX11_hardest 4 s [.ref (x 0)].toArray wl RX11 := hC
  have hx := hC.1
  have hb := hC.2.1
  have hml := hC.2.2.1
  have hown := hC.2.2.2.1
  have hts := hC.2.2.2.2
  have hl : lv_has ls 4 [(0, .ref (x 0))] := hl
  refine lv_aload_n hx hb dX11_hardest_0 rfl (lv_at hl 0 rfl) ?_
  refine va_get (D := D) (ci := 10) (v := .ref (x 2)) (C := RX11) (T := TX11) (N := 12) hx hb hts in_X11 hown hE.1 hP 0 rfl rfl 1 (by decide) (hts _ w_52) (fun _ h9 => h9) rfl dX11_hardest_1 ?_
  refine ro_V (As := []) (rest := []) hC hE kV_X11_185 (c_X10_stands l D K (x 2) (fun k => x (10 + k))) (hP.sub (ws' := [(x 2, .inr (9, [.ref (x 10), .ref (x 11), .ref (x 12), .ref (x 13), .ref (x 14), .ref (x 15), .ref (x 16), .ref (x 17), .int 0, .int 0, .int 0, .int 0]))]) [2] rfl) 0 9 rfl rfl rfl hl.1 rfl (Nat.le_of_ble_eq_true rfl) (by decide) (by decide) dX11_hardest_4 (fun r hq => ?_)
  subst hq
  refine lv_if_ne (tgt := 13) hx hb dX11_hardest_7 (by decide) (fun h => absurd h (by decide)) (fun _ => ?_)
  refine lv_bipush (v := (-2)) hx hb dX11_hardest_10 (by decide) ?_
  exact ro_ret hC hr hk dX11_hardest_12 rfl
set_option maxRecDepth 20000 in
theorem c_X11_alike (l : Launch) (D : va_G) (K : Nat → ClassId) (x : Nat → Nat) (fs : Nat → Int32) (hfs : ∀ j, j < 4 → fs j = -1) (p0 : Int32) (p1 : Int32) : Ro l D K yX11_alike cX11_alike 3 (some .int) 2 43 [.ref (x 0), .int p0, .int p1] (fxL K x fs) (fun r => r = (-2)) := by
  refine ro_of (by decide) (Nat.le_of_ble_eq_true rfl) ?_
  intro p e s m below meth c hC hr hk hE hP ls hl
  have hC : CallFix p m c cX11_alike 3 s [.ref (x 0), .int p0, .int p1].toArray wl RX11 := hC
  have hx := hC.1
  have hb := hC.2.1
  have hml := hC.2.2.1
  have hown := hC.2.2.2.1
  have hts := hC.2.2.2.2
  have hl : lv_has ls 3 [(0, .ref (x 0)), (1, .int p0), (2, .int p1)] := hl
  refine lv_aload_n hx hb dX11_alike_0 rfl (lv_at hl 0 rfl) ?_
  refine lv_iload_n hx hb dX11_alike_1 rfl (lv_at hl 1 rfl) ?_
  refine lv_iload_n hx hb dX11_alike_2 rfl (lv_at hl 2 rfl) ?_
  refine ro_V (As := [.int p0, .int p1]) (rest := []) hC hE kV_X11_236 (c_X11_arePlaces l D K x fs hfs p0 p1) hP 0 10 rfl rfl rfl hl.1 rfl (Nat.le_of_ble_eq_true rfl) (by decide) (by decide) dX11_alike_3 (fun r hq => ?_)
  subst hq
  refine lv_if_ne (tgt := 12) hx hb dX11_alike_6 (by decide) (fun h => absurd h (by decide)) (fun _ => ?_)
  refine lv_bipush (v := (-2)) hx hb dX11_alike_9 (by decide) ?_
  exact ro_ret hC hr hk dX11_alike_11 rfl
set_option maxRecDepth 20000 in
theorem c_X11_kinds (l : Launch) (D : va_G) (K : Nat → ClassId) (x : Nat → Nat) (fs : Nat → Int32) (hfs : ∀ j, j < 4 → fs j = -1) : Ro l D K yX11_kinds cX11_kinds 5 (some .int) 1 20 [.ref (x 0)] (fxL K x fs) (fun r => r = (-2)) := by
  refine ro_of (by decide) (Nat.le_of_ble_eq_true rfl) ?_
  intro p e s m below meth c hC hr hk hE hP ls hl
  have hC : CallFix p m c cX11_kinds 5 s [.ref (x 0)].toArray wl RX11 := hC
  have hx := hC.1
  have hb := hC.2.1
  have hml := hC.2.2.1
  have hown := hC.2.2.2.1
  have hts := hC.2.2.2.2
  have hl : lv_has ls 5 [(0, .ref (x 0))] := hl
  refine lv_aload_n hx hb dX11_kinds_0 rfl (lv_at hl 0 rfl) ?_
  refine va_get (D := D) (ci := 10) (v := .ref (x 2)) (C := RX11) (T := TX11) (N := 12) hx hb hts in_X11 hown hE.1 hP 0 rfl rfl 1 (by decide) (hts _ w_52) (fun _ h9 => h9) rfl dX11_kinds_1 ?_
  refine ro_V (As := []) (rest := []) hC hE kV_X11_185 (c_X10_stands l D K (x 2) (fun k => x (10 + k))) (hP.sub (ws' := [(x 2, .inr (9, [.ref (x 10), .ref (x 11), .ref (x 12), .ref (x 13), .ref (x 14), .ref (x 15), .ref (x 16), .ref (x 17), .int 0, .int 0, .int 0, .int 0]))]) [2] rfl) 0 9 rfl rfl rfl hl.1 rfl (Nat.le_of_ble_eq_true rfl) (by decide) (by decide) dX11_kinds_4 (fun r hq => ?_)
  subst hq
  refine lv_if_ne (tgt := 13) hx hb dX11_kinds_7 (by decide) (fun h => absurd h (by decide)) (fun _ => ?_)
  refine lv_bipush (v := (-2)) hx hb dX11_kinds_10 (by decide) ?_
  exact ro_ret hC hr hk dX11_kinds_12 rfl
set_option maxRecDepth 20000 in
theorem c_X11_tells (l : Launch) (D : va_G) (K : Nat → ClassId) (x : Nat → Nat) (fs : Nat → Int32) (hfs : ∀ j, j < 4 → fs j = -1) (p0 : Int32) (p1 : Int32) : Ro l D K yX11_tells cX11_tells 3 (some .int) 2 43 [.ref (x 0), .int p0, .int p1] (fxL K x fs) (fun r => r = (-2)) := by
  refine ro_of (by decide) (Nat.le_of_ble_eq_true rfl) ?_
  intro p e s m below meth c hC hr hk hE hP ls hl
  have hC : CallFix p m c cX11_tells 3 s [.ref (x 0), .int p0, .int p1].toArray wl RX11 := hC
  have hx := hC.1
  have hb := hC.2.1
  have hml := hC.2.2.1
  have hown := hC.2.2.2.1
  have hts := hC.2.2.2.2
  have hl : lv_has ls 3 [(0, .ref (x 0)), (1, .int p0), (2, .int p1)] := hl
  refine lv_aload_n hx hb dX11_tells_0 rfl (lv_at hl 0 rfl) ?_
  refine lv_iload_n hx hb dX11_tells_1 rfl (lv_at hl 1 rfl) ?_
  refine lv_iload_n hx hb dX11_tells_2 rfl (lv_at hl 2 rfl) ?_
  refine ro_V (As := [.int p0, .int p1]) (rest := []) hC hE kV_X11_236 (c_X11_arePlaces l D K x fs hfs p0 p1) hP 0 10 rfl rfl rfl hl.1 rfl (Nat.le_of_ble_eq_true rfl) (by decide) (by decide) dX11_tells_3 (fun r hq => ?_)
  subst hq
  refine lv_if_ne (tgt := 12) hx hb dX11_tells_6 (by decide) (fun h => absurd h (by decide)) (fun _ => ?_)
  refine lv_bipush (v := (-2)) hx hb dX11_tells_9 (by decide) ?_
  exact ro_ret hC hr hk dX11_tells_11 rfl
set_option maxRecDepth 20000 in
theorem c_X11_told (l : Launch) (D : va_G) (K : Nat → ClassId) (x : Nat → Nat) (fs : Nat → Int32) (hfs : ∀ j, j < 4 → fs j = -1) (p0 : Int32) (p1 : Int32) (p2 : Int32) : Ro l D K yX11_told cX11_told 4 (some .int) 2 43 [.ref (x 0), .int p0, .int p1, .int p2] (fxL K x fs) (fun r => r = (-2)) := by
  refine ro_of (by decide) (Nat.le_of_ble_eq_true rfl) ?_
  intro p e s m below meth c hC hr hk hE hP ls hl
  have hC : CallFix p m c cX11_told 4 s [.ref (x 0), .int p0, .int p1, .int p2].toArray wl RX11 := hC
  have hx := hC.1
  have hb := hC.2.1
  have hml := hC.2.2.1
  have hown := hC.2.2.2.1
  have hts := hC.2.2.2.2
  have hl : lv_has ls 4 [(0, .ref (x 0)), (1, .int p0), (2, .int p1), (3, .int p2)] := hl
  refine lv_aload_n hx hb dX11_told_0 rfl (lv_at hl 0 rfl) ?_
  refine lv_iload_n hx hb dX11_told_1 rfl (lv_at hl 1 rfl) ?_
  refine lv_iload_n hx hb dX11_told_2 rfl (lv_at hl 2 rfl) ?_
  refine ro_V (As := [.int p0, .int p1]) (rest := []) hC hE kV_X11_236 (c_X11_arePlaces l D K x fs hfs p0 p1) hP 0 10 rfl rfl rfl hl.1 rfl (Nat.le_of_ble_eq_true rfl) (by decide) (by decide) dX11_told_3 (fun r hq => ?_)
  subst hq
  refine lv_if_ne (tgt := 12) hx hb dX11_told_6 (by decide) (fun h => absurd h (by decide)) (fun _ => ?_)
  refine lv_bipush (v := (-2)) hx hb dX11_told_9 (by decide) ?_
  exact ro_ret hC hr hk dX11_told_11 rfl
set_option maxRecDepth 20000 in
theorem c_X11_bares (l : Launch) (D : va_G) (K : Nat → ClassId) (x : Nat → Nat) (fs : Nat → Int32) (hfs : ∀ j, j < 4 → fs j = -1) (p0 : Int32) (p1 : Int32) : Ro l D K yX11_bares cX11_bares 3 (some .int) 2 43 [.ref (x 0), .int p0, .int p1] (fxL K x fs) (fun r => r = (-2)) := by
  refine ro_of (by decide) (Nat.le_of_ble_eq_true rfl) ?_
  intro p e s m below meth c hC hr hk hE hP ls hl
  have hC : CallFix p m c cX11_bares 3 s [.ref (x 0), .int p0, .int p1].toArray wl RX11 := hC
  have hx := hC.1
  have hb := hC.2.1
  have hml := hC.2.2.1
  have hown := hC.2.2.2.1
  have hts := hC.2.2.2.2
  have hl : lv_has ls 3 [(0, .ref (x 0)), (1, .int p0), (2, .int p1)] := hl
  refine lv_aload_n hx hb dX11_bares_0 rfl (lv_at hl 0 rfl) ?_
  refine lv_iload_n hx hb dX11_bares_1 rfl (lv_at hl 1 rfl) ?_
  refine lv_iload_n hx hb dX11_bares_2 rfl (lv_at hl 2 rfl) ?_
  refine ro_V (As := [.int p0, .int p1]) (rest := []) hC hE kV_X11_236 (c_X11_arePlaces l D K x fs hfs p0 p1) hP 0 10 rfl rfl rfl hl.1 rfl (Nat.le_of_ble_eq_true rfl) (by decide) (by decide) dX11_bares_3 (fun r hq => ?_)
  subst hq
  refine lv_if_eq (tgt := 21) hx hb dX11_bares_6 (by decide) (fun _ => ?_) (fun h => absurd h (by decide))
  refine lv_bipush (v := (-2)) hx hb dX11_bares_21 (by decide) ?_
  exact ro_ret hC hr hk dX11_bares_23 rfl
set_option maxRecDepth 20000 in
theorem c_X11_bared (l : Launch) (D : va_G) (K : Nat → ClassId) (x : Nat → Nat) (fs : Nat → Int32) (hfs : ∀ j, j < 4 → fs j = -1) (p0 : Int32) (p1 : Int32) : Ro l D K yX11_bared cX11_bared 3 (some .int) 2 43 [.ref (x 0), .int p0, .int p1] (fxL K x fs) (fun r => r = (-2)) := by
  refine ro_of (by decide) (Nat.le_of_ble_eq_true rfl) ?_
  intro p e s m below meth c hC hr hk hE hP ls hl
  have hC : CallFix p m c cX11_bared 3 s [.ref (x 0), .int p0, .int p1].toArray wl RX11 := hC
  have hx := hC.1
  have hb := hC.2.1
  have hml := hC.2.2.1
  have hown := hC.2.2.2.1
  have hts := hC.2.2.2.2
  have hl : lv_has ls 3 [(0, .ref (x 0)), (1, .int p0), (2, .int p1)] := hl
  refine lv_aload_n hx hb dX11_bared_0 rfl (lv_at hl 0 rfl) ?_
  refine lv_iload_n hx hb dX11_bared_1 rfl (lv_at hl 1 rfl) ?_
  refine lv_iload_n hx hb dX11_bared_2 rfl (lv_at hl 2 rfl) ?_
  refine ro_V (As := [.int p0, .int p1]) (rest := []) hC hE kV_X11_236 (c_X11_arePlaces l D K x fs hfs p0 p1) hP 0 10 rfl rfl rfl hl.1 rfl (Nat.le_of_ble_eq_true rfl) (by decide) (by decide) dX11_bared_3 (fun r hq => ?_)
  subst hq
  refine lv_if_eq (tgt := 18) hx hb dX11_bared_6 (by decide) (fun _ => ?_) (fun h => absurd h (by decide))
  refine lv_bipush (v := (-2)) hx hb dX11_bared_18 (by decide) ?_
  exact ro_ret hC hr hk dX11_bared_20 rfl
set_option maxRecDepth 20000 in
theorem c_X11_gather (l : Launch) (D : va_G) (K : Nat → ClassId) (x : Nat → Nat) (fs : Nat → Int32) (hfs : ∀ j, j < 4 → fs j = -1) (p0 : Int32) : Ro l D K yX11_gather cX11_gather 2 (some .int) 2 41 [.ref (x 0), .int p0] (fxL K x fs) (fun r => r = (-2)) := by
  refine ro_of (by decide) (Nat.le_of_ble_eq_true rfl) ?_
  intro p e s m below meth c hC hr hk hE hP ls hl
  have hC : CallFix p m c cX11_gather 2 s [.ref (x 0), .int p0].toArray wl RX11 := hC
  have hx := hC.1
  have hb := hC.2.1
  have hml := hC.2.2.1
  have hown := hC.2.2.2.1
  have hts := hC.2.2.2.2
  have hl : lv_has ls 2 [(0, .ref (x 0)), (1, .int p0)] := hl
  refine lv_aload_n hx hb dX11_gather_0 rfl (lv_at hl 0 rfl) ?_
  refine va_get (D := D) (ci := 10) (v := .ref (x 2)) (C := RX11) (T := TX11) (N := 12) hx hb hts in_X11 hown hE.1 hP 0 rfl rfl 1 (by decide) (hts _ w_52) (fun _ h9 => h9) rfl dX11_gather_1 ?_
  refine lv_iload_n hx hb dX11_gather_4 rfl (lv_at hl 1 rfl) ?_
  refine ro_V (As := [.int p0]) (rest := []) hC hE kV_X11_140 (c_X10_hasSet l D K (x 2) (fun k => x (10 + k)) p0) (hP.sub (ws' := [(x 2, .inr (9, [.ref (x 10), .ref (x 11), .ref (x 12), .ref (x 13), .ref (x 14), .ref (x 15), .ref (x 16), .ref (x 17), .int 0, .int 0, .int 0, .int 0]))]) [2] rfl) 0 9 rfl rfl rfl hl.1 rfl (Nat.le_of_ble_eq_true rfl) (by decide) (by decide) dX11_gather_5 (fun r hq => ?_)
  subst hq
  refine lv_if_ne (tgt := 14) hx hb dX11_gather_8 (by decide) (fun h => absurd h (by decide)) (fun _ => ?_)
  refine lv_bipush (v := (-2)) hx hb dX11_gather_11 (by decide) ?_
  exact ro_ret hC hr hk dX11_gather_13 rfl
set_option maxRecDepth 20000 in
theorem c_X11_gathers (l : Launch) (D : va_G) (K : Nat → ClassId) (x : Nat → Nat) (fs : Nat → Int32) (hfs : ∀ j, j < 4 → fs j = -1) (p0 : Int32) (p1 : Int32) : Ro l D K yX11_gathers cX11_gathers 3 (some .int) 2 41 [.ref (x 0), .int p0, .int p1] (fxL K x fs) (fun r => r = (-2)) := by
  refine ro_of (by decide) (Nat.le_of_ble_eq_true rfl) ?_
  intro p e s m below meth c hC hr hk hE hP ls hl
  have hC : CallFix p m c cX11_gathers 3 s [.ref (x 0), .int p0, .int p1].toArray wl RX11 := hC
  have hx := hC.1
  have hb := hC.2.1
  have hml := hC.2.2.1
  have hown := hC.2.2.2.1
  have hts := hC.2.2.2.2
  have hl : lv_has ls 3 [(0, .ref (x 0)), (1, .int p0), (2, .int p1)] := hl
  refine lv_aload_n hx hb dX11_gathers_0 rfl (lv_at hl 0 rfl) ?_
  refine va_get (D := D) (ci := 10) (v := .ref (x 2)) (C := RX11) (T := TX11) (N := 12) hx hb hts in_X11 hown hE.1 hP 0 rfl rfl 1 (by decide) (hts _ w_52) (fun _ h9 => h9) rfl dX11_gathers_1 ?_
  refine lv_iload_n hx hb dX11_gathers_4 rfl (lv_at hl 1 rfl) ?_
  refine ro_V (As := [.int p0]) (rest := []) hC hE kV_X11_140 (c_X10_hasSet l D K (x 2) (fun k => x (10 + k)) p0) (hP.sub (ws' := [(x 2, .inr (9, [.ref (x 10), .ref (x 11), .ref (x 12), .ref (x 13), .ref (x 14), .ref (x 15), .ref (x 16), .ref (x 17), .int 0, .int 0, .int 0, .int 0]))]) [2] rfl) 0 9 rfl rfl rfl hl.1 rfl (Nat.le_of_ble_eq_true rfl) (by decide) (by decide) dX11_gathers_5 (fun r hq => ?_)
  subst hq
  refine lv_if_ne (tgt := 14) hx hb dX11_gathers_8 (by decide) (fun h => absurd h (by decide)) (fun _ => ?_)
  refine lv_bipush (v := (-2)) hx hb dX11_gathers_11 (by decide) ?_
  exact ro_ret hC hr hk dX11_gathers_13 rfl
set_option maxRecDepth 20000 in
theorem c_X11_roundabout (l : Launch) (D : va_G) (K : Nat → ClassId) (x : Nat → Nat) (fs : Nat → Int32) (hfs : ∀ j, j < 4 → fs j = -1) (p0 : Int32) : Ro l D K yX11_roundabout cX11_roundabout 2 (some .int) 2 41 [.ref (x 0), .int p0] (fxL K x fs) (fun r => r = (-2)) := by
  refine ro_of (by decide) (Nat.le_of_ble_eq_true rfl) ?_
  intro p e s m below meth c hC hr hk hE hP ls hl
  have hC : CallFix p m c cX11_roundabout 2 s [.ref (x 0), .int p0].toArray wl RX11 := hC
  have hx := hC.1
  have hb := hC.2.1
  have hml := hC.2.2.1
  have hown := hC.2.2.2.1
  have hts := hC.2.2.2.2
  have hl : lv_has ls 2 [(0, .ref (x 0)), (1, .int p0)] := hl
  refine lv_aload_n hx hb dX11_roundabout_0 rfl (lv_at hl 0 rfl) ?_
  refine va_get (D := D) (ci := 10) (v := .ref (x 2)) (C := RX11) (T := TX11) (N := 12) hx hb hts in_X11 hown hE.1 hP 0 rfl rfl 1 (by decide) (hts _ w_52) (fun _ h9 => h9) rfl dX11_roundabout_1 ?_
  refine lv_iload_n hx hb dX11_roundabout_4 rfl (lv_at hl 1 rfl) ?_
  refine ro_V (As := [.int p0]) (rest := []) hC hE kV_X11_140 (c_X10_hasSet l D K (x 2) (fun k => x (10 + k)) p0) (hP.sub (ws' := [(x 2, .inr (9, [.ref (x 10), .ref (x 11), .ref (x 12), .ref (x 13), .ref (x 14), .ref (x 15), .ref (x 16), .ref (x 17), .int 0, .int 0, .int 0, .int 0]))]) [2] rfl) 0 9 rfl rfl rfl hl.1 rfl (Nat.le_of_ble_eq_true rfl) (by decide) (by decide) dX11_roundabout_5 (fun r hq => ?_)
  subst hq
  refine lv_if_ne (tgt := 14) hx hb dX11_roundabout_8 (by decide) (fun h => absurd h (by decide)) (fun _ => ?_)
  refine lv_bipush (v := (-2)) hx hb dX11_roundabout_11 (by decide) ?_
  exact ro_ret hC hr hk dX11_roundabout_13 rfl
set_option maxRecDepth 20000 in
theorem c_X11_meet (l : Launch) (D : va_G) (K : Nat → ClassId) (x : Nat → Nat) (fs : Nat → Int32) (hfs : ∀ j, j < 4 → fs j = -1) (p0 : Int32) (p1 : Int32) : Ro l D K yX11_meet cX11_meet 3 (some .int) 2 43 [.ref (x 0), .int p0, .int p1] (fxL K x fs) (fun r => r = (-2)) := by
  refine ro_of (by decide) (Nat.le_of_ble_eq_true rfl) ?_
  intro p e s m below meth c hC hr hk hE hP ls hl
  have hC : CallFix p m c cX11_meet 3 s [.ref (x 0), .int p0, .int p1].toArray wl RX11 := hC
  have hx := hC.1
  have hb := hC.2.1
  have hml := hC.2.2.1
  have hown := hC.2.2.2.1
  have hts := hC.2.2.2.2
  have hl : lv_has ls 3 [(0, .ref (x 0)), (1, .int p0), (2, .int p1)] := hl
  refine lv_aload_n hx hb dX11_meet_0 rfl (lv_at hl 0 rfl) ?_
  refine lv_iload_n hx hb dX11_meet_1 rfl (lv_at hl 1 rfl) ?_
  refine lv_iload_n hx hb dX11_meet_2 rfl (lv_at hl 2 rfl) ?_
  refine ro_V (As := [.int p0, .int p1]) (rest := []) hC hE kV_X11_236 (c_X11_arePlaces l D K x fs hfs p0 p1) hP 0 10 rfl rfl rfl hl.1 rfl (Nat.le_of_ble_eq_true rfl) (by decide) (by decide) dX11_meet_3 (fun r hq => ?_)
  subst hq
  refine lv_if_ne (tgt := 12) hx hb dX11_meet_6 (by decide) (fun h => absurd h (by decide)) (fun _ => ?_)
  refine lv_bipush (v := (-2)) hx hb dX11_meet_9 (by decide) ?_
  exact ro_ret hC hr hk dX11_meet_11 rfl
set_option maxRecDepth 20000 in
theorem c_X11_met (l : Launch) (D : va_G) (K : Nat → ClassId) (x : Nat → Nat) (fs : Nat → Int32) (hfs : ∀ j, j < 4 → fs j = -1) (p0 : Int32) (p1 : Int32) : Ro l D K yX11_met cX11_met 4 (some .int) 2 43 [.ref (x 0), .int p0, .int p1] (fxL K x fs) (fun r => r = (-2)) := by
  refine ro_of (by decide) (Nat.le_of_ble_eq_true rfl) ?_
  intro p e s m below meth c hC hr hk hE hP ls hl
  have hC : CallFix p m c cX11_met 4 s [.ref (x 0), .int p0, .int p1].toArray wl RX11 := hC
  have hx := hC.1
  have hb := hC.2.1
  have hml := hC.2.2.1
  have hown := hC.2.2.2.1
  have hts := hC.2.2.2.2
  have hl : lv_has ls 4 [(0, .ref (x 0)), (1, .int p0), (2, .int p1)] := hl
  refine lv_aload_n hx hb dX11_met_0 rfl (lv_at hl 0 rfl) ?_
  refine lv_iload_n hx hb dX11_met_1 rfl (lv_at hl 1 rfl) ?_
  refine lv_iload_n hx hb dX11_met_2 rfl (lv_at hl 2 rfl) ?_
  refine ro_V (As := [.int p0, .int p1]) (rest := []) hC hE kV_X11_236 (c_X11_arePlaces l D K x fs hfs p0 p1) hP 0 10 rfl rfl rfl hl.1 rfl (Nat.le_of_ble_eq_true rfl) (by decide) (by decide) dX11_met_3 (fun r hq => ?_)
  subst hq
  refine lv_if_ne (tgt := 12) hx hb dX11_met_6 (by decide) (fun h => absurd h (by decide)) (fun _ => ?_)
  refine lv_bipush (v := (-2)) hx hb dX11_met_9 (by decide) ?_
  exact ro_ret hC hr hk dX11_met_11 rfl
set_option maxRecDepth 20000 in
theorem c_X11_read (l : Launch) (D : va_G) (K : Nat → ClassId) (x : Nat → Nat) (fs : Nat → Int32) (hfs : ∀ j, j < 4 → fs j = -1) (p0 : Int32) : Ro l D K yX11_read cX11_read 3 (some .int) 2 42 [.ref (x 0), .int p0] (fxL K x fs) (fun r => r = (-2)) := by
  refine ro_of (by decide) (Nat.le_of_ble_eq_true rfl) ?_
  intro p e s m below meth c hC hr hk hE hP ls hl
  have hC : CallFix p m c cX11_read 3 s [.ref (x 0), .int p0].toArray wl RX11 := hC
  have hx := hC.1
  have hb := hC.2.1
  have hml := hC.2.2.1
  have hown := hC.2.2.2.1
  have hts := hC.2.2.2.2
  have hl : lv_has ls 3 [(0, .ref (x 0)), (1, .int p0)] := hl
  refine lv_aload_n hx hb dX11_read_0 rfl (lv_at hl 0 rfl) ?_
  refine lv_iload_n hx hb dX11_read_1 rfl (lv_at hl 1 rfl) ?_
  refine ro_V (As := [.int p0]) (rest := []) hC hE kV_X11_269 (c_X11_refuseReading l D K x fs hfs p0) hP 0 10 rfl rfl rfl hl.1 rfl (Nat.le_of_ble_eq_true rfl) (by decide) (by decide) dX11_read_2 (fun r hq => ?_)
  subst hq
  refine lv_istore_n (lv' := [(2, .int (-2)), (0, .ref (x 0)), (1, .int p0)]) hx hb dX11_read_5 rfl hl (by decide) rfl (fun ls hl => ?_)
  refine lv_iload_n hx hb dX11_read_6 rfl (lv_at hl 0 rfl) ?_
  refine lv_if_eq (tgt := 14) hx hb dX11_read_7 (by decide) (fun h => absurd h (by decide)) (fun _ => ?_)
  refine lv_iload_n hx hb dX11_read_10 rfl (lv_at hl 0 rfl) ?_
  refine lv_goto (tgt := 26) hx hb dX11_read_11 (by decide) ?_
  exact ro_ret hC hr hk dX11_read_26 rfl
set_option maxRecDepth 20000 in
theorem c_X11_began (l : Launch) (D : va_G) (K : Nat → ClassId) (x : Nat → Nat) (fs : Nat → Int32) (hfs : ∀ j, j < 4 → fs j = -1) (p0 : Int32) : Ro l D K yX11_began cX11_began 5 (some .int) 2 42 [.ref (x 0), .int p0] (fxL K x fs) (fun r => r = (-2)) := by
  refine ro_of (by decide) (Nat.le_of_ble_eq_true rfl) ?_
  intro p e s m below meth c hC hr hk hE hP ls hl
  have hC : CallFix p m c cX11_began 5 s [.ref (x 0), .int p0].toArray wl RX11 := hC
  have hx := hC.1
  have hb := hC.2.1
  have hml := hC.2.2.1
  have hown := hC.2.2.2.1
  have hts := hC.2.2.2.2
  have hl : lv_has ls 5 [(0, .ref (x 0)), (1, .int p0)] := hl
  refine lv_aload_n hx hb dX11_began_0 rfl (lv_at hl 0 rfl) ?_
  refine lv_iload_n hx hb dX11_began_1 rfl (lv_at hl 1 rfl) ?_
  refine ro_V (As := [.int p0]) (rest := []) hC hE kV_X11_269 (c_X11_refuseReading l D K x fs hfs p0) hP 0 10 rfl rfl rfl hl.1 rfl (Nat.le_of_ble_eq_true rfl) (by decide) (by decide) dX11_began_2 (fun r hq => ?_)
  subst hq
  refine lv_istore_n (lv' := [(2, .int (-2)), (0, .ref (x 0)), (1, .int p0)]) hx hb dX11_began_5 rfl hl (by decide) rfl (fun ls hl => ?_)
  refine lv_iload_n hx hb dX11_began_6 rfl (lv_at hl 0 rfl) ?_
  refine lv_if_eq (tgt := 12) hx hb dX11_began_7 (by decide) (fun h => absurd h (by decide)) (fun _ => ?_)
  refine lv_iload_n hx hb dX11_began_10 rfl (lv_at hl 0 rfl) ?_
  exact ro_ret hC hr hk dX11_began_11 rfl
set_option maxRecDepth 20000 in
theorem c_X11_ask (l : Launch) (D : va_G) (K : Nat → ClassId) (x : Nat → Nat) (fs : Nat → Int32) (hfs : ∀ j, j < 4 → fs j = -1) (p0 : Int32) : Ro l D K yX11_ask cX11_ask 3 (some .int) 2 42 [.ref (x 0), .int p0] (fxL K x fs) (fun r => r = (-2)) := by
  refine ro_of (by decide) (Nat.le_of_ble_eq_true rfl) ?_
  intro p e s m below meth c hC hr hk hE hP ls hl
  have hC : CallFix p m c cX11_ask 3 s [.ref (x 0), .int p0].toArray wl RX11 := hC
  have hx := hC.1
  have hb := hC.2.1
  have hml := hC.2.2.1
  have hown := hC.2.2.2.1
  have hts := hC.2.2.2.2
  have hl : lv_has ls 3 [(0, .ref (x 0)), (1, .int p0)] := hl
  refine lv_aload_n hx hb dX11_ask_0 rfl (lv_at hl 0 rfl) ?_
  refine lv_iload_n hx hb dX11_ask_1 rfl (lv_at hl 1 rfl) ?_
  refine ro_V (As := [.int p0]) (rest := []) hC hE kV_X11_269 (c_X11_refuseReading l D K x fs hfs p0) hP 0 10 rfl rfl rfl hl.1 rfl (Nat.le_of_ble_eq_true rfl) (by decide) (by decide) dX11_ask_2 (fun r hq => ?_)
  subst hq
  refine lv_istore_n (lv' := [(2, .int (-2)), (0, .ref (x 0)), (1, .int p0)]) hx hb dX11_ask_5 rfl hl (by decide) rfl (fun ls hl => ?_)
  refine lv_iload_n hx hb dX11_ask_6 rfl (lv_at hl 0 rfl) ?_
  refine lv_if_eq (tgt := 14) hx hb dX11_ask_7 (by decide) (fun h => absurd h (by decide)) (fun _ => ?_)
  refine lv_iload_n hx hb dX11_ask_10 rfl (lv_at hl 0 rfl) ?_
  refine lv_goto (tgt := 30) hx hb dX11_ask_11 (by decide) ?_
  exact ro_ret hC hr hk dX11_ask_30 rfl
set_option maxRecDepth 20000 in
theorem c_X11_leaves (l : Launch) (D : va_G) (K : Nat → ClassId) (x : Nat → Nat) (fs : Nat → Int32) (hfs : ∀ j, j < 4 → fs j = -1) (p0 : Int32) : Ro l D K yX11_leaves cX11_leaves 4 (some .int) 2 42 [.ref (x 0), .int p0] (fxL K x fs) (fun r => r = (-2)) := by
  refine ro_of (by decide) (Nat.le_of_ble_eq_true rfl) ?_
  intro p e s m below meth c hC hr hk hE hP ls hl
  have hC : CallFix p m c cX11_leaves 4 s [.ref (x 0), .int p0].toArray wl RX11 := hC
  have hx := hC.1
  have hb := hC.2.1
  have hml := hC.2.2.1
  have hown := hC.2.2.2.1
  have hts := hC.2.2.2.2
  have hl : lv_has ls 4 [(0, .ref (x 0)), (1, .int p0)] := hl
  refine lv_aload_n hx hb dX11_leaves_0 rfl (lv_at hl 0 rfl) ?_
  refine lv_iload_n hx hb dX11_leaves_1 rfl (lv_at hl 1 rfl) ?_
  refine ro_V (As := [.int p0]) (rest := []) hC hE kV_X11_269 (c_X11_refuseReading l D K x fs hfs p0) hP 0 10 rfl rfl rfl hl.1 rfl (Nat.le_of_ble_eq_true rfl) (by decide) (by decide) dX11_leaves_2 (fun r hq => ?_)
  subst hq
  refine lv_istore_n (lv' := [(2, .int (-2)), (0, .ref (x 0)), (1, .int p0)]) hx hb dX11_leaves_5 rfl hl (by decide) rfl (fun ls hl => ?_)
  refine lv_iload_n hx hb dX11_leaves_6 rfl (lv_at hl 0 rfl) ?_
  refine lv_if_eq (tgt := 12) hx hb dX11_leaves_7 (by decide) (fun h => absurd h (by decide)) (fun _ => ?_)
  refine lv_iload_n hx hb dX11_leaves_10 rfl (lv_at hl 0 rfl) ?_
  exact ro_ret hC hr hk dX11_leaves_11 rfl
set_option maxRecDepth 20000 in
theorem c_X11_course (l : Launch) (D : va_G) (K : Nat → ClassId) (x : Nat → Nat) (fs : Nat → Int32) (hfs : ∀ j, j < 4 → fs j = -1) (p0 : Int32) (p1 : Int32) : Ro l D K yX11_course cX11_course 4 (some .int) 3 65 [.ref (x 0), .int p0, .int p1] (fxL K x fs) (fun r => r = (-2)) := by
  refine ro_of (by decide) (Nat.le_of_ble_eq_true rfl) ?_
  intro p e s m below meth c hC hr hk hE hP ls hl
  have hC : CallFix p m c cX11_course 4 s [.ref (x 0), .int p0, .int p1].toArray wl RX11 := hC
  have hx := hC.1
  have hb := hC.2.1
  have hml := hC.2.2.1
  have hown := hC.2.2.2.1
  have hts := hC.2.2.2.2
  have hl : lv_has ls 4 [(0, .ref (x 0)), (1, .int p0), (2, .int p1)] := hl
  refine lv_aload_n hx hb dX11_course_0 rfl (lv_at hl 0 rfl) ?_
  refine lv_iload_n hx hb dX11_course_1 rfl (lv_at hl 1 rfl) ?_
  refine lv_iload_n hx hb dX11_course_2 rfl (lv_at hl 2 rfl) ?_
  refine ro_V (As := [.int p0, .int p1]) (rest := []) hC hE kV_X11_191 (c_X11_refuseWalk l D K x fs hfs p0 p1) hP 0 10 rfl rfl rfl hl.1 rfl (Nat.le_of_ble_eq_true rfl) (by decide) (by decide) dX11_course_3 (fun r hq => ?_)
  subst hq
  refine lv_istore_n (lv' := [(3, .int (-2)), (0, .ref (x 0)), (1, .int p0), (2, .int p1)]) hx hb dX11_course_6 rfl hl (by decide) rfl (fun ls hl => ?_)
  refine lv_iload_n hx hb dX11_course_7 rfl (lv_at hl 0 rfl) ?_
  refine lv_if_eq (tgt := 13) hx hb dX11_course_8 (by decide) (fun h => absurd h (by decide)) (fun _ => ?_)
  refine lv_iload_n hx hb dX11_course_11 rfl (lv_at hl 0 rfl) ?_
  exact ro_ret hC hr hk dX11_course_12 rfl
set_option maxRecDepth 20000 in
theorem c_X11_lesson (l : Launch) (D : va_G) (K : Nat → ClassId) (x : Nat → Nat) (fs : Nat → Int32) (hfs : ∀ j, j < 4 → fs j = -1) (p0 : Int32) (p1 : Int32) (p2 : Int32) : Ro l D K yX11_lesson cX11_lesson 5 (some .int) 3 65 [.ref (x 0), .int p0, .int p1, .int p2] (fxL K x fs) (fun r => r = (-2)) := by
  refine ro_of (by decide) (Nat.le_of_ble_eq_true rfl) ?_
  intro p e s m below meth c hC hr hk hE hP ls hl
  have hC : CallFix p m c cX11_lesson 5 s [.ref (x 0), .int p0, .int p1, .int p2].toArray wl RX11 := hC
  have hx := hC.1
  have hb := hC.2.1
  have hml := hC.2.2.1
  have hown := hC.2.2.2.1
  have hts := hC.2.2.2.2
  have hl : lv_has ls 5 [(0, .ref (x 0)), (1, .int p0), (2, .int p1), (3, .int p2)] := hl
  refine lv_aload_n hx hb dX11_lesson_0 rfl (lv_at hl 0 rfl) ?_
  refine lv_iload_n hx hb dX11_lesson_1 rfl (lv_at hl 1 rfl) ?_
  refine lv_iload_n hx hb dX11_lesson_2 rfl (lv_at hl 2 rfl) ?_
  refine ro_V (As := [.int p0, .int p1]) (rest := []) hC hE kV_X11_191 (c_X11_refuseWalk l D K x fs hfs p0 p1) hP 0 10 rfl rfl rfl hl.1 rfl (Nat.le_of_ble_eq_true rfl) (by decide) (by decide) dX11_lesson_3 (fun r hq => ?_)
  subst hq
  refine lv_istore (lv' := [(4, .int (-2)), (0, .ref (x 0)), (1, .int p0), (2, .int p1), (3, .int p2)]) hx hb dX11_lesson_6 hl (by decide) rfl (fun ls hl => ?_)
  refine lv_iload hx hb dX11_lesson_8 (lv_at hl 0 rfl) ?_
  refine lv_if_eq (tgt := 16) hx hb dX11_lesson_10 (by decide) (fun h => absurd h (by decide)) (fun _ => ?_)
  refine lv_iload hx hb dX11_lesson_13 (lv_at hl 0 rfl) ?_
  exact ro_ret hC hr hk dX11_lesson_15 rfl
set_option maxRecDepth 20000 in
theorem c_X11_spoilt (l : Launch) (D : va_G) (K : Nat → ClassId) (x : Nat → Nat) (fs : Nat → Int32) (hfs : ∀ j, j < 4 → fs j = -1) (p0 : Int32) (p1 : Int32) : Ro l D K yX11_spoilt cX11_spoilt 4 (some .int) 3 65 [.ref (x 0), .int p0, .int p1] (fxL K x fs) (fun r => r = (-2)) := by
  refine ro_of (by decide) (Nat.le_of_ble_eq_true rfl) ?_
  intro p e s m below meth c hC hr hk hE hP ls hl
  have hC : CallFix p m c cX11_spoilt 4 s [.ref (x 0), .int p0, .int p1].toArray wl RX11 := hC
  have hx := hC.1
  have hb := hC.2.1
  have hml := hC.2.2.1
  have hown := hC.2.2.2.1
  have hts := hC.2.2.2.2
  have hl : lv_has ls 4 [(0, .ref (x 0)), (1, .int p0), (2, .int p1)] := hl
  refine lv_aload_n hx hb dX11_spoilt_0 rfl (lv_at hl 0 rfl) ?_
  refine lv_iload_n hx hb dX11_spoilt_1 rfl (lv_at hl 1 rfl) ?_
  refine lv_iload_n hx hb dX11_spoilt_2 rfl (lv_at hl 2 rfl) ?_
  refine ro_V (As := [.int p0, .int p1]) (rest := []) hC hE kV_X11_191 (c_X11_refuseWalk l D K x fs hfs p0 p1) hP 0 10 rfl rfl rfl hl.1 rfl (Nat.le_of_ble_eq_true rfl) (by decide) (by decide) dX11_spoilt_3 (fun r hq => ?_)
  subst hq
  refine lv_istore_n (lv' := [(3, .int (-2)), (0, .ref (x 0)), (1, .int p0), (2, .int p1)]) hx hb dX11_spoilt_6 rfl hl (by decide) rfl (fun ls hl => ?_)
  refine lv_iload_n hx hb dX11_spoilt_7 rfl (lv_at hl 0 rfl) ?_
  refine lv_if_eq (tgt := 13) hx hb dX11_spoilt_8 (by decide) (fun h => absurd h (by decide)) (fun _ => ?_)
  refine lv_iload_n hx hb dX11_spoilt_11 rfl (lv_at hl 0 rfl) ?_
  exact ro_ret hC hr hk dX11_spoilt_12 rfl
set_option maxRecDepth 20000 in
theorem c_X11_route (l : Launch) (D : va_G) (K : Nat → ClassId) (x : Nat → Nat) (fs : Nat → Int32) (hfs : ∀ j, j < 4 → fs j = -1) (p0 : Int32) (p1 : Int32) : Ro l D K yX11_route cX11_route 3 (some .int) 2 43 [.ref (x 0), .int p0, .int p1] (fxL K x fs) (fun r => r = (-2)) := by
  refine ro_of (by decide) (Nat.le_of_ble_eq_true rfl) ?_
  intro p e s m below meth c hC hr hk hE hP ls hl
  have hC : CallFix p m c cX11_route 3 s [.ref (x 0), .int p0, .int p1].toArray wl RX11 := hC
  have hx := hC.1
  have hb := hC.2.1
  have hml := hC.2.2.1
  have hown := hC.2.2.2.1
  have hts := hC.2.2.2.2
  have hl : lv_has ls 3 [(0, .ref (x 0)), (1, .int p0), (2, .int p1)] := hl
  refine lv_aload_n hx hb dX11_route_0 rfl (lv_at hl 0 rfl) ?_
  refine lv_iload_n hx hb dX11_route_1 rfl (lv_at hl 1 rfl) ?_
  refine lv_iload_n hx hb dX11_route_2 rfl (lv_at hl 2 rfl) ?_
  refine ro_V (As := [.int p0, .int p1]) (rest := []) hC hE kV_X11_236 (c_X11_arePlaces l D K x fs hfs p0 p1) hP 0 10 rfl rfl rfl hl.1 rfl (Nat.le_of_ble_eq_true rfl) (by decide) (by decide) dX11_route_3 (fun r hq => ?_)
  subst hq
  refine lv_if_eq (tgt := 26) hx hb dX11_route_6 (by decide) (fun _ => ?_) (fun h => absurd h (by decide))
  refine lv_bipush (v := (-2)) hx hb dX11_route_26 (by decide) ?_
  exact ro_ret hC hr hk dX11_route_28 rfl
set_option maxRecDepth 20000 in
theorem c_X11_dark (l : Launch) (D : va_G) (K : Nat → ClassId) (x : Nat → Nat) (fs : Nat → Int32) (hfs : ∀ j, j < 4 → fs j = -1) (p0 : Int32) (p1 : Int32) : Ro l D K yX11_dark cX11_dark 4 (some .int) 2 43 [.ref (x 0), .int p0, .int p1] (fxL K x fs) (fun r => r = (-2)) := by
  refine ro_of (by decide) (Nat.le_of_ble_eq_true rfl) ?_
  intro p e s m below meth c hC hr hk hE hP ls hl
  have hC : CallFix p m c cX11_dark 4 s [.ref (x 0), .int p0, .int p1].toArray wl RX11 := hC
  have hx := hC.1
  have hb := hC.2.1
  have hml := hC.2.2.1
  have hown := hC.2.2.2.1
  have hts := hC.2.2.2.2
  have hl : lv_has ls 4 [(0, .ref (x 0)), (1, .int p0), (2, .int p1)] := hl
  refine lv_aload_n hx hb dX11_dark_0 rfl (lv_at hl 0 rfl) ?_
  refine lv_iload_n hx hb dX11_dark_1 rfl (lv_at hl 1 rfl) ?_
  refine lv_iload_n hx hb dX11_dark_2 rfl (lv_at hl 2 rfl) ?_
  refine ro_V (As := [.int p0, .int p1]) (rest := []) hC hE kV_X11_236 (c_X11_arePlaces l D K x fs hfs p0 p1) hP 0 10 rfl rfl rfl hl.1 rfl (Nat.le_of_ble_eq_true rfl) (by decide) (by decide) dX11_dark_3 (fun r hq => ?_)
  subst hq
  refine lv_if_ne (tgt := 12) hx hb dX11_dark_6 (by decide) (fun h => absurd h (by decide)) (fun _ => ?_)
  refine lv_bipush (v := (-2)) hx hb dX11_dark_9 (by decide) ?_
  exact ro_ret hC hr hk dX11_dark_11 rfl
set_option maxRecDepth 20000 in
theorem c_X11_detour (l : Launch) (D : va_G) (K : Nat → ClassId) (x : Nat → Nat) (fs : Nat → Int32) (hfs : ∀ j, j < 4 → fs j = -1) (p0 : Int32) (p1 : Int32) : Ro l D K yX11_detour cX11_detour 4 (some .int) 2 43 [.ref (x 0), .int p0, .int p1] (fxL K x fs) (fun r => r = (-2)) := by
  refine ro_of (by decide) (Nat.le_of_ble_eq_true rfl) ?_
  intro p e s m below meth c hC hr hk hE hP ls hl
  have hC : CallFix p m c cX11_detour 4 s [.ref (x 0), .int p0, .int p1].toArray wl RX11 := hC
  have hx := hC.1
  have hb := hC.2.1
  have hml := hC.2.2.1
  have hown := hC.2.2.2.1
  have hts := hC.2.2.2.2
  have hl : lv_has ls 4 [(0, .ref (x 0)), (1, .int p0), (2, .int p1)] := hl
  refine lv_aload_n hx hb dX11_detour_0 rfl (lv_at hl 0 rfl) ?_
  refine lv_iload_n hx hb dX11_detour_1 rfl (lv_at hl 1 rfl) ?_
  refine lv_iload_n hx hb dX11_detour_2 rfl (lv_at hl 2 rfl) ?_
  refine ro_V (As := [.int p0, .int p1]) (rest := []) hC hE kV_X11_236 (c_X11_arePlaces l D K x fs hfs p0 p1) hP 0 10 rfl rfl rfl hl.1 rfl (Nat.le_of_ble_eq_true rfl) (by decide) (by decide) dX11_detour_3 (fun r hq => ?_)
  subst hq
  refine lv_if_ne (tgt := 12) hx hb dX11_detour_6 (by decide) (fun h => absurd h (by decide)) (fun _ => ?_)
  refine lv_bipush (v := (-2)) hx hb dX11_detour_9 (by decide) ?_
  exact ro_ret hC hr hk dX11_detour_11 rfl
set_option maxRecDepth 20000 in
theorem c_X11_fog (l : Launch) (D : va_G) (K : Nat → ClassId) (x : Nat → Nat) (fs : Nat → Int32) (hfs : ∀ j, j < 4 → fs j = -1) (p0 : Int32) (p1 : Int32) (p2 : Int32) (p3 : Int32) : Ro l D K yX11_fog cX11_fog 7 (some .int) 2 43 [.ref (x 0), .int p0, .int p1, .int p2, .int p3] (fxL K x fs) (fun r => r = (-2)) := by
  refine ro_of (by decide) (Nat.le_of_ble_eq_true rfl) ?_
  intro p e s m below meth c hC hr hk hE hP ls hl
  have hC : CallFix p m c cX11_fog 7 s [.ref (x 0), .int p0, .int p1, .int p2, .int p3].toArray wl RX11 := hC
  have hx := hC.1
  have hb := hC.2.1
  have hml := hC.2.2.1
  have hown := hC.2.2.2.1
  have hts := hC.2.2.2.2
  have hl : lv_has ls 7 [(0, .ref (x 0)), (1, .int p0), (2, .int p1), (3, .int p2), (4, .int p3)] := hl
  refine lv_aload_n hx hb dX11_fog_0 rfl (lv_at hl 0 rfl) ?_
  refine lv_iload_n hx hb dX11_fog_1 rfl (lv_at hl 1 rfl) ?_
  refine lv_iload_n hx hb dX11_fog_2 rfl (lv_at hl 2 rfl) ?_
  refine ro_V (As := [.int p0, .int p1]) (rest := []) hC hE kV_X11_236 (c_X11_arePlaces l D K x fs hfs p0 p1) hP 0 10 rfl rfl rfl hl.1 rfl (Nat.le_of_ble_eq_true rfl) (by decide) (by decide) dX11_fog_3 (fun r hq => ?_)
  subst hq
  refine lv_if_eq (tgt := 27) hx hb dX11_fog_6 (by decide) (fun _ => ?_) (fun h => absurd h (by decide))
  refine lv_bipush (v := (-2)) hx hb dX11_fog_27 (by decide) ?_
  exact ro_ret hC hr hk dX11_fog_29 rfl
set_option maxRecDepth 20000 in
theorem c_X11_likely (l : Launch) (D : va_G) (K : Nat → ClassId) (x : Nat → Nat) (fs : Nat → Int32) (hfs : ∀ j, j < 4 → fs j = -1) (p0 : Int32) (p1 : Int32) : Ro l D K yX11_likely cX11_likely 5 (some .int) 1 21 [.ref (x 0), .int p0, .int p1] (fxL K x fs) (fun r => r = (-2)) := by
  refine ro_of (by decide) (Nat.le_of_ble_eq_true rfl) ?_
  intro p e s m below meth c hC hr hk hE hP ls hl
  have hC : CallFix p m c cX11_likely 5 s [.ref (x 0), .int p0, .int p1].toArray wl RX11 := hC
  have hx := hC.1
  have hb := hC.2.1
  have hml := hC.2.2.1
  have hown := hC.2.2.2.1
  have hts := hC.2.2.2.2
  have hl : lv_has ls 5 [(0, .ref (x 0)), (1, .int p0), (2, .int p1)] := hl
  refine lv_aload_n hx hb dX11_likely_0 rfl (lv_at hl 0 rfl) ?_
  refine va_get (D := D) (ci := 10) (v := .ref (x 2)) (C := RX11) (T := TX11) (N := 12) hx hb hts in_X11 hown hE.1 hP 0 rfl rfl 1 (by decide) (hts _ w_52) (fun _ h9 => h9) rfl dX11_likely_1 ?_
  refine lv_iload_n hx hb dX11_likely_4 rfl (lv_at hl 1 rfl) ?_
  refine ro_V (As := [.int p0]) (rest := []) hC hE kV_X11_126 (c_X10_hasPlace l D K (x 2) (fun k => x (10 + k)) p0) (hP.sub (ws' := [(x 2, .inr (9, [.ref (x 10), .ref (x 11), .ref (x 12), .ref (x 13), .ref (x 14), .ref (x 15), .ref (x 16), .ref (x 17), .int 0, .int 0, .int 0, .int 0]))]) [2] rfl) 0 9 rfl rfl rfl hl.1 rfl (Nat.le_of_ble_eq_true rfl) (by decide) (by decide) dX11_likely_5 (fun r hq => ?_)
  subst hq
  refine lv_if_eq (tgt := 18) hx hb dX11_likely_8 (by decide) (fun _ => ?_) (fun h => absurd h (by decide))
  refine lv_bipush (v := (-2)) hx hb dX11_likely_18 (by decide) ?_
  exact ro_ret hC hr hk dX11_likely_20 rfl
set_option maxRecDepth 20000 in
theorem c_X11_can (l : Launch) (D : va_G) (K : Nat → ClassId) (x : Nat → Nat) (fs : Nat → Int32) (hfs : ∀ j, j < 4 → fs j = -1) (p0 : Int32) (p1 : Int32) : Ro l D K yX11_can cX11_can 3 (some .int) 1 21 [.ref (x 0), .int p0, .int p1] (fxL K x fs) (fun r => r = (-2)) := by
  refine ro_of (by decide) (Nat.le_of_ble_eq_true rfl) ?_
  intro p e s m below meth c hC hr hk hE hP ls hl
  have hC : CallFix p m c cX11_can 3 s [.ref (x 0), .int p0, .int p1].toArray wl RX11 := hC
  have hx := hC.1
  have hb := hC.2.1
  have hml := hC.2.2.1
  have hown := hC.2.2.2.1
  have hts := hC.2.2.2.2
  have hl : lv_has ls 3 [(0, .ref (x 0)), (1, .int p0), (2, .int p1)] := hl
  refine lv_aload_n hx hb dX11_can_0 rfl (lv_at hl 0 rfl) ?_
  refine va_get (D := D) (ci := 10) (v := .ref (x 2)) (C := RX11) (T := TX11) (N := 12) hx hb hts in_X11 hown hE.1 hP 0 rfl rfl 1 (by decide) (hts _ w_52) (fun _ h9 => h9) rfl dX11_can_1 ?_
  refine lv_iload_n hx hb dX11_can_4 rfl (lv_at hl 1 rfl) ?_
  refine ro_V (As := [.int p0]) (rest := []) hC hE kV_X11_126 (c_X10_hasPlace l D K (x 2) (fun k => x (10 + k)) p0) (hP.sub (ws' := [(x 2, .inr (9, [.ref (x 10), .ref (x 11), .ref (x 12), .ref (x 13), .ref (x 14), .ref (x 15), .ref (x 16), .ref (x 17), .int 0, .int 0, .int 0, .int 0]))]) [2] rfl) 0 9 rfl rfl rfl hl.1 rfl (Nat.le_of_ble_eq_true rfl) (by decide) (by decide) dX11_can_5 (fun r hq => ?_)
  subst hq
  refine lv_if_eq (tgt := 27) hx hb dX11_can_8 (by decide) (fun _ => ?_) (fun h => absurd h (by decide))
  refine lv_bipush (v := (-2)) hx hb dX11_can_27 (by decide) ?_
  exact ro_ret hC hr hk dX11_can_29 rfl
set_option maxRecDepth 20000 in
theorem c_X11_lead (l : Launch) (D : va_G) (K : Nat → ClassId) (x : Nat → Nat) (fs : Nat → Int32) (hfs : ∀ j, j < 4 → fs j = -1) (p0 : Int32) (p1 : Int32) (p2 : Int32) : Ro l D K yX11_lead cX11_lead 5 (some .int) 2 43 [.ref (x 0), .int p0, .int p1, .int p2] (fxL K x fs) (fun r => r = (-2)) := by
  refine ro_of (by decide) (Nat.le_of_ble_eq_true rfl) ?_
  intro p e s m below meth c hC hr hk hE hP ls hl
  have hC : CallFix p m c cX11_lead 5 s [.ref (x 0), .int p0, .int p1, .int p2].toArray wl RX11 := hC
  have hx := hC.1
  have hb := hC.2.1
  have hml := hC.2.2.1
  have hown := hC.2.2.2.1
  have hts := hC.2.2.2.2
  have hl : lv_has ls 5 [(0, .ref (x 0)), (1, .int p0), (2, .int p1), (3, .int p2)] := hl
  refine lv_aload_n hx hb dX11_lead_0 rfl (lv_at hl 0 rfl) ?_
  refine lv_iload_n hx hb dX11_lead_1 rfl (lv_at hl 1 rfl) ?_
  refine lv_iload_n hx hb dX11_lead_2 rfl (lv_at hl 3 rfl) ?_
  refine ro_V (As := [.int p0, .int p2]) (rest := []) hC hE kV_X11_236 (c_X11_arePlaces l D K x fs hfs p0 p2) hP 0 10 rfl rfl rfl hl.1 rfl (Nat.le_of_ble_eq_true rfl) (by decide) (by decide) dX11_lead_3 (fun r hq => ?_)
  subst hq
  refine lv_if_eq (tgt := 16) hx hb dX11_lead_6 (by decide) (fun _ => ?_) (fun h => absurd h (by decide))
  refine lv_bipush (v := (-2)) hx hb dX11_lead_16 (by decide) ?_
  exact ro_ret hC hr hk dX11_lead_18 rfl
set_option maxRecDepth 20000 in
theorem c_X11_marks (l : Launch) (D : va_G) (K : Nat → ClassId) (x : Nat → Nat) (fs : Nat → Int32) (hfs : ∀ j, j < 4 → fs j = -1) (p0 : Int32) (p1 : Int32) : Ro l D K yX11_marks cX11_marks 4 (some .int) 1 21 [.ref (x 0), .int p0, .int p1] (fxL K x fs) (fun r => r = (-2)) := by
  refine ro_of (by decide) (Nat.le_of_ble_eq_true rfl) ?_
  intro p e s m below meth c hC hr hk hE hP ls hl
  have hC : CallFix p m c cX11_marks 4 s [.ref (x 0), .int p0, .int p1].toArray wl RX11 := hC
  have hx := hC.1
  have hb := hC.2.1
  have hml := hC.2.2.1
  have hown := hC.2.2.2.1
  have hts := hC.2.2.2.2
  have hl : lv_has ls 4 [(0, .ref (x 0)), (1, .int p0), (2, .int p1)] := hl
  refine lv_aload_n hx hb dX11_marks_0 rfl (lv_at hl 0 rfl) ?_
  refine va_get (D := D) (ci := 10) (v := .ref (x 2)) (C := RX11) (T := TX11) (N := 12) hx hb hts in_X11 hown hE.1 hP 0 rfl rfl 1 (by decide) (hts _ w_52) (fun _ h9 => h9) rfl dX11_marks_1 ?_
  refine lv_iload_n hx hb dX11_marks_4 rfl (lv_at hl 1 rfl) ?_
  refine ro_V (As := [.int p0]) (rest := []) hC hE kV_X11_126 (c_X10_hasPlace l D K (x 2) (fun k => x (10 + k)) p0) (hP.sub (ws' := [(x 2, .inr (9, [.ref (x 10), .ref (x 11), .ref (x 12), .ref (x 13), .ref (x 14), .ref (x 15), .ref (x 16), .ref (x 17), .int 0, .int 0, .int 0, .int 0]))]) [2] rfl) 0 9 rfl rfl rfl hl.1 rfl (Nat.le_of_ble_eq_true rfl) (by decide) (by decide) dX11_marks_5 (fun r hq => ?_)
  subst hq
  refine lv_if_eq (tgt := 18) hx hb dX11_marks_8 (by decide) (fun _ => ?_) (fun h => absurd h (by decide))
  refine lv_bipush (v := (-2)) hx hb dX11_marks_18 (by decide) ?_
  exact ro_ret hC hr hk dX11_marks_20 rfl
set_option maxRecDepth 20000 in
theorem c_X11_drawn (l : Launch) (D : va_G) (K : Nat → ClassId) (x : Nat → Nat) (fs : Nat → Int32) (hfs : ∀ j, j < 4 → fs j = -1) (p0 : Int32) (p1 : Int32) (p2 : Int32) (p3 : Int32) : Ro l D K yX11_drawn cX11_drawn 6 (some .int) 2 42 [.ref (x 0), .int p0, .int p1, .int p2, .int p3] (fxL K x fs) (fun r => r = (-2)) := by
  refine ro_of (by decide) (Nat.le_of_ble_eq_true rfl) ?_
  intro p e s m below meth c hC hr hk hE hP ls hl
  have hC : CallFix p m c cX11_drawn 6 s [.ref (x 0), .int p0, .int p1, .int p2, .int p3].toArray wl RX11 := hC
  have hx := hC.1
  have hb := hC.2.1
  have hml := hC.2.2.1
  have hown := hC.2.2.2.1
  have hts := hC.2.2.2.2
  have hl : lv_has ls 6 [(0, .ref (x 0)), (1, .int p0), (2, .int p1), (3, .int p2), (4, .int p3)] := hl
  refine lv_iload_n hx hb dX11_drawn_0 rfl (lv_at hl 1 rfl) ?_
  refine lv_iload_n hx hb dX11_drawn_1 rfl (lv_at hl 3 rfl) ?_
  refine ro_S (As := [.int p0, .int p2]) (rest := []) hC hE kS_X11_328 (c_X11_isDraw l D K p0 p2) (hP.sub (ws' := []) [] rfl) rfl hl.1 rfl (Nat.le_of_ble_eq_true rfl) (by decide) (by decide) dX11_drawn_2 (fun r26 _ => ?_)
  refine lv_if_eq (tgt := 27) hx hb dX11_drawn_5 (by decide) (fun c27 => ?_) (fun c27 => ?_)
  · refine lv_bipush (v := (-2)) hx hb dX11_drawn_27 (by decide) ?_
    exact ro_ret hC hr hk dX11_drawn_29 rfl
  · refine lv_iload hx hb dX11_drawn_8 (lv_at hl 4 rfl) ?_
    refine lv_if_lt (tgt := 27) hx hb dX11_drawn_10 (by decide) (fun c28 => ?_) (fun c28 => ?_)
    · refine lv_bipush (v := (-2)) hx hb dX11_drawn_27 (by decide) ?_
      exact ro_ret hC hr hk dX11_drawn_29 rfl
    · refine lv_iload hx hb dX11_drawn_13 (lv_at hl 4 rfl) ?_
      refine lv_iconst (v := 2) hx hb dX11_drawn_15 (by decide) ?_
      refine lv_icmp_gt (tgt := 27) hx hb dX11_drawn_16 (by decide) (fun c29 => ?_) (fun c29 => ?_)
      · refine lv_bipush (v := (-2)) hx hb dX11_drawn_27 (by decide) ?_
        exact ro_ret hC hr hk dX11_drawn_29 rfl
      · refine lv_aload_n hx hb dX11_drawn_19 rfl (lv_at hl 0 rfl) ?_
        refine lv_iload_n hx hb dX11_drawn_20 rfl (lv_at hl 2 rfl) ?_
        refine ro_V (As := [.int p1]) (rest := []) hC hE kV_X11_152 (c_X11_stand l D K x fs hfs p1) hP 0 10 rfl rfl rfl hl.1 rfl (Nat.le_of_ble_eq_true rfl) (by decide) (by decide) dX11_drawn_21 (fun r hq => ?_)
        subst hq
        refine lv_if_ne (tgt := 30) hx hb dX11_drawn_24 (by decide) (fun h => absurd h (by decide)) (fun _ => ?_)
        refine lv_bipush (v := (-2)) hx hb dX11_drawn_27 (by decide) ?_
        exact ro_ret hC hr hk dX11_drawn_29 rfl
set_option maxRecDepth 20000 in
theorem c_X11_luck (l : Launch) (D : va_G) (K : Nat → ClassId) (x : Nat → Nat) (fs : Nat → Int32) (hfs : ∀ j, j < 4 → fs j = -1) (p0 : Int32) (p1 : Int32) (p2 : Int32) (p3 : Int32) : Ro l D K yX11_luck cX11_luck 7 (some .int) 1 21 [.ref (x 0), .int p0, .int p1, .int p2, .int p3] (fxL K x fs) (fun r => r = (-2)) := by
  refine ro_of (by decide) (Nat.le_of_ble_eq_true rfl) ?_
  intro p e s m below meth c hC hr hk hE hP ls hl
  have hC : CallFix p m c cX11_luck 7 s [.ref (x 0), .int p0, .int p1, .int p2, .int p3].toArray wl RX11 := hC
  have hx := hC.1
  have hb := hC.2.1
  have hml := hC.2.2.1
  have hown := hC.2.2.2.1
  have hts := hC.2.2.2.2
  have hl : lv_has ls 7 [(0, .ref (x 0)), (1, .int p0), (2, .int p1), (3, .int p2), (4, .int p3)] := hl
  refine lv_iload_n hx hb dX11_luck_0 rfl (lv_at hl 1 rfl) ?_
  refine lv_iload hx hb dX11_luck_1 (lv_at hl 4 rfl) ?_
  refine ro_S (As := [.int p0, .int p3]) (rest := []) hC hE kS_X11_328 (c_X11_isDraw l D K p0 p3) (hP.sub (ws' := []) [] rfl) rfl hl.1 rfl (Nat.le_of_ble_eq_true rfl) (by decide) (by decide) dX11_luck_3 (fun r30 _ => ?_)
  refine lv_if_eq (tgt := 31) hx hb dX11_luck_6 (by decide) (fun c31 => ?_) (fun c31 => ?_)
  · refine lv_bipush (v := (-2)) hx hb dX11_luck_31 (by decide) ?_
    exact ro_ret hC hr hk dX11_luck_33 rfl
  · refine lv_iload_n hx hb dX11_luck_9 rfl (lv_at hl 2 rfl) ?_
    refine lv_iconst (v := 1) hx hb dX11_luck_10 (by decide) ?_
    refine lv_icmp_lt (tgt := 31) hx hb dX11_luck_11 (by decide) (fun c32 => ?_) (fun c32 => ?_)
    · refine lv_bipush (v := (-2)) hx hb dX11_luck_31 (by decide) ?_
      exact ro_ret hC hr hk dX11_luck_33 rfl
    · refine lv_iload_n hx hb dX11_luck_14 rfl (lv_at hl 2 rfl) ?_
      refine lv_bipush (v := 20) hx hb dX11_luck_15 (by decide) ?_
      refine lv_icmp_gt (tgt := 31) hx hb dX11_luck_17 (by decide) (fun c33 => ?_) (fun c33 => ?_)
      · refine lv_bipush (v := (-2)) hx hb dX11_luck_31 (by decide) ?_
        exact ro_ret hC hr hk dX11_luck_33 rfl
      · refine lv_aload_n hx hb dX11_luck_20 rfl (lv_at hl 0 rfl) ?_
        refine va_get (D := D) (ci := 10) (v := .ref (x 2)) (C := RX11) (T := TX11) (N := 12) hx hb hts in_X11 hown hE.1 hP 0 rfl rfl 1 (by decide) (hts _ w_52) (fun _ h9 => h9) rfl dX11_luck_21 ?_
        refine lv_iload_n hx hb dX11_luck_24 rfl (lv_at hl 3 rfl) ?_
        refine ro_V (As := [.int p2]) (rest := []) hC hE kV_X11_334 (c_X10_hasPupil l D K (x 2) (fun k => x (10 + k)) p2) (hP.sub (ws' := [(x 2, .inr (9, [.ref (x 10), .ref (x 11), .ref (x 12), .ref (x 13), .ref (x 14), .ref (x 15), .ref (x 16), .ref (x 17), .int 0, .int 0, .int 0, .int 0]))]) [2] rfl) 0 9 rfl rfl rfl hl.1 rfl (Nat.le_of_ble_eq_true rfl) (by decide) (by decide) dX11_luck_25 (fun r hq => ?_)
        subst hq
        refine lv_if_ne (tgt := 34) hx hb dX11_luck_28 (by decide) (fun h => absurd h (by decide)) (fun _ => ?_)
        refine lv_bipush (v := (-2)) hx hb dX11_luck_31 (by decide) ?_
        exact ro_ret hC hr hk dX11_luck_33 rfl
set_option maxRecDepth 20000 in
theorem c_X11_fault (l : Launch) (D : va_G) (K : Nat → ClassId) (x : Nat → Nat) (fs : Nat → Int32) (hfs : ∀ j, j < 4 → fs j = -1) (p0 : Int32) : Ro l D K yX11_fault cX11_fault 2 (some .int) 0 0 [.ref (x 0), .int p0] (fxL K x fs) (fun r => (p0 = 0 ∧ r = 0) ∨ (¬ p0 = 0 ∧ r = (-1))) := by
  refine ro_of (by decide) (Nat.le_of_ble_eq_true rfl) ?_
  intro p e s m below meth c hC hr hk hE hP ls hl
  have hC : CallFix p m c cX11_fault 2 s [.ref (x 0), .int p0].toArray wl RX11 := hC
  have hx := hC.1
  have hb := hC.2.1
  have hml := hC.2.2.1
  have hown := hC.2.2.2.1
  have hts := hC.2.2.2.2
  have hl : lv_has ls 2 [(0, .ref (x 0)), (1, .int p0)] := hl
  refine lv_iload_n hx hb dX11_fault_0 rfl (lv_at hl 1 rfl) ?_
  refine lv_if_ne (tgt := 12) hx hb dX11_fault_1 (by decide) (fun c34 => ?_) (fun c34 => ?_)
  · refine lv_iload_n hx hb dX11_fault_12 rfl (lv_at hl 1 rfl) ?_
    refine lv_iconst (v := 1) hx hb dX11_fault_13 (by decide) ?_
    refine lv_icmp_ne (tgt := 27) hx hb dX11_fault_14 (by decide) (fun c35 => ?_) (fun c35 => ?_)
    · refine lv_iconst (v := (-1)) hx hb dX11_fault_27 (by decide) ?_
      exact ro_ret hC hr hk dX11_fault_28 (Or.inr (⟨c34, rfl⟩))
    · refine lv_aload_n hx hb dX11_fault_17 rfl (lv_at hl 0 rfl) ?_
      refine va_get (D := D) (ci := 10) (v := .ref (x 1)) (C := RX11) (T := TX11) (N := 12) hx hb hts in_X11 hown hE.1 hP 0 rfl rfl 0 (by decide) (hts _ w_96) (fun _ h9 => h9) rfl dX11_fault_18 ?_
      refine va_get (D := D) (ci := 4) (v := .int (-1)) (C := RX4) (T := TX4) (N := 10) hx hb hts in_X4 hown hE.1 hP 1 rfl rfl 3 (by decide) (hts _ w_107) (fun _ h9 => h9) rfl dX11_fault_21 ?_
      refine lv_goto (tgt := 28) hx hb dX11_fault_24 (by decide) ?_
      exact ro_ret hC hr hk dX11_fault_28 (Or.inr (⟨c34, rfl⟩))
  · refine lv_aload_n hx hb dX11_fault_4 rfl (lv_at hl 0 rfl) ?_
    refine va_get (D := D) (ci := 10) (v := .ref (x 1)) (C := RX11) (T := TX11) (N := 12) hx hb hts in_X11 hown hE.1 hP 0 rfl rfl 0 (by decide) (hts _ w_96) (fun _ h9 => h9) rfl dX11_fault_5 ?_
    refine va_get (D := D) (ci := 4) (v := .int 0) (C := RX4) (T := TX4) (N := 10) hx hb hts in_X4 hown hE.1 hP 1 rfl rfl 2 (by decide) (hts _ w_108) (fun _ h9 => h9) rfl dX11_fault_8 ?_
    exact ro_ret hC hr hk dX11_fault_11 (Or.inl ⟨c34, rfl⟩)
set_option maxRecDepth 20000 in
theorem c_X11_count (l : Launch) (D : va_G) (K : Nat → ClassId) (x : Nat → Nat) (fs : Nat → Int32) (hfs : ∀ j, j < 4 → fs j = -1) (p0 : Int32) : Ro l D K yX11_count cX11_count 2 (some .int) 3 63 [.ref (x 0), .int p0] (fxL K x fs) (fun r => (vp_in p0 9 ∧ r = 0) ∨ (¬ vp_in p0 9 ∧ r = (-1))) := by
  refine ro_of (by decide) (Nat.le_of_ble_eq_true rfl) ?_
  intro p e s m below meth c hC hr hk hE hP ls hl
  have hC : CallFix p m c cX11_count 2 s [.ref (x 0), .int p0].toArray wl RX11 := hC
  have hx := hC.1
  have hb := hC.2.1
  have hml := hC.2.2.1
  have hown := hC.2.2.2.1
  have hts := hC.2.2.2.2
  have hl : lv_has ls 2 [(0, .ref (x 0)), (1, .int p0)] := hl
  refine lv_iload_n hx hb dX11_count_0 rfl (lv_at hl 1 rfl) ?_
  by_cases h9 : vp_in p0 9
  · obtain ⟨j, hj, rfl⟩ := vp_in_of h9 (by decide)
    rcases (show j = 0 ∨ j = 1 ∨ j = 2 ∨ j = 3 ∨ j = 4 ∨ j = 5 ∨ j = 6 ∨ j = 7 ∨ j = 8 by omega) with rfl | rfl | rfl | rfl | rfl | rfl | rfl | rfl | rfl
    · refine lv_tableIn (off := 51) (tgt := 52) hx hb dX11_count_1 (by decide) (by decide) (by decide +kernel) (by decide) ?_
      refine lv_aload_n hx hb dX11_count_52 rfl (lv_at hl 0 rfl) ?_
      refine va_get (D := D) (ci := 10) (v := .ref (x 2)) (C := RX11) (T := TX11) (N := 12) hx hb hts in_X11 hown hE.1 hP 0 rfl rfl 1 (by decide) (hts _ w_52) (fun _ h9 => h9) rfl dX11_count_53 ?_
      refine va_get (D := D) (ci := 9) (v := .int 0) (C := RX10) (T := TX10) (N := 12) hx hb hts in_X10 hown hE.1 hP 2 rfl rfl 8 (by decide) (hts _ w_109) (fun _ h9 => h9) rfl dX11_count_56 ?_
      exact ro_ret hC hr hk dX11_count_59 (Or.inl ⟨(vp_in_nI (by decide) (by decide)), rfl⟩)
    · refine lv_tableIn (off := 59) (tgt := 60) hx hb dX11_count_1 (by decide) (by decide) (by decide +kernel) (by decide) ?_
      refine lv_aload_n hx hb dX11_count_60 rfl (lv_at hl 0 rfl) ?_
      refine va_get (D := D) (ci := 10) (v := .ref (x 2)) (C := RX11) (T := TX11) (N := 12) hx hb hts in_X11 hown hE.1 hP 0 rfl rfl 1 (by decide) (hts _ w_52) (fun _ h9 => h9) rfl dX11_count_61 ?_
      refine ro_V (As := []) (rest := []) hC hE kV_X11_337 (c_X10_waysElsewhere l D K (x 2) (fun k => x (10 + k))) (hP.sub (ws' := [(x 2, .inr (9, [.ref (x 10), .ref (x 11), .ref (x 12), .ref (x 13), .ref (x 14), .ref (x 15), .ref (x 16), .ref (x 17), .int 0, .int 0, .int 0, .int 0]))]) [2] rfl) 0 9 rfl rfl rfl hl.1 rfl (Nat.le_of_ble_eq_true rfl) (by decide) (by decide) dX11_count_64 (fun r hq => ?_)
      subst hq
      exact ro_ret hC hr hk dX11_count_67 (Or.inl ⟨(vp_in_nI (by decide) (by decide)), rfl⟩)
    · refine lv_tableIn (off := 67) (tgt := 68) hx hb dX11_count_1 (by decide) (by decide) (by decide +kernel) (by decide) ?_
      refine lv_aload_n hx hb dX11_count_68 rfl (lv_at hl 0 rfl) ?_
      refine va_get (D := D) (ci := 10) (v := .ref (x 2)) (C := RX11) (T := TX11) (N := 12) hx hb hts in_X11 hown hE.1 hP 0 rfl rfl 1 (by decide) (hts _ w_52) (fun _ h9 => h9) rfl dX11_count_69 ?_
      refine ro_V (As := []) (rest := []) hC hE kV_X11_340 (c_X10_marked l D K (x 2) (fun k => x (10 + k))) (hP.sub (ws' := [(x 2, .inr (9, [.ref (x 10), .ref (x 11), .ref (x 12), .ref (x 13), .ref (x 14), .ref (x 15), .ref (x 16), .ref (x 17), .int 0, .int 0, .int 0, .int 0]))]) [2] rfl) 0 9 rfl rfl rfl hl.1 rfl (Nat.le_of_ble_eq_true rfl) (by decide) (by decide) dX11_count_72 (fun r hq => ?_)
      subst hq
      refine ro_S (As := [.int 0]) (rest := []) hC hE kS_X11_251 (c_J6_bitCount_0f7a4 l D K) (hP.sub (ws' := []) [] rfl) rfl hl.1 rfl (Nat.le_of_ble_eq_true rfl) (by decide) (by decide) dX11_count_75 (fun r hq => ?_)
      subst hq
      exact ro_ret hC hr hk dX11_count_78 (Or.inl ⟨(vp_in_nI (by decide) (by decide)), rfl⟩)
    · refine lv_tableIn (off := 78) (tgt := 79) hx hb dX11_count_1 (by decide) (by decide) (by decide +kernel) (by decide) ?_
      refine lv_aload_n hx hb dX11_count_79 rfl (lv_at hl 0 rfl) ?_
      refine va_get (D := D) (ci := 10) (v := .ref (x 2)) (C := RX11) (T := TX11) (N := 12) hx hb hts in_X11 hown hE.1 hP 0 rfl rfl 1 (by decide) (hts _ w_52) (fun _ h9 => h9) rfl dX11_count_80 ?_
      refine va_get (D := D) (ci := 9) (v := .int 0) (C := RX10) (T := TX10) (N := 12) hx hb hts in_X10 hown hE.1 hP 2 rfl rfl 9 (by decide) (hts _ w_122) (fun _ h9 => h9) rfl dX11_count_83 ?_
      exact ro_ret hC hr hk dX11_count_86 (Or.inl ⟨(vp_in_nI (by decide) (by decide)), rfl⟩)
    · refine lv_tableIn (off := 86) (tgt := 87) hx hb dX11_count_1 (by decide) (by decide) (by decide +kernel) (by decide) ?_
      refine lv_aload_n hx hb dX11_count_87 rfl (lv_at hl 0 rfl) ?_
      refine va_get (D := D) (ci := 10) (v := .ref (x 2)) (C := RX11) (T := TX11) (N := 12) hx hb hts in_X11 hown hE.1 hP 0 rfl rfl 1 (by decide) (hts _ w_52) (fun _ h9 => h9) rfl dX11_count_88 ?_
      refine va_get (D := D) (ci := 9) (v := .int 0) (C := RX10) (T := TX10) (N := 12) hx hb hts in_X10 hown hE.1 hP 2 rfl rfl 10 (by decide) (hts _ w_123) (fun _ h9 => h9) rfl dX11_count_91 ?_
      exact ro_ret hC hr hk dX11_count_94 (Or.inl ⟨(vp_in_nI (by decide) (by decide)), rfl⟩)
    · refine lv_tableIn (off := 94) (tgt := 95) hx hb dX11_count_1 (by decide) (by decide) (by decide +kernel) (by decide) ?_
      refine lv_aload_n hx hb dX11_count_95 rfl (lv_at hl 0 rfl) ?_
      refine va_get (D := D) (ci := 10) (v := .ref (x 2)) (C := RX11) (T := TX11) (N := 12) hx hb hts in_X11 hown hE.1 hP 0 rfl rfl 1 (by decide) (hts _ w_52) (fun _ h9 => h9) rfl dX11_count_96 ?_
      refine va_get (D := D) (ci := 9) (v := .int 0) (C := RX10) (T := TX10) (N := 12) hx hb hts in_X10 hown hE.1 hP 2 rfl rfl 11 (by decide) (hts _ w_124) (fun _ h9 => h9) rfl dX11_count_99 ?_
      exact ro_ret hC hr hk dX11_count_102 (Or.inl ⟨(vp_in_nI (by decide) (by decide)), rfl⟩)
    · refine lv_tableIn (off := 102) (tgt := 103) hx hb dX11_count_1 (by decide) (by decide) (by decide +kernel) (by decide) ?_
      refine lv_aload_n hx hb dX11_count_103 rfl (lv_at hl 0 rfl) ?_
      refine va_get (D := D) (ci := 10) (v := .ref (x 1)) (C := RX11) (T := TX11) (N := 12) hx hb hts in_X11 hown hE.1 hP 0 rfl rfl 0 (by decide) (hts _ w_96) (fun _ h9 => h9) rfl dX11_count_104 ?_
      refine va_get (D := D) (ci := 4) (v := .int 0) (C := RX4) (T := TX4) (N := 10) hx hb hts in_X4 hown hE.1 hP 1 rfl rfl 1 (by decide) (hts _ w_125) (fun _ h9 => h9) rfl dX11_count_107 ?_
      exact ro_ret hC hr hk dX11_count_110 (Or.inl ⟨(vp_in_nI (by decide) (by decide)), rfl⟩)
    · refine lv_tableIn (off := 110) (tgt := 111) hx hb dX11_count_1 (by decide) (by decide) (by decide +kernel) (by decide) ?_
      refine lv_aload_n hx hb dX11_count_111 rfl (lv_at hl 0 rfl) ?_
      refine va_get (D := D) (ci := 10) (v := .ref (x 3)) (C := RX11) (T := TX11) (N := 12) hx hb hts in_X11 hown hE.1 hP 0 rfl rfl 2 (by decide) (hts _ w_126) (fun _ h9 => h9) rfl dX11_count_112 ?_
      refine va_get (D := D) (ci := 2) (v := .int 0) (C := RX2) (T := TX2) (N := 6) hx hb hts in_X2 hown hE.1 hP 3 rfl rfl 5 (by decide) (hts _ w_133) (fun _ h9 => h9) rfl dX11_count_115 ?_
      exact ro_ret hC hr hk dX11_count_118 (Or.inl ⟨(vp_in_nI (by decide) (by decide)), rfl⟩)
    · refine lv_tableIn (off := 118) (tgt := 119) hx hb dX11_count_1 (by decide) (by decide) (by decide +kernel) (by decide) ?_
      refine lv_aload_n hx hb dX11_count_119 rfl (lv_at hl 0 rfl) ?_
      refine va_get (D := D) (ci := 10) (v := .ref (x 4)) (C := RX11) (T := TX11) (N := 12) hx hb hts in_X11 hown hE.1 hP 0 rfl rfl 4 (by decide) (hts _ w_134) (fun _ h9 => h9) rfl dX11_count_120 ?_
      refine ro_V (As := []) (rest := []) hC hE kV_X11_346 (c_X5_kept l D K (x 4) (fun k => x (23 + k)) fs hfs) (hP.sub (ws' := [(x 4, .inr (5, [.ref (x 23), .ref (x 24), .ref (x 25)])), (x 25, .inl (K 1, 4, .inl fs))]) [4, 25] rfl) 0 5 rfl rfl rfl hl.1 rfl (Nat.le_of_ble_eq_true rfl) (by decide) (by decide) dX11_count_123 (fun r hq => ?_)
      subst hq
      exact ro_ret hC hr hk dX11_count_126 (Or.inl ⟨(vp_in_nI (by decide) (by decide)), rfl⟩)
  · refine lv_tableOut (tgt := 127) hx hb dX11_count_1 (tab_out h9) (by decide) ?_
    refine lv_iconst (v := (-1)) hx hb dX11_count_127 (by decide) ?_
    exact ro_ret hC hr hk dX11_count_128 (Or.inr (⟨h9, rfl⟩))
set_option maxRecDepth 20000 in
theorem c_X11_back (l : Launch) (D : va_G) (K : Nat → ClassId) (x : Nat → Nat) (fs : Nat → Int32) (hfs : ∀ j, j < 4 → fs j = -1) (p0 : Int32) : Ro l D K yX11_back cX11_back 2 (some .int) 0 0 [.ref (x 0), .int p0] (fxL K x fs) (fun r => (vp_in p0 3 ∧ r = (-6)) ∨ (¬ vp_in p0 3 ∧ r = (-2))) := by
  refine ro_of (by decide) (Nat.le_of_ble_eq_true rfl) ?_
  intro p e s m below meth c hC hr hk hE hP ls hl
  have hC : CallFix p m c cX11_back 2 s [.ref (x 0), .int p0].toArray wl RX11 := hC
  have hx := hC.1
  have hb := hC.2.1
  have hml := hC.2.2.1
  have hown := hC.2.2.2.1
  have hts := hC.2.2.2.2
  have hl : lv_has ls 2 [(0, .ref (x 0)), (1, .int p0)] := hl
  refine lv_iload_n hx hb dX11_back_0 rfl (lv_at hl 1 rfl) ?_
  refine lv_if_lt (tgt := 9) hx hb dX11_back_1 (by decide) (fun c36 => ?_) (fun c36 => ?_)
  · refine lv_bipush (v := (-2)) hx hb dX11_back_9 (by decide) ?_
    exact ro_ret hC hr hk dX11_back_11 (Or.inr (⟨(no1 c36), rfl⟩))
  · refine lv_iload_n hx hb dX11_back_4 rfl (lv_at hl 1 rfl) ?_
    refine lv_iconst (v := 3) hx hb dX11_back_5 (by decide) ?_
    refine lv_icmp_lt (tgt := 12) hx hb dX11_back_6 (by decide) (fun c37 => ?_) (fun c37 => ?_)
    · refine lv_aload_n hx hb dX11_back_12 rfl (lv_at hl 0 rfl) ?_
      refine va_get (D := D) (ci := 10) (v := .ref (x 6)) (C := RX11) (T := TX11) (N := 12) hx hb hts in_X11 hown hE.1 hP 0 rfl rfl 10 (by decide) (hts _ w_139) (fun _ h9 => h9) rfl dX11_back_13 ?_
      refine lv_iload_n hx hb dX11_back_16 rfl (lv_at hl 1 rfl) ?_
      refine va_aldq hx hb hE.1 hP 6 4 rfl rfl (yes3 (k := 3) (by decide) c36 c37) dX11_back_17 ?_
      refine W.eq (g2 := F0 m 18 ls ([.null])) rfl ?_
      refine lv_ifnullN (tgt := 30) hx hb dX11_back_18 (by decide) ?_
      refine lv_bipush (v := (-6)) hx hb dX11_back_30 (by decide) ?_
      exact ro_ret hC hr hk dX11_back_32 (Or.inl ⟨(yes3 (k := 3) (by decide) c36 c37), rfl⟩)
    · refine lv_bipush (v := (-2)) hx hb dX11_back_9 (by decide) ?_
      exact ro_ret hC hr hk dX11_back_11 (Or.inr (⟨(no3 (k := 3) (by decide) c37), rfl⟩))
set_option maxRecDepth 20000 in
theorem c_X11_write (l : Launch) (D : va_G) (K : Nat → ClassId) (x : Nat → Nat) (fs : Nat → Int32) (hfs : ∀ j, j < 4 → fs j = -1) (p0 : Int32) (p1 : Int32) (p2 : Int64) : Ro l D K yX11_write cX11_write 5 (some .int) 2 41 [.ref (x 0), .int p0, .int p1, .long p2] (fxL K x fs) (fun r => (vp_in p0 4 ∧ r = (-6)) ∨ (¬ vp_in p0 4 ∧ r = (-2))) := by
  refine ro_of (by decide) (Nat.le_of_ble_eq_true rfl) ?_
  intro p e s m below meth c hC hr hk hE hP ls hl
  have hC : CallFix p m c cX11_write 5 s [.ref (x 0), .int p0, .int p1, .long p2].toArray wl RX11 := hC
  have hx := hC.1
  have hb := hC.2.1
  have hml := hC.2.2.1
  have hown := hC.2.2.2.1
  have hts := hC.2.2.2.2
  have hl : lv_has ls 5 [(0, .ref (x 0)), (1, .int p0), (2, .int p1), (3, .long p2)] := hl
  refine lv_iload_n hx hb dX11_write_0 rfl (lv_at hl 1 rfl) ?_
  refine ro_S (As := [.int p0]) (rest := []) hC hE kS_X11_352 (c_X11_isSlot l D K p0) (hP.sub (ws' := []) [] rfl) rfl hl.1 rfl (Nat.le_of_ble_eq_true rfl) (by decide) (by decide) dX11_write_1 (fun r hq => ?_)
  rcases hq with ⟨h38, rfl⟩ | ⟨h39, rfl⟩
  · refine lv_if_ne (tgt := 10) hx hb dX11_write_4 (by decide) (fun _ => ?_) (fun h => absurd h (by decide))
    refine lv_aload_n hx hb dX11_write_10 rfl (lv_at hl 0 rfl) ?_
    refine va_get (D := D) (ci := 10) (v := .ref (x 4)) (C := RX11) (T := TX11) (N := 12) hx hb hts in_X11 hown hE.1 hP 0 rfl rfl 4 (by decide) (hts _ w_134) (fun _ h9 => h9) rfl dX11_write_11 ?_
    refine lv_iload_n hx hb dX11_write_14 rfl (lv_at hl 1 rfl) ?_
    refine ro_V (As := [.int p0]) (rest := []) hC hE kV_X11_358 (c_X5_has l D K (x 4) (fun k => x (23 + k)) fs hfs p0) (hP.sub (ws' := [(x 4, .inr (5, [.ref (x 23), .ref (x 24), .ref (x 25)])), (x 25, .inl (K 1, 4, .inl fs))]) [4, 25] rfl) 0 5 rfl rfl rfl hl.1 rfl (Nat.le_of_ble_eq_true rfl) (by decide) (by decide) dX11_write_15 (fun r hq => ?_)
    subst hq
    refine lv_if_ne (tgt := 24) hx hb dX11_write_18 (by decide) (fun h => absurd h (by decide)) (fun _ => ?_)
    refine lv_bipush (v := (-6)) hx hb dX11_write_21 (by decide) ?_
    exact ro_ret hC hr hk dX11_write_23 (Or.inl ⟨h38, rfl⟩)
  · refine lv_if_ne (tgt := 10) hx hb dX11_write_4 (by decide) (fun h => absurd h (by decide)) (fun _ => ?_)
    refine lv_bipush (v := (-2)) hx hb dX11_write_7 (by decide) ?_
    exact ro_ret hC hr hk dX11_write_9 (Or.inr (⟨h39, rfl⟩))
end
section
set_option maxRecDepth 20000 in
theorem c_X11_paste (l : Launch) (D : va_G) (K : Nat → ClassId) (x : Nat → Nat) (fs : Nat → Int32) (hfs : ∀ j, j < 4 → fs j = -1) (p0 : Int32) (p1 : Int32) (p2 : Int32) (p3 : Int32) (p4 : Int32) : Ro l D K yX11_paste cX11_paste 6 (some .int) 2 41 [.ref (x 0), .int p0, .int p1, .int p2, .int p3, .int p4] (fxL K x fs) (fun r => ((vp_in p0 4 ∧ vp_in p2 4) ∧ r = (-6)) ∨ (¬ (vp_in p0 4 ∧ vp_in p2 4) ∧ r = (-2))) := by
  refine ro_of (by decide) (Nat.le_of_ble_eq_true rfl) ?_
  intro p e s m below meth c hC hr hk hE hP ls hl
  have hC : CallFix p m c cX11_paste 6 s [.ref (x 0), .int p0, .int p1, .int p2, .int p3, .int p4].toArray wl RX11 := hC
  have hx := hC.1
  have hb := hC.2.1
  have hml := hC.2.2.1
  have hown := hC.2.2.2.1
  have hts := hC.2.2.2.2
  have hl : lv_has ls 6 [(0, .ref (x 0)), (1, .int p0), (2, .int p1), (3, .int p2), (4, .int p3), (5, .int p4)] := hl
  refine lv_iload_n hx hb dX11_paste_0 rfl (lv_at hl 1 rfl) ?_
  refine ro_S (As := [.int p0]) (rest := []) hC hE kS_X11_352 (c_X11_isSlot l D K p0) (hP.sub (ws' := []) [] rfl) rfl hl.1 rfl (Nat.le_of_ble_eq_true rfl) (by decide) (by decide) dX11_paste_1 (fun r hq => ?_)
  rcases hq with ⟨h40, rfl⟩ | ⟨h41, rfl⟩
  · refine lv_if_eq (tgt := 14) hx hb dX11_paste_4 (by decide) (fun h => absurd h (by decide)) (fun _ => ?_)
    refine lv_iload_n hx hb dX11_paste_7 rfl (lv_at hl 3 rfl) ?_
    refine ro_S (As := [.int p2]) (rest := []) hC hE kS_X11_352 (c_X11_isSlot l D K p2) (hP.sub (ws' := []) [] rfl) rfl hl.1 rfl (Nat.le_of_ble_eq_true rfl) (by decide) (by decide) dX11_paste_8 (fun r hq => ?_)
    rcases hq with ⟨h42, rfl⟩ | ⟨h43, rfl⟩
    · refine lv_if_ne (tgt := 17) hx hb dX11_paste_11 (by decide) (fun _ => ?_) (fun h => absurd h (by decide))
      refine lv_aload_n hx hb dX11_paste_17 rfl (lv_at hl 0 rfl) ?_
      refine va_get (D := D) (ci := 10) (v := .ref (x 4)) (C := RX11) (T := TX11) (N := 12) hx hb hts in_X11 hown hE.1 hP 0 rfl rfl 4 (by decide) (hts _ w_134) (fun _ h9 => h9) rfl dX11_paste_18 ?_
      refine lv_iload_n hx hb dX11_paste_21 rfl (lv_at hl 1 rfl) ?_
      refine ro_V (As := [.int p0]) (rest := []) hC hE kV_X11_358 (c_X5_has l D K (x 4) (fun k => x (23 + k)) fs hfs p0) (hP.sub (ws' := [(x 4, .inr (5, [.ref (x 23), .ref (x 24), .ref (x 25)])), (x 25, .inl (K 1, 4, .inl fs))]) [4, 25] rfl) 0 5 rfl rfl rfl hl.1 rfl (Nat.le_of_ble_eq_true rfl) (by decide) (by decide) dX11_paste_22 (fun r hq => ?_)
      subst hq
      refine lv_if_eq (tgt := 39) hx hb dX11_paste_25 (by decide) (fun _ => ?_) (fun h => absurd h (by decide))
      refine lv_bipush (v := (-6)) hx hb dX11_paste_39 (by decide) ?_
      exact ro_ret hC hr hk dX11_paste_41 (Or.inl ⟨⟨h40, h42⟩, rfl⟩)
    · refine lv_if_ne (tgt := 17) hx hb dX11_paste_11 (by decide) (fun h => absurd h (by decide)) (fun _ => ?_)
      refine lv_bipush (v := (-2)) hx hb dX11_paste_14 (by decide) ?_
      exact ro_ret hC hr hk dX11_paste_16 (Or.inr (⟨(fun q => h43 q.2), rfl⟩))
  · refine lv_if_eq (tgt := 14) hx hb dX11_paste_4 (by decide) (fun _ => ?_) (fun h => absurd h (by decide))
    refine lv_bipush (v := (-2)) hx hb dX11_paste_14 (by decide) ?_
    exact ro_ret hC hr hk dX11_paste_16 (Or.inr (⟨(fun q => h41 q.1), rfl⟩))
end
section
set_option maxRecDepth 20000 in
theorem c_X12_in (l : Launch) (D : va_G) (K : Nat → ClassId) (p0 : Int64) (p1 : Int64) (p2 : Int64) : Ro l D K yX12_in cX12_in 6 (some .boolean) 0 0 [.long p0, .long p1, .long p2] [] (fun r => ((p1 ≤ p0 ∧ p0 ≤ p2) ∧ r = 1) ∨ (¬ (p1 ≤ p0 ∧ p0 ≤ p2) ∧ r = 0)) := by
  refine ro_of (by decide) (Nat.le_of_ble_eq_true rfl) ?_
  intro p e s m below meth c hC hr hk hE hP ls hl
  have hC : CallFix p m c cX12_in 6 s [.long p0, .long p1, .long p2].toArray wl RX12 := hC
  have hx := hC.1
  have hb := hC.2.1
  have hml := hC.2.2.1
  have hown := hC.2.2.2.1
  have hts := hC.2.2.2.2
  have hl : lv_has ls 6 [(0, .long p0), (2, .long p1), (4, .long p2)] := hl
  refine lv_lload_n hx hb dX12_in_0 rfl (lv_at hl 0 rfl) ?_
  refine lv_lload_n hx hb dX12_in_1 rfl (lv_at hl 1 rfl) ?_
  refine W.lcmp hx hb dX12_in_2 ?_
  refine lv_if_lt (tgt := 17) hx hb dX12_in_3 (by decide) (fun c44 => ?_) (fun c44 => ?_)
  · refine lv_iconst (v := 0) hx hb dX12_in_17 (by decide) ?_
    exact ro_zret hC hr hk dX12_in_18 rfl (Or.inr (⟨(fun q => absurd q.1 (by have h := lc_lt c44; rw [Int64.lt_iff_toInt_lt] at h; rw [Int64.le_iff_toInt_le]; omega)), rfl⟩))
  · refine lv_lload_n hx hb dX12_in_6 rfl (lv_at hl 0 rfl) ?_
    refine lv_lload hx hb dX12_in_7 (lv_at hl 2 rfl) ?_
    refine W.lcmp hx hb dX12_in_9 ?_
    refine lv_if_gt (tgt := 17) hx hb dX12_in_10 (by decide) (fun c45 => ?_) (fun c45 => ?_)
    · refine lv_iconst (v := 0) hx hb dX12_in_17 (by decide) ?_
      exact ro_zret hC hr hk dX12_in_18 rfl (Or.inr (⟨(fun q => absurd q.2 (by have h := lc_gt c45; rw [Int64.lt_iff_toInt_lt] at h; rw [Int64.le_iff_toInt_le]; omega)), rfl⟩))
    · refine lv_iconst (v := 1) hx hb dX12_in_13 (by decide) ?_
      refine lv_goto (tgt := 18) hx hb dX12_in_14 (by decide) ?_
      exact ro_zret hC hr hk dX12_in_18 rfl (Or.inl ⟨⟨lc_nlt c44, lc_ngt c45⟩, rfl⟩)
set_option maxRecDepth 20000 in
theorem c_X12_isWood (l : Launch) (D : va_G) (K : Nat → ClassId) (y : Nat → Nat) (fm : Nat → Int32) (hfm : ∀ j, j < 4 → fm j = -1) : Ro l D K yX12_isWood cX12_isWood 1 (some .boolean) 0 0 [.ref (y 0)] (mdL K y fm) (fun r => r = 0) := by
  refine ro_of (by decide) (Nat.le_of_ble_eq_true rfl) ?_
  intro p e s m below meth c hC hr hk hE hP ls hl
  have hC : CallFix p m c cX12_isWood 1 s [.ref (y 0)].toArray wl RX12 := hC
  have hx := hC.1
  have hb := hC.2.1
  have hml := hC.2.2.1
  have hown := hC.2.2.2.1
  have hts := hC.2.2.2.2
  have hl : lv_has ls 1 [(0, .ref (y 0))] := hl
  refine lv_aload_n hx hb dX12_isWood_0 rfl (lv_at hl 0 rfl) ?_
  refine va_get (D := D) (ci := 11) (v := .ref (y 1)) (C := RX12) (T := TX12) (N := 53) hx hb hts in_X12 hown hE.1 hP 0 rfl rfl 1 (by decide) (hts _ w_194) (fun _ h9 => h9) rfl dX12_isWood_1 ?_
  refine lv_iconst (v := 3) hx hb dX12_isWood_4 (by decide) ?_
  refine va_iald hx hb hE.1 hP 1 1 rfl rfl (in_c (by decide)) dX12_isWood_5 ?_
  refine tc (y := 0) rfl ?_
  refine lv_if_le (tgt := 13) hx hb dX12_isWood_6 (by decide) (fun _ => ?_) (fun h => absurd h (by decide))
  refine lv_iconst (v := 0) hx hb dX12_isWood_13 (by decide) ?_
  exact ro_zret hC hr hk dX12_isWood_14 rfl rfl
set_option maxRecDepth 20000 in
theorem c_X12_isPlace (l : Launch) (D : va_G) (K : Nat → ClassId) (y : Nat → Nat) (fm : Nat → Int32) (hfm : ∀ j, j < 4 → fm j = -1) (p0 : Int64) : Ro l D K yX12_isPlace cX12_isPlace 3 (some .boolean) 1 25 [.ref (y 0), .long p0] (mdL K y fm) (fun r => r = 0) := by
  refine ro_of (by decide) (Nat.le_of_ble_eq_true rfl) ?_
  intro p e s m below meth c hC hr hk hE hP ls hl
  have hC : CallFix p m c cX12_isPlace 3 s [.ref (y 0), .long p0].toArray wl RX12 := hC
  have hx := hC.1
  have hb := hC.2.1
  have hml := hC.2.2.1
  have hown := hC.2.2.2.1
  have hts := hC.2.2.2.2
  have hl : lv_has ls 3 [(0, .ref (y 0)), (1, .long p0)] := hl
  refine lv_lload_n hx hb dX12_isPlace_0 rfl (lv_at hl 1 rfl) ?_
  refine lv_lconst (v := 0) hx hb dX12_isPlace_1 (by decide) ?_
  refine lv_aload_n hx hb dX12_isPlace_2 rfl (lv_at hl 0 rfl) ?_
  refine va_get (D := D) (ci := 11) (v := .ref (y 1)) (C := RX12) (T := TX12) (N := 53) hx hb hts in_X12 hown hE.1 hP 0 rfl rfl 1 (by decide) (hts _ w_194) (fun _ h9 => h9) rfl dX12_isPlace_3 ?_
  refine lv_iconst (v := 0) hx hb dX12_isPlace_6 (by decide) ?_
  refine va_iald hx hb hE.1 hP 1 1 rfl rfl (in_c (by decide)) dX12_isPlace_7 ?_
  refine tc (y := 0) rfl ?_
  refine lv_iconst (v := 1) hx hb dX12_isPlace_8 (by decide) ?_
  refine lv_isub hx hb dX12_isPlace_9 ?_
  refine tc (y := (-1)) (by decide) ?_
  refine lv_i2l (v := (-1)) hx hb dX12_isPlace_10 (by decide) ?_
  refine ro_S (As := [.long p0, .long 0, .long (-1)]) (rest := []) hC hE kS_X12_115 (c_X12_in l D K p0 0 (-1)) (hP.sub (ws' := []) [] rfl) rfl hl.1 rfl (Nat.le_of_ble_eq_true rfl) (by decide) (by decide) dX12_isPlace_11 (fun r hq => ?_)
  rcases hq with ⟨h46, rfl⟩ | ⟨h47, rfl⟩
  · exact absurd h46 (in_no (by decide))
  · exact ro_zret hC hr hk dX12_isPlace_14 rfl rfl
set_option maxRecDepth 20000 in
theorem c_X12_areTwo (l : Launch) (D : va_G) (K : Nat → ClassId) (y : Nat → Nat) (fm : Nat → Int32) (hfm : ∀ j, j < 4 → fm j = -1) (p0 : Int32) (p1 : Int32) : Ro l D K yX12_areTwo cX12_areTwo 3 (some .boolean) 2 47 [.ref (y 0), .int p0, .int p1] (mdL K y fm) (fun r => r = 0) := by
  refine ro_of (by decide) (Nat.le_of_ble_eq_true rfl) ?_
  intro p e s m below meth c hC hr hk hE hP ls hl
  have hC : CallFix p m c cX12_areTwo 3 s [.ref (y 0), .int p0, .int p1].toArray wl RX12 := hC
  have hx := hC.1
  have hb := hC.2.1
  have hml := hC.2.2.1
  have hown := hC.2.2.2.1
  have hts := hC.2.2.2.2
  have hl : lv_has ls 3 [(0, .ref (y 0)), (1, .int p0), (2, .int p1)] := hl
  refine lv_aload_n hx hb dX12_areTwo_0 rfl (lv_at hl 0 rfl) ?_
  refine lv_iload_n hx hb dX12_areTwo_1 rfl (lv_at hl 1 rfl) ?_
  refine lv_i2l (v := p0.toInt64) hx hb dX12_areTwo_2 rfl ?_
  refine ro_V (As := [.long p0.toInt64]) (rest := []) hC hE kV_X12_119 (c_X12_isPlace l D K y fm hfm p0.toInt64) hP 0 11 rfl rfl rfl hl.1 rfl (Nat.le_of_ble_eq_true rfl) (by decide) (by decide) dX12_areTwo_3 (fun r hq => ?_)
  subst hq
  refine lv_if_eq (tgt := 22) hx hb dX12_areTwo_6 (by decide) (fun _ => ?_) (fun h => absurd h (by decide))
  refine lv_iconst (v := 0) hx hb dX12_areTwo_22 (by decide) ?_
  exact ro_zret hC hr hk dX12_areTwo_23 rfl rfl
set_option maxRecDepth 20000 in
theorem c_X12_isWind (l : Launch) (D : va_G) (K : Nat → ClassId) (p0 : Int64) : Ro l D K yX12_isWind cX12_isWind 2 (some .boolean) 1 25 [.long p0] [] (fun _ => True) := by
  refine ro_of (by decide) (Nat.le_of_ble_eq_true rfl) ?_
  intro p e s m below meth c hC hr hk hE hP ls hl
  have hC : CallFix p m c cX12_isWind 2 s [.long p0].toArray wl RX12 := hC
  have hx := hC.1
  have hb := hC.2.1
  have hml := hC.2.2.1
  have hown := hC.2.2.2.1
  have hts := hC.2.2.2.2
  have hl : lv_has ls 2 [(0, .long p0)] := hl
  refine lv_lload_n hx hb dX12_isWind_0 rfl (lv_at hl 0 rfl) ?_
  refine lv_lconst (v := 0) hx hb dX12_isWind_1 (by decide) ?_
  refine lv_ldc2 (v := 3) hx hb hown (hts _ w_203) dX12_isWind_2 ?_
  refine ro_S (As := [.long p0, .long 0, .long 3]) (rest := []) hC hE kS_X12_115 (c_X12_in l D K p0 0 3) (hP.sub (ws' := []) [] rfl) rfl hl.1 rfl (Nat.le_of_ble_eq_true rfl) (by decide) (by decide) dX12_isWind_5 (fun r hq => ?_)
  rcases hq with ⟨h48, rfl⟩ | ⟨h49, rfl⟩
  · exact ro_zret hC hr hk dX12_isWind_8 rfl trivial
  · exact ro_zret hC hr hk dX12_isWind_8 rfl trivial
set_option maxRecDepth 20000 in
theorem c_X12_isPupil (l : Launch) (D : va_G) (K : Nat → ClassId) (y : Nat → Nat) (fm : Nat → Int32) (hfm : ∀ j, j < 4 → fm j = -1) (p0 : Int32) : Ro l D K yX12_isPupil cX12_isPupil 2 (some .boolean) 1 25 [.ref (y 0), .int p0] (mdL K y fm) (fun r => r = 0) := by
  refine ro_of (by decide) (Nat.le_of_ble_eq_true rfl) ?_
  intro p e s m below meth c hC hr hk hE hP ls hl
  have hC : CallFix p m c cX12_isPupil 2 s [.ref (y 0), .int p0].toArray wl RX12 := hC
  have hx := hC.1
  have hb := hC.2.1
  have hml := hC.2.2.1
  have hown := hC.2.2.2.1
  have hts := hC.2.2.2.2
  have hl : lv_has ls 2 [(0, .ref (y 0)), (1, .int p0)] := hl
  refine lv_iload_n hx hb dX12_isPupil_0 rfl (lv_at hl 1 rfl) ?_
  refine lv_i2l (v := p0.toInt64) hx hb dX12_isPupil_1 rfl ?_
  refine lv_lconst (v := 0) hx hb dX12_isPupil_2 (by decide) ?_
  refine lv_aload_n hx hb dX12_isPupil_3 rfl (lv_at hl 0 rfl) ?_
  refine va_get (D := D) (ci := 11) (v := .ref (y 1)) (C := RX12) (T := TX12) (N := 53) hx hb hts in_X12 hown hE.1 hP 0 rfl rfl 1 (by decide) (hts _ w_194) (fun _ h9 => h9) rfl dX12_isPupil_4 ?_
  refine lv_iconst (v := 1) hx hb dX12_isPupil_7 (by decide) ?_
  refine va_iald hx hb hE.1 hP 1 1 rfl rfl (in_c (by decide)) dX12_isPupil_8 ?_
  refine tc (y := 0) rfl ?_
  refine lv_iconst (v := 1) hx hb dX12_isPupil_9 (by decide) ?_
  refine lv_isub hx hb dX12_isPupil_10 ?_
  refine tc (y := (-1)) (by decide) ?_
  refine lv_i2l (v := (-1)) hx hb dX12_isPupil_11 (by decide) ?_
  refine ro_S (As := [.long p0.toInt64, .long 0, .long (-1)]) (rest := []) hC hE kS_X12_115 (c_X12_in l D K p0.toInt64 0 (-1)) (hP.sub (ws' := []) [] rfl) rfl hl.1 rfl (Nat.le_of_ble_eq_true rfl) (by decide) (by decide) dX12_isPupil_12 (fun r hq => ?_)
  rcases hq with ⟨h50, rfl⟩ | ⟨h51, rfl⟩
  · exact absurd h50 (in_no (by decide))
  · exact ro_zret hC hr hk dX12_isPupil_15 rfl rfl
set_option maxRecDepth 20000 in
theorem c_X12_allPlaces (l : Launch) (D : va_G) (K : Nat → ClassId) (y : Nat → Nat) (fm : Nat → Int32) (hfm : ∀ j, j < 4 → fm j = -1) : Ro l D K yX12_allPlaces cX12_allPlaces 1 (some .int) 0 0 [.ref (y 0)] (mdL K y fm) (fun r => r = 0) := by
  refine ro_of (by decide) (Nat.le_of_ble_eq_true rfl) ?_
  intro p e s m below meth c hC hr hk hE hP ls hl
  have hC : CallFix p m c cX12_allPlaces 1 s [.ref (y 0)].toArray wl RX12 := hC
  have hx := hC.1
  have hb := hC.2.1
  have hml := hC.2.2.1
  have hown := hC.2.2.2.1
  have hts := hC.2.2.2.2
  have hl : lv_has ls 1 [(0, .ref (y 0))] := hl
  refine lv_iconst (v := 1) hx hb dX12_allPlaces_0 (by decide) ?_
  refine lv_aload_n hx hb dX12_allPlaces_1 rfl (lv_at hl 0 rfl) ?_
  refine va_get (D := D) (ci := 11) (v := .ref (y 1)) (C := RX12) (T := TX12) (N := 53) hx hb hts in_X12 hown hE.1 hP 0 rfl rfl 1 (by decide) (hts _ w_194) (fun _ h9 => h9) rfl dX12_allPlaces_2 ?_
  refine lv_iconst (v := 0) hx hb dX12_allPlaces_5 (by decide) ?_
  refine va_iald hx hb hE.1 hP 1 1 rfl rfl (in_c (by decide)) dX12_allPlaces_6 ?_
  refine tc (y := 0) rfl ?_
  refine lv_ishl hx hb dX12_allPlaces_7 ?_
  refine tc (y := 1) (by decide) ?_
  refine lv_iconst (v := 1) hx hb dX12_allPlaces_8 (by decide) ?_
  refine lv_isub hx hb dX12_allPlaces_9 ?_
  refine tc (y := 0) (by decide) ?_
  exact ro_ret hC hr hk dX12_allPlaces_10 rfl
set_option maxRecDepth 20000 in
theorem c_X12_isSet (l : Launch) (D : va_G) (K : Nat → ClassId) (y : Nat → Nat) (fm : Nat → Int32) (hfm : ∀ j, j < 4 → fm j = -1) (p0 : Int32) : Ro l D K yX12_isSet cX12_isSet 2 (some .boolean) 1 20 [.ref (y 0), .int p0] (mdL K y fm) (fun r => r = 0) := by
  refine ro_of (by decide) (Nat.le_of_ble_eq_true rfl) ?_
  intro p e s m below meth c hC hr hk hE hP ls hl
  have hC : CallFix p m c cX12_isSet 2 s [.ref (y 0), .int p0].toArray wl RX12 := hC
  have hx := hC.1
  have hb := hC.2.1
  have hml := hC.2.2.1
  have hown := hC.2.2.2.1
  have hts := hC.2.2.2.2
  have hl : lv_has ls 2 [(0, .ref (y 0)), (1, .int p0)] := hl
  refine lv_aload_n hx hb dX12_isSet_0 rfl (lv_at hl 0 rfl) ?_
  refine ro_V (As := []) (rest := []) hC hE kV_X12_125 (c_X12_isWood l D K y fm hfm) hP 0 11 rfl rfl rfl hl.1 rfl (Nat.le_of_ble_eq_true rfl) (by decide) (by decide) dX12_isSet_1 (fun r hq => ?_)
  subst hq
  refine lv_if_eq (tgt := 25) hx hb dX12_isSet_4 (by decide) (fun _ => ?_) (fun h => absurd h (by decide))
  refine lv_iconst (v := 0) hx hb dX12_isSet_25 (by decide) ?_
  exact ro_zret hC hr hk dX12_isSet_26 rfl rfl
set_option maxRecDepth 20000 in
theorem c_X12_isSlot (l : Launch) (D : va_G) (K : Nat → ClassId) (p0 : Int32) : Ro l D K yX12_isSlot cX12_isSlot 1 (some .boolean) 1 25 [.int p0] [] (fun r => (vp_in p0 4 ∧ r = 1) ∨ (¬ vp_in p0 4 ∧ r = 0)) := by
  refine ro_of (by decide) (Nat.le_of_ble_eq_true rfl) ?_
  intro p e s m below meth c hC hr hk hE hP ls hl
  have hC : CallFix p m c cX12_isSlot 1 s [.int p0].toArray wl RX12 := hC
  have hx := hC.1
  have hb := hC.2.1
  have hml := hC.2.2.1
  have hown := hC.2.2.2.1
  have hts := hC.2.2.2.2
  have hl : lv_has ls 1 [(0, .int p0)] := hl
  refine lv_iload_n hx hb dX12_isSlot_0 rfl (lv_at hl 0 rfl) ?_
  refine lv_i2l (v := p0.toInt64) hx hb dX12_isSlot_1 rfl ?_
  refine lv_lconst (v := 0) hx hb dX12_isSlot_2 (by decide) ?_
  refine lv_ldc2 (v := 3) hx hb hown (hts _ w_203) dX12_isSlot_3 ?_
  refine ro_S (As := [.long p0.toInt64, .long 0, .long 3]) (rest := []) hC hE kS_X12_115 (c_X12_in l D K p0.toInt64 0 3) (hP.sub (ws' := []) [] rfl) rfl hl.1 rfl (Nat.le_of_ble_eq_true rfl) (by decide) (by decide) dX12_isSlot_6 (fun r hq => ?_)
  rcases hq with ⟨h52, rfl⟩ | ⟨h53, rfl⟩
  · exact ro_zret hC hr hk dX12_isSlot_9 rfl (Or.inl ⟨(iy64 (by decide) h52), rfl⟩)
  · exact ro_zret hC hr hk dX12_isSlot_9 rfl (Or.inr (⟨(in64 (by decide) h53), rfl⟩))
set_option maxRecDepth 20000 in
theorem c_X12_asksWalk (l : Launch) (D : va_G) (K : Nat → ClassId) (y : Nat → Nat) (fm : Nat → Int32) (hfm : ∀ j, j < 4 → fm j = -1) (p0 : Int32) (p1 : Int32) : Ro l D K yX12_asksWalk cX12_asksWalk 4 (some .int) 2 46 [.ref (y 0), .int p0, .int p1] (mdL K y fm) (fun r => r = (-2)) := by
  refine ro_of (by decide) (Nat.le_of_ble_eq_true rfl) ?_
  intro p e s m below meth c hC hr hk hE hP ls hl
  have hC : CallFix p m c cX12_asksWalk 4 s [.ref (y 0), .int p0, .int p1].toArray wl RX12 := hC
  have hx := hC.1
  have hb := hC.2.1
  have hml := hC.2.2.1
  have hown := hC.2.2.2.1
  have hts := hC.2.2.2.2
  have hl : lv_has ls 4 [(0, .ref (y 0)), (1, .int p0), (2, .int p1)] := hl
  refine lv_iload_n hx hb dX12_asksWalk_0 rfl (lv_at hl 1 rfl) ?_
  refine ro_S (As := [.int p0]) (rest := []) hC hE kS_X12_334 (c_X12_isSlot l D K p0) (hP.sub (ws' := []) [] rfl) rfl hl.1 rfl (Nat.le_of_ble_eq_true rfl) (by decide) (by decide) dX12_asksWalk_1 (fun r hq => ?_)
  rcases hq with ⟨h54, rfl⟩ | ⟨h55, rfl⟩
  · refine lv_if_eq (tgt := 15) hx hb dX12_asksWalk_4 (by decide) (fun h => absurd h (by decide)) (fun _ => ?_)
    refine lv_aload_n hx hb dX12_asksWalk_7 rfl (lv_at hl 0 rfl) ?_
    refine lv_iload_n hx hb dX12_asksWalk_8 rfl (lv_at hl 2 rfl) ?_
    refine ro_V (As := [.int p1]) (rest := []) hC hE kV_X12_310 (c_X12_isPupil l D K y fm hfm p1) hP 0 11 rfl rfl rfl hl.1 rfl (Nat.le_of_ble_eq_true rfl) (by decide) (by decide) dX12_asksWalk_9 (fun r hq => ?_)
    subst hq
    refine lv_if_ne (tgt := 18) hx hb dX12_asksWalk_12 (by decide) (fun h => absurd h (by decide)) (fun _ => ?_)
    refine lv_bipush (v := (-2)) hx hb dX12_asksWalk_15 (by decide) ?_
    exact ro_ret hC hr hk dX12_asksWalk_17 rfl
  · refine lv_if_eq (tgt := 15) hx hb dX12_asksWalk_4 (by decide) (fun _ => ?_) (fun h => absurd h (by decide))
    refine lv_bipush (v := (-2)) hx hb dX12_asksWalk_15 (by decide) ?_
    exact ro_ret hC hr hk dX12_asksWalk_17 rfl
set_option maxRecDepth 20000 in
theorem c_X12_asksRead (l : Launch) (D : va_G) (K : Nat → ClassId) (y : Nat → Nat) (fm : Nat → Int32) (hfm : ∀ j, j < 4 → fm j = -1) (p0 : Int32) : Ro l D K yX12_asksRead cX12_asksRead 3 (some .int) 2 45 [.ref (y 0), .int p0] (mdL K y fm) (fun r => r = (-2)) := by
  refine ro_of (by decide) (Nat.le_of_ble_eq_true rfl) ?_
  intro p e s m below meth c hC hr hk hE hP ls hl
  have hC : CallFix p m c cX12_asksRead 3 s [.ref (y 0), .int p0].toArray wl RX12 := hC
  have hx := hC.1
  have hb := hC.2.1
  have hml := hC.2.2.1
  have hown := hC.2.2.2.1
  have hts := hC.2.2.2.2
  have hl : lv_has ls 3 [(0, .ref (y 0)), (1, .int p0)] := hl
  refine lv_iload_n hx hb dX12_asksRead_0 rfl (lv_at hl 1 rfl) ?_
  refine ro_S (As := [.int p0]) (rest := []) hC hE kS_X12_334 (c_X12_isSlot l D K p0) (hP.sub (ws' := []) [] rfl) rfl hl.1 rfl (Nat.le_of_ble_eq_true rfl) (by decide) (by decide) dX12_asksRead_1 (fun r hq => ?_)
  rcases hq with ⟨h56, rfl⟩ | ⟨h57, rfl⟩
  · refine lv_if_eq (tgt := 14) hx hb dX12_asksRead_4 (by decide) (fun h => absurd h (by decide)) (fun _ => ?_)
    refine lv_aload_n hx hb dX12_asksRead_7 rfl (lv_at hl 0 rfl) ?_
    refine ro_V (As := []) (rest := []) hC hE kV_X12_125 (c_X12_isWood l D K y fm hfm) hP 0 11 rfl rfl rfl hl.1 rfl (Nat.le_of_ble_eq_true rfl) (by decide) (by decide) dX12_asksRead_8 (fun r hq => ?_)
    subst hq
    refine lv_if_ne (tgt := 17) hx hb dX12_asksRead_11 (by decide) (fun h => absurd h (by decide)) (fun _ => ?_)
    refine lv_bipush (v := (-2)) hx hb dX12_asksRead_14 (by decide) ?_
    exact ro_ret hC hr hk dX12_asksRead_16 rfl
  · refine lv_if_eq (tgt := 14) hx hb dX12_asksRead_4 (by decide) (fun _ => ?_) (fun h => absurd h (by decide))
    refine lv_bipush (v := (-2)) hx hb dX12_asksRead_14 (by decide) ?_
    exact ro_ret hC hr hk dX12_asksRead_16 rfl
set_option maxRecDepth 20000 in
theorem c_X12_isDrawn (l : Launch) (D : va_G) (K : Nat → ClassId) (y : Nat → Nat) (fm : Nat → Int32) (hfm : ∀ j, j < 4 → fm j = -1) (p0 : Int32) (p1 : Int32) (p2 : Int32) : Ro l D K yX12_isDrawn cX12_isDrawn 4 (some .boolean) 2 46 [.ref (y 0), .int p0, .int p1, .int p2] (mdL K y fm) (fun r => r = 0) := by
  refine ro_of (by decide) (Nat.le_of_ble_eq_true rfl) ?_
  intro p e s m below meth c hC hr hk hE hP ls hl
  have hC : CallFix p m c cX12_isDrawn 4 s [.ref (y 0), .int p0, .int p1, .int p2].toArray wl RX12 := hC
  have hx := hC.1
  have hb := hC.2.1
  have hml := hC.2.2.1
  have hown := hC.2.2.2.1
  have hts := hC.2.2.2.2
  have hl : lv_has ls 4 [(0, .ref (y 0)), (1, .int p0), (2, .int p1), (3, .int p2)] := hl
  refine lv_iload_n hx hb dX12_isDrawn_0 rfl (lv_at hl 1 rfl) ?_
  refine lv_i2l (v := p0.toInt64) hx hb dX12_isDrawn_1 rfl ?_
  refine lv_lconst (v := 0) hx hb dX12_isDrawn_2 (by decide) ?_
  refine lv_ldc2 (v := 2000000000) hx hb hown (hts _ w_215) dX12_isDrawn_3 ?_
  refine ro_S (As := [.long p0.toInt64, .long 0, .long 2000000000]) (rest := []) hC hE kS_X12_115 (c_X12_in l D K p0.toInt64 0 2000000000) (hP.sub (ws' := []) [] rfl) rfl hl.1 rfl (Nat.le_of_ble_eq_true rfl) (by decide) (by decide) dX12_isDrawn_6 (fun r hq => ?_)
  rcases hq with ⟨h58, rfl⟩ | ⟨h59, rfl⟩
  · refine lv_if_eq (tgt := 36) hx hb dX12_isDrawn_9 (by decide) (fun h => absurd h (by decide)) (fun _ => ?_)
    refine lv_aload_n hx hb dX12_isDrawn_12 rfl (lv_at hl 0 rfl) ?_
    refine lv_iload_n hx hb dX12_isDrawn_13 rfl (lv_at hl 2 rfl) ?_
    refine ro_V (As := [.int p1]) (rest := []) hC hE kV_X12_310 (c_X12_isPupil l D K y fm hfm p1) hP 0 11 rfl rfl rfl hl.1 rfl (Nat.le_of_ble_eq_true rfl) (by decide) (by decide) dX12_isDrawn_14 (fun r hq => ?_)
    subst hq
    refine lv_if_eq (tgt := 36) hx hb dX12_isDrawn_17 (by decide) (fun _ => ?_) (fun h => absurd h (by decide))
    refine lv_iconst (v := 0) hx hb dX12_isDrawn_36 (by decide) ?_
    exact ro_zret hC hr hk dX12_isDrawn_37 rfl rfl
  · refine lv_if_eq (tgt := 36) hx hb dX12_isDrawn_9 (by decide) (fun _ => ?_) (fun h => absurd h (by decide))
    refine lv_iconst (v := 0) hx hb dX12_isDrawn_36 (by decide) ?_
    exact ro_zret hC hr hk dX12_isDrawn_37 rfl rfl
set_option maxRecDepth 20000 in
theorem c_X12_leads (l : Launch) (D : va_G) (K : Nat → ClassId) (y : Nat → Nat) (fm : Nat → Int32) (hfm : ∀ j, j < 4 → fm j = -1) (p0 : Int32) (p1 : Int32) : Ro l D K yX12_leads cX12_leads 3 (some .int) 2 47 [.ref (y 0), .int p0, .int p1] (mdL K y fm) (fun r => r = (-2)) := by
  refine ro_of (by decide) (Nat.le_of_ble_eq_true rfl) ?_
  intro p e s m below meth c hC hr hk hE hP ls hl
  have hC : CallFix p m c cX12_leads 3 s [.ref (y 0), .int p0, .int p1].toArray wl RX12 := hC
  have hx := hC.1
  have hb := hC.2.1
  have hml := hC.2.2.1
  have hown := hC.2.2.2.1
  have hts := hC.2.2.2.2
  have hl : lv_has ls 3 [(0, .ref (y 0)), (1, .int p0), (2, .int p1)] := hl
  refine lv_aload_n hx hb dX12_leads_0 rfl (lv_at hl 0 rfl) ?_
  refine lv_iload_n hx hb dX12_leads_1 rfl (lv_at hl 1 rfl) ?_
  refine lv_i2l (v := p0.toInt64) hx hb dX12_leads_2 rfl ?_
  refine ro_V (As := [.long p0.toInt64]) (rest := []) hC hE kV_X12_119 (c_X12_isPlace l D K y fm hfm p0.toInt64) hP 0 11 rfl rfl rfl hl.1 rfl (Nat.le_of_ble_eq_true rfl) (by decide) (by decide) dX12_leads_3 (fun r hq => ?_)
  subst hq
  refine lv_if_eq (tgt := 26) hx hb dX12_leads_6 (by decide) (fun _ => ?_) (fun h => absurd h (by decide))
  refine lv_bipush (v := (-2)) hx hb dX12_leads_26 (by decide) ?_
  exact ro_ret hC hr hk dX12_leads_28 rfl
set_option maxRecDepth 20000 in
theorem c_X12_mark (l : Launch) (D : va_G) (K : Nat → ClassId) (y : Nat → Nat) (fm : Nat → Int32) (hfm : ∀ j, j < 4 → fm j = -1) (p0 : Int32) : Ro l D K yX12_mark cX12_mark 2 (some .int) 2 47 [.ref (y 0), .int p0] (mdL K y fm) (fun r => r = (-2)) := by
  refine ro_of (by decide) (Nat.le_of_ble_eq_true rfl) ?_
  intro p e s m below meth c hC hr hk hE hP ls hl
  have hC : CallFix p m c cX12_mark 2 s [.ref (y 0), .int p0].toArray wl RX12 := hC
  have hx := hC.1
  have hb := hC.2.1
  have hml := hC.2.2.1
  have hown := hC.2.2.2.1
  have hts := hC.2.2.2.2
  have hl : lv_has ls 2 [(0, .ref (y 0)), (1, .int p0)] := hl
  refine lv_aload_n hx hb dX12_mark_0 rfl (lv_at hl 0 rfl) ?_
  refine lv_iload_n hx hb dX12_mark_1 rfl (lv_at hl 1 rfl) ?_
  refine lv_i2l (v := p0.toInt64) hx hb dX12_mark_2 rfl ?_
  refine ro_V (As := [.long p0.toInt64]) (rest := []) hC hE kV_X12_119 (c_X12_isPlace l D K y fm hfm p0.toInt64) hP 0 11 rfl rfl rfl hl.1 rfl (Nat.le_of_ble_eq_true rfl) (by decide) (by decide) dX12_mark_3 (fun r hq => ?_)
  subst hq
  refine lv_if_eq (tgt := 17) hx hb dX12_mark_6 (by decide) (fun _ => ?_) (fun h => absurd h (by decide))
  refine lv_bipush (v := (-2)) hx hb dX12_mark_17 (by decide) ?_
  exact ro_ret hC hr hk dX12_mark_19 rfl
set_option maxRecDepth 20000 in
theorem c_X12_becomes (l : Launch) (D : va_G) (K : Nat → ClassId) (y : Nat → Nat) (fm : Nat → Int32) (hfm : ∀ j, j < 4 → fm j = -1) (p0 : Int32) (p1 : Int32) : Ro l D K yX12_becomes cX12_becomes 3 (some .int) 2 41 [.ref (y 0), .int p0, .int p1] (mdL K y fm) (fun r => r = (-2)) := by
  refine ro_of (by decide) (Nat.le_of_ble_eq_true rfl) ?_
  intro p e s m below meth c hC hr hk hE hP ls hl
  have hC : CallFix p m c cX12_becomes 3 s [.ref (y 0), .int p0, .int p1].toArray wl RX12 := hC
  have hx := hC.1
  have hb := hC.2.1
  have hml := hC.2.2.1
  have hown := hC.2.2.2.1
  have hts := hC.2.2.2.2
  have hl : lv_has ls 3 [(0, .ref (y 0)), (1, .int p0), (2, .int p1)] := hl
  refine lv_aload_n hx hb dX12_becomes_0 rfl (lv_at hl 0 rfl) ?_
  refine lv_iload_n hx hb dX12_becomes_1 rfl (lv_at hl 1 rfl) ?_
  refine ro_V (As := [.int p0]) (rest := []) hC hE kV_X12_282 (c_X12_isSet l D K y fm hfm p0) hP 0 11 rfl rfl rfl hl.1 rfl (Nat.le_of_ble_eq_true rfl) (by decide) (by decide) dX12_becomes_2 (fun r hq => ?_)
  subst hq
  refine lv_if_eq (tgt := 25) hx hb dX12_becomes_5 (by decide) (fun _ => ?_) (fun h => absurd h (by decide))
  refine lv_bipush (v := (-2)) hx hb dX12_becomes_25 (by decide) ?_
  exact ro_ret hC hr hk dX12_becomes_27 rfl
set_option maxRecDepth 20000 in
theorem c_X12_seen (l : Launch) (D : va_G) (K : Nat → ClassId) (y : Nat → Nat) (fm : Nat → Int32) (hfm : ∀ j, j < 4 → fm j = -1) (p0 : Int32) (p1 : Int32) : Ro l D K yX12_seen cX12_seen 3 (some .int) 2 41 [.ref (y 0), .int p0, .int p1] (mdL K y fm) (fun r => r = (-2)) := by
  refine ro_of (by decide) (Nat.le_of_ble_eq_true rfl) ?_
  intro p e s m below meth c hC hr hk hE hP ls hl
  have hC : CallFix p m c cX12_seen 3 s [.ref (y 0), .int p0, .int p1].toArray wl RX12 := hC
  have hx := hC.1
  have hb := hC.2.1
  have hml := hC.2.2.1
  have hown := hC.2.2.2.1
  have hts := hC.2.2.2.2
  have hl : lv_has ls 3 [(0, .ref (y 0)), (1, .int p0), (2, .int p1)] := hl
  refine lv_aload_n hx hb dX12_seen_0 rfl (lv_at hl 0 rfl) ?_
  refine lv_iload_n hx hb dX12_seen_1 rfl (lv_at hl 1 rfl) ?_
  refine ro_V (As := [.int p0]) (rest := []) hC hE kV_X12_282 (c_X12_isSet l D K y fm hfm p0) hP 0 11 rfl rfl rfl hl.1 rfl (Nat.le_of_ble_eq_true rfl) (by decide) (by decide) dX12_seen_2 (fun r hq => ?_)
  subst hq
  refine lv_if_eq (tgt := 29) hx hb dX12_seen_5 (by decide) (fun _ => ?_) (fun h => absurd h (by decide))
  refine lv_bipush (v := (-2)) hx hb dX12_seen_29 (by decide) ?_
  exact ro_ret hC hr hk dX12_seen_31 rfl
set_option maxRecDepth 20000 in
theorem c_X12_where (l : Launch) (D : va_G) (K : Nat → ClassId) (y : Nat → Nat) (fm : Nat → Int32) (hfm : ∀ j, j < 4 → fm j = -1) (p0 : Int32) : Ro l D K yX12_where cX12_where 2 (some .int) 2 46 [.ref (y 0), .int p0] (mdL K y fm) (fun r => r = (-2)) := by
  refine ro_of (by decide) (Nat.le_of_ble_eq_true rfl) ?_
  intro p e s m below meth c hC hr hk hE hP ls hl
  have hC : CallFix p m c cX12_where 2 s [.ref (y 0), .int p0].toArray wl RX12 := hC
  have hx := hC.1
  have hb := hC.2.1
  have hml := hC.2.2.1
  have hown := hC.2.2.2.1
  have hts := hC.2.2.2.2
  have hl : lv_has ls 2 [(0, .ref (y 0)), (1, .int p0)] := hl
  refine lv_aload_n hx hb dX12_where_0 rfl (lv_at hl 0 rfl) ?_
  refine lv_iload_n hx hb dX12_where_1 rfl (lv_at hl 1 rfl) ?_
  refine ro_V (As := [.int p0]) (rest := []) hC hE kV_X12_310 (c_X12_isPupil l D K y fm hfm p0) hP 0 11 rfl rfl rfl hl.1 rfl (Nat.le_of_ble_eq_true rfl) (by decide) (by decide) dX12_where_2 (fun r hq => ?_)
  subst hq
  refine lv_if_eq (tgt := 16) hx hb dX12_where_5 (by decide) (fun _ => ?_) (fun h => absurd h (by decide))
  refine lv_bipush (v := (-2)) hx hb dX12_where_16 (by decide) ?_
  exact ro_ret hC hr hk dX12_where_18 rfl
set_option maxRecDepth 20000 in
theorem c_X12_thinks (l : Launch) (D : va_G) (K : Nat → ClassId) (y : Nat → Nat) (fm : Nat → Int32) (hfm : ∀ j, j < 4 → fm j = -1) (p0 : Int32) : Ro l D K yX12_thinks cX12_thinks 2 (some .int) 2 46 [.ref (y 0), .int p0] (mdL K y fm) (fun r => r = (-2)) := by
  refine ro_of (by decide) (Nat.le_of_ble_eq_true rfl) ?_
  intro p e s m below meth c hC hr hk hE hP ls hl
  have hC : CallFix p m c cX12_thinks 2 s [.ref (y 0), .int p0].toArray wl RX12 := hC
  have hx := hC.1
  have hb := hC.2.1
  have hml := hC.2.2.1
  have hown := hC.2.2.2.1
  have hts := hC.2.2.2.2
  have hl : lv_has ls 2 [(0, .ref (y 0)), (1, .int p0)] := hl
  refine lv_aload_n hx hb dX12_thinks_0 rfl (lv_at hl 0 rfl) ?_
  refine lv_iload_n hx hb dX12_thinks_1 rfl (lv_at hl 1 rfl) ?_
  refine ro_V (As := [.int p0]) (rest := []) hC hE kV_X12_310 (c_X12_isPupil l D K y fm hfm p0) hP 0 11 rfl rfl rfl hl.1 rfl (Nat.le_of_ble_eq_true rfl) (by decide) (by decide) dX12_thinks_2 (fun r hq => ?_)
  subst hq
  refine lv_if_eq (tgt := 16) hx hb dX12_thinks_5 (by decide) (fun _ => ?_) (fun h => absurd h (by decide))
  refine lv_bipush (v := (-2)) hx hb dX12_thinks_16 (by decide) ?_
  exact ro_ret hC hr hk dX12_thinks_18 rfl
set_option maxRecDepth 20000 in
theorem c_X12_pupil (l : Launch) (D : va_G) (K : Nat → ClassId) (y : Nat → Nat) (fm : Nat → Int32) (hfm : ∀ j, j < 4 → fm j = -1) (p0 : Int32) (p1 : Int32) : Ro l D K yX12_pupil cX12_pupil 3 (some .int) 2 46 [.ref (y 0), .int p0, .int p1] (mdL K y fm) (fun r => r = (-2)) := by
  refine ro_of (by decide) (Nat.le_of_ble_eq_true rfl) ?_
  intro p e s m below meth c hC hr hk hE hP ls hl
  have hC : CallFix p m c cX12_pupil 3 s [.ref (y 0), .int p0, .int p1].toArray wl RX12 := hC
  have hx := hC.1
  have hb := hC.2.1
  have hml := hC.2.2.1
  have hown := hC.2.2.2.1
  have hts := hC.2.2.2.2
  have hl : lv_has ls 3 [(0, .ref (y 0)), (1, .int p0), (2, .int p1)] := hl
  refine lv_aload_n hx hb dX12_pupil_0 rfl (lv_at hl 0 rfl) ?_
  refine lv_iload_n hx hb dX12_pupil_1 rfl (lv_at hl 1 rfl) ?_
  refine ro_V (As := [.int p0]) (rest := []) hC hE kV_X12_310 (c_X12_isPupil l D K y fm hfm p0) hP 0 11 rfl rfl rfl hl.1 rfl (Nat.le_of_ble_eq_true rfl) (by decide) (by decide) dX12_pupil_2 (fun r hq => ?_)
  subst hq
  refine lv_if_eq (tgt := 20) hx hb dX12_pupil_5 (by decide) (fun _ => ?_) (fun h => absurd h (by decide))
  refine lv_bipush (v := (-2)) hx hb dX12_pupil_20 (by decide) ?_
  exact ro_ret hC hr hk dX12_pupil_22 rfl
set_option maxRecDepth 20000 in
theorem c_X12_goes (l : Launch) (D : va_G) (K : Nat → ClassId) (y : Nat → Nat) (fm : Nat → Int32) (hfm : ∀ j, j < 4 → fm j = -1) (p0 : Int32) (p1 : Int32) : Ro l D K yX12_goes cX12_goes 4 (some .int) 2 46 [.ref (y 0), .int p0, .int p1] (mdL K y fm) (fun r => r = (-2)) := by
  refine ro_of (by decide) (Nat.le_of_ble_eq_true rfl) ?_
  intro p e s m below meth c hC hr hk hE hP ls hl
  have hC : CallFix p m c cX12_goes 4 s [.ref (y 0), .int p0, .int p1].toArray wl RX12 := hC
  have hx := hC.1
  have hb := hC.2.1
  have hml := hC.2.2.1
  have hown := hC.2.2.2.1
  have hts := hC.2.2.2.2
  have hl : lv_has ls 4 [(0, .ref (y 0)), (1, .int p0), (2, .int p1)] := hl
  refine lv_aload_n hx hb dX12_goes_0 rfl (lv_at hl 0 rfl) ?_
  refine lv_iload_n hx hb dX12_goes_1 rfl (lv_at hl 1 rfl) ?_
  refine ro_V (As := [.int p0]) (rest := []) hC hE kV_X12_310 (c_X12_isPupil l D K y fm hfm p0) hP 0 11 rfl rfl rfl hl.1 rfl (Nat.le_of_ble_eq_true rfl) (by decide) (by decide) dX12_goes_2 (fun r hq => ?_)
  subst hq
  refine lv_if_eq (tgt := 16) hx hb dX12_goes_5 (by decide) (fun _ => ?_) (fun h => absurd h (by decide))
  refine lv_bipush (v := (-2)) hx hb dX12_goes_16 (by decide) ?_
  exact ro_ret hC hr hk dX12_goes_18 rfl
set_option maxRecDepth 20000 in
theorem c_X12_most (l : Launch) (D : va_G) (K : Nat → ClassId) (y : Nat → Nat) (fm : Nat → Int32) (hfm : ∀ j, j < 4 → fm j = -1) : Ro l D K yX12_most cX12_most 5 (some .int) 1 20 [.ref (y 0)] (mdL K y fm) (fun r => r = (-2)) := by
  refine ro_of (by decide) (Nat.le_of_ble_eq_true rfl) ?_
  intro p e s m below meth c hC hr hk hE hP ls hl
  have hC : CallFix p m c cX12_most 5 s [.ref (y 0)].toArray wl RX12 := hC
  have hx := hC.1
  have hb := hC.2.1
  have hml := hC.2.2.1
  have hown := hC.2.2.2.1
  have hts := hC.2.2.2.2
  have hl : lv_has ls 5 [(0, .ref (y 0))] := hl
  refine lv_aload_n hx hb dX12_most_0 rfl (lv_at hl 0 rfl) ?_
  refine ro_V (As := []) (rest := []) hC hE kV_X12_125 (c_X12_isWood l D K y fm hfm) hP 0 11 rfl rfl rfl hl.1 rfl (Nat.le_of_ble_eq_true rfl) (by decide) (by decide) dX12_most_1 (fun r hq => ?_)
  subst hq
  refine lv_if_ne (tgt := 10) hx hb dX12_most_4 (by decide) (fun h => absurd h (by decide)) (fun _ => ?_)
  refine lv_bipush (v := (-2)) hx hb dX12_most_7 (by decide) ?_
  exact ro_ret hC hr hk dX12_most_9 rfl
set_option maxRecDepth 20000 in
theorem c_X12_who (l : Launch) (D : va_G) (K : Nat → ClassId) (y : Nat → Nat) (fm : Nat → Int32) (hfm : ∀ j, j < 4 → fm j = -1) (p0 : Int32) : Ro l D K yX12_who cX12_who 4 (some .int) 1 20 [.ref (y 0), .int p0] (mdL K y fm) (fun r => r = (-2)) := by
  refine ro_of (by decide) (Nat.le_of_ble_eq_true rfl) ?_
  intro p e s m below meth c hC hr hk hE hP ls hl
  have hC : CallFix p m c cX12_who 4 s [.ref (y 0), .int p0].toArray wl RX12 := hC
  have hx := hC.1
  have hb := hC.2.1
  have hml := hC.2.2.1
  have hown := hC.2.2.2.1
  have hts := hC.2.2.2.2
  have hl : lv_has ls 4 [(0, .ref (y 0)), (1, .int p0)] := hl
  refine lv_aload_n hx hb dX12_who_0 rfl (lv_at hl 0 rfl) ?_
  refine ro_V (As := []) (rest := []) hC hE kV_X12_125 (c_X12_isWood l D K y fm hfm) hP 0 11 rfl rfl rfl hl.1 rfl (Nat.le_of_ble_eq_true rfl) (by decide) (by decide) dX12_who_1 (fun r hq => ?_)
  subst hq
  refine lv_if_eq (tgt := 17) hx hb dX12_who_4 (by decide) (fun _ => ?_) (fun h => absurd h (by decide))
  refine lv_bipush (v := (-2)) hx hb dX12_who_17 (by decide) ?_
  exact ro_ret hC hr hk dX12_who_19 rfl
set_option maxRecDepth 20000 in
theorem c_X12_undo (l : Launch) (D : va_G) (K : Nat → ClassId) (y : Nat → Nat) (fm : Nat → Int32) (hfm : ∀ j, j < 4 → fm j = -1) : Ro l D K yX12_undo cX12_undo 1 (some .int) 1 20 [.ref (y 0)] (mdL K y fm) (fun r => r = (-2)) := by
  refine ro_of (by decide) (Nat.le_of_ble_eq_true rfl) ?_
  intro p e s m below meth c hC hr hk hE hP ls hl
  have hC : CallFix p m c cX12_undo 1 s [.ref (y 0)].toArray wl RX12 := hC
  have hx := hC.1
  have hb := hC.2.1
  have hml := hC.2.2.1
  have hown := hC.2.2.2.1
  have hts := hC.2.2.2.2
  have hl : lv_has ls 1 [(0, .ref (y 0))] := hl
  refine lv_aload_n hx hb dX12_undo_0 rfl (lv_at hl 0 rfl) ?_
  refine ro_V (As := []) (rest := []) hC hE kV_X12_125 (c_X12_isWood l D K y fm hfm) hP 0 11 rfl rfl rfl hl.1 rfl (Nat.le_of_ble_eq_true rfl) (by decide) (by decide) dX12_undo_1 (fun r hq => ?_)
  subst hq
  refine lv_if_ne (tgt := 10) hx hb dX12_undo_4 (by decide) (fun h => absurd h (by decide)) (fun _ => ?_)
  refine lv_bipush (v := (-2)) hx hb dX12_undo_7 (by decide) ?_
  exact ro_ret hC hr hk dX12_undo_9 rfl
set_option maxRecDepth 20000 in
theorem c_X12_anew (l : Launch) (D : va_G) (K : Nat → ClassId) (y : Nat → Nat) (fm : Nat → Int32) (hfm : ∀ j, j < 4 → fm j = -1) : Ro l D K yX12_anew cX12_anew 2 (some .int) 1 20 [.ref (y 0)] (mdL K y fm) (fun r => r = (-2)) := by
  refine ro_of (by decide) (Nat.le_of_ble_eq_true rfl) ?_
  intro p e s m below meth c hC hr hk hE hP ls hl
  have hC : CallFix p m c cX12_anew 2 s [.ref (y 0)].toArray wl RX12 := hC
  have hx := hC.1
  have hb := hC.2.1
  have hml := hC.2.2.1
  have hown := hC.2.2.2.1
  have hts := hC.2.2.2.2
  have hl : lv_has ls 2 [(0, .ref (y 0))] := hl
  refine lv_aload_n hx hb dX12_anew_0 rfl (lv_at hl 0 rfl) ?_
  refine ro_V (As := []) (rest := []) hC hE kV_X12_125 (c_X12_isWood l D K y fm hfm) hP 0 11 rfl rfl rfl hl.1 rfl (Nat.le_of_ble_eq_true rfl) (by decide) (by decide) dX12_anew_1 (fun r hq => ?_)
  subst hq
  refine lv_if_ne (tgt := 10) hx hb dX12_anew_4 (by decide) (fun h => absurd h (by decide)) (fun _ => ?_)
  refine lv_bipush (v := (-2)) hx hb dX12_anew_7 (by decide) ?_
  exact ro_ret hC hr hk dX12_anew_9 rfl
set_option maxRecDepth 20000 in
theorem c_X12_would (l : Launch) (D : va_G) (K : Nat → ClassId) (y : Nat → Nat) (fm : Nat → Int32) (hfm : ∀ j, j < 4 → fm j = -1) (p0 : Int32) (p1 : Int32) : Ro l D K yX12_would cX12_would 4 (some .int) 3 69 [.ref (y 0), .int p0, .int p1] (mdL K y fm) (fun r => r = (-2)) := by
  refine ro_of (by decide) (Nat.le_of_ble_eq_true rfl) ?_
  intro p e s m below meth c hC hr hk hE hP ls hl
  have hC : CallFix p m c cX12_would 4 s [.ref (y 0), .int p0, .int p1].toArray wl RX12 := hC
  have hx := hC.1
  have hb := hC.2.1
  have hml := hC.2.2.1
  have hown := hC.2.2.2.1
  have hts := hC.2.2.2.2
  have hl : lv_has ls 4 [(0, .ref (y 0)), (1, .int p0), (2, .int p1)] := hl
  refine lv_aload_n hx hb dX12_would_0 rfl (lv_at hl 0 rfl) ?_
  refine lv_iload_n hx hb dX12_would_1 rfl (lv_at hl 1 rfl) ?_
  refine lv_iload_n hx hb dX12_would_2 rfl (lv_at hl 2 rfl) ?_
  refine ro_V (As := [.int p0, .int p1]) (rest := []) hC hE kV_X12_353 (c_X12_asksWalk l D K y fm hfm p0 p1) hP 0 11 rfl rfl rfl hl.1 rfl (Nat.le_of_ble_eq_true rfl) (by decide) (by decide) dX12_would_3 (fun r hq => ?_)
  subst hq
  refine lv_istore_n (lv' := [(3, .int (-2)), (0, .ref (y 0)), (1, .int p0), (2, .int p1)]) hx hb dX12_would_6 rfl hl (by decide) rfl (fun ls hl => ?_)
  refine lv_iload_n hx hb dX12_would_7 rfl (lv_at hl 0 rfl) ?_
  refine lv_if_ge (tgt := 13) hx hb dX12_would_8 (by decide) (fun h => absurd h (by decide)) (fun _ => ?_)
  refine lv_iload_n hx hb dX12_would_11 rfl (lv_at hl 0 rfl) ?_
  exact ro_ret hC hr hk dX12_would_12 rfl
set_option maxRecDepth 20000 in
theorem c_X12_think (l : Launch) (D : va_G) (K : Nat → ClassId) (y : Nat → Nat) (fm : Nat → Int32) (hfm : ∀ j, j < 4 → fm j = -1) (p0 : Int32) (p1 : Int32) : Ro l D K yX12_think cX12_think 4 (some .int) 3 69 [.ref (y 0), .int p0, .int p1] (mdL K y fm) (fun r => r = (-2)) := by
  refine ro_of (by decide) (Nat.le_of_ble_eq_true rfl) ?_
  intro p e s m below meth c hC hr hk hE hP ls hl
  have hC : CallFix p m c cX12_think 4 s [.ref (y 0), .int p0, .int p1].toArray wl RX12 := hC
  have hx := hC.1
  have hb := hC.2.1
  have hml := hC.2.2.1
  have hown := hC.2.2.2.1
  have hts := hC.2.2.2.2
  have hl : lv_has ls 4 [(0, .ref (y 0)), (1, .int p0), (2, .int p1)] := hl
  refine lv_aload_n hx hb dX12_think_0 rfl (lv_at hl 0 rfl) ?_
  refine lv_iload_n hx hb dX12_think_1 rfl (lv_at hl 1 rfl) ?_
  refine lv_iload_n hx hb dX12_think_2 rfl (lv_at hl 2 rfl) ?_
  refine ro_V (As := [.int p0, .int p1]) (rest := []) hC hE kV_X12_353 (c_X12_asksWalk l D K y fm hfm p0 p1) hP 0 11 rfl rfl rfl hl.1 rfl (Nat.le_of_ble_eq_true rfl) (by decide) (by decide) dX12_think_3 (fun r hq => ?_)
  subst hq
  refine lv_istore_n (lv' := [(3, .int (-2)), (0, .ref (y 0)), (1, .int p0), (2, .int p1)]) hx hb dX12_think_6 rfl hl (by decide) rfl (fun ls hl => ?_)
  refine lv_iload_n hx hb dX12_think_7 rfl (lv_at hl 0 rfl) ?_
  refine lv_if_ge (tgt := 13) hx hb dX12_think_8 (by decide) (fun h => absurd h (by decide)) (fun _ => ?_)
  refine lv_iload_n hx hb dX12_think_11 rfl (lv_at hl 0 rfl) ?_
  exact ro_ret hC hr hk dX12_think_12 rfl
set_option maxRecDepth 20000 in
theorem c_X12_knows (l : Launch) (D : va_G) (K : Nat → ClassId) (y : Nat → Nat) (fm : Nat → Int32) (hfm : ∀ j, j < 4 → fm j = -1) (p0 : Int32) (p1 : Int32) : Ro l D K yX12_knows cX12_knows 4 (some .int) 3 69 [.ref (y 0), .int p0, .int p1] (mdL K y fm) (fun r => r = (-2)) := by
  refine ro_of (by decide) (Nat.le_of_ble_eq_true rfl) ?_
  intro p e s m below meth c hC hr hk hE hP ls hl
  have hC : CallFix p m c cX12_knows 4 s [.ref (y 0), .int p0, .int p1].toArray wl RX12 := hC
  have hx := hC.1
  have hb := hC.2.1
  have hml := hC.2.2.1
  have hown := hC.2.2.2.1
  have hts := hC.2.2.2.2
  have hl : lv_has ls 4 [(0, .ref (y 0)), (1, .int p0), (2, .int p1)] := hl
  refine lv_aload_n hx hb dX12_knows_0 rfl (lv_at hl 0 rfl) ?_
  refine lv_iload_n hx hb dX12_knows_1 rfl (lv_at hl 1 rfl) ?_
  refine lv_iload_n hx hb dX12_knows_2 rfl (lv_at hl 2 rfl) ?_
  refine ro_V (As := [.int p0, .int p1]) (rest := []) hC hE kV_X12_353 (c_X12_asksWalk l D K y fm hfm p0 p1) hP 0 11 rfl rfl rfl hl.1 rfl (Nat.le_of_ble_eq_true rfl) (by decide) (by decide) dX12_knows_3 (fun r hq => ?_)
  subst hq
  refine lv_istore_n (lv' := [(3, .int (-2)), (0, .ref (y 0)), (1, .int p0), (2, .int p1)]) hx hb dX12_knows_6 rfl hl (by decide) rfl (fun ls hl => ?_)
  refine lv_iload_n hx hb dX12_knows_7 rfl (lv_at hl 0 rfl) ?_
  refine lv_if_ge (tgt := 13) hx hb dX12_knows_8 (by decide) (fun h => absurd h (by decide)) (fun _ => ?_)
  refine lv_iload_n hx hb dX12_knows_11 rfl (lv_at hl 0 rfl) ?_
  exact ro_ret hC hr hk dX12_knows_12 rfl
set_option maxRecDepth 20000 in
theorem c_X12_loses (l : Launch) (D : va_G) (K : Nat → ClassId) (y : Nat → Nat) (fm : Nat → Int32) (hfm : ∀ j, j < 4 → fm j = -1) (p0 : Int32) (p1 : Int32) : Ro l D K yX12_loses cX12_loses 4 (some .int) 3 69 [.ref (y 0), .int p0, .int p1] (mdL K y fm) (fun r => r = (-2)) := by
  refine ro_of (by decide) (Nat.le_of_ble_eq_true rfl) ?_
  intro p e s m below meth c hC hr hk hE hP ls hl
  have hC : CallFix p m c cX12_loses 4 s [.ref (y 0), .int p0, .int p1].toArray wl RX12 := hC
  have hx := hC.1
  have hb := hC.2.1
  have hml := hC.2.2.1
  have hown := hC.2.2.2.1
  have hts := hC.2.2.2.2
  have hl : lv_has ls 4 [(0, .ref (y 0)), (1, .int p0), (2, .int p1)] := hl
  refine lv_aload_n hx hb dX12_loses_0 rfl (lv_at hl 0 rfl) ?_
  refine lv_iload_n hx hb dX12_loses_1 rfl (lv_at hl 1 rfl) ?_
  refine lv_iload_n hx hb dX12_loses_2 rfl (lv_at hl 2 rfl) ?_
  refine ro_V (As := [.int p0, .int p1]) (rest := []) hC hE kV_X12_353 (c_X12_asksWalk l D K y fm hfm p0 p1) hP 0 11 rfl rfl rfl hl.1 rfl (Nat.le_of_ble_eq_true rfl) (by decide) (by decide) dX12_loses_3 (fun r hq => ?_)
  subst hq
  refine lv_istore_n (lv' := [(3, .int (-2)), (0, .ref (y 0)), (1, .int p0), (2, .int p1)]) hx hb dX12_loses_6 rfl hl (by decide) rfl (fun ls hl => ?_)
  refine lv_iload_n hx hb dX12_loses_7 rfl (lv_at hl 0 rfl) ?_
  refine lv_if_ge (tgt := 13) hx hb dX12_loses_8 (by decide) (fun h => absurd h (by decide)) (fun _ => ?_)
  refine lv_iload_n hx hb dX12_loses_11 rfl (lv_at hl 0 rfl) ?_
  exact ro_ret hC hr hk dX12_loses_12 rfl
set_option maxRecDepth 20000 in
theorem c_X12_doubts (l : Launch) (D : va_G) (K : Nat → ClassId) (y : Nat → Nat) (fm : Nat → Int32) (hfm : ∀ j, j < 4 → fm j = -1) (p0 : Int32) (p1 : Int32) : Ro l D K yX12_doubts cX12_doubts 4 (some .int) 3 69 [.ref (y 0), .int p0, .int p1] (mdL K y fm) (fun r => r = (-2)) := by
  refine ro_of (by decide) (Nat.le_of_ble_eq_true rfl) ?_
  intro p e s m below meth c hC hr hk hE hP ls hl
  have hC : CallFix p m c cX12_doubts 4 s [.ref (y 0), .int p0, .int p1].toArray wl RX12 := hC
  have hx := hC.1
  have hb := hC.2.1
  have hml := hC.2.2.1
  have hown := hC.2.2.2.1
  have hts := hC.2.2.2.2
  have hl : lv_has ls 4 [(0, .ref (y 0)), (1, .int p0), (2, .int p1)] := hl
  refine lv_aload_n hx hb dX12_doubts_0 rfl (lv_at hl 0 rfl) ?_
  refine lv_iload_n hx hb dX12_doubts_1 rfl (lv_at hl 1 rfl) ?_
  refine lv_iload_n hx hb dX12_doubts_2 rfl (lv_at hl 2 rfl) ?_
  refine ro_V (As := [.int p0, .int p1]) (rest := []) hC hE kV_X12_353 (c_X12_asksWalk l D K y fm hfm p0 p1) hP 0 11 rfl rfl rfl hl.1 rfl (Nat.le_of_ble_eq_true rfl) (by decide) (by decide) dX12_doubts_3 (fun r hq => ?_)
  subst hq
  refine lv_istore_n (lv' := [(3, .int (-2)), (0, .ref (y 0)), (1, .int p0), (2, .int p1)]) hx hb dX12_doubts_6 rfl hl (by decide) rfl (fun ls hl => ?_)
  refine lv_iload_n hx hb dX12_doubts_7 rfl (lv_at hl 0 rfl) ?_
  refine lv_if_ge (tgt := 13) hx hb dX12_doubts_8 (by decide) (fun h => absurd h (by decide)) (fun _ => ?_)
  refine lv_iload_n hx hb dX12_doubts_11 rfl (lv_at hl 0 rfl) ?_
  exact ro_ret hC hr hk dX12_doubts_12 rfl
set_option maxRecDepth 20000 in
theorem c_X12_blur (l : Launch) (D : va_G) (K : Nat → ClassId) (y : Nat → Nat) (fm : Nat → Int32) (hfm : ∀ j, j < 4 → fm j = -1) (p0 : Int32) (p1 : Int32) : Ro l D K yX12_blur cX12_blur 3 (some .int) 2 46 [.ref (y 0), .int p0, .int p1] (mdL K y fm) (fun r => r = (-2)) := by
  refine ro_of (by decide) (Nat.le_of_ble_eq_true rfl) ?_
  intro p e s m below meth c hC hr hk hE hP ls hl
  have hC : CallFix p m c cX12_blur 3 s [.ref (y 0), .int p0, .int p1].toArray wl RX12 := hC
  have hx := hC.1
  have hb := hC.2.1
  have hml := hC.2.2.1
  have hown := hC.2.2.2.1
  have hts := hC.2.2.2.2
  have hl : lv_has ls 3 [(0, .ref (y 0)), (1, .int p0), (2, .int p1)] := hl
  refine lv_aload_n hx hb dX12_blur_0 rfl (lv_at hl 0 rfl) ?_
  refine lv_iload_n hx hb dX12_blur_1 rfl (lv_at hl 1 rfl) ?_
  refine ro_V (As := [.int p0]) (rest := []) hC hE kV_X12_310 (c_X12_isPupil l D K y fm hfm p0) hP 0 11 rfl rfl rfl hl.1 rfl (Nat.le_of_ble_eq_true rfl) (by decide) (by decide) dX12_blur_2 (fun r hq => ?_)
  subst hq
  refine lv_if_eq (tgt := 27) hx hb dX12_blur_5 (by decide) (fun _ => ?_) (fun h => absurd h (by decide))
  refine lv_bipush (v := (-2)) hx hb dX12_blur_27 (by decide) ?_
  exact ro_ret hC hr hk dX12_blur_29 rfl
set_option maxRecDepth 20000 in
theorem c_X12_blurs (l : Launch) (D : va_G) (K : Nat → ClassId) (y : Nat → Nat) (fm : Nat → Int32) (hfm : ∀ j, j < 4 → fm j = -1) (p0 : Int32) (p1 : Int32) (p2 : Int32) : Ro l D K yX12_blurs cX12_blurs 4 (some .int) 2 46 [.ref (y 0), .int p0, .int p1, .int p2] (mdL K y fm) (fun r => r = (-2)) := by
  refine ro_of (by decide) (Nat.le_of_ble_eq_true rfl) ?_
  intro p e s m below meth c hC hr hk hE hP ls hl
  have hC : CallFix p m c cX12_blurs 4 s [.ref (y 0), .int p0, .int p1, .int p2].toArray wl RX12 := hC
  have hx := hC.1
  have hb := hC.2.1
  have hml := hC.2.2.1
  have hown := hC.2.2.2.1
  have hts := hC.2.2.2.2
  have hl : lv_has ls 4 [(0, .ref (y 0)), (1, .int p0), (2, .int p1), (3, .int p2)] := hl
  refine lv_aload_n hx hb dX12_blurs_0 rfl (lv_at hl 0 rfl) ?_
  refine lv_iload_n hx hb dX12_blurs_1 rfl (lv_at hl 1 rfl) ?_
  refine ro_V (As := [.int p0]) (rest := []) hC hE kV_X12_310 (c_X12_isPupil l D K y fm hfm p0) hP 0 11 rfl rfl rfl hl.1 rfl (Nat.le_of_ble_eq_true rfl) (by decide) (by decide) dX12_blurs_2 (fun r hq => ?_)
  subst hq
  refine lv_if_eq (tgt := 28) hx hb dX12_blurs_5 (by decide) (fun _ => ?_) (fun h => absurd h (by decide))
  refine lv_bipush (v := (-2)) hx hb dX12_blurs_28 (by decide) ?_
  exact ro_ret hC hr hk dX12_blurs_30 rfl
set_option maxRecDepth 20000 in
theorem c_X12_stray (l : Launch) (D : va_G) (K : Nat → ClassId) (y : Nat → Nat) (fm : Nat → Int32) (hfm : ∀ j, j < 4 → fm j = -1) (p0 : Int32) : Ro l D K yX12_stray cX12_stray 2 (some .int) 2 46 [.ref (y 0), .int p0] (mdL K y fm) (fun r => r = (-2)) := by
  refine ro_of (by decide) (Nat.le_of_ble_eq_true rfl) ?_
  intro p e s m below meth c hC hr hk hE hP ls hl
  have hC : CallFix p m c cX12_stray 2 s [.ref (y 0), .int p0].toArray wl RX12 := hC
  have hx := hC.1
  have hb := hC.2.1
  have hml := hC.2.2.1
  have hown := hC.2.2.2.1
  have hts := hC.2.2.2.2
  have hl : lv_has ls 2 [(0, .ref (y 0)), (1, .int p0)] := hl
  refine lv_aload_n hx hb dX12_stray_0 rfl (lv_at hl 0 rfl) ?_
  refine lv_iload_n hx hb dX12_stray_1 rfl (lv_at hl 1 rfl) ?_
  refine ro_V (As := [.int p0]) (rest := []) hC hE kV_X12_310 (c_X12_isPupil l D K y fm hfm p0) hP 0 11 rfl rfl rfl hl.1 rfl (Nat.le_of_ble_eq_true rfl) (by decide) (by decide) dX12_stray_2 (fun r hq => ?_)
  subst hq
  refine lv_if_eq (tgt := 22) hx hb dX12_stray_5 (by decide) (fun _ => ?_) (fun h => absurd h (by decide))
  refine lv_bipush (v := (-2)) hx hb dX12_stray_22 (by decide) ?_
  exact ro_ret hC hr hk dX12_stray_24 rfl
set_option maxRecDepth 20000 in
theorem c_X12_strays (l : Launch) (D : va_G) (K : Nat → ClassId) (y : Nat → Nat) (fm : Nat → Int32) (hfm : ∀ j, j < 4 → fm j = -1) (p0 : Int32) (p1 : Int32) : Ro l D K yX12_strays cX12_strays 3 (some .int) 2 46 [.ref (y 0), .int p0, .int p1] (mdL K y fm) (fun r => r = (-2)) := by
  refine ro_of (by decide) (Nat.le_of_ble_eq_true rfl) ?_
  intro p e s m below meth c hC hr hk hE hP ls hl
  have hC : CallFix p m c cX12_strays 3 s [.ref (y 0), .int p0, .int p1].toArray wl RX12 := hC
  have hx := hC.1
  have hb := hC.2.1
  have hml := hC.2.2.1
  have hown := hC.2.2.2.1
  have hts := hC.2.2.2.2
  have hl : lv_has ls 3 [(0, .ref (y 0)), (1, .int p0), (2, .int p1)] := hl
  refine lv_aload_n hx hb dX12_strays_0 rfl (lv_at hl 0 rfl) ?_
  refine lv_iload_n hx hb dX12_strays_1 rfl (lv_at hl 1 rfl) ?_
  refine ro_V (As := [.int p0]) (rest := []) hC hE kV_X12_310 (c_X12_isPupil l D K y fm hfm p0) hP 0 11 rfl rfl rfl hl.1 rfl (Nat.le_of_ble_eq_true rfl) (by decide) (by decide) dX12_strays_2 (fun r hq => ?_)
  subst hq
  refine lv_if_eq (tgt := 23) hx hb dX12_strays_5 (by decide) (fun _ => ?_) (fun h => absurd h (by decide))
  refine lv_bipush (v := (-2)) hx hb dX12_strays_23 (by decide) ?_
  exact ro_ret hC hr hk dX12_strays_25 rfl
set_option maxRecDepth 20000 in
theorem c_X12_home (l : Launch) (D : va_G) (K : Nat → ClassId) (y : Nat → Nat) (fm : Nat → Int32) (hfm : ∀ j, j < 4 → fm j = -1) (p0 : Int32) : Ro l D K yX12_home cX12_home 2 (some .int) 2 46 [.ref (y 0), .int p0] (mdL K y fm) (fun r => r = (-2)) := by
  refine ro_of (by decide) (Nat.le_of_ble_eq_true rfl) ?_
  intro p e s m below meth c hC hr hk hE hP ls hl
  have hC : CallFix p m c cX12_home 2 s [.ref (y 0), .int p0].toArray wl RX12 := hC
  have hx := hC.1
  have hb := hC.2.1
  have hml := hC.2.2.1
  have hown := hC.2.2.2.1
  have hts := hC.2.2.2.2
  have hl : lv_has ls 2 [(0, .ref (y 0)), (1, .int p0)] := hl
  refine lv_aload_n hx hb dX12_home_0 rfl (lv_at hl 0 rfl) ?_
  refine lv_iload_n hx hb dX12_home_1 rfl (lv_at hl 1 rfl) ?_
  refine ro_V (As := [.int p0]) (rest := []) hC hE kV_X12_310 (c_X12_isPupil l D K y fm hfm p0) hP 0 11 rfl rfl rfl hl.1 rfl (Nat.le_of_ble_eq_true rfl) (by decide) (by decide) dX12_home_2 (fun r hq => ?_)
  subst hq
  refine lv_if_eq (tgt := 22) hx hb dX12_home_5 (by decide) (fun _ => ?_) (fun h => absurd h (by decide))
  refine lv_bipush (v := (-2)) hx hb dX12_home_22 (by decide) ?_
  exact ro_ret hC hr hk dX12_home_24 rfl
set_option maxRecDepth 20000 in
theorem c_X12_homes (l : Launch) (D : va_G) (K : Nat → ClassId) (y : Nat → Nat) (fm : Nat → Int32) (hfm : ∀ j, j < 4 → fm j = -1) (p0 : Int32) (p1 : Int32) : Ro l D K yX12_homes cX12_homes 3 (some .int) 2 46 [.ref (y 0), .int p0, .int p1] (mdL K y fm) (fun r => r = (-2)) := by
  refine ro_of (by decide) (Nat.le_of_ble_eq_true rfl) ?_
  intro p e s m below meth c hC hr hk hE hP ls hl
  have hC : CallFix p m c cX12_homes 3 s [.ref (y 0), .int p0, .int p1].toArray wl RX12 := hC
  have hx := hC.1
  have hb := hC.2.1
  have hml := hC.2.2.1
  have hown := hC.2.2.2.1
  have hts := hC.2.2.2.2
  have hl : lv_has ls 3 [(0, .ref (y 0)), (1, .int p0), (2, .int p1)] := hl
  refine lv_aload_n hx hb dX12_homes_0 rfl (lv_at hl 0 rfl) ?_
  refine lv_iload_n hx hb dX12_homes_1 rfl (lv_at hl 1 rfl) ?_
  refine ro_V (As := [.int p0]) (rest := []) hC hE kV_X12_310 (c_X12_isPupil l D K y fm hfm p0) hP 0 11 rfl rfl rfl hl.1 rfl (Nat.le_of_ble_eq_true rfl) (by decide) (by decide) dX12_homes_2 (fun r hq => ?_)
  subst hq
  refine lv_if_eq (tgt := 23) hx hb dX12_homes_5 (by decide) (fun _ => ?_) (fun h => absurd h (by decide))
  refine lv_bipush (v := (-2)) hx hb dX12_homes_23 (by decide) ?_
  exact ro_ret hC hr hk dX12_homes_25 rfl
set_option maxRecDepth 20000 in
theorem c_X12_states (l : Launch) (D : va_G) (K : Nat → ClassId) (y : Nat → Nat) (fm : Nat → Int32) (hfm : ∀ j, j < 4 → fm j = -1) (p0 : Int32) : Ro l D K yX12_states cX12_states 2 (some .int) 2 46 [.ref (y 0), .int p0] (mdL K y fm) (fun r => r = (-2)) := by
  refine ro_of (by decide) (Nat.le_of_ble_eq_true rfl) ?_
  intro p e s m below meth c hC hr hk hE hP ls hl
  have hC : CallFix p m c cX12_states 2 s [.ref (y 0), .int p0].toArray wl RX12 := hC
  have hx := hC.1
  have hb := hC.2.1
  have hml := hC.2.2.1
  have hown := hC.2.2.2.1
  have hts := hC.2.2.2.2
  have hl : lv_has ls 2 [(0, .ref (y 0)), (1, .int p0)] := hl
  refine lv_aload_n hx hb dX12_states_0 rfl (lv_at hl 0 rfl) ?_
  refine lv_iload_n hx hb dX12_states_1 rfl (lv_at hl 1 rfl) ?_
  refine ro_V (As := [.int p0]) (rest := []) hC hE kV_X12_310 (c_X12_isPupil l D K y fm hfm p0) hP 0 11 rfl rfl rfl hl.1 rfl (Nat.le_of_ble_eq_true rfl) (by decide) (by decide) dX12_states_2 (fun r hq => ?_)
  subst hq
  refine lv_if_ne (tgt := 11) hx hb dX12_states_5 (by decide) (fun h => absurd h (by decide)) (fun _ => ?_)
  refine lv_bipush (v := (-2)) hx hb dX12_states_8 (by decide) ?_
  exact ro_ret hC hr hk dX12_states_10 rfl
set_option maxRecDepth 20000 in
theorem c_X12_plan (l : Launch) (D : va_G) (K : Nat → ClassId) (y : Nat → Nat) (fm : Nat → Int32) (hfm : ∀ j, j < 4 → fm j = -1) (p0 : Int32) : Ro l D K yX12_plan cX12_plan 3 (some .int) 2 41 [.ref (y 0), .int p0] (mdL K y fm) (fun r => r = (-2)) := by
  refine ro_of (by decide) (Nat.le_of_ble_eq_true rfl) ?_
  intro p e s m below meth c hC hr hk hE hP ls hl
  have hC : CallFix p m c cX12_plan 3 s [.ref (y 0), .int p0].toArray wl RX12 := hC
  have hx := hC.1
  have hb := hC.2.1
  have hml := hC.2.2.1
  have hown := hC.2.2.2.1
  have hts := hC.2.2.2.2
  have hl : lv_has ls 3 [(0, .ref (y 0)), (1, .int p0)] := hl
  refine lv_aload_n hx hb dX12_plan_0 rfl (lv_at hl 0 rfl) ?_
  refine lv_iload_n hx hb dX12_plan_1 rfl (lv_at hl 1 rfl) ?_
  refine ro_V (As := [.int p0]) (rest := []) hC hE kV_X12_282 (c_X12_isSet l D K y fm hfm p0) hP 0 11 rfl rfl rfl hl.1 rfl (Nat.le_of_ble_eq_true rfl) (by decide) (by decide) dX12_plan_2 (fun r hq => ?_)
  subst hq
  refine lv_if_ne (tgt := 11) hx hb dX12_plan_5 (by decide) (fun h => absurd h (by decide)) (fun _ => ?_)
  refine lv_bipush (v := (-2)) hx hb dX12_plan_8 (by decide) ?_
  exact ro_ret hC hr hk dX12_plan_10 rfl
set_option maxRecDepth 20000 in
theorem c_X12_first (l : Launch) (D : va_G) (K : Nat → ClassId) (y : Nat → Nat) (fm : Nat → Int32) (hfm : ∀ j, j < 4 → fm j = -1) (p0 : Int32) : Ro l D K yX12_first cX12_first 3 (some .int) 2 41 [.ref (y 0), .int p0] (mdL K y fm) (fun r => r = (-2)) := by
  refine ro_of (by decide) (Nat.le_of_ble_eq_true rfl) ?_
  intro p e s m below meth c hC hr hk hE hP ls hl
  have hC : CallFix p m c cX12_first 3 s [.ref (y 0), .int p0].toArray wl RX12 := hC
  have hx := hC.1
  have hb := hC.2.1
  have hml := hC.2.2.1
  have hown := hC.2.2.2.1
  have hts := hC.2.2.2.2
  have hl : lv_has ls 3 [(0, .ref (y 0)), (1, .int p0)] := hl
  refine lv_aload_n hx hb dX12_first_0 rfl (lv_at hl 0 rfl) ?_
  refine lv_iload_n hx hb dX12_first_1 rfl (lv_at hl 1 rfl) ?_
  refine ro_V (As := [.int p0]) (rest := []) hC hE kV_X12_282 (c_X12_isSet l D K y fm hfm p0) hP 0 11 rfl rfl rfl hl.1 rfl (Nat.le_of_ble_eq_true rfl) (by decide) (by decide) dX12_first_2 (fun r hq => ?_)
  subst hq
  refine lv_if_ne (tgt := 11) hx hb dX12_first_5 (by decide) (fun h => absurd h (by decide)) (fun _ => ?_)
  refine lv_bipush (v := (-2)) hx hb dX12_first_8 (by decide) ?_
  exact ro_ret hC hr hk dX12_first_10 rfl
set_option maxRecDepth 20000 in
theorem c_X12_hardest (l : Launch) (D : va_G) (K : Nat → ClassId) (y : Nat → Nat) (fm : Nat → Int32) (hfm : ∀ j, j < 4 → fm j = -1) : Ro l D K yX12_hardest cX12_hardest 5 (some .int) 1 20 [.ref (y 0)] (mdL K y fm) (fun r => r = (-2)) := by
  refine ro_of (by decide) (Nat.le_of_ble_eq_true rfl) ?_
  intro p e s m below meth c hC hr hk hE hP ls hl
  have hC : CallFix p m c cX12_hardest 5 s [.ref (y 0)].toArray wl RX12 := hC
  have hx := hC.1
  have hb := hC.2.1
  have hml := hC.2.2.1
  have hown := hC.2.2.2.1
  have hts := hC.2.2.2.2
  have hl : lv_has ls 5 [(0, .ref (y 0))] := hl
  refine lv_aload_n hx hb dX12_hardest_0 rfl (lv_at hl 0 rfl) ?_
  refine ro_V (As := []) (rest := []) hC hE kV_X12_125 (c_X12_isWood l D K y fm hfm) hP 0 11 rfl rfl rfl hl.1 rfl (Nat.le_of_ble_eq_true rfl) (by decide) (by decide) dX12_hardest_1 (fun r hq => ?_)
  subst hq
  refine lv_if_ne (tgt := 10) hx hb dX12_hardest_4 (by decide) (fun h => absurd h (by decide)) (fun _ => ?_)
  refine lv_bipush (v := (-2)) hx hb dX12_hardest_7 (by decide) ?_
  exact ro_ret hC hr hk dX12_hardest_9 rfl
set_option maxRecDepth 20000 in
theorem c_X12_alike (l : Launch) (D : va_G) (K : Nat → ClassId) (y : Nat → Nat) (fm : Nat → Int32) (hfm : ∀ j, j < 4 → fm j = -1) (p0 : Int32) (p1 : Int32) : Ro l D K yX12_alike cX12_alike 3 (some .int) 3 69 [.ref (y 0), .int p0, .int p1] (mdL K y fm) (fun r => r = (-2)) := by
  refine ro_of (by decide) (Nat.le_of_ble_eq_true rfl) ?_
  intro p e s m below meth c hC hr hk hE hP ls hl
  have hC : CallFix p m c cX12_alike 3 s [.ref (y 0), .int p0, .int p1].toArray wl RX12 := hC
  have hx := hC.1
  have hb := hC.2.1
  have hml := hC.2.2.1
  have hown := hC.2.2.2.1
  have hts := hC.2.2.2.2
  have hl : lv_has ls 3 [(0, .ref (y 0)), (1, .int p0), (2, .int p1)] := hl
  refine lv_aload_n hx hb dX12_alike_0 rfl (lv_at hl 0 rfl) ?_
  refine lv_iload_n hx hb dX12_alike_1 rfl (lv_at hl 1 rfl) ?_
  refine lv_iload_n hx hb dX12_alike_2 rfl (lv_at hl 2 rfl) ?_
  refine ro_V (As := [.int p0, .int p1]) (rest := []) hC hE kV_X12_394 (c_X12_areTwo l D K y fm hfm p0 p1) hP 0 11 rfl rfl rfl hl.1 rfl (Nat.le_of_ble_eq_true rfl) (by decide) (by decide) dX12_alike_3 (fun r hq => ?_)
  subst hq
  refine lv_if_ne (tgt := 12) hx hb dX12_alike_6 (by decide) (fun h => absurd h (by decide)) (fun _ => ?_)
  refine lv_bipush (v := (-2)) hx hb dX12_alike_9 (by decide) ?_
  exact ro_ret hC hr hk dX12_alike_11 rfl
end
section
set_option maxRecDepth 20000 in
theorem c_X12_kinds (l : Launch) (D : va_G) (K : Nat → ClassId) (y : Nat → Nat) (fm : Nat → Int32) (hfm : ∀ j, j < 4 → fm j = -1) : Ro l D K yX12_kinds cX12_kinds 1 (some .int) 1 20 [.ref (y 0)] (mdL K y fm) (fun r => r = (-2)) := by
  refine ro_of (by decide) (Nat.le_of_ble_eq_true rfl) ?_
  intro p e s m below meth c hC hr hk hE hP ls hl
  have hC : CallFix p m c cX12_kinds 1 s [.ref (y 0)].toArray wl RX12 := hC
  have hx := hC.1
  have hb := hC.2.1
  have hml := hC.2.2.1
  have hown := hC.2.2.2.1
  have hts := hC.2.2.2.2
  have hl : lv_has ls 1 [(0, .ref (y 0))] := hl
  refine lv_aload_n hx hb dX12_kinds_0 rfl (lv_at hl 0 rfl) ?_
  refine ro_V (As := []) (rest := []) hC hE kV_X12_125 (c_X12_isWood l D K y fm hfm) hP 0 11 rfl rfl rfl hl.1 rfl (Nat.le_of_ble_eq_true rfl) (by decide) (by decide) dX12_kinds_1 (fun r hq => ?_)
  subst hq
  refine lv_if_eq (tgt := 15) hx hb dX12_kinds_4 (by decide) (fun _ => ?_) (fun h => absurd h (by decide))
  refine lv_bipush (v := (-2)) hx hb dX12_kinds_15 (by decide) ?_
  exact ro_ret hC hr hk dX12_kinds_17 rfl
set_option maxRecDepth 20000 in
theorem c_X12_tells (l : Launch) (D : va_G) (K : Nat → ClassId) (y : Nat → Nat) (fm : Nat → Int32) (hfm : ∀ j, j < 4 → fm j = -1) (p0 : Int32) (p1 : Int32) : Ro l D K yX12_tells cX12_tells 4 (some .int) 3 69 [.ref (y 0), .int p0, .int p1] (mdL K y fm) (fun r => r = (-2)) := by
  refine ro_of (by decide) (Nat.le_of_ble_eq_true rfl) ?_
  intro p e s m below meth c hC hr hk hE hP ls hl
  have hC : CallFix p m c cX12_tells 4 s [.ref (y 0), .int p0, .int p1].toArray wl RX12 := hC
  have hx := hC.1
  have hb := hC.2.1
  have hml := hC.2.2.1
  have hown := hC.2.2.2.1
  have hts := hC.2.2.2.2
  have hl : lv_has ls 4 [(0, .ref (y 0)), (1, .int p0), (2, .int p1)] := hl
  refine lv_aload_n hx hb dX12_tells_0 rfl (lv_at hl 0 rfl) ?_
  refine lv_iload_n hx hb dX12_tells_1 rfl (lv_at hl 1 rfl) ?_
  refine lv_iload_n hx hb dX12_tells_2 rfl (lv_at hl 2 rfl) ?_
  refine ro_V (As := [.int p0, .int p1]) (rest := []) hC hE kV_X12_394 (c_X12_areTwo l D K y fm hfm p0 p1) hP 0 11 rfl rfl rfl hl.1 rfl (Nat.le_of_ble_eq_true rfl) (by decide) (by decide) dX12_tells_3 (fun r hq => ?_)
  subst hq
  refine lv_if_ne (tgt := 12) hx hb dX12_tells_6 (by decide) (fun h => absurd h (by decide)) (fun _ => ?_)
  refine lv_bipush (v := (-2)) hx hb dX12_tells_9 (by decide) ?_
  exact ro_ret hC hr hk dX12_tells_11 rfl
set_option maxRecDepth 20000 in
theorem c_X12_told_ (l : Launch) (D : va_G) (K : Nat → ClassId) (y : Nat → Nat) (fm : Nat → Int32) (hfm : ∀ j, j < 4 → fm j = -1) (p0 : Int32) (p1 : Int32) (p2 : Int32) : Ro l D K yX12_told_ cX12_told_ 5 (some .int) 3 69 [.ref (y 0), .int p0, .int p1, .int p2] (mdL K y fm) (fun r => r = (-2)) := by
  refine ro_of (by decide) (Nat.le_of_ble_eq_true rfl) ?_
  intro p e s m below meth c hC hr hk hE hP ls hl
  have hC : CallFix p m c cX12_told_ 5 s [.ref (y 0), .int p0, .int p1, .int p2].toArray wl RX12 := hC
  have hx := hC.1
  have hb := hC.2.1
  have hml := hC.2.2.1
  have hown := hC.2.2.2.1
  have hts := hC.2.2.2.2
  have hl : lv_has ls 5 [(0, .ref (y 0)), (1, .int p0), (2, .int p1), (3, .int p2)] := hl
  refine lv_aload_n hx hb dX12_told__0 rfl (lv_at hl 0 rfl) ?_
  refine lv_iload_n hx hb dX12_told__1 rfl (lv_at hl 1 rfl) ?_
  refine lv_iload_n hx hb dX12_told__2 rfl (lv_at hl 2 rfl) ?_
  refine ro_V (As := [.int p0, .int p1]) (rest := []) hC hE kV_X12_394 (c_X12_areTwo l D K y fm hfm p0 p1) hP 0 11 rfl rfl rfl hl.1 rfl (Nat.le_of_ble_eq_true rfl) (by decide) (by decide) dX12_told__3 (fun r hq => ?_)
  subst hq
  refine lv_if_ne (tgt := 12) hx hb dX12_told__6 (by decide) (fun h => absurd h (by decide)) (fun _ => ?_)
  refine lv_bipush (v := (-2)) hx hb dX12_told__9 (by decide) ?_
  exact ro_ret hC hr hk dX12_told__11 rfl
set_option maxRecDepth 20000 in
theorem c_X12_bares (l : Launch) (D : va_G) (K : Nat → ClassId) (y : Nat → Nat) (fm : Nat → Int32) (hfm : ∀ j, j < 4 → fm j = -1) (p0 : Int32) (p1 : Int32) : Ro l D K yX12_bares cX12_bares 3 (some .int) 3 69 [.ref (y 0), .int p0, .int p1] (mdL K y fm) (fun r => r = (-2)) := by
  refine ro_of (by decide) (Nat.le_of_ble_eq_true rfl) ?_
  intro p e s m below meth c hC hr hk hE hP ls hl
  have hC : CallFix p m c cX12_bares 3 s [.ref (y 0), .int p0, .int p1].toArray wl RX12 := hC
  have hx := hC.1
  have hb := hC.2.1
  have hml := hC.2.2.1
  have hown := hC.2.2.2.1
  have hts := hC.2.2.2.2
  have hl : lv_has ls 3 [(0, .ref (y 0)), (1, .int p0), (2, .int p1)] := hl
  refine lv_aload_n hx hb dX12_bares_0 rfl (lv_at hl 0 rfl) ?_
  refine lv_iload_n hx hb dX12_bares_1 rfl (lv_at hl 1 rfl) ?_
  refine lv_iload_n hx hb dX12_bares_2 rfl (lv_at hl 2 rfl) ?_
  refine ro_V (As := [.int p0, .int p1]) (rest := []) hC hE kV_X12_394 (c_X12_areTwo l D K y fm hfm p0 p1) hP 0 11 rfl rfl rfl hl.1 rfl (Nat.le_of_ble_eq_true rfl) (by decide) (by decide) dX12_bares_3 (fun r hq => ?_)
  subst hq
  refine lv_if_eq (tgt := 21) hx hb dX12_bares_6 (by decide) (fun _ => ?_) (fun h => absurd h (by decide))
  refine lv_bipush (v := (-2)) hx hb dX12_bares_21 (by decide) ?_
  exact ro_ret hC hr hk dX12_bares_23 rfl
set_option maxRecDepth 20000 in
theorem c_X12_bared (l : Launch) (D : va_G) (K : Nat → ClassId) (y : Nat → Nat) (fm : Nat → Int32) (hfm : ∀ j, j < 4 → fm j = -1) (p0 : Int32) (p1 : Int32) : Ro l D K yX12_bared cX12_bared 3 (some .int) 3 69 [.ref (y 0), .int p0, .int p1] (mdL K y fm) (fun r => r = (-2)) := by
  refine ro_of (by decide) (Nat.le_of_ble_eq_true rfl) ?_
  intro p e s m below meth c hC hr hk hE hP ls hl
  have hC : CallFix p m c cX12_bared 3 s [.ref (y 0), .int p0, .int p1].toArray wl RX12 := hC
  have hx := hC.1
  have hb := hC.2.1
  have hml := hC.2.2.1
  have hown := hC.2.2.2.1
  have hts := hC.2.2.2.2
  have hl : lv_has ls 3 [(0, .ref (y 0)), (1, .int p0), (2, .int p1)] := hl
  refine lv_aload_n hx hb dX12_bared_0 rfl (lv_at hl 0 rfl) ?_
  refine lv_iload_n hx hb dX12_bared_1 rfl (lv_at hl 1 rfl) ?_
  refine lv_iload_n hx hb dX12_bared_2 rfl (lv_at hl 2 rfl) ?_
  refine ro_V (As := [.int p0, .int p1]) (rest := []) hC hE kV_X12_394 (c_X12_areTwo l D K y fm hfm p0 p1) hP 0 11 rfl rfl rfl hl.1 rfl (Nat.le_of_ble_eq_true rfl) (by decide) (by decide) dX12_bared_3 (fun r hq => ?_)
  subst hq
  refine lv_if_eq (tgt := 18) hx hb dX12_bared_6 (by decide) (fun _ => ?_) (fun h => absurd h (by decide))
  refine lv_bipush (v := (-2)) hx hb dX12_bared_18 (by decide) ?_
  exact ro_ret hC hr hk dX12_bared_20 rfl
set_option maxRecDepth 20000 in
theorem c_X12_gather (l : Launch) (D : va_G) (K : Nat → ClassId) (y : Nat → Nat) (fm : Nat → Int32) (hfm : ∀ j, j < 4 → fm j = -1) (p0 : Int32) : Ro l D K yX12_gather cX12_gather 3 (some .int) 2 41 [.ref (y 0), .int p0] (mdL K y fm) (fun r => r = (-2)) := by
  refine ro_of (by decide) (Nat.le_of_ble_eq_true rfl) ?_
  intro p e s m below meth c hC hr hk hE hP ls hl
  have hC : CallFix p m c cX12_gather 3 s [.ref (y 0), .int p0].toArray wl RX12 := hC
  have hx := hC.1
  have hb := hC.2.1
  have hml := hC.2.2.1
  have hown := hC.2.2.2.1
  have hts := hC.2.2.2.2
  have hl : lv_has ls 3 [(0, .ref (y 0)), (1, .int p0)] := hl
  refine lv_aload_n hx hb dX12_gather_0 rfl (lv_at hl 0 rfl) ?_
  refine lv_iload_n hx hb dX12_gather_1 rfl (lv_at hl 1 rfl) ?_
  refine ro_V (As := [.int p0]) (rest := []) hC hE kV_X12_282 (c_X12_isSet l D K y fm hfm p0) hP 0 11 rfl rfl rfl hl.1 rfl (Nat.le_of_ble_eq_true rfl) (by decide) (by decide) dX12_gather_2 (fun r hq => ?_)
  subst hq
  refine lv_if_ne (tgt := 11) hx hb dX12_gather_5 (by decide) (fun h => absurd h (by decide)) (fun _ => ?_)
  refine lv_bipush (v := (-2)) hx hb dX12_gather_8 (by decide) ?_
  exact ro_ret hC hr hk dX12_gather_10 rfl
set_option maxRecDepth 20000 in
theorem c_X12_gathers (l : Launch) (D : va_G) (K : Nat → ClassId) (y : Nat → Nat) (fm : Nat → Int32) (hfm : ∀ j, j < 4 → fm j = -1) (p0 : Int32) (p1 : Int32) : Ro l D K yX12_gathers cX12_gathers 4 (some .int) 2 41 [.ref (y 0), .int p0, .int p1] (mdL K y fm) (fun r => r = (-2)) := by
  refine ro_of (by decide) (Nat.le_of_ble_eq_true rfl) ?_
  intro p e s m below meth c hC hr hk hE hP ls hl
  have hC : CallFix p m c cX12_gathers 4 s [.ref (y 0), .int p0, .int p1].toArray wl RX12 := hC
  have hx := hC.1
  have hb := hC.2.1
  have hml := hC.2.2.1
  have hown := hC.2.2.2.1
  have hts := hC.2.2.2.2
  have hl : lv_has ls 4 [(0, .ref (y 0)), (1, .int p0), (2, .int p1)] := hl
  refine lv_aload_n hx hb dX12_gathers_0 rfl (lv_at hl 0 rfl) ?_
  refine lv_iload_n hx hb dX12_gathers_1 rfl (lv_at hl 1 rfl) ?_
  refine ro_V (As := [.int p0]) (rest := []) hC hE kV_X12_282 (c_X12_isSet l D K y fm hfm p0) hP 0 11 rfl rfl rfl hl.1 rfl (Nat.le_of_ble_eq_true rfl) (by decide) (by decide) dX12_gathers_2 (fun r hq => ?_)
  subst hq
  refine lv_if_ne (tgt := 11) hx hb dX12_gathers_5 (by decide) (fun h => absurd h (by decide)) (fun _ => ?_)
  refine lv_bipush (v := (-2)) hx hb dX12_gathers_8 (by decide) ?_
  exact ro_ret hC hr hk dX12_gathers_10 rfl
set_option maxRecDepth 20000 in
theorem c_X12_roundabout (l : Launch) (D : va_G) (K : Nat → ClassId) (y : Nat → Nat) (fm : Nat → Int32) (hfm : ∀ j, j < 4 → fm j = -1) (p0 : Int32) : Ro l D K yX12_roundabout cX12_roundabout 4 (some .int) 2 41 [.ref (y 0), .int p0] (mdL K y fm) (fun r => r = (-2)) := by
  refine ro_of (by decide) (Nat.le_of_ble_eq_true rfl) ?_
  intro p e s m below meth c hC hr hk hE hP ls hl
  have hC : CallFix p m c cX12_roundabout 4 s [.ref (y 0), .int p0].toArray wl RX12 := hC
  have hx := hC.1
  have hb := hC.2.1
  have hml := hC.2.2.1
  have hown := hC.2.2.2.1
  have hts := hC.2.2.2.2
  have hl : lv_has ls 4 [(0, .ref (y 0)), (1, .int p0)] := hl
  refine lv_aload_n hx hb dX12_roundabout_0 rfl (lv_at hl 0 rfl) ?_
  refine lv_iload_n hx hb dX12_roundabout_1 rfl (lv_at hl 1 rfl) ?_
  refine ro_V (As := [.int p0]) (rest := []) hC hE kV_X12_282 (c_X12_isSet l D K y fm hfm p0) hP 0 11 rfl rfl rfl hl.1 rfl (Nat.le_of_ble_eq_true rfl) (by decide) (by decide) dX12_roundabout_2 (fun r hq => ?_)
  subst hq
  refine lv_if_ne (tgt := 11) hx hb dX12_roundabout_5 (by decide) (fun h => absurd h (by decide)) (fun _ => ?_)
  refine lv_bipush (v := (-2)) hx hb dX12_roundabout_8 (by decide) ?_
  exact ro_ret hC hr hk dX12_roundabout_10 rfl
set_option maxRecDepth 20000 in
theorem c_X12_meet (l : Launch) (D : va_G) (K : Nat → ClassId) (y : Nat → Nat) (fm : Nat → Int32) (hfm : ∀ j, j < 4 → fm j = -1) (p0 : Int32) (p1 : Int32) : Ro l D K yX12_meet cX12_meet 3 (some .int) 3 69 [.ref (y 0), .int p0, .int p1] (mdL K y fm) (fun r => r = (-2)) := by
  refine ro_of (by decide) (Nat.le_of_ble_eq_true rfl) ?_
  intro p e s m below meth c hC hr hk hE hP ls hl
  have hC : CallFix p m c cX12_meet 3 s [.ref (y 0), .int p0, .int p1].toArray wl RX12 := hC
  have hx := hC.1
  have hb := hC.2.1
  have hml := hC.2.2.1
  have hown := hC.2.2.2.1
  have hts := hC.2.2.2.2
  have hl : lv_has ls 3 [(0, .ref (y 0)), (1, .int p0), (2, .int p1)] := hl
  refine lv_aload_n hx hb dX12_meet_0 rfl (lv_at hl 0 rfl) ?_
  refine lv_iload_n hx hb dX12_meet_1 rfl (lv_at hl 1 rfl) ?_
  refine lv_iload_n hx hb dX12_meet_2 rfl (lv_at hl 2 rfl) ?_
  refine ro_V (As := [.int p0, .int p1]) (rest := []) hC hE kV_X12_394 (c_X12_areTwo l D K y fm hfm p0 p1) hP 0 11 rfl rfl rfl hl.1 rfl (Nat.le_of_ble_eq_true rfl) (by decide) (by decide) dX12_meet_3 (fun r hq => ?_)
  subst hq
  refine lv_if_ne (tgt := 12) hx hb dX12_meet_6 (by decide) (fun h => absurd h (by decide)) (fun _ => ?_)
  refine lv_bipush (v := (-2)) hx hb dX12_meet_9 (by decide) ?_
  exact ro_ret hC hr hk dX12_meet_11 rfl
set_option maxRecDepth 20000 in
theorem c_X12_met (l : Launch) (D : va_G) (K : Nat → ClassId) (y : Nat → Nat) (fm : Nat → Int32) (hfm : ∀ j, j < 4 → fm j = -1) (p0 : Int32) (p1 : Int32) : Ro l D K yX12_met cX12_met 4 (some .int) 3 69 [.ref (y 0), .int p0, .int p1] (mdL K y fm) (fun r => r = (-2)) := by
  refine ro_of (by decide) (Nat.le_of_ble_eq_true rfl) ?_
  intro p e s m below meth c hC hr hk hE hP ls hl
  have hC : CallFix p m c cX12_met 4 s [.ref (y 0), .int p0, .int p1].toArray wl RX12 := hC
  have hx := hC.1
  have hb := hC.2.1
  have hml := hC.2.2.1
  have hown := hC.2.2.2.1
  have hts := hC.2.2.2.2
  have hl : lv_has ls 4 [(0, .ref (y 0)), (1, .int p0), (2, .int p1)] := hl
  refine lv_aload_n hx hb dX12_met_0 rfl (lv_at hl 0 rfl) ?_
  refine lv_iload_n hx hb dX12_met_1 rfl (lv_at hl 1 rfl) ?_
  refine lv_iload_n hx hb dX12_met_2 rfl (lv_at hl 2 rfl) ?_
  refine ro_V (As := [.int p0, .int p1]) (rest := []) hC hE kV_X12_394 (c_X12_areTwo l D K y fm hfm p0 p1) hP 0 11 rfl rfl rfl hl.1 rfl (Nat.le_of_ble_eq_true rfl) (by decide) (by decide) dX12_met_3 (fun r hq => ?_)
  subst hq
  refine lv_if_ne (tgt := 12) hx hb dX12_met_6 (by decide) (fun h => absurd h (by decide)) (fun _ => ?_)
  refine lv_bipush (v := (-2)) hx hb dX12_met_9 (by decide) ?_
  exact ro_ret hC hr hk dX12_met_11 rfl
set_option maxRecDepth 20000 in
theorem c_X12_read (l : Launch) (D : va_G) (K : Nat → ClassId) (y : Nat → Nat) (fm : Nat → Int32) (hfm : ∀ j, j < 4 → fm j = -1) (p0 : Int32) : Ro l D K yX12_read cX12_read 3 (some .int) 3 67 [.ref (y 0), .int p0] (mdL K y fm) (fun r => r = (-2)) := by
  refine ro_of (by decide) (Nat.le_of_ble_eq_true rfl) ?_
  intro p e s m below meth c hC hr hk hE hP ls hl
  have hC : CallFix p m c cX12_read 3 s [.ref (y 0), .int p0].toArray wl RX12 := hC
  have hx := hC.1
  have hb := hC.2.1
  have hml := hC.2.2.1
  have hown := hC.2.2.2.1
  have hts := hC.2.2.2.2
  have hl : lv_has ls 3 [(0, .ref (y 0)), (1, .int p0)] := hl
  refine lv_aload_n hx hb dX12_read_0 rfl (lv_at hl 0 rfl) ?_
  refine lv_iload_n hx hb dX12_read_1 rfl (lv_at hl 1 rfl) ?_
  refine ro_V (As := [.int p0]) (rest := []) hC hE kV_X12_426 (c_X12_asksRead l D K y fm hfm p0) hP 0 11 rfl rfl rfl hl.1 rfl (Nat.le_of_ble_eq_true rfl) (by decide) (by decide) dX12_read_2 (fun r hq => ?_)
  subst hq
  refine lv_istore_n (lv' := [(2, .int (-2)), (0, .ref (y 0)), (1, .int p0)]) hx hb dX12_read_5 rfl hl (by decide) rfl (fun ls hl => ?_)
  refine lv_iload_n hx hb dX12_read_6 rfl (lv_at hl 0 rfl) ?_
  refine lv_if_ge (tgt := 14) hx hb dX12_read_7 (by decide) (fun h => absurd h (by decide)) (fun _ => ?_)
  refine lv_iload_n hx hb dX12_read_10 rfl (lv_at hl 0 rfl) ?_
  refine lv_goto (tgt := 23) hx hb dX12_read_11 (by decide) ?_
  exact ro_ret hC hr hk dX12_read_23 rfl
set_option maxRecDepth 20000 in
theorem c_X12_began (l : Launch) (D : va_G) (K : Nat → ClassId) (y : Nat → Nat) (fm : Nat → Int32) (hfm : ∀ j, j < 4 → fm j = -1) (p0 : Int32) : Ro l D K yX12_began cX12_began 5 (some .int) 3 67 [.ref (y 0), .int p0] (mdL K y fm) (fun r => r = (-2)) := by
  refine ro_of (by decide) (Nat.le_of_ble_eq_true rfl) ?_
  intro p e s m below meth c hC hr hk hE hP ls hl
  have hC : CallFix p m c cX12_began 5 s [.ref (y 0), .int p0].toArray wl RX12 := hC
  have hx := hC.1
  have hb := hC.2.1
  have hml := hC.2.2.1
  have hown := hC.2.2.2.1
  have hts := hC.2.2.2.2
  have hl : lv_has ls 5 [(0, .ref (y 0)), (1, .int p0)] := hl
  refine lv_aload_n hx hb dX12_began_0 rfl (lv_at hl 0 rfl) ?_
  refine lv_iload_n hx hb dX12_began_1 rfl (lv_at hl 1 rfl) ?_
  refine ro_V (As := [.int p0]) (rest := []) hC hE kV_X12_426 (c_X12_asksRead l D K y fm hfm p0) hP 0 11 rfl rfl rfl hl.1 rfl (Nat.le_of_ble_eq_true rfl) (by decide) (by decide) dX12_began_2 (fun r hq => ?_)
  subst hq
  refine lv_istore_n (lv' := [(2, .int (-2)), (0, .ref (y 0)), (1, .int p0)]) hx hb dX12_began_5 rfl hl (by decide) rfl (fun ls hl => ?_)
  refine lv_iload_n hx hb dX12_began_6 rfl (lv_at hl 0 rfl) ?_
  refine lv_if_ge (tgt := 12) hx hb dX12_began_7 (by decide) (fun h => absurd h (by decide)) (fun _ => ?_)
  refine lv_iload_n hx hb dX12_began_10 rfl (lv_at hl 0 rfl) ?_
  exact ro_ret hC hr hk dX12_began_11 rfl
set_option maxRecDepth 20000 in
theorem c_X12_ask (l : Launch) (D : va_G) (K : Nat → ClassId) (y : Nat → Nat) (fm : Nat → Int32) (hfm : ∀ j, j < 4 → fm j = -1) (p0 : Int32) : Ro l D K yX12_ask cX12_ask 3 (some .int) 3 67 [.ref (y 0), .int p0] (mdL K y fm) (fun r => r = (-2)) := by
  refine ro_of (by decide) (Nat.le_of_ble_eq_true rfl) ?_
  intro p e s m below meth c hC hr hk hE hP ls hl
  have hC : CallFix p m c cX12_ask 3 s [.ref (y 0), .int p0].toArray wl RX12 := hC
  have hx := hC.1
  have hb := hC.2.1
  have hml := hC.2.2.1
  have hown := hC.2.2.2.1
  have hts := hC.2.2.2.2
  have hl : lv_has ls 3 [(0, .ref (y 0)), (1, .int p0)] := hl
  refine lv_aload_n hx hb dX12_ask_0 rfl (lv_at hl 0 rfl) ?_
  refine lv_iload_n hx hb dX12_ask_1 rfl (lv_at hl 1 rfl) ?_
  refine ro_V (As := [.int p0]) (rest := []) hC hE kV_X12_426 (c_X12_asksRead l D K y fm hfm p0) hP 0 11 rfl rfl rfl hl.1 rfl (Nat.le_of_ble_eq_true rfl) (by decide) (by decide) dX12_ask_2 (fun r hq => ?_)
  subst hq
  refine lv_istore_n (lv' := [(2, .int (-2)), (0, .ref (y 0)), (1, .int p0)]) hx hb dX12_ask_5 rfl hl (by decide) rfl (fun ls hl => ?_)
  refine lv_iload_n hx hb dX12_ask_6 rfl (lv_at hl 0 rfl) ?_
  refine lv_if_ge (tgt := 14) hx hb dX12_ask_7 (by decide) (fun h => absurd h (by decide)) (fun _ => ?_)
  refine lv_iload_n hx hb dX12_ask_10 rfl (lv_at hl 0 rfl) ?_
  refine lv_goto (tgt := 27) hx hb dX12_ask_11 (by decide) ?_
  exact ro_ret hC hr hk dX12_ask_27 rfl
set_option maxRecDepth 20000 in
theorem c_X12_leaves (l : Launch) (D : va_G) (K : Nat → ClassId) (y : Nat → Nat) (fm : Nat → Int32) (hfm : ∀ j, j < 4 → fm j = -1) (p0 : Int32) : Ro l D K yX12_leaves cX12_leaves 4 (some .int) 3 67 [.ref (y 0), .int p0] (mdL K y fm) (fun r => r = (-2)) := by
  refine ro_of (by decide) (Nat.le_of_ble_eq_true rfl) ?_
  intro p e s m below meth c hC hr hk hE hP ls hl
  have hC : CallFix p m c cX12_leaves 4 s [.ref (y 0), .int p0].toArray wl RX12 := hC
  have hx := hC.1
  have hb := hC.2.1
  have hml := hC.2.2.1
  have hown := hC.2.2.2.1
  have hts := hC.2.2.2.2
  have hl : lv_has ls 4 [(0, .ref (y 0)), (1, .int p0)] := hl
  refine lv_aload_n hx hb dX12_leaves_0 rfl (lv_at hl 0 rfl) ?_
  refine lv_iload_n hx hb dX12_leaves_1 rfl (lv_at hl 1 rfl) ?_
  refine ro_V (As := [.int p0]) (rest := []) hC hE kV_X12_426 (c_X12_asksRead l D K y fm hfm p0) hP 0 11 rfl rfl rfl hl.1 rfl (Nat.le_of_ble_eq_true rfl) (by decide) (by decide) dX12_leaves_2 (fun r hq => ?_)
  subst hq
  refine lv_istore_n (lv' := [(2, .int (-2)), (0, .ref (y 0)), (1, .int p0)]) hx hb dX12_leaves_5 rfl hl (by decide) rfl (fun ls hl => ?_)
  refine lv_iload_n hx hb dX12_leaves_6 rfl (lv_at hl 0 rfl) ?_
  refine lv_if_ge (tgt := 12) hx hb dX12_leaves_7 (by decide) (fun h => absurd h (by decide)) (fun _ => ?_)
  refine lv_iload_n hx hb dX12_leaves_10 rfl (lv_at hl 0 rfl) ?_
  exact ro_ret hC hr hk dX12_leaves_11 rfl
set_option maxRecDepth 20000 in
theorem c_X12_course (l : Launch) (D : va_G) (K : Nat → ClassId) (y : Nat → Nat) (fm : Nat → Int32) (hfm : ∀ j, j < 4 → fm j = -1) (p0 : Int32) (p1 : Int32) : Ro l D K yX12_course cX12_course 4 (some .int) 3 69 [.ref (y 0), .int p0, .int p1] (mdL K y fm) (fun r => r = (-2)) := by
  refine ro_of (by decide) (Nat.le_of_ble_eq_true rfl) ?_
  intro p e s m below meth c hC hr hk hE hP ls hl
  have hC : CallFix p m c cX12_course 4 s [.ref (y 0), .int p0, .int p1].toArray wl RX12 := hC
  have hx := hC.1
  have hb := hC.2.1
  have hml := hC.2.2.1
  have hown := hC.2.2.2.1
  have hts := hC.2.2.2.2
  have hl : lv_has ls 4 [(0, .ref (y 0)), (1, .int p0), (2, .int p1)] := hl
  refine lv_aload_n hx hb dX12_course_0 rfl (lv_at hl 0 rfl) ?_
  refine lv_iload_n hx hb dX12_course_1 rfl (lv_at hl 1 rfl) ?_
  refine lv_iload_n hx hb dX12_course_2 rfl (lv_at hl 2 rfl) ?_
  refine ro_V (As := [.int p0, .int p1]) (rest := []) hC hE kV_X12_353 (c_X12_asksWalk l D K y fm hfm p0 p1) hP 0 11 rfl rfl rfl hl.1 rfl (Nat.le_of_ble_eq_true rfl) (by decide) (by decide) dX12_course_3 (fun r hq => ?_)
  subst hq
  refine lv_istore_n (lv' := [(3, .int (-2)), (0, .ref (y 0)), (1, .int p0), (2, .int p1)]) hx hb dX12_course_6 rfl hl (by decide) rfl (fun ls hl => ?_)
  refine lv_iload_n hx hb dX12_course_7 rfl (lv_at hl 0 rfl) ?_
  refine lv_if_ge (tgt := 13) hx hb dX12_course_8 (by decide) (fun h => absurd h (by decide)) (fun _ => ?_)
  refine lv_iload_n hx hb dX12_course_11 rfl (lv_at hl 0 rfl) ?_
  exact ro_ret hC hr hk dX12_course_12 rfl
set_option maxRecDepth 20000 in
theorem c_X12_lesson (l : Launch) (D : va_G) (K : Nat → ClassId) (y : Nat → Nat) (fm : Nat → Int32) (hfm : ∀ j, j < 4 → fm j = -1) (p0 : Int32) (p1 : Int32) (p2 : Int32) : Ro l D K yX12_lesson cX12_lesson 5 (some .int) 3 69 [.ref (y 0), .int p0, .int p1, .int p2] (mdL K y fm) (fun r => r = (-2)) := by
  refine ro_of (by decide) (Nat.le_of_ble_eq_true rfl) ?_
  intro p e s m below meth c hC hr hk hE hP ls hl
  have hC : CallFix p m c cX12_lesson 5 s [.ref (y 0), .int p0, .int p1, .int p2].toArray wl RX12 := hC
  have hx := hC.1
  have hb := hC.2.1
  have hml := hC.2.2.1
  have hown := hC.2.2.2.1
  have hts := hC.2.2.2.2
  have hl : lv_has ls 5 [(0, .ref (y 0)), (1, .int p0), (2, .int p1), (3, .int p2)] := hl
  refine lv_aload_n hx hb dX12_lesson_0 rfl (lv_at hl 0 rfl) ?_
  refine lv_iload_n hx hb dX12_lesson_1 rfl (lv_at hl 1 rfl) ?_
  refine lv_iload_n hx hb dX12_lesson_2 rfl (lv_at hl 2 rfl) ?_
  refine ro_V (As := [.int p0, .int p1]) (rest := []) hC hE kV_X12_353 (c_X12_asksWalk l D K y fm hfm p0 p1) hP 0 11 rfl rfl rfl hl.1 rfl (Nat.le_of_ble_eq_true rfl) (by decide) (by decide) dX12_lesson_3 (fun r hq => ?_)
  subst hq
  refine lv_istore (lv' := [(4, .int (-2)), (0, .ref (y 0)), (1, .int p0), (2, .int p1), (3, .int p2)]) hx hb dX12_lesson_6 hl (by decide) rfl (fun ls hl => ?_)
  refine lv_iload hx hb dX12_lesson_8 (lv_at hl 0 rfl) ?_
  refine lv_if_ge (tgt := 16) hx hb dX12_lesson_10 (by decide) (fun h => absurd h (by decide)) (fun _ => ?_)
  refine lv_iload hx hb dX12_lesson_13 (lv_at hl 0 rfl) ?_
  exact ro_ret hC hr hk dX12_lesson_15 rfl
set_option maxRecDepth 20000 in
theorem c_X12_spoilt (l : Launch) (D : va_G) (K : Nat → ClassId) (y : Nat → Nat) (fm : Nat → Int32) (hfm : ∀ j, j < 4 → fm j = -1) (p0 : Int32) (p1 : Int32) : Ro l D K yX12_spoilt cX12_spoilt 4 (some .int) 3 69 [.ref (y 0), .int p0, .int p1] (mdL K y fm) (fun r => r = (-2)) := by
  refine ro_of (by decide) (Nat.le_of_ble_eq_true rfl) ?_
  intro p e s m below meth c hC hr hk hE hP ls hl
  have hC : CallFix p m c cX12_spoilt 4 s [.ref (y 0), .int p0, .int p1].toArray wl RX12 := hC
  have hx := hC.1
  have hb := hC.2.1
  have hml := hC.2.2.1
  have hown := hC.2.2.2.1
  have hts := hC.2.2.2.2
  have hl : lv_has ls 4 [(0, .ref (y 0)), (1, .int p0), (2, .int p1)] := hl
  refine lv_aload_n hx hb dX12_spoilt_0 rfl (lv_at hl 0 rfl) ?_
  refine lv_iload_n hx hb dX12_spoilt_1 rfl (lv_at hl 1 rfl) ?_
  refine lv_iload_n hx hb dX12_spoilt_2 rfl (lv_at hl 2 rfl) ?_
  refine ro_V (As := [.int p0, .int p1]) (rest := []) hC hE kV_X12_353 (c_X12_asksWalk l D K y fm hfm p0 p1) hP 0 11 rfl rfl rfl hl.1 rfl (Nat.le_of_ble_eq_true rfl) (by decide) (by decide) dX12_spoilt_3 (fun r hq => ?_)
  subst hq
  refine lv_istore_n (lv' := [(3, .int (-2)), (0, .ref (y 0)), (1, .int p0), (2, .int p1)]) hx hb dX12_spoilt_6 rfl hl (by decide) rfl (fun ls hl => ?_)
  refine lv_iload_n hx hb dX12_spoilt_7 rfl (lv_at hl 0 rfl) ?_
  refine lv_if_ge (tgt := 13) hx hb dX12_spoilt_8 (by decide) (fun h => absurd h (by decide)) (fun _ => ?_)
  refine lv_iload_n hx hb dX12_spoilt_11 rfl (lv_at hl 0 rfl) ?_
  exact ro_ret hC hr hk dX12_spoilt_12 rfl
set_option maxRecDepth 20000 in
theorem c_X12_route (l : Launch) (D : va_G) (K : Nat → ClassId) (y : Nat → Nat) (fm : Nat → Int32) (hfm : ∀ j, j < 4 → fm j = -1) (p0 : Int32) (p1 : Int32) : Ro l D K yX12_route cX12_route 3 (some .int) 3 69 [.ref (y 0), .int p0, .int p1] (mdL K y fm) (fun r => r = (-2)) := by
  refine ro_of (by decide) (Nat.le_of_ble_eq_true rfl) ?_
  intro p e s m below meth c hC hr hk hE hP ls hl
  have hC : CallFix p m c cX12_route 3 s [.ref (y 0), .int p0, .int p1].toArray wl RX12 := hC
  have hx := hC.1
  have hb := hC.2.1
  have hml := hC.2.2.1
  have hown := hC.2.2.2.1
  have hts := hC.2.2.2.2
  have hl : lv_has ls 3 [(0, .ref (y 0)), (1, .int p0), (2, .int p1)] := hl
  refine lv_aload_n hx hb dX12_route_0 rfl (lv_at hl 0 rfl) ?_
  refine lv_iload_n hx hb dX12_route_1 rfl (lv_at hl 1 rfl) ?_
  refine lv_iload_n hx hb dX12_route_2 rfl (lv_at hl 2 rfl) ?_
  refine ro_V (As := [.int p0, .int p1]) (rest := []) hC hE kV_X12_394 (c_X12_areTwo l D K y fm hfm p0 p1) hP 0 11 rfl rfl rfl hl.1 rfl (Nat.le_of_ble_eq_true rfl) (by decide) (by decide) dX12_route_3 (fun r hq => ?_)
  subst hq
  refine lv_if_ne (tgt := 12) hx hb dX12_route_6 (by decide) (fun h => absurd h (by decide)) (fun _ => ?_)
  refine lv_bipush (v := (-2)) hx hb dX12_route_9 (by decide) ?_
  exact ro_ret hC hr hk dX12_route_11 rfl
set_option maxRecDepth 20000 in
theorem c_X12_dark (l : Launch) (D : va_G) (K : Nat → ClassId) (y : Nat → Nat) (fm : Nat → Int32) (hfm : ∀ j, j < 4 → fm j = -1) (p0 : Int32) (p1 : Int32) : Ro l D K yX12_dark cX12_dark 3 (some .int) 3 69 [.ref (y 0), .int p0, .int p1] (mdL K y fm) (fun r => r = (-2)) := by
  refine ro_of (by decide) (Nat.le_of_ble_eq_true rfl) ?_
  intro p e s m below meth c hC hr hk hE hP ls hl
  have hC : CallFix p m c cX12_dark 3 s [.ref (y 0), .int p0, .int p1].toArray wl RX12 := hC
  have hx := hC.1
  have hb := hC.2.1
  have hml := hC.2.2.1
  have hown := hC.2.2.2.1
  have hts := hC.2.2.2.2
  have hl : lv_has ls 3 [(0, .ref (y 0)), (1, .int p0), (2, .int p1)] := hl
  refine lv_aload_n hx hb dX12_dark_0 rfl (lv_at hl 0 rfl) ?_
  refine lv_iload_n hx hb dX12_dark_1 rfl (lv_at hl 1 rfl) ?_
  refine lv_iload_n hx hb dX12_dark_2 rfl (lv_at hl 2 rfl) ?_
  refine ro_V (As := [.int p0, .int p1]) (rest := []) hC hE kV_X12_394 (c_X12_areTwo l D K y fm hfm p0 p1) hP 0 11 rfl rfl rfl hl.1 rfl (Nat.le_of_ble_eq_true rfl) (by decide) (by decide) dX12_dark_3 (fun r hq => ?_)
  subst hq
  refine lv_if_ne (tgt := 12) hx hb dX12_dark_6 (by decide) (fun h => absurd h (by decide)) (fun _ => ?_)
  refine lv_bipush (v := (-2)) hx hb dX12_dark_9 (by decide) ?_
  exact ro_ret hC hr hk dX12_dark_11 rfl
set_option maxRecDepth 20000 in
theorem c_X12_detour (l : Launch) (D : va_G) (K : Nat → ClassId) (y : Nat → Nat) (fm : Nat → Int32) (hfm : ∀ j, j < 4 → fm j = -1) (p0 : Int32) (p1 : Int32) : Ro l D K yX12_detour cX12_detour 3 (some .int) 3 69 [.ref (y 0), .int p0, .int p1] (mdL K y fm) (fun r => r = (-2)) := by
  refine ro_of (by decide) (Nat.le_of_ble_eq_true rfl) ?_
  intro p e s m below meth c hC hr hk hE hP ls hl
  have hC : CallFix p m c cX12_detour 3 s [.ref (y 0), .int p0, .int p1].toArray wl RX12 := hC
  have hx := hC.1
  have hb := hC.2.1
  have hml := hC.2.2.1
  have hown := hC.2.2.2.1
  have hts := hC.2.2.2.2
  have hl : lv_has ls 3 [(0, .ref (y 0)), (1, .int p0), (2, .int p1)] := hl
  refine lv_aload_n hx hb dX12_detour_0 rfl (lv_at hl 0 rfl) ?_
  refine lv_iload_n hx hb dX12_detour_1 rfl (lv_at hl 1 rfl) ?_
  refine lv_iload_n hx hb dX12_detour_2 rfl (lv_at hl 2 rfl) ?_
  refine ro_V (As := [.int p0, .int p1]) (rest := []) hC hE kV_X12_394 (c_X12_areTwo l D K y fm hfm p0 p1) hP 0 11 rfl rfl rfl hl.1 rfl (Nat.le_of_ble_eq_true rfl) (by decide) (by decide) dX12_detour_3 (fun r hq => ?_)
  subst hq
  refine lv_if_ne (tgt := 12) hx hb dX12_detour_6 (by decide) (fun h => absurd h (by decide)) (fun _ => ?_)
  refine lv_bipush (v := (-2)) hx hb dX12_detour_9 (by decide) ?_
  exact ro_ret hC hr hk dX12_detour_11 rfl
set_option maxRecDepth 20000 in
theorem c_X12_fog (l : Launch) (D : va_G) (K : Nat → ClassId) (y : Nat → Nat) (fm : Nat → Int32) (hfm : ∀ j, j < 4 → fm j = -1) (p0 : Int32) (p1 : Int32) (p2 : Int32) (p3 : Int32) : Ro l D K yX12_fog cX12_fog 6 (some .int) 3 69 [.ref (y 0), .int p0, .int p1, .int p2, .int p3] (mdL K y fm) (fun r => r = (-2)) := by
  refine ro_of (by decide) (Nat.le_of_ble_eq_true rfl) ?_
  intro p e s m below meth c hC hr hk hE hP ls hl
  have hC : CallFix p m c cX12_fog 6 s [.ref (y 0), .int p0, .int p1, .int p2, .int p3].toArray wl RX12 := hC
  have hx := hC.1
  have hb := hC.2.1
  have hml := hC.2.2.1
  have hown := hC.2.2.2.1
  have hts := hC.2.2.2.2
  have hl : lv_has ls 6 [(0, .ref (y 0)), (1, .int p0), (2, .int p1), (3, .int p2), (4, .int p3)] := hl
  refine lv_aload_n hx hb dX12_fog_0 rfl (lv_at hl 0 rfl) ?_
  refine lv_iload_n hx hb dX12_fog_1 rfl (lv_at hl 1 rfl) ?_
  refine lv_iload_n hx hb dX12_fog_2 rfl (lv_at hl 2 rfl) ?_
  refine ro_V (As := [.int p0, .int p1]) (rest := []) hC hE kV_X12_394 (c_X12_areTwo l D K y fm hfm p0 p1) hP 0 11 rfl rfl rfl hl.1 rfl (Nat.le_of_ble_eq_true rfl) (by decide) (by decide) dX12_fog_3 (fun r hq => ?_)
  subst hq
  refine lv_if_eq (tgt := 32) hx hb dX12_fog_6 (by decide) (fun _ => ?_) (fun h => absurd h (by decide))
  refine lv_bipush (v := (-2)) hx hb dX12_fog_32 (by decide) ?_
  exact ro_ret hC hr hk dX12_fog_34 rfl
set_option maxRecDepth 20000 in
theorem c_X12_likely (l : Launch) (D : va_G) (K : Nat → ClassId) (y : Nat → Nat) (fm : Nat → Int32) (hfm : ∀ j, j < 4 → fm j = -1) (p0 : Int32) (p1 : Int32) : Ro l D K yX12_likely cX12_likely 5 (some .int) 2 47 [.ref (y 0), .int p0, .int p1] (mdL K y fm) (fun r => r = (-2)) := by
  refine ro_of (by decide) (Nat.le_of_ble_eq_true rfl) ?_
  intro p e s m below meth c hC hr hk hE hP ls hl
  have hC : CallFix p m c cX12_likely 5 s [.ref (y 0), .int p0, .int p1].toArray wl RX12 := hC
  have hx := hC.1
  have hb := hC.2.1
  have hml := hC.2.2.1
  have hown := hC.2.2.2.1
  have hts := hC.2.2.2.2
  have hl : lv_has ls 5 [(0, .ref (y 0)), (1, .int p0), (2, .int p1)] := hl
  refine lv_aload_n hx hb dX12_likely_0 rfl (lv_at hl 0 rfl) ?_
  refine lv_iload_n hx hb dX12_likely_1 rfl (lv_at hl 1 rfl) ?_
  refine lv_i2l (v := p0.toInt64) hx hb dX12_likely_2 rfl ?_
  refine ro_V (As := [.long p0.toInt64]) (rest := []) hC hE kV_X12_119 (c_X12_isPlace l D K y fm hfm p0.toInt64) hP 0 11 rfl rfl rfl hl.1 rfl (Nat.le_of_ble_eq_true rfl) (by decide) (by decide) dX12_likely_3 (fun r hq => ?_)
  subst hq
  refine lv_if_eq (tgt := 21) hx hb dX12_likely_6 (by decide) (fun _ => ?_) (fun h => absurd h (by decide))
  refine lv_bipush (v := (-2)) hx hb dX12_likely_21 (by decide) ?_
  exact ro_ret hC hr hk dX12_likely_23 rfl
set_option maxRecDepth 20000 in
theorem c_X12_can (l : Launch) (D : va_G) (K : Nat → ClassId) (y : Nat → Nat) (fm : Nat → Int32) (hfm : ∀ j, j < 4 → fm j = -1) (p0 : Int32) (p1 : Int32) : Ro l D K yX12_can cX12_can 5 (some .int) 2 47 [.ref (y 0), .int p0, .int p1] (mdL K y fm) (fun r => r = (-2)) := by
  refine ro_of (by decide) (Nat.le_of_ble_eq_true rfl) ?_
  intro p e s m below meth c hC hr hk hE hP ls hl
  have hC : CallFix p m c cX12_can 5 s [.ref (y 0), .int p0, .int p1].toArray wl RX12 := hC
  have hx := hC.1
  have hb := hC.2.1
  have hml := hC.2.2.1
  have hown := hC.2.2.2.1
  have hts := hC.2.2.2.2
  have hl : lv_has ls 5 [(0, .ref (y 0)), (1, .int p0), (2, .int p1)] := hl
  refine lv_aload_n hx hb dX12_can_0 rfl (lv_at hl 0 rfl) ?_
  refine lv_iload_n hx hb dX12_can_1 rfl (lv_at hl 1 rfl) ?_
  refine lv_i2l (v := p0.toInt64) hx hb dX12_can_2 rfl ?_
  refine ro_V (As := [.long p0.toInt64]) (rest := []) hC hE kV_X12_119 (c_X12_isPlace l D K y fm hfm p0.toInt64) hP 0 11 rfl rfl rfl hl.1 rfl (Nat.le_of_ble_eq_true rfl) (by decide) (by decide) dX12_can_3 (fun r hq => ?_)
  subst hq
  refine lv_if_eq (tgt := 21) hx hb dX12_can_6 (by decide) (fun _ => ?_) (fun h => absurd h (by decide))
  refine lv_bipush (v := (-2)) hx hb dX12_can_21 (by decide) ?_
  exact ro_ret hC hr hk dX12_can_23 rfl
set_option maxRecDepth 20000 in
theorem c_X12_lead (l : Launch) (D : va_G) (K : Nat → ClassId) (y : Nat → Nat) (fm : Nat → Int32) (hfm : ∀ j, j < 4 → fm j = -1) (p0 : Int32) (p1 : Int32) (p2 : Int32) : Ro l D K yX12_lead cX12_lead 5 (some .int) 3 69 [.ref (y 0), .int p0, .int p1, .int p2] (mdL K y fm) (fun r => r = (-2)) := by
  refine ro_of (by decide) (Nat.le_of_ble_eq_true rfl) ?_
  intro p e s m below meth c hC hr hk hE hP ls hl
  have hC : CallFix p m c cX12_lead 5 s [.ref (y 0), .int p0, .int p1, .int p2].toArray wl RX12 := hC
  have hx := hC.1
  have hb := hC.2.1
  have hml := hC.2.2.1
  have hown := hC.2.2.2.1
  have hts := hC.2.2.2.2
  have hl : lv_has ls 5 [(0, .ref (y 0)), (1, .int p0), (2, .int p1), (3, .int p2)] := hl
  refine lv_aload_n hx hb dX12_lead_0 rfl (lv_at hl 0 rfl) ?_
  refine lv_iload_n hx hb dX12_lead_1 rfl (lv_at hl 1 rfl) ?_
  refine lv_iload_n hx hb dX12_lead_2 rfl (lv_at hl 3 rfl) ?_
  refine ro_V (As := [.int p0, .int p2]) (rest := []) hC hE kV_X12_394 (c_X12_areTwo l D K y fm hfm p0 p2) hP 0 11 rfl rfl rfl hl.1 rfl (Nat.le_of_ble_eq_true rfl) (by decide) (by decide) dX12_lead_3 (fun r hq => ?_)
  subst hq
  refine lv_if_eq (tgt := 17) hx hb dX12_lead_6 (by decide) (fun _ => ?_) (fun h => absurd h (by decide))
  refine lv_bipush (v := (-2)) hx hb dX12_lead_17 (by decide) ?_
  exact ro_ret hC hr hk dX12_lead_19 rfl
set_option maxRecDepth 20000 in
theorem c_X12_marks (l : Launch) (D : va_G) (K : Nat → ClassId) (y : Nat → Nat) (fm : Nat → Int32) (hfm : ∀ j, j < 4 → fm j = -1) (p0 : Int32) (p1 : Int32) : Ro l D K yX12_marks cX12_marks 4 (some .int) 2 47 [.ref (y 0), .int p0, .int p1] (mdL K y fm) (fun r => r = (-2)) := by
  refine ro_of (by decide) (Nat.le_of_ble_eq_true rfl) ?_
  intro p e s m below meth c hC hr hk hE hP ls hl
  have hC : CallFix p m c cX12_marks 4 s [.ref (y 0), .int p0, .int p1].toArray wl RX12 := hC
  have hx := hC.1
  have hb := hC.2.1
  have hml := hC.2.2.1
  have hown := hC.2.2.2.1
  have hts := hC.2.2.2.2
  have hl : lv_has ls 4 [(0, .ref (y 0)), (1, .int p0), (2, .int p1)] := hl
  refine lv_aload_n hx hb dX12_marks_0 rfl (lv_at hl 0 rfl) ?_
  refine lv_iload_n hx hb dX12_marks_1 rfl (lv_at hl 1 rfl) ?_
  refine lv_i2l (v := p0.toInt64) hx hb dX12_marks_2 rfl ?_
  refine ro_V (As := [.long p0.toInt64]) (rest := []) hC hE kV_X12_119 (c_X12_isPlace l D K y fm hfm p0.toInt64) hP 0 11 rfl rfl rfl hl.1 rfl (Nat.le_of_ble_eq_true rfl) (by decide) (by decide) dX12_marks_3 (fun r hq => ?_)
  subst hq
  refine lv_if_eq (tgt := 21) hx hb dX12_marks_6 (by decide) (fun _ => ?_) (fun h => absurd h (by decide))
  refine lv_bipush (v := (-2)) hx hb dX12_marks_21 (by decide) ?_
  exact ro_ret hC hr hk dX12_marks_23 rfl
set_option maxRecDepth 20000 in
theorem c_X12_drawn (l : Launch) (D : va_G) (K : Nat → ClassId) (y : Nat → Nat) (fm : Nat → Int32) (hfm : ∀ j, j < 4 → fm j = -1) (p0 : Int32) (p1 : Int32) (p2 : Int32) (p3 : Int32) : Ro l D K yX12_drawn cX12_drawn 5 (some .int) 3 69 [.ref (y 0), .int p0, .int p1, .int p2, .int p3] (mdL K y fm) (fun r => r = (-2)) := by
  refine ro_of (by decide) (Nat.le_of_ble_eq_true rfl) ?_
  intro p e s m below meth c hC hr hk hE hP ls hl
  have hC : CallFix p m c cX12_drawn 5 s [.ref (y 0), .int p0, .int p1, .int p2, .int p3].toArray wl RX12 := hC
  have hx := hC.1
  have hb := hC.2.1
  have hml := hC.2.2.1
  have hown := hC.2.2.2.1
  have hts := hC.2.2.2.2
  have hl : lv_has ls 5 [(0, .ref (y 0)), (1, .int p0), (2, .int p1), (3, .int p2), (4, .int p3)] := hl
  refine lv_aload_n hx hb dX12_drawn_0 rfl (lv_at hl 0 rfl) ?_
  refine lv_iload_n hx hb dX12_drawn_1 rfl (lv_at hl 1 rfl) ?_
  refine lv_iload_n hx hb dX12_drawn_2 rfl (lv_at hl 2 rfl) ?_
  refine lv_iload_n hx hb dX12_drawn_3 rfl (lv_at hl 3 rfl) ?_
  refine ro_V (As := [.int p0, .int p1, .int p2]) (rest := []) hC hE kV_X12_485 (c_X12_isDrawn l D K y fm hfm p0 p1 p2) hP 0 11 rfl rfl rfl hl.1 rfl (Nat.le_of_ble_eq_true rfl) (by decide) (by decide) dX12_drawn_4 (fun r hq => ?_)
  subst hq
  refine lv_if_eq (tgt := 23) hx hb dX12_drawn_7 (by decide) (fun _ => ?_) (fun h => absurd h (by decide))
  refine lv_bipush (v := (-2)) hx hb dX12_drawn_23 (by decide) ?_
  exact ro_ret hC hr hk dX12_drawn_25 rfl
set_option maxRecDepth 20000 in
theorem c_X12_luck (l : Launch) (D : va_G) (K : Nat → ClassId) (y : Nat → Nat) (fm : Nat → Int32) (hfm : ∀ j, j < 4 → fm j = -1) (p0 : Int32) (p1 : Int32) (p2 : Int32) (p3 : Int32) : Ro l D K yX12_luck cX12_luck 7 (some .int) 3 69 [.ref (y 0), .int p0, .int p1, .int p2, .int p3] (mdL K y fm) (fun r => r = (-2)) := by
  refine ro_of (by decide) (Nat.le_of_ble_eq_true rfl) ?_
  intro p e s m below meth c hC hr hk hE hP ls hl
  have hC : CallFix p m c cX12_luck 7 s [.ref (y 0), .int p0, .int p1, .int p2, .int p3].toArray wl RX12 := hC
  have hx := hC.1
  have hb := hC.2.1
  have hml := hC.2.2.1
  have hown := hC.2.2.2.1
  have hts := hC.2.2.2.2
  have hl : lv_has ls 7 [(0, .ref (y 0)), (1, .int p0), (2, .int p1), (3, .int p2), (4, .int p3)] := hl
  refine lv_aload_n hx hb dX12_luck_0 rfl (lv_at hl 0 rfl) ?_
  refine lv_iload_n hx hb dX12_luck_1 rfl (lv_at hl 1 rfl) ?_
  refine lv_iload_n hx hb dX12_luck_2 rfl (lv_at hl 3 rfl) ?_
  refine lv_iload hx hb dX12_luck_3 (lv_at hl 4 rfl) ?_
  refine ro_V (As := [.int p0, .int p2, .int p3]) (rest := []) hC hE kV_X12_485 (c_X12_isDrawn l D K y fm hfm p0 p2 p3) hP 0 11 rfl rfl rfl hl.1 rfl (Nat.le_of_ble_eq_true rfl) (by decide) (by decide) dX12_luck_5 (fun r hq => ?_)
  subst hq
  refine lv_if_eq (tgt := 23) hx hb dX12_luck_8 (by decide) (fun _ => ?_) (fun h => absurd h (by decide))
  refine lv_bipush (v := (-2)) hx hb dX12_luck_23 (by decide) ?_
  exact ro_ret hC hr hk dX12_luck_25 rfl
set_option maxRecDepth 20000 in
theorem c_X12_fault (l : Launch) (D : va_G) (K : Nat → ClassId) (y : Nat → Nat) (fm : Nat → Int32) (hfm : ∀ j, j < 4 → fm j = -1) (p0 : Int32) : Ro l D K yX12_fault cX12_fault 2 (some .int) 0 0 [.ref (y 0), .int p0] (mdL K y fm) (fun r => (p0 = 0 ∧ r = 0) ∨ (¬ p0 = 0 ∧ r = (-1))) := by
  refine ro_of (by decide) (Nat.le_of_ble_eq_true rfl) ?_
  intro p e s m below meth c hC hr hk hE hP ls hl
  have hC : CallFix p m c cX12_fault 2 s [.ref (y 0), .int p0].toArray wl RX12 := hC
  have hx := hC.1
  have hb := hC.2.1
  have hml := hC.2.2.1
  have hown := hC.2.2.2.1
  have hts := hC.2.2.2.2
  have hl : lv_has ls 2 [(0, .ref (y 0)), (1, .int p0)] := hl
  refine lv_iload_n hx hb dX12_fault_0 rfl (lv_at hl 1 rfl) ?_
  refine lv_if_ne (tgt := 11) hx hb dX12_fault_1 (by decide) (fun c60 => ?_) (fun c60 => ?_)
  · refine lv_iload_n hx hb dX12_fault_11 rfl (lv_at hl 1 rfl) ?_
    refine lv_iconst (v := 1) hx hb dX12_fault_12 (by decide) ?_
    refine lv_icmp_ne (tgt := 23) hx hb dX12_fault_13 (by decide) (fun c61 => ?_) (fun c61 => ?_)
    · refine lv_iconst (v := (-1)) hx hb dX12_fault_23 (by decide) ?_
      exact ro_ret hC hr hk dX12_fault_24 (Or.inr (⟨c60, rfl⟩))
    · refine lv_aload_n hx hb dX12_fault_16 rfl (lv_at hl 0 rfl) ?_
      refine va_get (D := D) (ci := 11) (v := .int (-1)) (C := RX12) (T := TX12) (N := 53) hx hb hts in_X12 hown hE.1 hP 0 rfl rfl 13 (by decide) (hts _ w_236) (fun _ h9 => h9) rfl dX12_fault_17 ?_
      refine lv_goto (tgt := 24) hx hb dX12_fault_20 (by decide) ?_
      exact ro_ret hC hr hk dX12_fault_24 (Or.inr (⟨c60, rfl⟩))
  · refine lv_aload_n hx hb dX12_fault_4 rfl (lv_at hl 0 rfl) ?_
    refine va_get (D := D) (ci := 11) (v := .int 0) (C := RX12) (T := TX12) (N := 53) hx hb hts in_X12 hown hE.1 hP 0 rfl rfl 12 (by decide) (hts _ w_237) (fun _ h9 => h9) rfl dX12_fault_5 ?_
    refine lv_goto (tgt := 24) hx hb dX12_fault_8 (by decide) ?_
    exact ro_ret hC hr hk dX12_fault_24 (Or.inl ⟨c60, rfl⟩)
set_option maxRecDepth 20000 in
theorem c_X12_count (l : Launch) (D : va_G) (K : Nat → ClassId) (y : Nat → Nat) (fm : Nat → Int32) (hfm : ∀ j, j < 4 → fm j = -1) (p0 : Int32) : Ro l D K yX12_count cX12_count 5 (some .int) 0 0 [.ref (y 0), .int p0] (mdL K y fm) (fun r => (vp_in p0 9 ∧ r = 0) ∨ (¬ vp_in p0 9 ∧ r = (-1))) := by
  refine ro_of (by decide) (Nat.le_of_ble_eq_true rfl) ?_
  intro p e s m below meth c hC hr hk hE hP ls hl
  have hC : CallFix p m c cX12_count 5 s [.ref (y 0), .int p0].toArray wl RX12 := hC
  have hx := hC.1
  have hb := hC.2.1
  have hml := hC.2.2.1
  have hown := hC.2.2.2.1
  have hts := hC.2.2.2.2
  have hl : lv_has ls 5 [(0, .ref (y 0)), (1, .int p0)] := hl
  refine lv_iconst (v := 0) hx hb dX12_count_0 (by decide) ?_
  refine lv_istore_n (lv' := [(2, .int 0), (0, .ref (y 0)), (1, .int p0)]) hx hb dX12_count_1 rfl hl (by decide) rfl (fun ls hl => ?_)
  refine lv_iload_n hx hb dX12_count_2 rfl (lv_at hl 2 rfl) ?_
  by_cases h9 : vp_in p0 9
  · obtain ⟨j, hj, rfl⟩ := vp_in_of h9 (by decide)
    rcases (show j = 0 ∨ j = 1 ∨ j = 2 ∨ j = 3 ∨ j = 4 ∨ j = 5 ∨ j = 6 ∨ j = 7 ∨ j = 8 by omega) with rfl | rfl | rfl | rfl | rfl | rfl | rfl | rfl | rfl
    · refine lv_tableIn (off := 49) (tgt := 52) hx hb dX12_count_3 (by decide) (by decide) (by decide +kernel) (by decide) ?_
      refine lv_aload_n hx hb dX12_count_52 rfl (lv_at hl 1 rfl) ?_
      refine va_get (D := D) (ci := 11) (v := .ref (y 1)) (C := RX12) (T := TX12) (N := 53) hx hb hts in_X12 hown hE.1 hP 0 rfl rfl 1 (by decide) (hts _ w_194) (fun _ h9 => h9) rfl dX12_count_53 ?_
      refine lv_iconst (v := 0) hx hb dX12_count_56 (by decide) ?_
      refine va_iald hx hb hE.1 hP 1 1 rfl rfl (in_c (by decide)) dX12_count_57 ?_
      refine tc (y := 0) rfl ?_
      exact ro_ret hC hr hk dX12_count_58 (Or.inl ⟨(vp_in_nI (by decide) (by decide)), rfl⟩)
    · refine lv_tableIn (off := 56) (tgt := 59) hx hb dX12_count_3 (by decide) (by decide) (by decide +kernel) (by decide) ?_
      refine lv_iconst (v := 0) hx hb dX12_count_59 (by decide) ?_
      refine lv_istore_n (lv' := [(3, .int 0), (2, .int 0), (0, .ref (y 0)), (1, .int (nI 1))]) hx hb dX12_count_60 rfl hl (by decide) rfl (fun ls hl => ?_)
      refine lv_iload_n hx hb dX12_count_61 rfl (lv_at hl 0 rfl) ?_
      refine lv_aload_n hx hb dX12_count_62 rfl (lv_at hl 2 rfl) ?_
      refine va_get (D := D) (ci := 11) (v := .ref (y 1)) (C := RX12) (T := TX12) (N := 53) hx hb hts in_X12 hown hE.1 hP 0 rfl rfl 1 (by decide) (hts _ w_194) (fun _ h9 => h9) rfl dX12_count_63 ?_
      refine lv_iconst (v := 0) hx hb dX12_count_66 (by decide) ?_
      refine va_iald hx hb hE.1 hP 1 1 rfl rfl (in_c (by decide)) dX12_count_67 ?_
      refine tc (y := 0) rfl ?_
      refine lv_icmp_ge (tgt := 111) hx hb dX12_count_68 (by decide) (fun _ => ?_) (fun h => absurd h (by decide))
      refine lv_iload_n hx hb dX12_count_111 rfl (lv_at hl 1 rfl) ?_
      exact ro_ret hC hr hk dX12_count_112 (Or.inl ⟨(vp_in_nI (by decide) (by decide)), rfl⟩)
    · refine lv_tableIn (off := 110) (tgt := 113) hx hb dX12_count_3 (by decide) (by decide) (by decide +kernel) (by decide) ?_
      refine lv_iconst (v := 0) hx hb dX12_count_113 (by decide) ?_
      refine lv_istore_n (lv' := [(3, .int 0), (2, .int 0), (0, .ref (y 0)), (1, .int (nI 2))]) hx hb dX12_count_114 rfl hl (by decide) rfl (fun ls hl => ?_)
      refine lv_iload_n hx hb dX12_count_115 rfl (lv_at hl 0 rfl) ?_
      refine lv_aload_n hx hb dX12_count_116 rfl (lv_at hl 2 rfl) ?_
      refine va_get (D := D) (ci := 11) (v := .ref (y 1)) (C := RX12) (T := TX12) (N := 53) hx hb hts in_X12 hown hE.1 hP 0 rfl rfl 1 (by decide) (hts _ w_194) (fun _ h9 => h9) rfl dX12_count_117 ?_
      refine lv_iconst (v := 0) hx hb dX12_count_120 (by decide) ?_
      refine va_iald hx hb hE.1 hP 1 1 rfl rfl (in_c (by decide)) dX12_count_121 ?_
      refine tc (y := 0) rfl ?_
      refine lv_icmp_ge (tgt := 147) hx hb dX12_count_122 (by decide) (fun _ => ?_) (fun h => absurd h (by decide))
      refine lv_iload_n hx hb dX12_count_147 rfl (lv_at hl 1 rfl) ?_
      exact ro_ret hC hr hk dX12_count_148 (Or.inl ⟨(vp_in_nI (by decide) (by decide)), rfl⟩)
    · refine lv_tableIn (off := 146) (tgt := 149) hx hb dX12_count_3 (by decide) (by decide) (by decide +kernel) (by decide) ?_
      refine lv_aload_n hx hb dX12_count_149 rfl (lv_at hl 1 rfl) ?_
      refine va_get (D := D) (ci := 11) (v := .ref (y 1)) (C := RX12) (T := TX12) (N := 53) hx hb hts in_X12 hown hE.1 hP 0 rfl rfl 1 (by decide) (hts _ w_194) (fun _ h9 => h9) rfl dX12_count_150 ?_
      refine lv_iconst (v := 1) hx hb dX12_count_153 (by decide) ?_
      refine va_iald hx hb hE.1 hP 1 1 rfl rfl (in_c (by decide)) dX12_count_154 ?_
      refine tc (y := 0) rfl ?_
      exact ro_ret hC hr hk dX12_count_155 (Or.inl ⟨(vp_in_nI (by decide) (by decide)), rfl⟩)
    · refine lv_tableIn (off := 153) (tgt := 156) hx hb dX12_count_3 (by decide) (by decide) (by decide +kernel) (by decide) ?_
      refine lv_aload_n hx hb dX12_count_156 rfl (lv_at hl 1 rfl) ?_
      refine va_get (D := D) (ci := 11) (v := .ref (y 1)) (C := RX12) (T := TX12) (N := 53) hx hb hts in_X12 hown hE.1 hP 0 rfl rfl 1 (by decide) (hts _ w_194) (fun _ h9 => h9) rfl dX12_count_157 ?_
      refine lv_iconst (v := 2) hx hb dX12_count_160 (by decide) ?_
      refine va_iald hx hb hE.1 hP 1 1 rfl rfl (in_c (by decide)) dX12_count_161 ?_
      refine tc (y := 0) rfl ?_
      exact ro_ret hC hr hk dX12_count_162 (Or.inl ⟨(vp_in_nI (by decide) (by decide)), rfl⟩)
    · refine lv_tableIn (off := 160) (tgt := 163) hx hb dX12_count_3 (by decide) (by decide) (by decide +kernel) (by decide) ?_
      refine lv_aload_n hx hb dX12_count_163 rfl (lv_at hl 1 rfl) ?_
      refine va_get (D := D) (ci := 11) (v := .ref (y 1)) (C := RX12) (T := TX12) (N := 53) hx hb hts in_X12 hown hE.1 hP 0 rfl rfl 1 (by decide) (hts _ w_194) (fun _ h9 => h9) rfl dX12_count_164 ?_
      refine lv_iconst (v := 3) hx hb dX12_count_167 (by decide) ?_
      refine va_iald hx hb hE.1 hP 1 1 rfl rfl (in_c (by decide)) dX12_count_168 ?_
      refine tc (y := 0) rfl ?_
      exact ro_ret hC hr hk dX12_count_169 (Or.inl ⟨(vp_in_nI (by decide) (by decide)), rfl⟩)
    · refine lv_tableIn (off := 167) (tgt := 170) hx hb dX12_count_3 (by decide) (by decide) (by decide +kernel) (by decide) ?_
      refine lv_aload_n hx hb dX12_count_170 rfl (lv_at hl 1 rfl) ?_
      refine va_get (D := D) (ci := 11) (v := .int 0) (C := RX12) (T := TX12) (N := 53) hx hb hts in_X12 hown hE.1 hP 0 rfl rfl 5 (by decide) (hts _ w_238) (fun _ h9 => h9) rfl dX12_count_171 ?_
      exact ro_ret hC hr hk dX12_count_174 (Or.inl ⟨(vp_in_nI (by decide) (by decide)), rfl⟩)
    · refine lv_tableIn (off := 172) (tgt := 175) hx hb dX12_count_3 (by decide) (by decide) (by decide +kernel) (by decide) ?_
      refine lv_aload_n hx hb dX12_count_175 rfl (lv_at hl 1 rfl) ?_
      refine va_get (D := D) (ci := 11) (v := .ref (y 1)) (C := RX12) (T := TX12) (N := 53) hx hb hts in_X12 hown hE.1 hP 0 rfl rfl 1 (by decide) (hts _ w_194) (fun _ h9 => h9) rfl dX12_count_176 ?_
      refine lv_iconst (v := 4) hx hb dX12_count_179 (by decide) ?_
      refine va_iald hx hb hE.1 hP 1 1 rfl rfl (in_c (by decide)) dX12_count_180 ?_
      refine tc (y := 0) rfl ?_
      exact ro_ret hC hr hk dX12_count_181 (Or.inl ⟨(vp_in_nI (by decide) (by decide)), rfl⟩)
    · refine lv_tableIn (off := 179) (tgt := 182) hx hb dX12_count_3 (by decide) (by decide) (by decide +kernel) (by decide) ?_
      refine lv_iconst (v := 0) hx hb dX12_count_182 (by decide) ?_
      refine lv_istore_n (lv' := [(3, .int 0), (2, .int 0), (0, .ref (y 0)), (1, .int (nI 8))]) hx hb dX12_count_183 rfl hl (by decide) rfl (fun ls hl => ?_)
      refine lv_iload_n hx hb dX12_count_184 rfl (lv_at hl 0 rfl) ?_
      refine lv_iconst (v := 4) hx hb dX12_count_185 (by decide) ?_
      refine lv_icmp_ge (tgt := 213) hx hb dX12_count_186 (by decide) (fun h => absurd h (by decide)) (fun _ => ?_)
      refine lv_iload_n hx hb dX12_count_189 rfl (lv_at hl 1 rfl) ?_
      refine lv_aload_n hx hb dX12_count_190 rfl (lv_at hl 2 rfl) ?_
      refine va_get (D := D) (ci := 11) (v := .ref (y 7)) (C := RX12) (T := TX12) (N := 53) hx hb hts in_X12 hown hE.1 hP 0 rfl rfl 49 (by decide) (hts _ w_239) (fun _ h9 => h9) rfl dX12_count_191 ?_
      refine lv_iload_n hx hb dX12_count_194 rfl (lv_at hl 0 rfl) ?_
      refine va_iald hx hb hE.1 hP 7 1 rfl rfl (in_c (by decide)) dX12_count_195 ?_
      refine tc (y := (-1)) (hfm _ (by decide)) ?_
      refine lv_iconst (v := (-1)) hx hb dX12_count_196 (by decide) ?_
      refine lv_icmp_ne (tgt := 204) hx hb dX12_count_197 (by decide) (fun h => absurd h (by decide)) (fun _ => ?_)
      refine lv_iconst (v := 0) hx hb dX12_count_200 (by decide) ?_
      refine lv_goto (tgt := 205) hx hb dX12_count_201 (by decide) ?_
      refine lv_iadd hx hb dX12_count_205 ?_
      refine tc (y := 0) (by decide) ?_
      refine lv_istore_n (lv' := [(2, .int 0), (3, .int 0), (0, .ref (y 0)), (1, .int (nI 8))]) hx hb dX12_count_206 rfl hl (by decide) rfl (fun ls hl => ?_)
      refine lv_iinc (v := 1) (lv' := [(3, .int 1), (2, .int 0), (0, .ref (y 0)), (1, .int (nI 8))]) hx hb dX12_count_207 hl (k := 1) rfl (by decide) (by decide) rfl (fun ls hl => ?_)
      refine lv_goto (tgt := 184) hx hb dX12_count_210 (by decide) ?_
      refine lv_iload_n hx hb dX12_count_184 rfl (lv_at hl 0 rfl) ?_
      refine lv_iconst (v := 4) hx hb dX12_count_185 (by decide) ?_
      refine lv_icmp_ge (tgt := 213) hx hb dX12_count_186 (by decide) (fun h => absurd h (by decide)) (fun _ => ?_)
      refine lv_iload_n hx hb dX12_count_189 rfl (lv_at hl 1 rfl) ?_
      refine lv_aload_n hx hb dX12_count_190 rfl (lv_at hl 2 rfl) ?_
      refine va_get (D := D) (ci := 11) (v := .ref (y 7)) (C := RX12) (T := TX12) (N := 53) hx hb hts in_X12 hown hE.1 hP 0 rfl rfl 49 (by decide) (hts _ w_239) (fun _ h9 => h9) rfl dX12_count_191 ?_
      refine lv_iload_n hx hb dX12_count_194 rfl (lv_at hl 0 rfl) ?_
      refine va_iald hx hb hE.1 hP 7 1 rfl rfl (in_c (by decide)) dX12_count_195 ?_
      refine tc (y := (-1)) (hfm _ (by decide)) ?_
      refine lv_iconst (v := (-1)) hx hb dX12_count_196 (by decide) ?_
      refine lv_icmp_ne (tgt := 204) hx hb dX12_count_197 (by decide) (fun h => absurd h (by decide)) (fun _ => ?_)
      refine lv_iconst (v := 0) hx hb dX12_count_200 (by decide) ?_
      refine lv_goto (tgt := 205) hx hb dX12_count_201 (by decide) ?_
      refine lv_iadd hx hb dX12_count_205 ?_
      refine tc (y := 0) (by decide) ?_
      refine lv_istore_n (lv' := [(2, .int 0), (3, .int 1), (0, .ref (y 0)), (1, .int (nI 8))]) hx hb dX12_count_206 rfl hl (by decide) rfl (fun ls hl => ?_)
      refine lv_iinc (v := 2) (lv' := [(3, .int 2), (2, .int 0), (0, .ref (y 0)), (1, .int (nI 8))]) hx hb dX12_count_207 hl (k := 1) rfl (by decide) (by decide) rfl (fun ls hl => ?_)
      refine lv_goto (tgt := 184) hx hb dX12_count_210 (by decide) ?_
      refine lv_iload_n hx hb dX12_count_184 rfl (lv_at hl 0 rfl) ?_
      refine lv_iconst (v := 4) hx hb dX12_count_185 (by decide) ?_
      refine lv_icmp_ge (tgt := 213) hx hb dX12_count_186 (by decide) (fun h => absurd h (by decide)) (fun _ => ?_)
      refine lv_iload_n hx hb dX12_count_189 rfl (lv_at hl 1 rfl) ?_
      refine lv_aload_n hx hb dX12_count_190 rfl (lv_at hl 2 rfl) ?_
      refine va_get (D := D) (ci := 11) (v := .ref (y 7)) (C := RX12) (T := TX12) (N := 53) hx hb hts in_X12 hown hE.1 hP 0 rfl rfl 49 (by decide) (hts _ w_239) (fun _ h9 => h9) rfl dX12_count_191 ?_
      refine lv_iload_n hx hb dX12_count_194 rfl (lv_at hl 0 rfl) ?_
      refine va_iald hx hb hE.1 hP 7 1 rfl rfl (in_c (by decide)) dX12_count_195 ?_
      refine tc (y := (-1)) (hfm _ (by decide)) ?_
      refine lv_iconst (v := (-1)) hx hb dX12_count_196 (by decide) ?_
      refine lv_icmp_ne (tgt := 204) hx hb dX12_count_197 (by decide) (fun h => absurd h (by decide)) (fun _ => ?_)
      refine lv_iconst (v := 0) hx hb dX12_count_200 (by decide) ?_
      refine lv_goto (tgt := 205) hx hb dX12_count_201 (by decide) ?_
      refine lv_iadd hx hb dX12_count_205 ?_
      refine tc (y := 0) (by decide) ?_
      refine lv_istore_n (lv' := [(2, .int 0), (3, .int 2), (0, .ref (y 0)), (1, .int (nI 8))]) hx hb dX12_count_206 rfl hl (by decide) rfl (fun ls hl => ?_)
      refine lv_iinc (v := 3) (lv' := [(3, .int 3), (2, .int 0), (0, .ref (y 0)), (1, .int (nI 8))]) hx hb dX12_count_207 hl (k := 1) rfl (by decide) (by decide) rfl (fun ls hl => ?_)
      refine lv_goto (tgt := 184) hx hb dX12_count_210 (by decide) ?_
      refine lv_iload_n hx hb dX12_count_184 rfl (lv_at hl 0 rfl) ?_
      refine lv_iconst (v := 4) hx hb dX12_count_185 (by decide) ?_
      refine lv_icmp_ge (tgt := 213) hx hb dX12_count_186 (by decide) (fun h => absurd h (by decide)) (fun _ => ?_)
      refine lv_iload_n hx hb dX12_count_189 rfl (lv_at hl 1 rfl) ?_
      refine lv_aload_n hx hb dX12_count_190 rfl (lv_at hl 2 rfl) ?_
      refine va_get (D := D) (ci := 11) (v := .ref (y 7)) (C := RX12) (T := TX12) (N := 53) hx hb hts in_X12 hown hE.1 hP 0 rfl rfl 49 (by decide) (hts _ w_239) (fun _ h9 => h9) rfl dX12_count_191 ?_
      refine lv_iload_n hx hb dX12_count_194 rfl (lv_at hl 0 rfl) ?_
      refine va_iald hx hb hE.1 hP 7 1 rfl rfl (in_c (by decide)) dX12_count_195 ?_
      refine tc (y := (-1)) (hfm _ (by decide)) ?_
      refine lv_iconst (v := (-1)) hx hb dX12_count_196 (by decide) ?_
      refine lv_icmp_ne (tgt := 204) hx hb dX12_count_197 (by decide) (fun h => absurd h (by decide)) (fun _ => ?_)
      refine lv_iconst (v := 0) hx hb dX12_count_200 (by decide) ?_
      refine lv_goto (tgt := 205) hx hb dX12_count_201 (by decide) ?_
      refine lv_iadd hx hb dX12_count_205 ?_
      refine tc (y := 0) (by decide) ?_
      refine lv_istore_n (lv' := [(2, .int 0), (3, .int 3), (0, .ref (y 0)), (1, .int (nI 8))]) hx hb dX12_count_206 rfl hl (by decide) rfl (fun ls hl => ?_)
      refine lv_iinc (v := 4) (lv' := [(3, .int 4), (2, .int 0), (0, .ref (y 0)), (1, .int (nI 8))]) hx hb dX12_count_207 hl (k := 1) rfl (by decide) (by decide) rfl (fun ls hl => ?_)
      refine lv_goto (tgt := 184) hx hb dX12_count_210 (by decide) ?_
      refine lv_iload_n hx hb dX12_count_184 rfl (lv_at hl 0 rfl) ?_
      refine lv_iconst (v := 4) hx hb dX12_count_185 (by decide) ?_
      refine lv_icmp_ge (tgt := 213) hx hb dX12_count_186 (by decide) (fun _ => ?_) (fun h => absurd h (by decide))
      refine lv_iload_n hx hb dX12_count_213 rfl (lv_at hl 1 rfl) ?_
      exact ro_ret hC hr hk dX12_count_214 (Or.inl ⟨(vp_in_nI (by decide) (by decide)), rfl⟩)
  · refine lv_tableOut (tgt := 215) hx hb dX12_count_3 (tab_out h9) (by decide) ?_
    refine lv_iconst (v := (-1)) hx hb dX12_count_215 (by decide) ?_
    exact ro_ret hC hr hk dX12_count_216 (Or.inr (⟨h9, rfl⟩))
set_option maxRecDepth 20000 in
theorem c_X12_back (l : Launch) (D : va_G) (K : Nat → ClassId) (y : Nat → Nat) (fm : Nat → Int32) (hfm : ∀ j, j < 4 → fm j = -1) (p0 : Int32) : Ro l D K yX12_back cX12_back 3 (some .int) 1 25 [.ref (y 0), .int p0] (mdL K y fm) (fun r => (vp_in p0 3 ∧ r = (-6)) ∨ (¬ vp_in p0 3 ∧ r = (-2))) := by
  refine ro_of (by decide) (Nat.le_of_ble_eq_true rfl) ?_
  intro p e s m below meth c hC hr hk hE hP ls hl
  have hC : CallFix p m c cX12_back 3 s [.ref (y 0), .int p0].toArray wl RX12 := hC
  have hx := hC.1
  have hb := hC.2.1
  have hml := hC.2.2.1
  have hown := hC.2.2.2.1
  have hts := hC.2.2.2.2
  have hl : lv_has ls 3 [(0, .ref (y 0)), (1, .int p0)] := hl
  refine lv_iload_n hx hb dX12_back_0 rfl (lv_at hl 1 rfl) ?_
  refine lv_i2l (v := p0.toInt64) hx hb dX12_back_1 rfl ?_
  refine lv_lconst (v := 0) hx hb dX12_back_2 (by decide) ?_
  refine lv_ldc2 (v := 2) hx hb hown (hts _ w_240) dX12_back_3 ?_
  refine ro_S (As := [.long p0.toInt64, .long 0, .long 2]) (rest := []) hC hE kS_X12_115 (c_X12_in l D K p0.toInt64 0 2) (hP.sub (ws' := []) [] rfl) rfl hl.1 rfl (Nat.le_of_ble_eq_true rfl) (by decide) (by decide) dX12_back_6 (fun r hq => ?_)
  rcases hq with ⟨h62, rfl⟩ | ⟨h63, rfl⟩
  · refine lv_if_ne (tgt := 15) hx hb dX12_back_9 (by decide) (fun _ => ?_) (fun h => absurd h (by decide))
    refine lv_aload_n hx hb dX12_back_15 rfl (lv_at hl 0 rfl) ?_
    refine va_get (D := D) (ci := 11) (v := .ref (y 3)) (C := RX12) (T := TX12) (N := 53) hx hb hts in_X12 hown hE.1 hP 0 rfl rfl 3 (by decide) (hts _ w_241) (fun _ h9 => h9) rfl dX12_back_16 ?_
    refine lv_iload_n hx hb dX12_back_19 rfl (lv_at hl 1 rfl) ?_
    refine va_zald hx hb hE.1 hP 3 3 rfl rfl (iy64 (by decide) h62) dX12_back_20 ?_
    refine tc (y := 0) rfl ?_
    refine lv_if_ne (tgt := 27) hx hb dX12_back_21 (by decide) (fun h => absurd h (by decide)) (fun _ => ?_)
    refine lv_bipush (v := (-6)) hx hb dX12_back_24 (by decide) ?_
    exact ro_ret hC hr hk dX12_back_26 (Or.inl ⟨(iy64 (by decide) h62), rfl⟩)
  · refine lv_if_ne (tgt := 15) hx hb dX12_back_9 (by decide) (fun h => absurd h (by decide)) (fun _ => ?_)
    refine lv_bipush (v := (-2)) hx hb dX12_back_12 (by decide) ?_
    exact ro_ret hC hr hk dX12_back_14 (Or.inr (⟨(in64 (by decide) h63), rfl⟩))
set_option maxRecDepth 20000 in
theorem c_X12_write (l : Launch) (D : va_G) (K : Nat → ClassId) (y : Nat → Nat) (fm : Nat → Int32) (hfm : ∀ j, j < 4 → fm j = -1) (p0 : Int32) (p1 : Int32) (p2 : Int64) : Ro l D K yX12_write cX12_write 5 (some .int) 2 45 [.ref (y 0), .int p0, .int p1, .long p2] (mdL K y fm) (fun r => (vp_in p0 4 ∧ r = (-6)) ∨ (¬ vp_in p0 4 ∧ r = (-2))) := by
  refine ro_of (by decide) (Nat.le_of_ble_eq_true rfl) ?_
  intro p e s m below meth c hC hr hk hE hP ls hl
  have hC : CallFix p m c cX12_write 5 s [.ref (y 0), .int p0, .int p1, .long p2].toArray wl RX12 := hC
  have hx := hC.1
  have hb := hC.2.1
  have hml := hC.2.2.1
  have hown := hC.2.2.2.1
  have hts := hC.2.2.2.2
  have hl : lv_has ls 5 [(0, .ref (y 0)), (1, .int p0), (2, .int p1), (3, .long p2)] := hl
  refine lv_iload_n hx hb dX12_write_0 rfl (lv_at hl 1 rfl) ?_
  refine ro_S (As := [.int p0]) (rest := []) hC hE kS_X12_334 (c_X12_isSlot l D K p0) (hP.sub (ws' := []) [] rfl) rfl hl.1 rfl (Nat.le_of_ble_eq_true rfl) (by decide) (by decide) dX12_write_1 (fun r hq => ?_)
  rcases hq with ⟨h64, rfl⟩ | ⟨h65, rfl⟩
  · refine lv_if_ne (tgt := 10) hx hb dX12_write_4 (by decide) (fun _ => ?_) (fun h => absurd h (by decide))
    refine lv_aload_n hx hb dX12_write_10 rfl (lv_at hl 0 rfl) ?_
    refine va_get (D := D) (ci := 11) (v := .ref (y 7)) (C := RX12) (T := TX12) (N := 53) hx hb hts in_X12 hown hE.1 hP 0 rfl rfl 49 (by decide) (hts _ w_239) (fun _ h9 => h9) rfl dX12_write_11 ?_
    refine lv_iload_n hx hb dX12_write_14 rfl (lv_at hl 1 rfl) ?_
    refine va_iald hx hb hE.1 hP 7 1 rfl rfl h64 dX12_write_15 ?_
    refine tc (y := (-1)) (hfm _ (in_lt h64)) ?_
    refine lv_iconst (v := (-1)) hx hb dX12_write_16 (by decide) ?_
    refine lv_icmp_ne (tgt := 23) hx hb dX12_write_17 (by decide) (fun h => absurd h (by decide)) (fun _ => ?_)
    refine lv_bipush (v := (-6)) hx hb dX12_write_20 (by decide) ?_
    exact ro_ret hC hr hk dX12_write_22 (Or.inl ⟨h64, rfl⟩)
  · refine lv_if_ne (tgt := 10) hx hb dX12_write_4 (by decide) (fun h => absurd h (by decide)) (fun _ => ?_)
    refine lv_bipush (v := (-2)) hx hb dX12_write_7 (by decide) ?_
    exact ro_ret hC hr hk dX12_write_9 (Or.inr (⟨h65, rfl⟩))
set_option maxRecDepth 20000 in
theorem c_X12_paste (l : Launch) (D : va_G) (K : Nat → ClassId) (y : Nat → Nat) (fm : Nat → Int32) (hfm : ∀ j, j < 4 → fm j = -1) (p0 : Int32) (p1 : Int32) (p2 : Int32) (p3 : Int32) (p4 : Int32) : Ro l D K yX12_paste cX12_paste 7 (some .int) 2 45 [.ref (y 0), .int p0, .int p1, .int p2, .int p3, .int p4] (mdL K y fm) (fun r => ((vp_in p0 4 ∧ vp_in p2 4) ∧ r = (-6)) ∨ (¬ (vp_in p0 4 ∧ vp_in p2 4) ∧ r = (-2))) := by
  refine ro_of (by decide) (Nat.le_of_ble_eq_true rfl) ?_
  intro p e s m below meth c hC hr hk hE hP ls hl
  have hC : CallFix p m c cX12_paste 7 s [.ref (y 0), .int p0, .int p1, .int p2, .int p3, .int p4].toArray wl RX12 := hC
  have hx := hC.1
  have hb := hC.2.1
  have hml := hC.2.2.1
  have hown := hC.2.2.2.1
  have hts := hC.2.2.2.2
  have hl : lv_has ls 7 [(0, .ref (y 0)), (1, .int p0), (2, .int p1), (3, .int p2), (4, .int p3), (5, .int p4)] := hl
  refine lv_iload_n hx hb dX12_paste_0 rfl (lv_at hl 1 rfl) ?_
  refine ro_S (As := [.int p0]) (rest := []) hC hE kS_X12_334 (c_X12_isSlot l D K p0) (hP.sub (ws' := []) [] rfl) rfl hl.1 rfl (Nat.le_of_ble_eq_true rfl) (by decide) (by decide) dX12_paste_1 (fun r hq => ?_)
  rcases hq with ⟨h66, rfl⟩ | ⟨h67, rfl⟩
  · refine lv_if_eq (tgt := 14) hx hb dX12_paste_4 (by decide) (fun h => absurd h (by decide)) (fun _ => ?_)
    refine lv_iload_n hx hb dX12_paste_7 rfl (lv_at hl 3 rfl) ?_
    refine ro_S (As := [.int p2]) (rest := []) hC hE kS_X12_334 (c_X12_isSlot l D K p2) (hP.sub (ws' := []) [] rfl) rfl hl.1 rfl (Nat.le_of_ble_eq_true rfl) (by decide) (by decide) dX12_paste_8 (fun r hq => ?_)
    rcases hq with ⟨h68, rfl⟩ | ⟨h69, rfl⟩
    · refine lv_if_ne (tgt := 17) hx hb dX12_paste_11 (by decide) (fun _ => ?_) (fun h => absurd h (by decide))
      refine lv_aload_n hx hb dX12_paste_17 rfl (lv_at hl 0 rfl) ?_
      refine va_get (D := D) (ci := 11) (v := .ref (y 7)) (C := RX12) (T := TX12) (N := 53) hx hb hts in_X12 hown hE.1 hP 0 rfl rfl 49 (by decide) (hts _ w_239) (fun _ h9 => h9) rfl dX12_paste_18 ?_
      refine lv_iload_n hx hb dX12_paste_21 rfl (lv_at hl 1 rfl) ?_
      refine va_iald hx hb hE.1 hP 7 1 rfl rfl h66 dX12_paste_22 ?_
      refine tc (y := (-1)) (hfm _ (in_lt h66)) ?_
      refine lv_iconst (v := (-1)) hx hb dX12_paste_23 (by decide) ?_
      refine lv_icmp_eq (tgt := 37) hx hb dX12_paste_24 (by decide) (fun _ => ?_) (fun h => absurd h (by decide))
      refine lv_bipush (v := (-6)) hx hb dX12_paste_37 (by decide) ?_
      exact ro_ret hC hr hk dX12_paste_39 (Or.inl ⟨⟨h66, h68⟩, rfl⟩)
    · refine lv_if_ne (tgt := 17) hx hb dX12_paste_11 (by decide) (fun h => absurd h (by decide)) (fun _ => ?_)
      refine lv_bipush (v := (-2)) hx hb dX12_paste_14 (by decide) ?_
      exact ro_ret hC hr hk dX12_paste_16 (Or.inr (⟨(fun q => h69 q.2), rfl⟩))
  · refine lv_if_eq (tgt := 14) hx hb dX12_paste_4 (by decide) (fun _ => ?_) (fun h => absurd h (by decide))
    refine lv_bipush (v := (-2)) hx hb dX12_paste_14 (by decide) ?_
    exact ro_ret hC hr hk dX12_paste_16 (Or.inr (⟨(fun q => h67 q.1), rfl⟩))
end
