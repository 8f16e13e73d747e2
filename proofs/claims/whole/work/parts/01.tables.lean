-- ===== PART A: goes FIRST, ahead of the names: the tables' words, and 'selects' of the private methods out of them =====
/-- a private method of a class that the tables say can be made, by its rows of tables_1 -/
def lw_okq (q : MethodName × Nat) : Prop := (q.1.cls ≠ "java/lang/invoke/MethodHandle" ∧ q.1.cls ≠ "java/lang/invoke/VarHandle") ∧ Cond.instantiable q.1.cls q.2 ∈ tables_1 ∧ Cond.privateMethod q.1 ∈ tables_1 ∧ Cond.instanceMethod q.1 ∈ tables_1
theorem lw_p0 : lw_okq (⟨"RegionHeap", "placeForSmall", "(I)LRegionHeap$Region;"⟩, 10) := ⟨⟨by decide +kernel, by decide +kernel⟩, List.mem_of_getElem? (i := 7) (by decide +kernel), List.mem_of_getElem? (i := 111) (by decide +kernel), List.mem_of_getElem? (i := 112) (by decide +kernel)⟩
theorem lw_p1 : lw_okq (⟨"RegionHeap", "edenPlace", "(I)LRegionHeap$Region;"⟩, 10) := ⟨⟨by decide +kernel, by decide +kernel⟩, List.mem_of_getElem? (i := 7) (by decide +kernel), List.mem_of_getElem? (i := 115) (by decide +kernel), List.mem_of_getElem? (i := 116) (by decide +kernel)⟩
theorem lw_p2 : lw_okq (⟨"RegionHeap$Region", "hasRoom", "(I)Z"⟩, 12) := ⟨⟨by decide +kernel, by decide +kernel⟩, List.mem_of_getElem? (i := 16) (by decide +kernel), List.mem_of_getElem? (i := 119) (by decide +kernel), List.mem_of_getElem? (i := 120) (by decide +kernel)⟩
theorem lw_p3 : lw_okq (⟨"RegionHeap", "leastFreeRun", "(I)I"⟩, 10) := ⟨⟨by decide +kernel, by decide +kernel⟩, List.mem_of_getElem? (i := 7) (by decide +kernel), List.mem_of_getElem? (i := 123) (by decide +kernel), List.mem_of_getElem? (i := 124) (by decide +kernel)⟩
theorem lw_p4 : lw_okq (⟨"RegionHeap", "edenCount", "()I"⟩, 10) := ⟨⟨by decide +kernel, by decide +kernel⟩, List.mem_of_getElem? (i := 7) (by decide +kernel), List.mem_of_getElem? (i := 127) (by decide +kernel), List.mem_of_getElem? (i := 128) (by decide +kernel)⟩
theorem lw_p5 : lw_okq (⟨"RegionHeap", "collectWithin", "(I)I"⟩, 10) := ⟨⟨by decide +kernel, by decide +kernel⟩, List.mem_of_getElem? (i := 7) (by decide +kernel), List.mem_of_getElem? (i := 131) (by decide +kernel), List.mem_of_getElem? (i := 132) (by decide +kernel)⟩
theorem lw_p6 : lw_okq (⟨"RegionHeap", "chooseWithin", "(I)I"⟩, 10) := ⟨⟨by decide +kernel, by decide +kernel⟩, List.mem_of_getElem? (i := 7) (by decide +kernel), List.mem_of_getElem? (i := 135) (by decide +kernel), List.mem_of_getElem? (i := 136) (by decide +kernel)⟩
theorem lw_p7 : lw_okq (⟨"RegionHeap", "weighRegions", "()V"⟩, 10) := ⟨⟨by decide +kernel, by decide +kernel⟩, List.mem_of_getElem? (i := 7) (by decide +kernel), List.mem_of_getElem? (i := 139) (by decide +kernel), List.mem_of_getElem? (i := 140) (by decide +kernel)⟩
theorem lw_p8 : lw_okq (⟨"RegionHeap", "incomingTo", "(LRegionHeap$Region;)I"⟩, 10) := ⟨⟨by decide +kernel, by decide +kernel⟩, List.mem_of_getElem? (i := 7) (by decide +kernel), List.mem_of_getElem? (i := 143) (by decide +kernel), List.mem_of_getElem? (i := 144) (by decide +kernel)⟩
theorem lw_p9 : lw_okq (⟨"RegionHeap", "bestCandidate", "()LRegionHeap$Region;"⟩, 10) := ⟨⟨by decide +kernel, by decide +kernel⟩, List.mem_of_getElem? (i := 7) (by decide +kernel), List.mem_of_getElem? (i := 150) (by decide +kernel), List.mem_of_getElem? (i := 151) (by decide +kernel)⟩
theorem lw_p10 : lw_okq (⟨"RegionHeap$Region", "comesBefore", "(LRegionHeap$Region;)Z"⟩, 12) := ⟨⟨by decide +kernel, by decide +kernel⟩, List.mem_of_getElem? (i := 16) (by decide +kernel), List.mem_of_getElem? (i := 154) (by decide +kernel), List.mem_of_getElem? (i := 155) (by decide +kernel)⟩
theorem lw_p11 : lw_okq (⟨"RegionHeap", "beginPlan", "(I)V"⟩, 10) := ⟨⟨by decide +kernel, by decide +kernel⟩, List.mem_of_getElem? (i := 7) (by decide +kernel), List.mem_of_getElem? (i := 158) (by decide +kernel), List.mem_of_getElem? (i := 159) (by decide +kernel)⟩
theorem lw_p12 : lw_okq (⟨"RegionHeap", "planRoots", "()Z"⟩, 10) := ⟨⟨by decide +kernel, by decide +kernel⟩, List.mem_of_getElem? (i := 7) (by decide +kernel), List.mem_of_getElem? (i := 162) (by decide +kernel), List.mem_of_getElem? (i := 163) (by decide +kernel)⟩
theorem lw_p13 : lw_okq (⟨"RegionHeap", "planCopy", "(LRegionHeap$Item;)Z"⟩, 10) := ⟨⟨by decide +kernel, by decide +kernel⟩, List.mem_of_getElem? (i := 7) (by decide +kernel), List.mem_of_getElem? (i := 166) (by decide +kernel), List.mem_of_getElem? (i := 167) (by decide +kernel)⟩
theorem lw_p14 : lw_okq (⟨"RegionHeap", "targetFor", "(II)LRegionHeap$Region;"⟩, 10) := ⟨⟨by decide +kernel, by decide +kernel⟩, List.mem_of_getElem? (i := 7) (by decide +kernel), List.mem_of_getElem? (i := 170) (by decide +kernel), List.mem_of_getElem? (i := 171) (by decide +kernel)⟩
theorem lw_p15 : lw_okq (⟨"RegionHeap", "planRegionsThatStay", "()Z"⟩, 10) := ⟨⟨by decide +kernel, by decide +kernel⟩, List.mem_of_getElem? (i := 7) (by decide +kernel), List.mem_of_getElem? (i := 174) (by decide +kernel), List.mem_of_getElem? (i := 175) (by decide +kernel)⟩
def lw_privs_1 : List (MethodName × Nat) := [(⟨"RegionHeap", "placeForSmall", "(I)LRegionHeap$Region;"⟩, 10), (⟨"RegionHeap", "edenPlace", "(I)LRegionHeap$Region;"⟩, 10), (⟨"RegionHeap$Region", "hasRoom", "(I)Z"⟩, 12), (⟨"RegionHeap", "leastFreeRun", "(I)I"⟩, 10), (⟨"RegionHeap", "edenCount", "()I"⟩, 10), (⟨"RegionHeap", "collectWithin", "(I)I"⟩, 10), (⟨"RegionHeap", "chooseWithin", "(I)I"⟩, 10), (⟨"RegionHeap", "weighRegions", "()V"⟩, 10), (⟨"RegionHeap", "incomingTo", "(LRegionHeap$Region;)I"⟩, 10), (⟨"RegionHeap", "bestCandidate", "()LRegionHeap$Region;"⟩, 10), (⟨"RegionHeap$Region", "comesBefore", "(LRegionHeap$Region;)Z"⟩, 12), (⟨"RegionHeap", "beginPlan", "(I)V"⟩, 10), (⟨"RegionHeap", "planRoots", "()Z"⟩, 10), (⟨"RegionHeap", "planCopy", "(LRegionHeap$Item;)Z"⟩, 10), (⟨"RegionHeap", "targetFor", "(II)LRegionHeap$Region;"⟩, 10), (⟨"RegionHeap", "planRegionsThatStay", "()Z"⟩, 10)]
theorem lw_r1 : ∀ q ∈ lw_privs_1, lw_okq q := List.forall_mem_cons.mpr ⟨lw_p0, List.forall_mem_cons.mpr ⟨lw_p1, List.forall_mem_cons.mpr ⟨lw_p2, List.forall_mem_cons.mpr ⟨lw_p3, List.forall_mem_cons.mpr ⟨lw_p4, List.forall_mem_cons.mpr ⟨lw_p5, List.forall_mem_cons.mpr ⟨lw_p6, List.forall_mem_cons.mpr ⟨lw_p7, List.forall_mem_cons.mpr ⟨lw_p8, List.forall_mem_cons.mpr ⟨lw_p9, List.forall_mem_cons.mpr ⟨lw_p10, List.forall_mem_cons.mpr ⟨lw_p11, List.forall_mem_cons.mpr ⟨lw_p12, List.forall_mem_cons.mpr ⟨lw_p13, List.forall_mem_cons.mpr ⟨lw_p14, List.forall_mem_cons.mpr ⟨lw_p15, fun _ h => absurd h List.not_mem_nil⟩⟩⟩⟩⟩⟩⟩⟩⟩⟩⟩⟩⟩⟩⟩⟩
theorem lw_p16 : lw_okq (⟨"RegionHeap", "planFields", "(LRegionHeap$Item;)Z"⟩, 10) := ⟨⟨by decide +kernel, by decide +kernel⟩, List.mem_of_getElem? (i := 7) (by decide +kernel), List.mem_of_getElem? (i := 178) (by decide +kernel), List.mem_of_getElem? (i := 179) (by decide +kernel)⟩
theorem lw_p17 : lw_okq (⟨"RegionHeap", "planFound", "()Z"⟩, 10) := ⟨⟨by decide +kernel, by decide +kernel⟩, List.mem_of_getElem? (i := 7) (by decide +kernel), List.mem_of_getElem? (i := 182) (by decide +kernel), List.mem_of_getElem? (i := 183) (by decide +kernel)⟩
theorem lw_p18 : lw_okq (⟨"RegionHeap", "collectFully", "()I"⟩, 10) := ⟨⟨by decide +kernel, by decide +kernel⟩, List.mem_of_getElem? (i := 7) (by decide +kernel), List.mem_of_getElem? (i := 186) (by decide +kernel), List.mem_of_getElem? (i := 187) (by decide +kernel)⟩
theorem lw_p19 : lw_okq (⟨"RegionHeap", "findReached", "()I"⟩, 10) := ⟨⟨by decide +kernel, by decide +kernel⟩, List.mem_of_getElem? (i := 7) (by decide +kernel), List.mem_of_getElem? (i := 190) (by decide +kernel), List.mem_of_getElem? (i := 191) (by decide +kernel)⟩
theorem lw_p20 : lw_okq (⟨"RegionHeap", "forgetReached", "()V"⟩, 10) := ⟨⟨by decide +kernel, by decide +kernel⟩, List.mem_of_getElem? (i := 7) (by decide +kernel), List.mem_of_getElem? (i := 194) (by decide +kernel), List.mem_of_getElem? (i := 195) (by decide +kernel)⟩
theorem lw_p21 : lw_okq (⟨"RegionHeap", "reach", "(LRegionHeap$Item;)V"⟩, 10) := ⟨⟨by decide +kernel, by decide +kernel⟩, List.mem_of_getElem? (i := 7) (by decide +kernel), List.mem_of_getElem? (i := 198) (by decide +kernel), List.mem_of_getElem? (i := 199) (by decide +kernel)⟩
theorem lw_p22 : lw_okq (⟨"RegionHeap", "takeUpSmall", "()V"⟩, 10) := ⟨⟨by decide +kernel, by decide +kernel⟩, List.mem_of_getElem? (i := 7) (by decide +kernel), List.mem_of_getElem? (i := 202) (by decide +kernel), List.mem_of_getElem? (i := 203) (by decide +kernel)⟩
theorem lw_p23 : lw_okq (⟨"RegionHeap$Region", "reachedWords", "()I"⟩, 12) := ⟨⟨by decide +kernel, by decide +kernel⟩, List.mem_of_getElem? (i := 16) (by decide +kernel), List.mem_of_getElem? (i := 206) (by decide +kernel), List.mem_of_getElem? (i := 207) (by decide +kernel)⟩
theorem lw_p24 : lw_okq (⟨"RegionHeap$Region", "isPartOfLarge", "()Z"⟩, 12) := ⟨⟨by decide +kernel, by decide +kernel⟩, List.mem_of_getElem? (i := 16) (by decide +kernel), List.mem_of_getElem? (i := 210) (by decide +kernel), List.mem_of_getElem? (i := 211) (by decide +kernel)⟩
theorem lw_p25 : lw_okq (⟨"RegionHeap", "takeUpReached", "(LRegionHeap$Region;)V"⟩, 10) := ⟨⟨by decide +kernel, by decide +kernel⟩, List.mem_of_getElem? (i := 7) (by decide +kernel), List.mem_of_getElem? (i := 214) (by decide +kernel), List.mem_of_getElem? (i := 215) (by decide +kernel)⟩
theorem lw_p26 : lw_okq (⟨"RegionHeap$Region", "clear", "()V"⟩, 12) := ⟨⟨by decide +kernel, by decide +kernel⟩, List.mem_of_getElem? (i := 16) (by decide +kernel), List.mem_of_getElem? (i := 218) (by decide +kernel), List.mem_of_getElem? (i := 219) (by decide +kernel)⟩
theorem lw_p27 : lw_okq (⟨"RegionHeap", "layTogether", "()V"⟩, 10) := ⟨⟨by decide +kernel, by decide +kernel⟩, List.mem_of_getElem? (i := 7) (by decide +kernel), List.mem_of_getElem? (i := 222) (by decide +kernel), List.mem_of_getElem? (i := 223) (by decide +kernel)⟩
theorem lw_p28 : lw_okq (⟨"RegionHeap$Region", "append", "(LRegionHeap$Item;)V"⟩, 12) := ⟨⟨by decide +kernel, by decide +kernel⟩, List.mem_of_getElem? (i := 16) (by decide +kernel), List.mem_of_getElem? (i := 226) (by decide +kernel), List.mem_of_getElem? (i := 227) (by decide +kernel)⟩
theorem lw_p29 : lw_okq (⟨"RegionHeap", "carryOutPlan", "()V"⟩, 10) := ⟨⟨by decide +kernel, by decide +kernel⟩, List.mem_of_getElem? (i := 7) (by decide +kernel), List.mem_of_getElem? (i := 230) (by decide +kernel), List.mem_of_getElem? (i := 231) (by decide +kernel)⟩
theorem lw_p30 : lw_okq (⟨"RegionHeap", "leastOldWithRoom", "(I)LRegionHeap$Region;"⟩, 10) := ⟨⟨by decide +kernel, by decide +kernel⟩, List.mem_of_getElem? (i := 7) (by decide +kernel), List.mem_of_getElem? (i := 234) (by decide +kernel), List.mem_of_getElem? (i := 235) (by decide +kernel)⟩
theorem lw_p31 : lw_okq (⟨"RegionHeap", "newItem", "(II)LRegionHeap$Item;"⟩, 10) := ⟨⟨by decide +kernel, by decide +kernel⟩, List.mem_of_getElem? (i := 7) (by decide +kernel), List.mem_of_getElem? (i := 238) (by decide +kernel), List.mem_of_getElem? (i := 239) (by decide +kernel)⟩
def lw_privs_2 : List (MethodName × Nat) := [(⟨"RegionHeap", "planFields", "(LRegionHeap$Item;)Z"⟩, 10), (⟨"RegionHeap", "planFound", "()Z"⟩, 10), (⟨"RegionHeap", "collectFully", "()I"⟩, 10), (⟨"RegionHeap", "findReached", "()I"⟩, 10), (⟨"RegionHeap", "forgetReached", "()V"⟩, 10), (⟨"RegionHeap", "reach", "(LRegionHeap$Item;)V"⟩, 10), (⟨"RegionHeap", "takeUpSmall", "()V"⟩, 10), (⟨"RegionHeap$Region", "reachedWords", "()I"⟩, 12), (⟨"RegionHeap$Region", "isPartOfLarge", "()Z"⟩, 12), (⟨"RegionHeap", "takeUpReached", "(LRegionHeap$Region;)V"⟩, 10), (⟨"RegionHeap$Region", "clear", "()V"⟩, 12), (⟨"RegionHeap", "layTogether", "()V"⟩, 10), (⟨"RegionHeap$Region", "append", "(LRegionHeap$Item;)V"⟩, 12), (⟨"RegionHeap", "carryOutPlan", "()V"⟩, 10), (⟨"RegionHeap", "leastOldWithRoom", "(I)LRegionHeap$Region;"⟩, 10), (⟨"RegionHeap", "newItem", "(II)LRegionHeap$Item;"⟩, 10)]
theorem lw_r2 : ∀ q ∈ lw_privs_2, lw_okq q := List.forall_mem_cons.mpr ⟨lw_p16, List.forall_mem_cons.mpr ⟨lw_p17, List.forall_mem_cons.mpr ⟨lw_p18, List.forall_mem_cons.mpr ⟨lw_p19, List.forall_mem_cons.mpr ⟨lw_p20, List.forall_mem_cons.mpr ⟨lw_p21, List.forall_mem_cons.mpr ⟨lw_p22, List.forall_mem_cons.mpr ⟨lw_p23, List.forall_mem_cons.mpr ⟨lw_p24, List.forall_mem_cons.mpr ⟨lw_p25, List.forall_mem_cons.mpr ⟨lw_p26, List.forall_mem_cons.mpr ⟨lw_p27, List.forall_mem_cons.mpr ⟨lw_p28, List.forall_mem_cons.mpr ⟨lw_p29, List.forall_mem_cons.mpr ⟨lw_p30, List.forall_mem_cons.mpr ⟨lw_p31, fun _ h => absurd h List.not_mem_nil⟩⟩⟩⟩⟩⟩⟩⟩⟩⟩⟩⟩⟩⟩⟩⟩
theorem lw_p32 : lw_okq (⟨"RegionHeap", "layLarge", "(LRegionHeap$Item;II)V"⟩, 10) := ⟨⟨by decide +kernel, by decide +kernel⟩, List.mem_of_getElem? (i := 7) (by decide +kernel), List.mem_of_getElem? (i := 281) (by decide +kernel), List.mem_of_getElem? (i := 282) (by decide +kernel)⟩
theorem lw_p33 : lw_okq (⟨"RegionHeap", "heldBy", "(I)LRegionHeap$Item;"⟩, 10) := ⟨⟨by decide +kernel, by decide +kernel⟩, List.mem_of_getElem? (i := 7) (by decide +kernel), List.mem_of_getElem? (i := 292) (by decide +kernel), List.mem_of_getElem? (i := 293) (by decide +kernel)⟩
theorem lw_p34 : lw_okq (⟨"RegionHeap$Item", "hasField", "(I)Z"⟩, 7) := ⟨⟨by decide +kernel, by decide +kernel⟩, List.mem_of_getElem? (i := 241) (by decide +kernel), List.mem_of_getElem? (i := 296) (by decide +kernel), List.mem_of_getElem? (i := 297) (by decide +kernel)⟩
theorem lw_p35 : lw_okq (⟨"RegionHeapModel", "reach", "()V"⟩, 25) := ⟨⟨by decide +kernel, by decide +kernel⟩, List.mem_of_getElem? (i := 366) (by decide +kernel), List.mem_of_getElem? (i := 454) (by decide +kernel), List.mem_of_getElem? (i := 455) (by decide +kernel)⟩
theorem lw_p36 : lw_okq (⟨"RegionHeapModel", "choose", "(I)V"⟩, 25) := ⟨⟨by decide +kernel, by decide +kernel⟩, List.mem_of_getElem? (i := 366) (by decide +kernel), List.mem_of_getElem? (i := 462) (by decide +kernel), List.mem_of_getElem? (i := 463) (by decide +kernel)⟩
theorem lw_p37 : lw_okq (⟨"RegionHeapModel", "first", "(II)Z"⟩, 25) := ⟨⟨by decide +kernel, by decide +kernel⟩, List.mem_of_getElem? (i := 366) (by decide +kernel), List.mem_of_getElem? (i := 466) (by decide +kernel), List.mem_of_getElem? (i := 467) (by decide +kernel)⟩
theorem lw_p38 : lw_okq (⟨"RegionHeapModel", "incomingOf", "(I)I"⟩, 25) := ⟨⟨by decide +kernel, by decide +kernel⟩, List.mem_of_getElem? (i := 366) (by decide +kernel), List.mem_of_getElem? (i := 470) (by decide +kernel), List.mem_of_getElem? (i := 471) (by decide +kernel)⟩
theorem lw_p39 : lw_okq (⟨"RegionHeapModel", "collection", "(I)I"⟩, 25) := ⟨⟨by decide +kernel, by decide +kernel⟩, List.mem_of_getElem? (i := 366) (by decide +kernel), List.mem_of_getElem? (i := 478) (by decide +kernel), List.mem_of_getElem? (i := 479) (by decide +kernel)⟩
theorem lw_p40 : lw_okq (⟨"RegionHeapModel", "trace", "()V"⟩, 25) := ⟨⟨by decide +kernel, by decide +kernel⟩, List.mem_of_getElem? (i := 366) (by decide +kernel), List.mem_of_getElem? (i := 482) (by decide +kernel), List.mem_of_getElem? (i := 483) (by decide +kernel)⟩
theorem lw_p41 : lw_okq (⟨"RegionHeapModel", "find", "(I)V"⟩, 25) := ⟨⟨by decide +kernel, by decide +kernel⟩, List.mem_of_getElem? (i := 366) (by decide +kernel), List.mem_of_getElem? (i := 486) (by decide +kernel), List.mem_of_getElem? (i := 487) (by decide +kernel)⟩
theorem lw_p42 : lw_okq (⟨"RegionHeapModel", "findFields", "(I)V"⟩, 25) := ⟨⟨by decide +kernel, by decide +kernel⟩, List.mem_of_getElem? (i := 366) (by decide +kernel), List.mem_of_getElem? (i := 490) (by decide +kernel), List.mem_of_getElem? (i := 491) (by decide +kernel)⟩
theorem lw_p43 : lw_okq (⟨"RegionHeapModel", "fullCollection", "()I"⟩, 25) := ⟨⟨by decide +kernel, by decide +kernel⟩, List.mem_of_getElem? (i := 366) (by decide +kernel), List.mem_of_getElem? (i := 494) (by decide +kernel), List.mem_of_getElem? (i := 495) (by decide +kernel)⟩
theorem lw_p44 : lw_okq (⟨"RegionHeapModel", "drop", "(I)V"⟩, 25) := ⟨⟨by decide +kernel, by decide +kernel⟩, List.mem_of_getElem? (i := 366) (by decide +kernel), List.mem_of_getElem? (i := 498) (by decide +kernel), List.mem_of_getElem? (i := 499) (by decide +kernel)⟩
theorem lw_p45 : lw_okq (⟨"RegionHeapModel", "release", "(I)V"⟩, 25) := ⟨⟨by decide +kernel, by decide +kernel⟩, List.mem_of_getElem? (i := 366) (by decide +kernel), List.mem_of_getElem? (i := 502) (by decide +kernel), List.mem_of_getElem? (i := 503) (by decide +kernel)⟩
theorem lw_p46 : lw_okq (⟨"RegionHeapModel", "nextPlain", "(I)I"⟩, 25) := ⟨⟨by decide +kernel, by decide +kernel⟩, List.mem_of_getElem? (i := 366) (by decide +kernel), List.mem_of_getElem? (i := 506) (by decide +kernel), List.mem_of_getElem? (i := 507) (by decide +kernel)⟩
theorem lw_p47 : lw_okq (⟨"RegionHeapModel", "put", "(III)V"⟩, 25) := ⟨⟨by decide +kernel, by decide +kernel⟩, List.mem_of_getElem? (i := 366) (by decide +kernel), List.mem_of_getElem? (i := 510) (by decide +kernel), List.mem_of_getElem? (i := 511) (by decide +kernel)⟩
def lw_privs_3 : List (MethodName × Nat) := [(⟨"RegionHeap", "layLarge", "(LRegionHeap$Item;II)V"⟩, 10), (⟨"RegionHeap", "heldBy", "(I)LRegionHeap$Item;"⟩, 10), (⟨"RegionHeap$Item", "hasField", "(I)Z"⟩, 7), (⟨"RegionHeapModel", "reach", "()V"⟩, 25), (⟨"RegionHeapModel", "choose", "(I)V"⟩, 25), (⟨"RegionHeapModel", "first", "(II)Z"⟩, 25), (⟨"RegionHeapModel", "incomingOf", "(I)I"⟩, 25), (⟨"RegionHeapModel", "collection", "(I)I"⟩, 25), (⟨"RegionHeapModel", "trace", "()V"⟩, 25), (⟨"RegionHeapModel", "find", "(I)V"⟩, 25), (⟨"RegionHeapModel", "findFields", "(I)V"⟩, 25), (⟨"RegionHeapModel", "fullCollection", "()I"⟩, 25), (⟨"RegionHeapModel", "drop", "(I)V"⟩, 25), (⟨"RegionHeapModel", "release", "(I)V"⟩, 25), (⟨"RegionHeapModel", "nextPlain", "(I)I"⟩, 25), (⟨"RegionHeapModel", "put", "(III)V"⟩, 25)]
theorem lw_r3 : ∀ q ∈ lw_privs_3, lw_okq q := List.forall_mem_cons.mpr ⟨lw_p32, List.forall_mem_cons.mpr ⟨lw_p33, List.forall_mem_cons.mpr ⟨lw_p34, List.forall_mem_cons.mpr ⟨lw_p35, List.forall_mem_cons.mpr ⟨lw_p36, List.forall_mem_cons.mpr ⟨lw_p37, List.forall_mem_cons.mpr ⟨lw_p38, List.forall_mem_cons.mpr ⟨lw_p39, List.forall_mem_cons.mpr ⟨lw_p40, List.forall_mem_cons.mpr ⟨lw_p41, List.forall_mem_cons.mpr ⟨lw_p42, List.forall_mem_cons.mpr ⟨lw_p43, List.forall_mem_cons.mpr ⟨lw_p44, List.forall_mem_cons.mpr ⟨lw_p45, List.forall_mem_cons.mpr ⟨lw_p46, List.forall_mem_cons.mpr ⟨lw_p47, fun _ h => absurd h List.not_mem_nil⟩⟩⟩⟩⟩⟩⟩⟩⟩⟩⟩⟩⟩⟩⟩⟩
theorem lw_p48 : lw_okq (⟨"RegionHeapModel", "noRoot", "(I)Z"⟩, 25) := ⟨⟨by decide +kernel, by decide +kernel⟩, List.mem_of_getElem? (i := 366) (by decide +kernel), List.mem_of_getElem? (i := 522) (by decide +kernel), List.mem_of_getElem? (i := 523) (by decide +kernel)⟩
theorem lw_p49 : lw_okq (⟨"RegionHeapModel", "young", "(I)I"⟩, 25) := ⟨⟨by decide +kernel, by decide +kernel⟩, List.mem_of_getElem? (i := 366) (by decide +kernel), List.mem_of_getElem? (i := 526) (by decide +kernel), List.mem_of_getElem? (i := 527) (by decide +kernel)⟩
theorem lw_p50 : lw_okq (⟨"RegionHeapModel", "oldWithRoom", "(I)I"⟩, 25) := ⟨⟨by decide +kernel, by decide +kernel⟩, List.mem_of_getElem? (i := 366) (by decide +kernel), List.mem_of_getElem? (i := 530) (by decide +kernel), List.mem_of_getElem? (i := 531) (by decide +kernel)⟩
theorem lw_p51 : lw_okq (⟨"RegionHeapModel", "newObject", "(IIII)I"⟩, 25) := ⟨⟨by decide +kernel, by decide +kernel⟩, List.mem_of_getElem? (i := 366) (by decide +kernel), List.mem_of_getElem? (i := 534) (by decide +kernel), List.mem_of_getElem? (i := 535) (by decide +kernel)⟩
theorem lw_p52 : lw_okq (⟨"RegionHeapModel", "side", "(I)I"⟩, 25) := ⟨⟨by decide +kernel, by decide +kernel⟩, List.mem_of_getElem? (i := 366) (by decide +kernel), List.mem_of_getElem? (i := 542) (by decide +kernel), List.mem_of_getElem? (i := 543) (by decide +kernel)⟩
theorem lw_p53 : lw_okq (⟨"RegionHeapModel", "noField", "(II)Z"⟩, 25) := ⟨⟨by decide +kernel, by decide +kernel⟩, List.mem_of_getElem? (i := 366) (by decide +kernel), List.mem_of_getElem? (i := 550) (by decide +kernel), List.mem_of_getElem? (i := 551) (by decide +kernel)⟩
theorem lw_p54 : lw_okq (⟨"RegionHeapModel", "empty", "(I)Z"⟩, 25) := ⟨⟨by decide +kernel, by decide +kernel⟩, List.mem_of_getElem? (i := 366) (by decide +kernel), List.mem_of_getElem? (i := 570) (by decide +kernel), List.mem_of_getElem? (i := 571) (by decide +kernel)⟩
theorem lw_p55 : lw_okq (⟨"RegionHeapModel", "noRegion", "(I)Z"⟩, 25) := ⟨⟨by decide +kernel, by decide +kernel⟩, List.mem_of_getElem? (i := 366) (by decide +kernel), List.mem_of_getElem? (i := 586) (by decide +kernel), List.mem_of_getElem? (i := 587) (by decide +kernel)⟩
def lw_privs_4 : List (MethodName × Nat) := [(⟨"RegionHeapModel", "noRoot", "(I)Z"⟩, 25), (⟨"RegionHeapModel", "young", "(I)I"⟩, 25), (⟨"RegionHeapModel", "oldWithRoom", "(I)I"⟩, 25), (⟨"RegionHeapModel", "newObject", "(IIII)I"⟩, 25), (⟨"RegionHeapModel", "side", "(I)I"⟩, 25), (⟨"RegionHeapModel", "noField", "(II)Z"⟩, 25), (⟨"RegionHeapModel", "empty", "(I)Z"⟩, 25), (⟨"RegionHeapModel", "noRegion", "(I)Z"⟩, 25)]
theorem lw_r4 : ∀ q ∈ lw_privs_4, lw_okq q := List.forall_mem_cons.mpr ⟨lw_p48, List.forall_mem_cons.mpr ⟨lw_p49, List.forall_mem_cons.mpr ⟨lw_p50, List.forall_mem_cons.mpr ⟨lw_p51, List.forall_mem_cons.mpr ⟨lw_p52, List.forall_mem_cons.mpr ⟨lw_p53, List.forall_mem_cons.mpr ⟨lw_p54, List.forall_mem_cons.mpr ⟨lw_p55, fun _ h => absurd h List.not_mem_nil⟩⟩⟩⟩⟩⟩⟩⟩
def lw_privs : List (MethodName × Nat) := lw_privs_1 ++ (lw_privs_2 ++ (lw_privs_3 ++ (lw_privs_4)))
def lw_tbl : List Cond := k2_sels lw_privs ++ tables_1
theorem lw_privs_ok : ∀ q ∈ lw_privs, lw_okq q := by
  show ∀ q ∈ lw_privs_1 ++ (lw_privs_2 ++ (lw_privs_3 ++ (lw_privs_4))), lw_okq q
  exact List.forall_mem_append.mpr ⟨lw_r1, List.forall_mem_append.mpr ⟨lw_r2, List.forall_mem_append.mpr ⟨lw_r3, lw_r4⟩⟩⟩

-- names: classes, fields, sorts
def C_Item : String := "RegionHeap$Item"
def C_Region : String := "RegionHeap$Region"
def F_0 : u_T := fun k => match k with
  | 0 => ("RegionHeap", "regions", "[LRegionHeap$Region;", true)
  | 1 => ("RegionHeap", "roots", "[LRegionHeap$Item;", true)
  | 2 => ("RegionHeap", "found", "[LRegionHeap$Item;", true)
  | 3 => ("RegionHeap", "foundCount", "I", false)
  | 4 => ("RegionHeap", "lastTarget", "[LRegionHeap$Region;", true)
  | 5 => ("RegionHeap", "current", "LRegionHeap$Region;", false)
  | 6 => ("RegionHeap", "copyingCollections", "I", false)
  | 7 => ("RegionHeap", "fullCollections", "I", false)
  | 8 => ("RegionHeap", "copiedWords", "I", false)
  | _ => ("RegionHeap", "made", "I", false)
def t_0 : Nat → FieldType := fun k => match k with
  | 0 => .array (.object "RegionHeap$Region")
  | 1 => .array (.object "RegionHeap$Item")
  | 2 => .array (.object "RegionHeap$Item")
  | 3 => .int
  | 4 => .array (.object "RegionHeap$Region")
  | 5 => .object "RegionHeap$Region"
  | 6 => .int
  | 7 => .int
  | 8 => .int
  | _ => .int
def s_0 : Nat → Nat := fun k => match k with
  | 0 => 5
  | 1 => 4
  | 2 => 4
  | 3 => 99
  | 4 => 5
  | 5 => 2
  | 6 => 99
  | 7 => 99
  | 8 => 99
  | _ => 99
def F_1 : u_T := fun k => match k with
  | 0 => ("RegionHeap$Item", "number", "I", true)
  | 1 => ("RegionHeap$Item", "words", "I", true)
  | 2 => ("RegionHeap$Item", "fields", "[LRegionHeap$Item;", true)
  | 3 => ("RegionHeap$Item", "home", "LRegionHeap$Region;", false)
  | 4 => ("RegionHeap$Item", "start", "I", false)
  | 5 => ("RegionHeap$Item", "reached", "Z", false)
  | _ => ("RegionHeap$Item", "target", "LRegionHeap$Region;", false)
def t_1 : Nat → FieldType := fun k => match k with
  | 0 => .int
  | 1 => .int
  | 2 => .array (.object "RegionHeap$Item")
  | 3 => .object "RegionHeap$Region"
  | 4 => .int
  | 5 => .boolean
  | _ => .object "RegionHeap$Region"
def s_1 : Nat → Nat := fun k => match k with
  | 0 => 99
  | 1 => 99
  | 2 => 4
  | 3 => 2
  | 4 => 99
  | 5 => 99
  | _ => 2
def F_2 : u_T := fun k => match k with
  | 0 => ("RegionHeap$Region", "index", "I", true)
  | 1 => ("RegionHeap$Region", "items", "[LRegionHeap$Item;", true)
  | 2 => ("RegionHeap$Region", "itemCount", "I", false)
  | 3 => ("RegionHeap$Region", "kind", "I", false)
  | 4 => ("RegionHeap$Region", "used", "I", false)
  | 5 => ("RegionHeap$Region", "live", "I", false)
  | 6 => ("RegionHeap$Region", "collected", "Z", false)
  | 7 => ("RegionHeap$Region", "plannedKind", "I", false)
  | 8 => ("RegionHeap$Region", "plannedUsed", "I", false)
  | 9 => ("RegionHeap$Region", "candidate", "Z", false)
  | 10 => ("RegionHeap$Region", "garbage", "I", false)
  | _ => ("RegionHeap$Region", "cost", "I", false)
def t_2 : Nat → FieldType := fun k => match k with
  | 0 => .int
  | 1 => .array (.object "RegionHeap$Item")
  | 2 => .int
  | 3 => .int
  | 4 => .int
  | 5 => .int
  | 6 => .boolean
  | 7 => .int
  | 8 => .int
  | 9 => .boolean
  | 10 => .int
  | _ => .int
def s_2 : Nat → Nat := fun k => match k with
  | 0 => 99
  | 1 => 4
  | 2 => 99
  | 3 => 99
  | 4 => 99
  | 5 => 99
  | 6 => 99
  | 7 => 99
  | 8 => 99
  | 9 => 99
  | 10 => 99
  | _ => 99
def F_3 : u_T := fun k => match k with
  | 0 => ("RegionHeapModel", "serial", "[I", false)
  | 1 => ("RegionHeapModel", "words", "[I", false)
  | 2 => ("RegionHeapModel", "fields", "[I", false)
  | 3 => ("RegionHeapModel", "holds", "[I", false)
  | 4 => ("RegionHeapModel", "region", "[I", false)
  | 5 => ("RegionHeapModel", "offset", "[I", false)
  | 6 => ("RegionHeapModel", "at", "[I", false)
  | 7 => ("RegionHeapModel", "root", "[I", false)
  | 8 => ("RegionHeapModel", "kind", "[I", false)
  | 9 => ("RegionHeapModel", "used", "[I", false)
  | 10 => ("RegionHeapModel", "live", "[I", false)
  | 11 => ("RegionHeapModel", "current", "I", false)
  | 12 => ("RegionHeapModel", "counts", "[I", false)
  | 13 => ("RegionHeapModel", "gathered", "[Z", false)
  | 14 => ("RegionHeapModel", "becomes", "[I", false)
  | 15 => ("RegionHeapModel", "found", "I", false)
  | 16 => ("RegionHeapModel", "queue", "[I", false)
  | 17 => ("RegionHeapModel", "known", "[Z", false)
  | 18 => ("RegionHeapModel", "newRegion", "[I", false)
  | 19 => ("RegionHeapModel", "newOffset", "[I", false)
  | 20 => ("RegionHeapModel", "target", "[I", false)
  | 21 => ("RegionHeapModel", "filled", "[I", false)
  | 22 => ("RegionHeapModel", "lacking", "Z", false)
  | 23 => ("RegionHeapModel", "reached", "[Z", false)
  | _ => ("RegionHeapModel", "picked", "[Z", false)
def t_3 : Nat → FieldType := fun k => match k with
  | 0 => .array (.int)
  | 1 => .array (.int)
  | 2 => .array (.int)
  | 3 => .array (.int)
  | 4 => .array (.int)
  | 5 => .array (.int)
  | 6 => .array (.int)
  | 7 => .array (.int)
  | 8 => .array (.int)
  | 9 => .array (.int)
  | 10 => .array (.int)
  | 11 => .int
  | 12 => .array (.int)
  | 13 => .array (.boolean)
  | 14 => .array (.int)
  | 15 => .int
  | 16 => .array (.int)
  | 17 => .array (.boolean)
  | 18 => .array (.int)
  | 19 => .array (.int)
  | 20 => .array (.int)
  | 21 => .array (.int)
  | 22 => .boolean
  | 23 => .array (.boolean)
  | _ => .array (.boolean)
def s_3 : Nat → Nat := fun k => match k with
  | 0 => 6
  | 1 => 6
  | 2 => 6
  | 3 => 6
  | 4 => 6
  | 5 => 6
  | 6 => 6
  | 7 => 6
  | 8 => 6
  | 9 => 6
  | 10 => 6
  | 11 => 99
  | 12 => 6
  | 13 => 7
  | 14 => 6
  | 15 => 99
  | 16 => 6
  | 17 => 7
  | 18 => 6
  | 19 => 6
  | 20 => 6
  | 21 => 6
  | 22 => 99
  | 23 => 7
  | _ => 7
def cT (s : Nat) : vw_C := match s with
  | 0 => ("RegionHeap", F_0, 10)
  | 1 => ("RegionHeap$Item", F_1, 7)
  | 2 => ("RegionHeap$Region", F_2, 12)
  | _ => ("RegionHeapModel", F_3, 25)
def fT (s : Nat) : Nat → FieldType := match s with
  | 0 => t_0
  | 1 => t_1
  | 2 => t_2
  | _ => t_3
/-- the sort that a field, or an element, refers to; 99: an int -/
def cs (s k : Nat) : Nat := match s with
  | 0 => s_0 k
  | 1 => s_1 k
  | 2 => s_2 k
  | 3 => s_3 k
  | 4 => 1
  | 5 => 2
  | _ => 99
abbrev classes : List vw_C := [cT 0, cT 1, cT 2, cT 3]
def tys (aC : Nat → ClassId) : List (ClassId × FieldType) := [(aC 4, .object C_Item), (aC 5, .object C_Region), (aC 6, .int), (aC 7, .boolean)]
def gd : List Cond := lw_tbl.filter goodWord
theorem gd_tbl {w : Cond} (h : w ∈ gd) : w ∈ lw_tbl := (List.mem_filter.mp h).1
theorem gd_good (w : Cond) (h : w ∈ gd) : (w.onTables && w.keeps) = true ∨ ∃ ty, w = .arrayClass ty := good_of_word (List.mem_filter.mp h).2
theorem g_in {w : Cond} (i : Nat) (h : lw_tbl[i]? = some w) (hg : goodWord w = true) : w ∈ gd := List.mem_filter.mpr ⟨List.mem_of_getElem? h, hg⟩
def isNest (w : Cond) : Bool := match w with
  | .fieldLinkNest .. => true
  | .methodLinkNest .. => true
  | _ => false
def nst : List Cond := lw_tbl.filter isNest
theorem nst_tbl {w : Cond} (h : w ∈ nst) : w ∈ lw_tbl := (List.mem_filter.mp h).1
theorem n_in {w : Cond} (i : Nat) (h : lw_tbl[i]? = some w) (hg : isNest w = true) : w ∈ nst := List.mem_filter.mpr ⟨List.mem_of_getElem? h, hg⟩
theorem nst_warm (w : Cond) (hw : w ∈ nst) {s U : State} (hW : s.WarmedH U.vm) (hz : va_Nw w s) : va_Nw w U := by
  have h2 := (List.mem_filter.mp hw).2
  cases w <;> first | (simp [isNest] at h2; done) | exact va_Nw.warmF hW hz | exact va_Nw.warmM hW hz
theorem nst_same (w : Cond) (hw : w ∈ nst) {u U : State} (h : u.vm = U.vm) (hz : va_Nw w u) : va_Nw w U := by
  have h2 := (List.mem_filter.mp hw).2
  cases w <;> first | (simp [isNest] at h2; done) | exact va_Nw.same rfl h hz
theorem nst_of {A : Array Value} {s : State} {w : Cond} (h : w.before A s = true) (hw : w ∈ nst) : va_Nw w s := by
  have h2 := (List.mem_filter.mp hw).2
  cases w <;> first | (simp [isNest] at h2; done) | exact va_Nw.of rfl h
theorem gc_0 : ∀ w ∈ u_ws (cT 0).1 (cT 0).2.1 (cT 0).2.2, w ∈ gd := by
  intro w hw
  obtain ⟨k, hk, rfl⟩ := List.mem_map.mp hw
  have hk2 : k < 10 := List.mem_range.mp hk
  match k, hk2 with
  | 0, _ => exact g_in 135 (by decide +kernel) rfl
  | 1, _ => exact g_in 137 (by decide +kernel) rfl
  | 2, _ => exact g_in 139 (by decide +kernel) rfl
  | 3, _ => exact g_in 141 (by decide +kernel) rfl
  | 4, _ => exact g_in 143 (by decide +kernel) rfl
  | 5, _ => exact g_in 145 (by decide +kernel) rfl
  | 6, _ => exact g_in 147 (by decide +kernel) rfl
  | 7, _ => exact g_in 149 (by decide +kernel) rfl
  | 8, _ => exact g_in 151 (by decide +kernel) rfl
  | 9, _ => exact g_in 153 (by decide +kernel) rfl
  | k + 10, hx => exact absurd hx (by omega)
theorem ty_0 : ∀ k, k < (cT 0).2.2 → parseFieldDescriptor ((cT 0).2.1 k).2.2.1 = some (fT 0 k) := by decide +kernel
theorem nn_0 : ∀ a, a < (cT 0).2.2 → ∀ b, b < (cT 0).2.2 → a ≠ b → ((cT 0).2.1 a).2.1 ≠ ((cT 0).2.1 b).2.1 := by decide +kernel
theorem df_0 : ∀ k, k < (cT 0).2.2 → defaultValue (fT 0 k) = if cs 0 k = 99 then Value.int 0 else .null := by decide +kernel
theorem gc_1 : ∀ w ∈ u_ws (cT 1).1 (cT 1).2.1 (cT 1).2.2, w ∈ gd := by
  intro w hw
  obtain ⟨k, hk, rfl⟩ := List.mem_map.mp hw
  have hk2 : k < 7 := List.mem_range.mp hk
  match k, hk2 with
  | 0, _ => exact g_in 317 (by decide +kernel) rfl
  | 1, _ => exact g_in 319 (by decide +kernel) rfl
  | 2, _ => exact g_in 321 (by decide +kernel) rfl
  | 3, _ => exact g_in 323 (by decide +kernel) rfl
  | 4, _ => exact g_in 325 (by decide +kernel) rfl
  | 5, _ => exact g_in 327 (by decide +kernel) rfl
  | 6, _ => exact g_in 329 (by decide +kernel) rfl
  | k + 7, hx => exact absurd hx (by omega)
theorem ty_1 : ∀ k, k < (cT 1).2.2 → parseFieldDescriptor ((cT 1).2.1 k).2.2.1 = some (fT 1 k) := by decide +kernel
theorem nn_1 : ∀ a, a < (cT 1).2.2 → ∀ b, b < (cT 1).2.2 → a ≠ b → ((cT 1).2.1 a).2.1 ≠ ((cT 1).2.1 b).2.1 := by decide +kernel
theorem df_1 : ∀ k, k < (cT 1).2.2 → defaultValue (fT 1 k) = if cs 1 k = 99 then Value.int 0 else .null := by decide +kernel
theorem gc_2 : ∀ w ∈ u_ws (cT 2).1 (cT 2).2.1 (cT 2).2.2, w ∈ gd := by
  intro w hw
  obtain ⟨k, hk, rfl⟩ := List.mem_map.mp hw
  have hk2 : k < 12 := List.mem_range.mp hk
  match k, hk2 with
  | 0, _ => exact g_in 99 (by decide +kernel) rfl
  | 1, _ => exact g_in 101 (by decide +kernel) rfl
  | 2, _ => exact g_in 103 (by decide +kernel) rfl
  | 3, _ => exact g_in 105 (by decide +kernel) rfl
  | 4, _ => exact g_in 107 (by decide +kernel) rfl
  | 5, _ => exact g_in 109 (by decide +kernel) rfl
  | 6, _ => exact g_in 111 (by decide +kernel) rfl
  | 7, _ => exact g_in 113 (by decide +kernel) rfl
  | 8, _ => exact g_in 115 (by decide +kernel) rfl
  | 9, _ => exact g_in 117 (by decide +kernel) rfl
  | 10, _ => exact g_in 119 (by decide +kernel) rfl
  | 11, _ => exact g_in 121 (by decide +kernel) rfl
  | k + 12, hx => exact absurd hx (by omega)
theorem ty_2 : ∀ k, k < (cT 2).2.2 → parseFieldDescriptor ((cT 2).2.1 k).2.2.1 = some (fT 2 k) := by decide +kernel
theorem nn_2 : ∀ a, a < (cT 2).2.2 → ∀ b, b < (cT 2).2.2 → a ≠ b → ((cT 2).2.1 a).2.1 ≠ ((cT 2).2.1 b).2.1 := by decide +kernel
theorem df_2 : ∀ k, k < (cT 2).2.2 → defaultValue (fT 2 k) = if cs 2 k = 99 then Value.int 0 else .null := by decide +kernel
theorem gc_3 : ∀ w ∈ u_ws (cT 3).1 (cT 3).2.1 (cT 3).2.2, w ∈ gd := by
  intro w hw
  obtain ⟨k, hk, rfl⟩ := List.mem_map.mp hw
  have hk2 : k < 25 := List.mem_range.mp hk
  match k, hk2 with
  | 0, _ => exact g_in 452 (by decide +kernel) rfl
  | 1, _ => exact g_in 454 (by decide +kernel) rfl
  | 2, _ => exact g_in 456 (by decide +kernel) rfl
  | 3, _ => exact g_in 458 (by decide +kernel) rfl
  | 4, _ => exact g_in 460 (by decide +kernel) rfl
  | 5, _ => exact g_in 462 (by decide +kernel) rfl
  | 6, _ => exact g_in 464 (by decide +kernel) rfl
  | 7, _ => exact g_in 466 (by decide +kernel) rfl
  | 8, _ => exact g_in 468 (by decide +kernel) rfl
  | 9, _ => exact g_in 470 (by decide +kernel) rfl
  | 10, _ => exact g_in 472 (by decide +kernel) rfl
  | 11, _ => exact g_in 474 (by decide +kernel) rfl
  | 12, _ => exact g_in 476 (by decide +kernel) rfl
  | 13, _ => exact g_in 478 (by decide +kernel) rfl
  | 14, _ => exact g_in 480 (by decide +kernel) rfl
  | 15, _ => exact g_in 482 (by decide +kernel) rfl
  | 16, _ => exact g_in 484 (by decide +kernel) rfl
  | 17, _ => exact g_in 486 (by decide +kernel) rfl
  | 18, _ => exact g_in 488 (by decide +kernel) rfl
  | 19, _ => exact g_in 490 (by decide +kernel) rfl
  | 20, _ => exact g_in 492 (by decide +kernel) rfl
  | 21, _ => exact g_in 494 (by decide +kernel) rfl
  | 22, _ => exact g_in 496 (by decide +kernel) rfl
  | 23, _ => exact g_in 498 (by decide +kernel) rfl
  | 24, _ => exact g_in 500 (by decide +kernel) rfl
  | k + 25, hx => exact absurd hx (by omega)
theorem ty_3 : ∀ k, k < (cT 3).2.2 → parseFieldDescriptor ((cT 3).2.1 k).2.2.1 = some (fT 3 k) := by decide +kernel
theorem nn_3 : ∀ a, a < (cT 3).2.2 → ∀ b, b < (cT 3).2.2 → a ≠ b → ((cT 3).2.1 a).2.1 ≠ ((cT 3).2.1 b).2.1 := by decide +kernel
theorem df_3 : ∀ k, k < (cT 3).2.2 → defaultValue (fT 3 k) = if cs 3 k = 99 then Value.int 0 else .null := by decide +kernel
theorem gd_cls (s : Nat) (hs : s < 4) : ∀ w ∈ u_ws (cT s).1 (cT s).2.1 (cT s).2.2, w ∈ gd := by
  match s, hs with
  | 0, _ => exact gc_0
  | 1, _ => exact gc_1
  | 2, _ => exact gc_2
  | 3, _ => exact gc_3
theorem ty_at (s : Nat) (hs : s < 4) : ∀ k, k < (cT s).2.2 → parseFieldDescriptor ((cT s).2.1 k).2.2.1 = some (fT s k) := by
  match s, hs with
  | 0, _ => exact ty_0
  | 1, _ => exact ty_1
  | 2, _ => exact ty_2
  | 3, _ => exact ty_3
theorem nm_at (s : Nat) (hs : s < 4) : ∀ a, a < (cT s).2.2 → ∀ b, b < (cT s).2.2 → a ≠ b → ((cT s).2.1 a).2.1 ≠ ((cT s).2.1 b).2.1 := by
  match s, hs with
  | 0, _ => exact nn_0
  | 1, _ => exact nn_1
  | 2, _ => exact nn_2
  | 3, _ => exact nn_3
theorem df_at (s : Nat) (hs : s < 4) : ∀ k, k < (cT s).2.2 → defaultValue (fT s k) = if cs s k = 99 then Value.int 0 else .null := by
  match s, hs with
  | 0, _ => exact df_0
  | 1, _ => exact df_1
  | 2, _ => exact df_2
  | 3, _ => exact df_3
theorem cl_at (s : Nat) (hs : s < 4) : classes[s]? = some (cT s) := by
  match s, hs with
  | 0, _ => rfl
  | 1, _ => rfl
  | 2, _ => rfl
  | 3, _ => rfl
theorem gd_int : Cond.arrayClass .int ∈ gd := g_in 503 (by decide +kernel) rfl
theorem gd_bool : Cond.arrayClass .boolean ∈ gd := g_in 504 (by decide +kernel) rfl
theorem gd_inst : Cond.instantiable (cT 0).1 (cT 0).2.2 ∈ gd ∧ Cond.instantiable (cT 1).1 (cT 1).2.2 ∈ gd ∧ Cond.instantiable (cT 2).1 (cT 2).2.2 ∈ gd ∧ Cond.instantiable (cT 3).1 (cT 3).2.2 ∈ gd := ⟨g_in 63 (by decide +kernel) rfl, g_in 297 (by decide +kernel) rfl, g_in 72 (by decide +kernel) rfl, g_in 422 (by decide +kernel) rfl⟩
theorem tb_Item : Cond.arrayOver (.object C_Item) ∈ lw_tbl := List.mem_of_getElem? (i := 78) (by decide +kernel)
theorem tb_Region : Cond.arrayOver (.object C_Region) ∈ lw_tbl := List.mem_of_getElem? (i := 71) (by decide +kernel)
theorem gd_obj : Cond.instanceMethod Lib.objectInit ∈ gd ∧ Cond.code Lib.objectInit ⟨#[0xb1]⟩ 1 none ∈ gd := ⟨g_in 68 (by decide +kernel) rfl, g_in 69 (by decide +kernel) rfl⟩
theorem gd_min : Cond.static Lib.Math.min.name ∈ gd ∧ Cond.initialized "java/lang/Math" ∈ gd ∧ Cond.code Lib.Math.min.name Lib.Math.min.code 2 (some .int) ∈ gd := ⟨g_in 341 (by decide +kernel) rfl, g_in 61 (by decide +kernel) rfl, g_in 342 (by decide +kernel) rfl⟩
-- methods
def nm (y : Nat) : MethodName := match y with
  | 0 => ⟨"RegionHeap$Item", "<init>", "(III)V"⟩
  | 1 => ⟨"RegionHeap$Item", "hasField", "(I)Z"⟩
  | 2 => ⟨"RegionHeap$Region", "<init>", "(I)V"⟩
  | 3 => ⟨"RegionHeap$Region", "hasRoom", "(I)Z"⟩
  | 4 => ⟨"RegionHeap$Region", "isPartOfLarge", "()Z"⟩
  | 5 => ⟨"RegionHeap$Region", "append", "(LRegionHeap$Item;)V"⟩
  | 6 => ⟨"RegionHeap$Region", "clear", "()V"⟩
  | 7 => ⟨"RegionHeap$Region", "reachedWords", "()I"⟩
  | 8 => ⟨"RegionHeap$Region", "comesBefore", "(LRegionHeap$Region;)Z"⟩
  | 9 => ⟨"RegionHeap", "<init>", "()V"⟩
  | 10 => ⟨"RegionHeap", "make", "(III)I"⟩
  | 11 => ⟨"RegionHeap", "large", "(III)I"⟩
  | 12 => ⟨"RegionHeap", "newItem", "(II)LRegionHeap$Item;"⟩
  | 13 => ⟨"RegionHeap", "placeForSmall", "(I)LRegionHeap$Region;"⟩
  | 14 => ⟨"RegionHeap", "edenPlace", "(I)LRegionHeap$Region;"⟩
  | 15 => ⟨"RegionHeap", "edenCount", "()I"⟩
  | 16 => ⟨"RegionHeap", "leastOldWithRoom", "(I)LRegionHeap$Region;"⟩
  | 17 => ⟨"RegionHeap", "leastFreeRun", "(I)I"⟩
  | 18 => ⟨"RegionHeap", "layLarge", "(LRegionHeap$Item;II)V"⟩
  | 19 => ⟨"RegionHeap", "link", "(III)Z"⟩
  | 20 => ⟨"RegionHeap", "load", "(III)Z"⟩
  | 21 => ⟨"RegionHeap", "hold", "(II)Z"⟩
  | 22 => ⟨"RegionHeap", "heldBy", "(I)LRegionHeap$Item;"⟩
  | 23 => ⟨"RegionHeap", "isRoot", "(I)Z"⟩
  | 24 => ⟨"RegionHeap", "isRootOrNull", "(I)Z"⟩
  | 25 => ⟨"RegionHeap", "isFieldCount", "(I)Z"⟩
  | 26 => ⟨"RegionHeap", "isRegion", "(I)Z"⟩
  | 27 => ⟨"RegionHeap", "collect", "(I)I"⟩
  | 28 => ⟨"RegionHeap", "collectWithin", "(I)I"⟩
  | 29 => ⟨"RegionHeap", "beginPlan", "(I)V"⟩
  | 30 => ⟨"RegionHeap", "planRoots", "()Z"⟩
  | 31 => ⟨"RegionHeap", "planRegionsThatStay", "()Z"⟩
  | 32 => ⟨"RegionHeap", "planFound", "()Z"⟩
  | 33 => ⟨"RegionHeap", "planFields", "(LRegionHeap$Item;)Z"⟩
  | 34 => ⟨"RegionHeap", "planCopy", "(LRegionHeap$Item;)Z"⟩
  | 35 => ⟨"RegionHeap", "targetFor", "(II)LRegionHeap$Region;"⟩
  | 36 => ⟨"RegionHeap", "carryOutPlan", "()V"⟩
  | 37 => ⟨"RegionHeap", "chosen", "(I)I"⟩
  | 38 => ⟨"RegionHeap", "chooseWithin", "(I)I"⟩
  | 39 => ⟨"RegionHeap", "weighRegions", "()V"⟩
  | 40 => ⟨"RegionHeap", "bestCandidate", "()LRegionHeap$Region;"⟩
  | 41 => ⟨"RegionHeap", "incomingTo", "(LRegionHeap$Region;)I"⟩
  | 42 => ⟨"RegionHeap", "fieldsInto", "(LRegionHeap$Item;LRegionHeap$Region;)I"⟩
  | 43 => ⟨"RegionHeap", "mark", "()I"⟩
  | 44 => ⟨"RegionHeap", "findReached", "()I"⟩
  | 45 => ⟨"RegionHeap", "forgetReached", "()V"⟩
  | 46 => ⟨"RegionHeap", "reach", "(LRegionHeap$Item;)V"⟩
  | 47 => ⟨"RegionHeap", "full", "()I"⟩
  | 48 => ⟨"RegionHeap", "collectFully", "()I"⟩
  | 49 => ⟨"RegionHeap", "takeUpSmall", "()V"⟩
  | 50 => ⟨"RegionHeap", "takeUpReached", "(LRegionHeap$Region;)V"⟩
  | 51 => ⟨"RegionHeap", "layTogether", "()V"⟩
  | 52 => ⟨"RegionHeap", "serial", "(I)I"⟩
  | 53 => ⟨"RegionHeap", "region", "(I)I"⟩
  | 54 => ⟨"RegionHeap", "offset", "(I)I"⟩
  | 55 => ⟨"RegionHeap", "size", "(I)I"⟩
  | 56 => ⟨"RegionHeap", "kind", "(I)I"⟩
  | 57 => ⟨"RegionHeap", "used", "(I)I"⟩
  | 58 => ⟨"RegionHeap", "live", "(I)I"⟩
  | 59 => ⟨"RegionHeap", "incoming", "(I)I"⟩
  | 60 => ⟨"RegionHeap", "count", "(I)I"⟩
  | 61 => ⟨"RegionHeapModel", "<init>", "()V"⟩
  | 62 => ⟨"RegionHeapModel", "noRoot", "(I)Z"⟩
  | 63 => ⟨"RegionHeapModel", "noRegion", "(I)Z"⟩
  | 64 => ⟨"RegionHeapModel", "reach", "()V"⟩
  | 65 => ⟨"RegionHeapModel", "mark", "()I"⟩
  | 66 => ⟨"RegionHeapModel", "release", "(I)V"⟩
  | 67 => ⟨"RegionHeapModel", "put", "(III)V"⟩
  | 68 => ⟨"RegionHeapModel", "incomingOf", "(I)I"⟩
  | 69 => ⟨"RegionHeapModel", "choose", "(I)V"⟩
  | 70 => ⟨"RegionHeapModel", "first", "(II)Z"⟩
  | 71 => ⟨"RegionHeapModel", "chosen", "(I)I"⟩
  | 72 => ⟨"RegionHeapModel", "find", "(I)V"⟩
  | 73 => ⟨"RegionHeapModel", "findFields", "(I)V"⟩
  | 74 => ⟨"RegionHeapModel", "trace", "()V"⟩
  | 75 => ⟨"RegionHeapModel", "collection", "(I)I"⟩
  | 76 => ⟨"RegionHeapModel", "fullCollection", "()I"⟩
  | 77 => ⟨"RegionHeapModel", "nextPlain", "(I)I"⟩
  | 78 => ⟨"RegionHeapModel", "drop", "(I)V"⟩
  | 79 => ⟨"RegionHeapModel", "collect", "(I)I"⟩
  | 80 => ⟨"RegionHeapModel", "full", "()I"⟩
  | 81 => ⟨"RegionHeapModel", "newObject", "(IIII)I"⟩
  | 82 => ⟨"RegionHeapModel", "young", "(I)I"⟩
  | 83 => ⟨"RegionHeapModel", "oldWithRoom", "(I)I"⟩
  | 84 => ⟨"RegionHeapModel", "make", "(III)I"⟩
  | 85 => ⟨"RegionHeapModel", "side", "(I)I"⟩
  | 86 => ⟨"RegionHeapModel", "large", "(III)I"⟩
  | 87 => ⟨"RegionHeapModel", "noField", "(II)Z"⟩
  | 88 => ⟨"RegionHeapModel", "link", "(III)Z"⟩
  | 89 => ⟨"RegionHeapModel", "load", "(III)Z"⟩
  | 90 => ⟨"RegionHeapModel", "hold", "(II)Z"⟩
  | 91 => ⟨"RegionHeapModel", "empty", "(I)Z"⟩
  | 92 => ⟨"RegionHeapModel", "serial", "(I)I"⟩
  | 93 => ⟨"RegionHeapModel", "region", "(I)I"⟩
  | 94 => ⟨"RegionHeapModel", "offset", "(I)I"⟩
  | 95 => ⟨"RegionHeapModel", "size", "(I)I"⟩
  | 96 => ⟨"RegionHeapModel", "kind", "(I)I"⟩
  | 97 => ⟨"RegionHeapModel", "used", "(I)I"⟩
  | 98 => ⟨"RegionHeapModel", "live", "(I)I"⟩
  | 99 => ⟨"RegionHeapModel", "incoming", "(I)I"⟩
  | 100 => ⟨"RegionHeapModel", "count", "(I)I"⟩
  | _ => ⟨"RegionHeapLaw", "law", "([I)Z"⟩
def bC (y : Nat) : ByteArray := match y with
  | 0 => prog_2_method_1_code
  | 1 => prog_2_method_2_code
  | 2 => prog_3_method_1_code
  | 3 => prog_3_method_2_code
  | 4 => prog_3_method_3_code
  | 5 => prog_3_method_4_code
  | 6 => prog_3_method_5_code
  | 7 => prog_3_method_6_code
  | 8 => prog_3_method_7_code
  | 9 => prog_1_method_1_code
  | 10 => prog_1_method_2_code
  | 11 => prog_1_method_3_code
  | 12 => prog_1_method_4_code
  | 13 => prog_1_method_5_code
  | 14 => prog_1_method_6_code
  | 15 => prog_1_method_7_code
  | 16 => prog_1_method_8_code
  | 17 => prog_1_method_9_code
  | 18 => prog_1_method_10_code
  | 19 => prog_1_method_11_code
  | 20 => prog_1_method_12_code
  | 21 => prog_1_method_13_code
  | 22 => prog_1_method_14_code
  | 23 => prog_1_method_15_code
  | 24 => prog_1_method_16_code
  | 25 => prog_1_method_17_code
  | 26 => prog_1_method_18_code
  | 27 => prog_1_method_19_code
  | 28 => prog_1_method_20_code
  | 29 => prog_1_method_21_code
  | 30 => prog_1_method_22_code
  | 31 => prog_1_method_23_code
  | 32 => prog_1_method_24_code
  | 33 => prog_1_method_25_code
  | 34 => prog_1_method_26_code
  | 35 => prog_1_method_27_code
  | 36 => prog_1_method_28_code
  | 37 => prog_1_method_29_code
  | 38 => prog_1_method_30_code
  | 39 => prog_1_method_31_code
  | 40 => prog_1_method_32_code
  | 41 => prog_1_method_33_code
  | 42 => prog_1_method_34_code
  | 43 => prog_1_method_35_code
  | 44 => prog_1_method_36_code
  | 45 => prog_1_method_37_code
  | 46 => prog_1_method_38_code
  | 47 => prog_1_method_39_code
  | 48 => prog_1_method_40_code
  | 49 => prog_1_method_41_code
  | 50 => prog_1_method_42_code
  | 51 => prog_1_method_43_code
  | 52 => prog_1_method_44_code
  | 53 => prog_1_method_45_code
  | 54 => prog_1_method_46_code
  | 55 => prog_1_method_47_code
  | 56 => prog_1_method_48_code
  | 57 => prog_1_method_49_code
  | 58 => prog_1_method_50_code
  | 59 => prog_1_method_51_code
  | 60 => prog_1_method_52_code
  | 61 => prog_5_method_1_code
  | 62 => prog_5_method_2_code
  | 63 => prog_5_method_3_code
  | 64 => prog_5_method_4_code
  | 65 => prog_5_method_5_code
  | 66 => prog_5_method_6_code
  | 67 => prog_5_method_7_code
  | 68 => prog_5_method_8_code
  | 69 => prog_5_method_9_code
  | 70 => prog_5_method_10_code
  | 71 => prog_5_method_11_code
  | 72 => prog_5_method_12_code
  | 73 => prog_5_method_13_code
  | 74 => prog_5_method_14_code
  | 75 => prog_5_method_15_code
  | 76 => prog_5_method_16_code
  | 77 => prog_5_method_17_code
  | 78 => prog_5_method_18_code
  | 79 => prog_5_method_19_code
  | 80 => prog_5_method_20_code
  | 81 => prog_5_method_21_code
  | 82 => prog_5_method_22_code
  | 83 => prog_5_method_23_code
  | 84 => prog_5_method_24_code
  | 85 => prog_5_method_25_code
  | 86 => prog_5_method_26_code
  | 87 => prog_5_method_27_code
  | 88 => prog_5_method_28_code
  | 89 => prog_5_method_29_code
  | 90 => prog_5_method_30_code
  | 91 => prog_5_method_31_code
  | 92 => prog_5_method_32_code
  | 93 => prog_5_method_33_code
  | 94 => prog_5_method_34_code
  | 95 => prog_5_method_35_code
  | 96 => prog_5_method_36_code
  | 97 => prog_5_method_37_code
  | 98 => prog_5_method_38_code
  | 99 => prog_5_method_39_code
  | 100 => prog_5_method_40_code
  | _ => code
def mL (y : Nat) : Nat := match y with
  | 0 => 4
  | 1 => 2
  | 2 => 2
  | 3 => 2
  | 4 => 1
  | 5 => 2
  | 6 => 1
  | 7 => 3
  | 8 => 4
  | 9 => 2
  | 10 => 7
  | 11 => 7
  | 12 => 3
  | 13 => 3
  | 14 => 3
  | 15 => 3
  | 16 => 3
  | 17 => 4
  | 18 => 6
  | 19 => 5
  | 20 => 5
  | 21 => 3
  | 22 => 2
  | 23 => 1
  | 24 => 1
  | 25 => 1
  | 26 => 1
  | 27 => 2
  | 28 => 2
  | 29 => 5
  | 30 => 2
  | 31 => 4
  | 32 => 2
  | 33 => 3
  | 34 => 3
  | 35 => 6
  | 36 => 3
  | 37 => 2
  | 38 => 6
  | 39 => 3
  | 40 => 4
  | 41 => 6
  | 42 => 4
  | 43 => 4
  | 44 => 4
  | 45 => 3
  | 46 => 2
  | 47 => 1
  | 48 => 2
  | 49 => 4
  | 50 => 3
  | 51 => 4
  | 52 => 2
  | 53 => 3
  | 54 => 3
  | 55 => 3
  | 56 => 2
  | 57 => 2
  | 58 => 2
  | 59 => 2
  | 60 => 2
  | 61 => 2
  | 62 => 2
  | 63 => 2
  | 64 => 6
  | 65 => 3
  | 66 => 2
  | 67 => 4
  | 68 => 5
  | 69 => 9
  | 70 => 5
  | 71 => 4
  | 72 => 5
  | 73 => 3
  | 74 => 2
  | 75 => 4
  | 76 => 5
  | 77 => 3
  | 78 => 4
  | 79 => 2
  | 80 => 1
  | 81 => 7
  | 82 => 5
  | 83 => 3
  | 84 => 7
  | 85 => 5
  | 86 => 8
  | 87 => 3
  | 88 => 4
  | 89 => 4
  | 90 => 3
  | 91 => 2
  | 92 => 2
  | 93 => 2
  | 94 => 2
  | 95 => 2
  | 96 => 2
  | 97 => 2
  | 98 => 2
  | 99 => 2
  | 100 => 2
  | _ => 4
def rt (y : Nat) : Option FieldType := match y with
  | 0 => none
  | 1 => (some .boolean)
  | 2 => none
  | 3 => (some .boolean)
  | 4 => (some .boolean)
  | 5 => none
  | 6 => none
  | 7 => (some .int)
  | 8 => (some .boolean)
  | 9 => none
  | 10 => (some .int)
  | 11 => (some .int)
  | 12 => (some (.object "RegionHeap$Item"))
  | 13 => (some (.object "RegionHeap$Region"))
  | 14 => (some (.object "RegionHeap$Region"))
  | 15 => (some .int)
  | 16 => (some (.object "RegionHeap$Region"))
  | 17 => (some .int)
  | 18 => none
  | 19 => (some .boolean)
  | 20 => (some .boolean)
  | 21 => (some .boolean)
  | 22 => (some (.object "RegionHeap$Item"))
  | 23 => (some .boolean)
  | 24 => (some .boolean)
  | 25 => (some .boolean)
  | 26 => (some .boolean)
  | 27 => (some .int)
  | 28 => (some .int)
  | 29 => none
  | 30 => (some .boolean)
  | 31 => (some .boolean)
  | 32 => (some .boolean)
  | 33 => (some .boolean)
  | 34 => (some .boolean)
  | 35 => (some (.object "RegionHeap$Region"))
  | 36 => none
  | 37 => (some .int)
  | 38 => (some .int)
  | 39 => none
  | 40 => (some (.object "RegionHeap$Region"))
  | 41 => (some .int)
  | 42 => (some .int)
  | 43 => (some .int)
  | 44 => (some .int)
  | 45 => none
  | 46 => none
  | 47 => (some .int)
  | 48 => (some .int)
  | 49 => none
  | 50 => none
  | 51 => none
  | 52 => (some .int)
  | 53 => (some .int)
  | 54 => (some .int)
  | 55 => (some .int)
  | 56 => (some .int)
  | 57 => (some .int)
  | 58 => (some .int)
  | 59 => (some .int)
  | 60 => (some .int)
  | 61 => none
  | 62 => (some .boolean)
  | 63 => (some .boolean)
  | 64 => none
  | 65 => (some .int)
  | 66 => none
  | 67 => none
  | 68 => (some .int)
  | 69 => none
  | 70 => (some .boolean)
  | 71 => (some .int)
  | 72 => none
  | 73 => none
  | 74 => none
  | 75 => (some .int)
  | 76 => (some .int)
  | 77 => (some .int)
  | 78 => none
  | 79 => (some .int)
  | 80 => (some .int)
  | 81 => (some .int)
  | 82 => (some .int)
  | 83 => (some .int)
  | 84 => (some .int)
  | 85 => (some .int)
  | 86 => (some .int)
  | 87 => (some .boolean)
  | 88 => (some .boolean)
  | 89 => (some .boolean)
  | 90 => (some .boolean)
  | 91 => (some .boolean)
  | 92 => (some .int)
  | 93 => (some .int)
  | 94 => (some .int)
  | 95 => (some .int)
  | 96 => (some .int)
  | 97 => (some .int)
  | 98 => (some .int)
  | 99 => (some .int)
  | 100 => (some .int)
  | _ => (some .boolean)
def fr (y : Nat) : Nat := match y with
  | 0 => 1
  | 1 => 0
  | 2 => 1
  | 3 => 0
  | 4 => 0
  | 5 => 0
  | 6 => 0
  | 7 => 0
  | 8 => 0
  | 9 => 2
  | 10 => 6
  | 11 => 3
  | 12 => 2
  | 13 => 5
  | 14 => 1
  | 15 => 0
  | 16 => 1
  | 17 => 0
  | 18 => 1
  | 19 => 2
  | 20 => 2
  | 21 => 2
  | 22 => 1
  | 23 => 0
  | 24 => 1
  | 25 => 0
  | 26 => 0
  | 27 => 5
  | 28 => 4
  | 29 => 0
  | 30 => 2
  | 31 => 3
  | 32 => 3
  | 33 => 2
  | 34 => 1
  | 35 => 0
  | 36 => 1
  | 37 => 4
  | 38 => 3
  | 39 => 2
  | 40 => 1
  | 41 => 1
  | 42 => 0
  | 43 => 2
  | 44 => 1
  | 45 => 0
  | 46 => 0
  | 47 => 3
  | 48 => 2
  | 49 => 1
  | 50 => 0
  | 51 => 1
  | 52 => 1
  | 53 => 2
  | 54 => 2
  | 55 => 2
  | 56 => 1
  | 57 => 1
  | 58 => 1
  | 59 => 2
  | 60 => 0
  | 61 => 1
  | 62 => 0
  | 63 => 0
  | 64 => 0
  | 65 => 1
  | 66 => 0
  | 67 => 0
  | 68 => 0
  | 69 => 2
  | 70 => 1
  | 71 => 3
  | 72 => 0
  | 73 => 1
  | 74 => 2
  | 75 => 3
  | 76 => 2
  | 77 => 0
  | 78 => 1
  | 79 => 4
  | 80 => 3
  | 81 => 1
  | 82 => 0
  | 83 => 0
  | 84 => 4
  | 85 => 0
  | 86 => 3
  | 87 => 1
  | 88 => 2
  | 89 => 2
  | 90 => 1
  | 91 => 1
  | 92 => 1
  | 93 => 2
  | 94 => 2
  | 95 => 2
  | 96 => 1
  | 97 => 1
  | 98 => 1
  | 99 => 1
  | 100 => 0
  | _ => 7
def lo (y : Nat) : Nat := match y with
  | 0 => 21
  | 1 => 0
  | 2 => 21
  | 3 => 0
  | 4 => 0
  | 5 => 0
  | 6 => 0
  | 7 => 0
  | 8 => 0
  | 9 => 42
  | 10 => 138
  | 11 => 66
  | 12 => 44
  | 13 => 116
  | 14 => 23
  | 15 => 0
  | 16 => 21
  | 17 => 0
  | 18 => 21
  | 19 => 41
  | 20 => 41
  | 21 => 41
  | 22 => 20
  | 23 => 0
  | 24 => 20
  | 25 => 0
  | 26 => 0
  | 27 => 116
  | 28 => 95
  | 29 => 0
  | 30 => 47
  | 31 => 69
  | 32 => 69
  | 33 => 47
  | 34 => 25
  | 35 => 0
  | 36 => 21
  | 37 => 95
  | 38 => 70
  | 39 => 48
  | 40 => 23
  | 41 => 23
  | 42 => 0
  | 43 => 45
  | 44 => 22
  | 45 => 0
  | 46 => 0
  | 47 => 66
  | 48 => 45
  | 49 => 22
  | 50 => 0
  | 51 => 21
  | 52 => 20
  | 53 => 41
  | 54 => 41
  | 55 => 41
  | 56 => 20
  | 57 => 20
  | 58 => 20
  | 59 => 48
  | 60 => 0
  | 61 => 21
  | 62 => 0
  | 63 => 0
  | 64 => 0
  | 65 => 25
  | 66 => 0
  | 67 => 0
  | 68 => 0
  | 69 => 48
  | 70 => 24
  | 71 => 76
  | 72 => 0
  | 73 => 24
  | 74 => 46
  | 75 => 76
  | 76 => 44
  | 77 => 0
  | 78 => 21
  | 79 => 99
  | 80 => 68
  | 81 => 23
  | 82 => 0
  | 83 => 0
  | 84 => 99
  | 85 => 0
  | 86 => 68
  | 87 => 21
  | 88 => 43
  | 89 => 43
  | 90 => 21
  | 91 => 21
  | 92 => 21
  | 93 => 42
  | 94 => 42
  | 95 => 42
  | 96 => 21
  | 97 => 21
  | 98 => 21
  | 99 => 24
  | 100 => 0
  | _ => 164
def yL : Nat := 101
