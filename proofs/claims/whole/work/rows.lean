section
-- ===== PART A: goes FIRST, ahead of the names: the tables' words, and 'selects' of the private methods out of them =====
/-- a private method of a class that the tables say can be made, by its rows of tables_1 -/
def lw_okq (q : MethodName × Nat) : Prop := (q.1.cls ≠ "java/lang/invoke/MethodHandle" ∧ q.1.cls ≠ "java/lang/invoke/VarHandle") ∧ Cond.instantiable q.1.cls q.2 ∈ tables_1 ∧ Cond.privateMethod q.1 ∈ tables_1 ∧ Cond.instanceMethod q.1 ∈ tables_1
theorem lw_p0 : lw_okq (⟨"PointTrees", "forgetAsked", "()V"⟩, 18) := ⟨⟨by decide +kernel, by decide +kernel⟩, List.mem_of_getElem? (i := 10) (by decide +kernel), List.mem_of_getElem? (i := 90) (by decide +kernel), List.mem_of_getElem? (i := 91) (by decide +kernel)⟩
theorem lw_p1 : lw_okq (⟨"PointTrees", "isBox", "(IIIIII)Z"⟩, 18) := ⟨⟨by decide +kernel, by decide +kernel⟩, List.mem_of_getElem? (i := 10) (by decide +kernel), List.mem_of_getElem? (i := 98) (by decide +kernel), List.mem_of_getElem? (i := 99) (by decide +kernel)⟩
theorem lw_p2 : lw_okq (⟨"PointTrees$Boxes", "put", "(IIIIIII)V"⟩, 1) := ⟨⟨by decide +kernel, by decide +kernel⟩, List.mem_of_getElem? (i := 18) (by decide +kernel), List.mem_of_getElem? (i := 107) (by decide +kernel), List.mem_of_getElem? (i := 108) (by decide +kernel)⟩
theorem lw_p3 : lw_okq (⟨"PointTrees$Boxes", "putSpan", "(IIII)V"⟩, 1) := ⟨⟨by decide +kernel, by decide +kernel⟩, List.mem_of_getElem? (i := 18) (by decide +kernel), List.mem_of_getElem? (i := 111) (by decide +kernel), List.mem_of_getElem? (i := 112) (by decide +kernel)⟩
theorem lw_p4 : lw_okq (⟨"PointTrees", "hasThing", "(I)Z"⟩, 18) := ⟨⟨by decide +kernel, by decide +kernel⟩, List.mem_of_getElem? (i := 10) (by decide +kernel), List.mem_of_getElem? (i := 119) (by decide +kernel), List.mem_of_getElem? (i := 120) (by decide +kernel)⟩
theorem lw_p5 : lw_okq (⟨"PointTrees", "hasEnd", "(II)Z"⟩, 18) := ⟨⟨by decide +kernel, by decide +kernel⟩, List.mem_of_getElem? (i := 10) (by decide +kernel), List.mem_of_getElem? (i := 131) (by decide +kernel), List.mem_of_getElem? (i := 132) (by decide +kernel)⟩
theorem lw_p6 : lw_okq (⟨"PointTrees$Boxes", "at", "(III)I"⟩, 1) := ⟨⟨by decide +kernel, by decide +kernel⟩, List.mem_of_getElem? (i := 18) (by decide +kernel), List.mem_of_getElem? (i := 136) (by decide +kernel), List.mem_of_getElem? (i := 137) (by decide +kernel)⟩
theorem lw_p7 : lw_okq (⟨"PointTrees", "makeBlock", "(III)V"⟩, 18) := ⟨⟨by decide +kernel, by decide +kernel⟩, List.mem_of_getElem? (i := 10) (by decide +kernel), List.mem_of_getElem? (i := 144) (by decide +kernel), List.mem_of_getElem? (i := 145) (by decide +kernel)⟩
theorem lw_p8 : lw_okq (⟨"PointTrees", "setBounds", "(I)V"⟩, 18) := ⟨⟨by decide +kernel, by decide +kernel⟩, List.mem_of_getElem? (i := 10) (by decide +kernel), List.mem_of_getElem? (i := 148) (by decide +kernel), List.mem_of_getElem? (i := 149) (by decide +kernel)⟩
theorem lw_p9 : lw_okq (⟨"PointTrees$Boxes", "copyFrom", "(ILPointTrees$Boxes;I)V"⟩, 1) := ⟨⟨by decide +kernel, by decide +kernel⟩, List.mem_of_getElem? (i := 18) (by decide +kernel), List.mem_of_getElem? (i := 152) (by decide +kernel), List.mem_of_getElem? (i := 153) (by decide +kernel)⟩
theorem lw_p10 : lw_okq (⟨"PointTrees$Boxes", "widen", "(ILPointTrees$Boxes;I)V"⟩, 1) := ⟨⟨by decide +kernel, by decide +kernel⟩, List.mem_of_getElem? (i := 18) (by decide +kernel), List.mem_of_getElem? (i := 157) (by decide +kernel), List.mem_of_getElem? (i := 158) (by decide +kernel)⟩
theorem lw_p11 : lw_okq (⟨"PointTrees", "widestAxis", "(II)I"⟩, 18) := ⟨⟨by decide +kernel, by decide +kernel⟩, List.mem_of_getElem? (i := 10) (by decide +kernel), List.mem_of_getElem? (i := 167) (by decide +kernel), List.mem_of_getElem? (i := 168) (by decide +kernel)⟩
theorem lw_p12 : lw_okq (⟨"PointTrees", "spread", "(III)I"⟩, 18) := ⟨⟨by decide +kernel, by decide +kernel⟩, List.mem_of_getElem? (i := 10) (by decide +kernel), List.mem_of_getElem? (i := 171) (by decide +kernel), List.mem_of_getElem? (i := 172) (by decide +kernel)⟩
theorem lw_p13 : lw_okq (⟨"PointTrees$Boxes", "sum", "(II)I"⟩, 1) := ⟨⟨by decide +kernel, by decide +kernel⟩, List.mem_of_getElem? (i := 18) (by decide +kernel), List.mem_of_getElem? (i := 175) (by decide +kernel), List.mem_of_getElem? (i := 176) (by decide +kernel)⟩
theorem lw_p14 : lw_okq (⟨"PointTrees", "sortRun", "(III)V"⟩, 18) := ⟨⟨by decide +kernel, by decide +kernel⟩, List.mem_of_getElem? (i := 10) (by decide +kernel), List.mem_of_getElem? (i := 181) (by decide +kernel), List.mem_of_getElem? (i := 182) (by decide +kernel)⟩
theorem lw_p15 : lw_okq (⟨"PointTrees", "comesBefore", "(III)Z"⟩, 18) := ⟨⟨by decide +kernel, by decide +kernel⟩, List.mem_of_getElem? (i := 10) (by decide +kernel), List.mem_of_getElem? (i := 185) (by decide +kernel), List.mem_of_getElem? (i := 186) (by decide +kernel)⟩
def lw_privs_1 : List (MethodName × Nat) := [(⟨"PointTrees", "forgetAsked", "()V"⟩, 18), (⟨"PointTrees", "isBox", "(IIIIII)Z"⟩, 18), (⟨"PointTrees$Boxes", "put", "(IIIIIII)V"⟩, 1), (⟨"PointTrees$Boxes", "putSpan", "(IIII)V"⟩, 1), (⟨"PointTrees", "hasThing", "(I)Z"⟩, 18), (⟨"PointTrees", "hasEnd", "(II)Z"⟩, 18), (⟨"PointTrees$Boxes", "at", "(III)I"⟩, 1), (⟨"PointTrees", "makeBlock", "(III)V"⟩, 18), (⟨"PointTrees", "setBounds", "(I)V"⟩, 18), (⟨"PointTrees$Boxes", "copyFrom", "(ILPointTrees$Boxes;I)V"⟩, 1), (⟨"PointTrees$Boxes", "widen", "(ILPointTrees$Boxes;I)V"⟩, 1), (⟨"PointTrees", "widestAxis", "(II)I"⟩, 18), (⟨"PointTrees", "spread", "(III)I"⟩, 18), (⟨"PointTrees$Boxes", "sum", "(II)I"⟩, 1), (⟨"PointTrees", "sortRun", "(III)V"⟩, 18), (⟨"PointTrees", "comesBefore", "(III)Z"⟩, 18)]
theorem lw_r1 : ∀ q ∈ lw_privs_1, lw_okq q := List.forall_mem_cons.mpr ⟨lw_p0, List.forall_mem_cons.mpr ⟨lw_p1, List.forall_mem_cons.mpr ⟨lw_p2, List.forall_mem_cons.mpr ⟨lw_p3, List.forall_mem_cons.mpr ⟨lw_p4, List.forall_mem_cons.mpr ⟨lw_p5, List.forall_mem_cons.mpr ⟨lw_p6, List.forall_mem_cons.mpr ⟨lw_p7, List.forall_mem_cons.mpr ⟨lw_p8, List.forall_mem_cons.mpr ⟨lw_p9, List.forall_mem_cons.mpr ⟨lw_p10, List.forall_mem_cons.mpr ⟨lw_p11, List.forall_mem_cons.mpr ⟨lw_p12, List.forall_mem_cons.mpr ⟨lw_p13, List.forall_mem_cons.mpr ⟨lw_p14, List.forall_mem_cons.mpr ⟨lw_p15, fun _ h => absurd h List.not_mem_nil⟩⟩⟩⟩⟩⟩⟩⟩⟩⟩⟩⟩⟩⟩⟩⟩
theorem lw_p16 : lw_okq (⟨"PointTrees", "hasBlock", "(I)Z"⟩, 18) := ⟨⟨by decide +kernel, by decide +kernel⟩, List.mem_of_getElem? (i := 10) (by decide +kernel), List.mem_of_getElem? (i := 193) (by decide +kernel), List.mem_of_getElem? (i := 194) (by decide +kernel)⟩
theorem lw_p17 : lw_okq (⟨"PointTrees", "isParted", "(I)Z"⟩, 18) := ⟨⟨by decide +kernel, by decide +kernel⟩, List.mem_of_getElem? (i := 10) (by decide +kernel), List.mem_of_getElem? (i := 197) (by decide +kernel), List.mem_of_getElem? (i := 198) (by decide +kernel)⟩
theorem lw_p18 : lw_okq (⟨"PointTrees", "askBlocks", "(I)V"⟩, 18) := ⟨⟨by decide +kernel, by decide +kernel⟩, List.mem_of_getElem? (i := 10) (by decide +kernel), List.mem_of_getElem? (i := 209) (by decide +kernel), List.mem_of_getElem? (i := 210) (by decide +kernel)⟩
theorem lw_p19 : lw_okq (⟨"PointTrees", "verdictOn", "(II)I"⟩, 18) := ⟨⟨by decide +kernel, by decide +kernel⟩, List.mem_of_getElem? (i := 10) (by decide +kernel), List.mem_of_getElem? (i := 213) (by decide +kernel), List.mem_of_getElem? (i := 214) (by decide +kernel)⟩
theorem lw_p20 : lw_okq (⟨"PointTrees", "findAllOf", "(I)V"⟩, 18) := ⟨⟨by decide +kernel, by decide +kernel⟩, List.mem_of_getElem? (i := 10) (by decide +kernel), List.mem_of_getElem? (i := 223) (by decide +kernel), List.mem_of_getElem? (i := 224) (by decide +kernel)⟩
theorem lw_p21 : lw_okq (⟨"PointTrees", "markFound", "(I)V"⟩, 18) := ⟨⟨by decide +kernel, by decide +kernel⟩, List.mem_of_getElem? (i := 10) (by decide +kernel), List.mem_of_getElem? (i := 227) (by decide +kernel), List.mem_of_getElem? (i := 228) (by decide +kernel)⟩
theorem lw_p22 : lw_okq (⟨"PointTrees", "askThingsOf", "(II)V"⟩, 18) := ⟨⟨by decide +kernel, by decide +kernel⟩, List.mem_of_getElem? (i := 10) (by decide +kernel), List.mem_of_getElem? (i := 231) (by decide +kernel), List.mem_of_getElem? (i := 232) (by decide +kernel)⟩
theorem lw_p23 : lw_okq (⟨"PointTrees", "askThing", "(II)V"⟩, 18) := ⟨⟨by decide +kernel, by decide +kernel⟩, List.mem_of_getElem? (i := 10) (by decide +kernel), List.mem_of_getElem? (i := 235) (by decide +kernel), List.mem_of_getElem? (i := 236) (by decide +kernel)⟩
theorem lw_p24 : lw_okq (⟨"PointTrees", "isSo", "(II)Z"⟩, 18) := ⟨⟨by decide +kernel, by decide +kernel⟩, List.mem_of_getElem? (i := 10) (by decide +kernel), List.mem_of_getElem? (i := 239) (by decide +kernel), List.mem_of_getElem? (i := 240) (by decide +kernel)⟩
theorem lw_p25 : lw_okq (⟨"PointTrees", "isPlace", "(III)Z"⟩, 18) := ⟨⟨by decide +kernel, by decide +kernel⟩, List.mem_of_getElem? (i := 10) (by decide +kernel), List.mem_of_getElem? (i := 255) (by decide +kernel), List.mem_of_getElem? (i := 256) (by decide +kernel)⟩
theorem lw_p26 : lw_okq (⟨"PointTrees$Boxes", "squareTo", "(IIIII)J"⟩, 1) := ⟨⟨by decide +kernel, by decide +kernel⟩, List.mem_of_getElem? (i := 18) (by decide +kernel), List.mem_of_getElem? (i := 259) (by decide +kernel), List.mem_of_getElem? (i := 260) (by decide +kernel)⟩
theorem lw_p27 : lw_okq (⟨"PointTrees$Boxes", "squareOnAxis", "(III)J"⟩, 1) := ⟨⟨by decide +kernel, by decide +kernel⟩, List.mem_of_getElem? (i := 18) (by decide +kernel), List.mem_of_getElem? (i := 263) (by decide +kernel), List.mem_of_getElem? (i := 264) (by decide +kernel)⟩
theorem lw_p28 : lw_okq (⟨"PointTrees", "nearerThan", "(I)I"⟩, 18) := ⟨⟨by decide +kernel, by decide +kernel⟩, List.mem_of_getElem? (i := 10) (by decide +kernel), List.mem_of_getElem? (i := 270) (by decide +kernel), List.mem_of_getElem? (i := 271) (by decide +kernel)⟩
theorem lw_p29 : lw_okq (⟨"PointTrees", "isNearer", "(II)Z"⟩, 18) := ⟨⟨by decide +kernel, by decide +kernel⟩, List.mem_of_getElem? (i := 10) (by decide +kernel), List.mem_of_getElem? (i := 274) (by decide +kernel), List.mem_of_getElem? (i := 275) (by decide +kernel)⟩
theorem lw_p30 : lw_okq (⟨"java/lang/Throwable", "fillInStackTrace", "(I)Ljava/lang/Throwable;"⟩, 6) := ⟨⟨by decide +kernel, by decide +kernel⟩, List.mem_of_getElem? (i := 330) (by decide +kernel), List.mem_of_getElem? (i := 328) (by decide +kernel), List.mem_of_getElem? (i := 329) (by decide +kernel)⟩
theorem lw_p31 : lw_okq (⟨"PointTreesModel", "tells", "(IIIIII)Z"⟩, 27) := ⟨⟨by decide +kernel, by decide +kernel⟩, List.mem_of_getElem? (i := 363) (by decide +kernel), List.mem_of_getElem? (i := 463) (by decide +kernel), List.mem_of_getElem? (i := 464) (by decide +kernel)⟩
def lw_privs_2 : List (MethodName × Nat) := [(⟨"PointTrees", "hasBlock", "(I)Z"⟩, 18), (⟨"PointTrees", "isParted", "(I)Z"⟩, 18), (⟨"PointTrees", "askBlocks", "(I)V"⟩, 18), (⟨"PointTrees", "verdictOn", "(II)I"⟩, 18), (⟨"PointTrees", "findAllOf", "(I)V"⟩, 18), (⟨"PointTrees", "markFound", "(I)V"⟩, 18), (⟨"PointTrees", "askThingsOf", "(II)V"⟩, 18), (⟨"PointTrees", "askThing", "(II)V"⟩, 18), (⟨"PointTrees", "isSo", "(II)Z"⟩, 18), (⟨"PointTrees", "isPlace", "(III)Z"⟩, 18), (⟨"PointTrees$Boxes", "squareTo", "(IIIII)J"⟩, 1), (⟨"PointTrees$Boxes", "squareOnAxis", "(III)J"⟩, 1), (⟨"PointTrees", "nearerThan", "(I)I"⟩, 18), (⟨"PointTrees", "isNearer", "(II)Z"⟩, 18), (⟨"java/lang/Throwable", "fillInStackTrace", "(I)Ljava/lang/Throwable;"⟩, 6), (⟨"PointTreesModel", "tells", "(IIIIII)Z"⟩, 27)]
theorem lw_r2 : ∀ q ∈ lw_privs_2, lw_okq q := List.forall_mem_cons.mpr ⟨lw_p16, List.forall_mem_cons.mpr ⟨lw_p17, List.forall_mem_cons.mpr ⟨lw_p18, List.forall_mem_cons.mpr ⟨lw_p19, List.forall_mem_cons.mpr ⟨lw_p20, List.forall_mem_cons.mpr ⟨lw_p21, List.forall_mem_cons.mpr ⟨lw_p22, List.forall_mem_cons.mpr ⟨lw_p23, List.forall_mem_cons.mpr ⟨lw_p24, List.forall_mem_cons.mpr ⟨lw_p25, List.forall_mem_cons.mpr ⟨lw_p26, List.forall_mem_cons.mpr ⟨lw_p27, List.forall_mem_cons.mpr ⟨lw_p28, List.forall_mem_cons.mpr ⟨lw_p29, List.forall_mem_cons.mpr ⟨lw_p30, List.forall_mem_cons.mpr ⟨lw_p31, fun _ h => absurd h List.not_mem_nil⟩⟩⟩⟩⟩⟩⟩⟩⟩⟩⟩⟩⟩⟩⟩⟩
theorem lw_p32 : lw_okq (⟨"PointTreesModel", "isThing", "(I)Z"⟩, 27) := ⟨⟨by decide +kernel, by decide +kernel⟩, List.mem_of_getElem? (i := 363) (by decide +kernel), List.mem_of_getElem? (i := 480) (by decide +kernel), List.mem_of_getElem? (i := 481) (by decide +kernel)⟩
theorem lw_p33 : lw_okq (⟨"PointTreesModel", "await", "(IIII)V"⟩, 27) := ⟨⟨by decide +kernel, by decide +kernel⟩, List.mem_of_getElem? (i := 363) (by decide +kernel), List.mem_of_getElem? (i := 494) (by decide +kernel), List.mem_of_getElem? (i := 495) (by decide +kernel)⟩
theorem lw_p34 : lw_okq (⟨"PointTreesModel", "look", "(I)I"⟩, 27) := ⟨⟨by decide +kernel, by decide +kernel⟩, List.mem_of_getElem? (i := 363) (by decide +kernel), List.mem_of_getElem? (i := 498) (by decide +kernel), List.mem_of_getElem? (i := 499) (by decide +kernel)⟩
theorem lw_p35 : lw_okq (⟨"PointTreesModel", "sum", "(II)I"⟩, 27) := ⟨⟨by decide +kernel, by decide +kernel⟩, List.mem_of_getElem? (i := 363) (by decide +kernel), List.mem_of_getElem? (i := 504) (by decide +kernel), List.mem_of_getElem? (i := 505) (by decide +kernel)⟩
theorem lw_p36 : lw_okq (⟨"PointTreesModel", "sort", "(III)V"⟩, 27) := ⟨⟨by decide +kernel, by decide +kernel⟩, List.mem_of_getElem? (i := 363) (by decide +kernel), List.mem_of_getElem? (i := 508) (by decide +kernel), List.mem_of_getElem? (i := 509) (by decide +kernel)⟩
theorem lw_p37 : lw_okq (⟨"PointTreesModel", "isBlock", "(I)Z"⟩, 27) := ⟨⟨by decide +kernel, by decide +kernel⟩, List.mem_of_getElem? (i := 363) (by decide +kernel), List.mem_of_getElem? (i := 516) (by decide +kernel), List.mem_of_getElem? (i := 517) (by decide +kernel)⟩
theorem lw_p38 : lw_okq (⟨"PointTreesModel", "tellsOf", "(II)I"⟩, 27) := ⟨⟨by decide +kernel, by decide +kernel⟩, List.mem_of_getElem? (i := 363) (by decide +kernel), List.mem_of_getElem? (i := 528) (by decide +kernel), List.mem_of_getElem? (i := 529) (by decide +kernel)⟩
theorem lw_p39 : lw_okq (⟨"PointTreesModel", "isSo", "(I[I[II)Z"⟩, 27) := ⟨⟨by decide +kernel, by decide +kernel⟩, List.mem_of_getElem? (i := 363) (by decide +kernel), List.mem_of_getElem? (i := 532) (by decide +kernel), List.mem_of_getElem? (i := 533) (by decide +kernel)⟩
theorem lw_p40 : lw_okq (⟨"PointTreesModel", "find", "(I)V"⟩, 27) := ⟨⟨by decide +kernel, by decide +kernel⟩, List.mem_of_getElem? (i := 363) (by decide +kernel), List.mem_of_getElem? (i := 536) (by decide +kernel), List.mem_of_getElem? (i := 537) (by decide +kernel)⟩
theorem lw_p41 : lw_okq (⟨"PointTreesModel", "isAt", "(III)Z"⟩, 27) := ⟨⟨by decide +kernel, by decide +kernel⟩, List.mem_of_getElem? (i := 363) (by decide +kernel), List.mem_of_getElem? (i := 552) (by decide +kernel), List.mem_of_getElem? (i := 553) (by decide +kernel)⟩
theorem lw_p42 : lw_okq (⟨"PointTreesModel", "square", "(IIII)J"⟩, 27) := ⟨⟨by decide +kernel, by decide +kernel⟩, List.mem_of_getElem? (i := 363) (by decide +kernel), List.mem_of_getElem? (i := 556) (by decide +kernel), List.mem_of_getElem? (i := 557) (by decide +kernel)⟩
def lw_privs_3 : List (MethodName × Nat) := [(⟨"PointTreesModel", "isThing", "(I)Z"⟩, 27), (⟨"PointTreesModel", "await", "(IIII)V"⟩, 27), (⟨"PointTreesModel", "look", "(I)I"⟩, 27), (⟨"PointTreesModel", "sum", "(II)I"⟩, 27), (⟨"PointTreesModel", "sort", "(III)V"⟩, 27), (⟨"PointTreesModel", "isBlock", "(I)Z"⟩, 27), (⟨"PointTreesModel", "tellsOf", "(II)I"⟩, 27), (⟨"PointTreesModel", "isSo", "(I[I[II)Z"⟩, 27), (⟨"PointTreesModel", "find", "(I)V"⟩, 27), (⟨"PointTreesModel", "isAt", "(III)Z"⟩, 27), (⟨"PointTreesModel", "square", "(IIII)J"⟩, 27)]
theorem lw_r3 : ∀ q ∈ lw_privs_3, lw_okq q := List.forall_mem_cons.mpr ⟨lw_p32, List.forall_mem_cons.mpr ⟨lw_p33, List.forall_mem_cons.mpr ⟨lw_p34, List.forall_mem_cons.mpr ⟨lw_p35, List.forall_mem_cons.mpr ⟨lw_p36, List.forall_mem_cons.mpr ⟨lw_p37, List.forall_mem_cons.mpr ⟨lw_p38, List.forall_mem_cons.mpr ⟨lw_p39, List.forall_mem_cons.mpr ⟨lw_p40, List.forall_mem_cons.mpr ⟨lw_p41, List.forall_mem_cons.mpr ⟨lw_p42, fun _ h => absurd h List.not_mem_nil⟩⟩⟩⟩⟩⟩⟩⟩⟩⟩⟩
def lw_privs : List (MethodName × Nat) := lw_privs_1 ++ (lw_privs_2 ++ (lw_privs_3))
def lw_tbl : List Cond := k2_sels lw_privs ++ tables_1
theorem lw_privs_ok : ∀ q ∈ lw_privs, lw_okq q := by
  show ∀ q ∈ lw_privs_1 ++ (lw_privs_2 ++ (lw_privs_3)), lw_okq q
  exact List.forall_mem_append.mpr ⟨lw_r1, List.forall_mem_append.mpr ⟨lw_r2, lw_r3⟩⟩
-- ===== end of PART A; then your names; then what follows =====
end
section
/-! ===== BEGIN words of one list among another's, by their places ===== -/
theorem goodIn_r {big : List Cond} (ws : List Cond) (ps : List Nat) (hp : ws = ps.filterMap (fun i => big[i]?)) (h : ws.all goodWord = true) : GoodIn big ws := by
  intro w hw
  have h1 := List.all_eq_true.mp h w hw
  rw [hp] at hw
  obtain ⟨i, -, hi⟩ := List.mem_filterMap.mp hw
  have hm : w ∈ big := by first | exact List.mem_of_getElem? hi | exact List.getElem?_mem hi
  exact ⟨hm, good_of_word h1⟩
theorem goodIn_app {big a b : List Cond} (ha : GoodIn big a) (hb : GoodIn big b) : GoodIn big (a ++ b) := fun w h => (List.mem_append.mp h).elim (ha w) (hb w)
theorem goodIn_ca {big a b : List Cond} {c : Cond} (ha : GoodIn big (c :: a)) (hb : GoodIn big b) : GoodIn big (c :: (a ++ b)) := fun w h => (List.mem_cons.mp h).elim (fun e => ha w (List.mem_cons.mpr (Or.inl e))) (fun h => (List.mem_append.mp h).elim (fun h => ha w (List.mem_cons.mpr (Or.inr h))) (hb w))
theorem goodIn_sub {big ws : List Cond} (hm : ∀ w ∈ ws, w ∈ big) (h : ws.all goodWord = true) : GoodIn big ws := fun w hw => ⟨hm w hw, good_of_word (List.all_eq_true.mp h w hw)⟩
/-! ===== END ===== -/

/-! ===== BEGIN exceptions that leave a method, and their catching by the caller (launches without stack traces) ===== -/
section VXA
/-! The laws vx_back, vx_callV, vx_callS, vx_callSW, vx_throw0, vx_throwS follow proofs of the library, with one case more: JvmDerived/Free/Laws.lean (Back.of_free), Shelf42/LK1.lean (callV, callS), Shelf/KitTraced.lean (throwNew0V, throwNewS). -/
/-- where a method has thrown q: the class by its name, the cell, what was written, the world -/
def vx_T (XC : String → State → State → Prop) (st : State) (q : Addr) (t : State) (mc ms : Nat) (free : Addr → Prop) : Prop :=
  ∃ (E : String) (ce : Cell) (L : List Loc), XC E st t ∧ t.heap[q]? = some ce ∧ ce.vm = .none ∧ st.vm.findClass E = some ce.cls ∧ st.WarmedH t.vm ∧ st.sameButNew ({ t with vm := st.vm } : State) L mc ms ∧ ∀ z ∈ L, free z.base
def vx_Q (Qc : Array Value → State → Outcome → State → Prop) (XC : String → State → State → Prop) (mc ms : Nat) (free : Addr → Prop) : Array Value → State → Outcome → State → Prop := fun a st o t =>
  (Qc a st o t ∧ ∃ L, FrameEnd st o t L mc ms ∧ ∀ q ∈ L, free q.base) ∨ ∃ q, o = .threw q ∧ vx_T XC st q t mc ms free
/-- a callee that returns or throws -/
def vx_Met (l : Launch) (y : MethodName) (ws : List Cond) (rm : Room) (Pc : Array Value → State → Prop) (Qc : Array Value → State → Outcome → State → Prop) (XC : String → State → State → Prop) (mc ms : Nat) (free : Addr → Prop) : Prop :=
  MetFree l y (headSpec ws rm) Pc (fun _ _ _ _ _ => True) (vx_Q Qc XC mc ms free)
def vx_Post (XC : String → State → State → Prop) (mc ms : Nat) (free : Addr → Prop) : Pt → Array Value → Addr → Pt → Prop := fun A a q B =>
  ∃ (g : JFrame) (mk : MethodId) (t : State) (L : List Loc) (E : String) (ce : Cell), B.U.heap = t.heap ∧ B.U.vm = t.vm ∧ XC E (A.U.calling g mk a) t ∧ t.heap[q]? = some ce ∧ ce.vm = .none ∧ A.U.vm.findClass E = some ce.cls ∧ B.locs = A.locs ++ L ∧ (∀ z ∈ L, free z.base) ∧ B.cells = A.cells + mc ∧ B.slots = A.slots + ms
def vx_Back (l : Launch) (R : Room) (p : Program) (e : Env) (below : List Frame) (s : State) (sargs : Array Value) (y : MethodName) (len W9 : Nat)
    (Pre : Pt → Array Value → Prop) (Post : Pt → Array Value → Option Value → Pt → Prop) (PostX : Pt → Array Value → Addr → Pt → Prop) : Prop :=
  ∀ (m : MethodId) (meth : Method) (c : Code) (A : Pt) (g : JFrame) (ig : Instr) (mk : MethodId) (a : Array Value),
    Stand p l e R s m sargs below meth c A.U A.locs A.cells A.slots → g.method = m → g.locals.size = c.maxLocals → decode c.code g.pc = .ok (ig, len) →
    2 * g.monitorRoom + (g.stack.map fun v => v.category).sum ≤ W9 → A.U.methodNamed? y = some mk → Pre A a →
    (∃ (v : Option Value) (B : Pt), Stand p l e R s m sargs below meth c B.U B.locs B.cells B.slots ∧ Post A a v B ∧
      Steps p.tables e below (doInvoke e (A.U.setTop g) [] mk a).1 (B.U.setTop { g with pc := g.pc + len, stack := v.toList ++ g.stack })) ∨
    (∃ (q : Addr) (B : Pt), Stand p l e R s m sargs below meth c B.U B.locs B.cells B.slots ∧ PostX A a q B ∧
      Steps p.tables e below (doInvoke e (A.U.setTop g) [] mk a).1 ((B.U.setTop g).pushFrame (.throwing q)))
section Payer
variable {l : Launch} {R : Room} {p : Program} {e : Env} {below : List Frame} {s : State} {sargs : Array Value} {y : MethodName} {len W9 : Nat}
theorem vx_back {ws : List Cond} {rm : Room} {Pc : Array Value → State → Prop} {Qc : Array Value → State → Outcome → State → Prop} {XC : String → State → State → Prop} {mc ms : Nat} {free : Addr → Prop} {bytes : ByteArray} {maxL : Nat} {ret : Option FieldType}
    (hM : vx_Met l y ws rm Pc Qc XC mc ms free) (hblind : FrameBlind Pc) (hrc : rm.cells = mc) (hrs : rm.slots = ms)
    (hframes : rm.frames + 1 ≤ R.frames) (hlocals : W9 + (maxL + 11) + rm.locals ≤ R.locals)
    (hws : ∀ w ∈ ws, ∀ a' U, s.WarmedH U.vm → w.before a' U = true) (hcode : Cond.code y bytes maxL ret ∈ ws) (hinit : ∀ a' U, s.WarmedH U.vm → (Cond.initialized y.cls).before a' U = true) :
    vx_Back l R p e below s sargs y len W9 (PreOf R mc ms Pc) (PostOf Qc mc ms free) (vx_Post XC mc ms free) := by
  intro m meth c A g ig mk a X hg hsize hdg hW hn hp
  have h1 : (headSpec ws rm).pre.before a A.U = true := atoms_intro fun w hw => hws w hw _ _ X.warmed
  have h2 : (Cond.code y bytes maxL ret).before a A.U = true := hws _ hcode _ _ X.warmed
  have h3 : (Cond.initialized y.cls).before a A.U = true := hinit _ _ X.warmed
  have h4 : A.cells + (headSpec ws rm).room.cells ≤ R.cells := by rw [show (headSpec ws rm).room.cells = mc from hrc]; exact hp.1
  have h5 : A.slots + (headSpec ws rm).room.slots ≤ R.slots := by rw [show (headSpec ws rm).room.slots = ms from hrs]; exact hp.2.1
  have hPc : Pc a (A.U.calling g mk a) := hblind _ _ _ _ hp.2.2
  obtain ⟨U, Ls, c0, s0⟩ := A
  dsimp only [Pt.U, Pt.locs, Pt.cells, Pt.slots] at h1 h2 h3 h4 h5 X hn hPc ⊢
  obtain ⟨methY, cY, hmY, hcY, -, hlY, -, -, -, -⟩ := Cond.code_spec hn h2
  obtain ⟨kY, hkY, -⟩ := className_of_methodNamed hn
  have hinitY : kY.init = .initialized := Cond.initialized_spec (findClass_of_methodNamed hn) hkY h3
  have h : At U g.method c below := by rw [hg]; exact X.here
  have hlocals9 : W9 + (maxL + 11) + (headSpec ws rm).room.locals ≤ R.locals := hlocals
  have happ : (headSpec ws rm).appliesLoose y e.platform (U.calling g mk a) = true :=
    Spec.appliesLoose_calling (g := g) h hdg hn hkY hinitY
      (X.room_calling (g := g) (R' := (headSpec ws rm).room) hsize hmY hcY hframes (by rw [hlY]; omega) h4 h5) h1
  obtain ⟨mid, hmid⟩ := h.above
  have hfr : (U.setTop g).frames = (.java g :: mid) ++ below := by rw [State.frames_setTop' g h.top, hmid]; rfl
  obtain ⟨o, s₂, hsteps, -, hend, hq⟩ := Steps.callFree hM p X.admits X.cas X.clock (acts := []) hfr happ hPc trivial
  have hq' : vx_Q Qc XC mc ms free a (U.calling g mk a) o s₂ := hq
  rw [State.frames_setTop' g h.top] at hend
  obtain ⟨g₀, hg0⟩ := Option.isSome_iff_exists.mp h.top
  obtain ⟨r, hr⟩ := State.topJava?_eq_some.mp hg0
  have hr' : (({ U with heap := s₂.heap, slotsUsed := s₂.slotsUsed } : State).setVm s₂.vm).frames = .java g₀ :: r := hr
  rcases hq' with ⟨hqc, L, hfe, hL⟩ | ⟨q, rfl, E, ce, L, hx, hce, hcv, hcl, hW₂, hsm, hL⟩
  · obtain ⟨⟨v, rfl⟩, hW₂, e2, q2, q3, q4, q5, q6⟩ := id hfe
    have e3 : s₂ = ({ (U.calling g mk a).setFrames s₂.frames with heap := s₂.heap, slotsUsed := s₂.slotsUsed } : State).setVm s₂.vm := by
      have : s₂ = ({ s₂ with vm := (U.calling g mk a).vm } : State).setVm s₂.vm := rfl
      rw [e2] at this
      exact this
    obtain ⟨c₂, i₂, len₂, hc₂, hd₂, hf₂⟩ := hend
    have hW' : U.WarmedH s₂.vm := hW₂
    have hcc : c₂ = c := by
      have h1 : s₂.code? g.method = U.code? g.method := by
        rw [State.code?_eq, State.code?_eq, hW'.alike.method?]
      exact Option.some.inj (hc₂.symm.trans (h1.trans h.code))
    subst hcc
    have hlen : len₂ = len := by rw [hdg] at hd₂; cases hd₂; rfl
    subst hlen
    have hs₂ : s₂ = (({ U with heap := s₂.heap, slotsUsed := s₂.slotsUsed } : State).setVm s₂.vm).setTop { g with pc := g.pc + len₂, stack := v.toList ++ g.stack } := by
      refine e3.trans ?_
      rw [hf₂, State.calling_eq h.top, State.setFrames_setFrames, State.setTop_of_frames _ hr', hr]
      rfl
    have hsame : U.sameButNew ({ U with heap := s₂.heap, slotsUsed := s₂.slotsUsed } : State) L mc ms := by
      refine ⟨?_, q2, q3, q4, q5, q6⟩
      obtain ⟨t, ht, -⟩ := State.frames_cons hr
      show ({ U with heap := s₂.heap, slotsUsed := s₂.slotsUsed } : State) = { U.setFrames U.frames with heap := s₂.heap, slotsUsed := s₂.slotsUsed }
      rw [State.setFrames_self ht]
    subst hg
    refine Or.inl ⟨v, ⟨(({ U with heap := s₂.heap, slotsUsed := s₂.slotsUsed } : State).setVm s₂.vm), Ls ++ L, c0 + mc, s0 + ms⟩,
      ⟨X.admits, X.cas, X.clock, X.frames, X.room, X.hears, X.method, X.code, (X.here.setHeapUsed s₂.heap s₂.slotsUsed).setVm hW'.alike, X.tail, State.WarmedH.trans X.warmed hW', X.limits, X.bytes, X.same.trans (hsame.setVm s.vm)⟩,
      ⟨g, mk, s₂, L, rfl, rfl, hqc, rfl, hL, rfl, rfl⟩, ?_⟩
    show Steps p.tables e below _ ((({ U with heap := s₂.heap, slotsUsed := s₂.slotsUsed } : State).setVm s₂.vm).setTop { g with pc := g.pc + len₂, stack := v.toList ++ g.stack })
    rw [← hs₂]
    exact hsteps
  · obtain ⟨e2, q2, q3, q4, q5, q6⟩ := id hsm
    have e3 : s₂ = ({ (U.calling g mk a).setFrames s₂.frames with heap := s₂.heap, slotsUsed := s₂.slotsUsed } : State).setVm s₂.vm := by
      have : s₂ = ({ s₂ with vm := (U.calling g mk a).vm } : State).setVm s₂.vm := rfl
      rw [e2] at this
      exact this
    have hf₂ : s₂.frames = .throwing q :: .java g :: U.frames.tail := hend
    have hW' : U.WarmedH s₂.vm := hW₂
    have hs₂ : s₂ = ((({ U with heap := s₂.heap, slotsUsed := s₂.slotsUsed } : State).setVm s₂.vm).setTop g).pushFrame (.throwing q) := by
      refine e3.trans ?_
      rw [hf₂, State.calling_eq h.top, State.setFrames_setFrames, State.pushFrame, State.frames_setTop _ hr', State.setTop_of_frames _ hr', State.setFrames_setFrames, hr]
      rfl
    have hsame : U.sameButNew ({ U with heap := s₂.heap, slotsUsed := s₂.slotsUsed } : State) L mc ms := by
      refine ⟨?_, q2, q3, q4, q5, q6⟩
      obtain ⟨t, ht, -⟩ := State.frames_cons hr
      show ({ U with heap := s₂.heap, slotsUsed := s₂.slotsUsed } : State) = { U.setFrames U.frames with heap := s₂.heap, slotsUsed := s₂.slotsUsed }
      rw [State.setFrames_self ht]
    subst hg
    refine Or.inr ⟨q, ⟨(({ U with heap := s₂.heap, slotsUsed := s₂.slotsUsed } : State).setVm s₂.vm), Ls ++ L, c0 + mc, s0 + ms⟩,
      ⟨X.admits, X.cas, X.clock, X.frames, X.room, X.hears, X.method, X.code, (X.here.setHeapUsed s₂.heap s₂.slotsUsed).setVm hW'.alike, X.tail, State.WarmedH.trans X.warmed hW', X.limits, X.bytes, X.same.trans (hsame.setVm s.vm)⟩,
      ⟨g, mk, s₂, L, E, ce, rfl, rfl, hx, hce, hcv, hcl, rfl, hL, rfl, rfl⟩, ?_⟩
    show Steps p.tables e below _ (((({ U with heap := s₂.heap, slotsUsed := s₂.slotsUsed } : State).setVm s₂.vm).setTop g).pushFrame (.throwing q))
    rw [← hs₂]
    exact hsteps
end Payer
section Calls
variable {p : Program} {l : Launch} {e : Env} {R : Room} {s : State} {m : MethodId} {args : Array Value} {below : List Frame} {meth : Method} {c : Code} {T : State} {locs : List Loc} {cells slots : Nat}
theorem vx_callV (X : Stand p l e R s m args below meth c T locs cells slots) (hexec : p.tables.exec = Jvm.exec) {own C : String} {index : Nat} {y : MethodName} {bytes : ByteArray} {maxL : Nat} {ret : Option FieldType}
    (hown : s.vm.findClass own = some m.cls) (hlink : (Cond.methodLink own index y).before args s = true) (hinst : (Cond.instanceMethod y).before args s = true) (hsel : (Cond.selects C y y).before args s = true)
    (hcode : (Cond.code y bytes maxL ret).before args s = true) (hy : y.cls ≠ "java/lang/invoke/MethodHandle" ∧ y.cls ≠ "java/lang/invoke/VarHandle")
    {W9 : Nat} {Pre : Pt → Array Value → Prop} {Post : Pt → Array Value → Option Value → Pt → Prop} {PostX : Pt → Array Value → Addr → Pt → Prop} (hK : vx_Back l R p e below s args y 3 W9 Pre Post PostX)
    {b : Addr} {cellB : Cell} (hcell : T.heap[b]? = some cellB) (hobj : cellB.vm.isStatics = false) (hcls : s.vm.findClass C = some cellB.cls)
    {g : JFrame} (hg : g.method = m) (hsize : g.locals.size = c.maxLocals) {argsL rest : List Value} (hlen : ∀ sig, parseMethodDescriptor y.desc = some sig → argsL.length = sig.parameters.length)
    (hstack : g.stack = argsL.reverse ++ .ref b :: rest) (hW : 2 * g.monitorRoom + (rest.map fun v => v.category).sum ≤ W9) (hdg : decode c.code g.pc = .ok (.invokevirtual index, 3))
    (hpre : ∀ vm₁, s.WarmedH vm₁ → Pre ⟨T.setVm vm₁, locs, cells, slots⟩ (Value.ref b :: argsL).toArray) :
    (∃ (v : Option Value) (vm₁ : Vm) (B : Pt), s.WarmedH vm₁ ∧ Stand p l e R s m args below meth c B.U B.locs B.cells B.slots ∧ Post ⟨T.setVm vm₁, locs, cells, slots⟩ (Value.ref b :: argsL).toArray v B ∧
      ∀ target, Steps p.tables e below (B.U.setTop { g with pc := g.pc + 3, stack := v.toList ++ rest }) target → Steps p.tables e below (T.setTop g) target) ∨
    (∃ (q : Addr) (vm₁ : Vm) (B : Pt), s.WarmedH vm₁ ∧ Stand p l e R s m args below meth c B.U B.locs B.cells B.slots ∧ PostX ⟨T.setVm vm₁, locs, cells, slots⟩ (Value.ref b :: argsL).toArray q B ∧
      Steps p.tables e below (T.setTop g) ((B.U.setTop { g with stack := rest }).pushFrame (.throwing q))) := by
  obtain ⟨mk, methM, hnamed, hmethM, hstM, habM⟩ := Cond.instanceMethod_spec hinst
  obtain ⟨methM', cM, hmethM', -, -, -, -, -, -, hsigM⟩ := Cond.code_spec hnamed hcode
  cases hmethM.symm.trans hmethM'
  obtain ⟨c2, r2, m2, q1, q2, q3, q4, kP, hkP, hkPi⟩ := Cond.selects_spec hsel
  cases hcls.symm.trans q1
  cases (State.methodFound?_of_named hnamed hy).symm.trans q2
  cases hnamed.symm.trans q3
  have hselP : selectMethod e.platform s.vm cellB.cls mk = .method mk := by rw [Launch.admits_selectMethod X.admits]; exact q4
  obtain ⟨vm₁, X₁, hstep₁⟩ := X.invokevirtual hexec hown hlink hnamed hmethM hstM hkP hkPi hy (a := b) (cell := cellB) hcell
    (fun z h => by rw [h] at hobj; cases hobj) hselP hmethM habM hkP hkPi (g := g) hg (argsL := argsL) (rest := rest) (hlen _ hsigM) hstack hdg
  rcases hK m meth c ⟨T.setVm vm₁, locs, cells, slots⟩ { g with stack := rest } (.invokevirtual index) mk (Value.ref b :: argsL).toArray X₁ hg hsize hdg hW (X₁.named hnamed) (hpre vm₁ X₁.warmed) with ⟨v, B, X', hpost, hsteps⟩ | ⟨q, B, X', hpost, hsteps⟩
  · exact Or.inl ⟨v, vm₁, B, X₁.warmed, X', hpost, fun target h => hstep₁ _ fun acts => by rw [doInvoke_state]; exact hsteps.trans h⟩
  · exact Or.inr ⟨q, vm₁, B, X₁.warmed, X', hpost, hstep₁ _ fun acts => by rw [doInvoke_state]; exact hsteps⟩
theorem vx_callS (X : Stand p l e R s m args below meth c T locs cells slots) (hexec : p.tables.exec = Jvm.exec) {own : String} {index : Nat} {y : MethodName} {bytes : ByteArray} {maxL : Nat} {ret : Option FieldType}
    (hown : s.vm.findClass own = some m.cls) (hlink : (Cond.methodLink own index y).before args s = true) (hstat : (Cond.static y).before args s = true) (hinit : (Cond.initialized y.cls).before args s = true)
    (hcode : (Cond.code y bytes maxL ret).before args s = true) (hy : y.cls ≠ "java/lang/invoke/MethodHandle" ∧ y.cls ≠ "java/lang/invoke/VarHandle")
    {W9 : Nat} {Pre : Pt → Array Value → Prop} {Post : Pt → Array Value → Option Value → Pt → Prop} {PostX : Pt → Array Value → Addr → Pt → Prop} (hK : vx_Back l R p e below s args y 3 W9 Pre Post PostX)
    {g : JFrame} (hg : g.method = m) (hsize : g.locals.size = c.maxLocals) {argsL rest : List Value} (hlen : ∀ sig, parseMethodDescriptor y.desc = some sig → argsL.length = sig.parameters.length)
    (hstack : g.stack = argsL.reverse ++ rest) (hW : 2 * g.monitorRoom + (rest.map fun v => v.category).sum ≤ W9) (hdg : decode c.code g.pc = .ok (.invokestatic index, 3))
    (hpre : ∀ vm₁, s.WarmedH vm₁ → Pre ⟨T.setVm vm₁, locs, cells, slots⟩ argsL.toArray) :
    (∃ (v : Option Value) (vm₁ : Vm) (B : Pt), s.WarmedH vm₁ ∧ Stand p l e R s m args below meth c B.U B.locs B.cells B.slots ∧ Post ⟨T.setVm vm₁, locs, cells, slots⟩ argsL.toArray v B ∧
      ∀ target, Steps p.tables e below (B.U.setTop { g with pc := g.pc + 3, stack := v.toList ++ rest }) target → Steps p.tables e below (T.setTop g) target) ∨
    (∃ (q : Addr) (vm₁ : Vm) (B : Pt), s.WarmedH vm₁ ∧ Stand p l e R s m args below meth c B.U B.locs B.cells B.slots ∧ PostX ⟨T.setVm vm₁, locs, cells, slots⟩ argsL.toArray q B ∧
      Steps p.tables e below (T.setTop g) ((B.U.setTop { g with stack := rest }).pushFrame (.throwing q))) := by
  obtain ⟨mk, hnamed⟩ := Cond.code_named hcode
  obtain ⟨methM, cM, hmethM, -, -, -, -, -, -, hsigM⟩ := Cond.code_spec hnamed hcode
  have hstatic : methM.isStatic = true := Cond.static_spec hnamed hmethM hstat
  obtain ⟨kP, hkP, -⟩ := className_of_methodNamed hnamed
  have hinitP : kP.init = .initialized := Cond.initialized_spec (findClass_of_methodNamed hnamed) hkP hinit
  obtain ⟨vm₁, X₁, hstep₁⟩ := X.invokestatic hexec hown hlink hnamed hmethM hstatic hkP hinitP hy (g := g) hg (argsL := argsL) (rest := rest) (hlen _ hsigM) hstack hdg
  rcases hK m meth c ⟨T.setVm vm₁, locs, cells, slots⟩ { g with stack := rest } (.invokestatic index) mk argsL.toArray X₁ hg hsize hdg hW (X₁.named hnamed) (hpre vm₁ X₁.warmed) with ⟨v, B, X', hpost, hsteps⟩ | ⟨q, B, X', hpost, hsteps⟩
  · exact Or.inl ⟨v, vm₁, B, X₁.warmed, X', hpost, fun target h => hstep₁ _ fun acts => by rw [doInvoke_state]; exact hsteps.trans h⟩
  · exact Or.inr ⟨q, vm₁, B, X₁.warmed, X', hpost, hstep₁ _ fun acts => by rw [doInvoke_state]; exact hsteps⟩
end Calls
theorem vx_cls {s : State} {T : State} {vm₁ : Vm} {E : String} {k : ClassId} (hW : s.WarmedH vm₁) (h : (T.setVm vm₁).vm.findClass E = some k) : s.vm.findClass E = some k := by
  have h1 : vm₁.findClass E = some k := h
  rw [hW.alike.findClass] at h1
  exact h1
/-- the method's frame g, with q thrown over it -/
def vx_W (p : Program) (l : Launch) (e : Env) (R : Room) (s : State) (m : MethodId) (args : Array Value) (below : List Frame) (meth : Method) (c : Code) (H : Heap) (locs : List Loc) (cells slots : Nat) (Q : State → Prop) (g : JFrame) (q : Addr) : Prop :=
  ∀ T : State, T.heap = H → Stand p l e R s m args below meth c T locs cells slots → ∃ t, Steps p.tables e below ((T.setTop g).pushFrame (.throwing q)) t ∧ Q t
def vx_Run (p : Program) (l : Launch) (e : Env) (R : Room) (s : State) (m : MethodId) (args : Array Value) (below : List Frame) (meth : Method) (c : Code) (H : Heap) (locs : List Loc) (cells slots mc ms : Nat) (g : JFrame) (rest : List Value) (Qa : State → Outcome → State → Prop) (XC : String → State → State → Prop) (free : Addr → Prop) : Prop :=
  ∀ T : State, T.heap = H → Stand p l e R s m args below meth c T locs cells slots →
    (∃ (v : Option Value) (st₀ t T' : State) (L : List Loc), st₀.heap = H ∧ Stand p l e R s m args below meth c T' (locs ++ L) (cells + mc) (slots + ms) ∧ (∀ q ∈ L, free q.base) ∧ T'.heap = t.heap ∧ T'.vm = t.vm ∧ Qa st₀ (.returned v) t ∧
      Goes p e below T g T' { g with pc := g.pc + 3, stack := v.toList ++ rest }) ∨
    (∃ (q : Addr) (st₀ t T' : State) (L : List Loc) (E : String) (ce : Cell), st₀.heap = H ∧ Stand p l e R s m args below meth c T' (locs ++ L) (cells + mc) (slots + ms) ∧ (∀ z ∈ L, free z.base) ∧ T'.heap = t.heap ∧ T'.vm = t.vm ∧ XC E st₀ t ∧ t.heap[q]? = some ce ∧ ce.vm = .none ∧ s.vm.findClass E = some ce.cls ∧
      Steps p.tables e below (T.setTop g) ((T'.setTop { g with stack := rest }).pushFrame (.throwing q)))
def vx_X {S : Type} (px : S → Prop) (B : String → S → State → Prop) (A : Nat → Prop) : String → State → State → Prop := fun E st t => ∃ u : S, px u ∧ B E u t ∧ va_F A st t
section Runs
variable {p : Program} {l : Launch} {e : Env} {R : Room} {s : State} {m : MethodId} {args : Array Value} {below : List Frame} {meth : Method} {c : Code} {H : Heap} {locs : List Loc} {cells slots : Nat}
variable {y : MethodName} {bytes cc : ByteArray} {maxL nL mc ms n index : Nat} {ret : Option FieldType} {ws : List Cond} {rm : Room} {Pc : Array Value → State → Prop} {Qc : Array Value → State → Outcome → State → Prop} {XC : String → State → State → Prop} {free : Addr → Prop} {Ts : List Cond} {own C : String} {b : Addr} {As rest : List Value} {g : JFrame}
theorem vx_callBack (cb : CallB R s args own index y bytes maxL ret ws rm mc ms n) (hM : vx_Met l y ws rm Pc Qc XC mc ms free) (hbl : FrameBlind Pc) : vx_Back l R p e below s args y 3 8 (PreOf R mc ms Pc) (PostOf Qc mc ms free) (vx_Post XC mc ms free) := by
  obtain ⟨hrc, hrs, hfr, hlo, hws, hcw, -, hini, -⟩ := cb
  exact vx_back (bytes := bytes) (maxL := maxL) (ret := ret) hM hbl hrc hrs hfr hlo hws hcw (fun a' U hW => word_at hW (Or.inl (by first | rfl | simp [Cond.onTables, Cond.keeps, Cond.steady])) hini)
theorem vx_runV (S : CallFix p m c cc nL s args Ts own) (hM : vx_Met l y ws rm Pc Qc XC mc ms free) (cw : CallW R s args own C index y bytes maxL ret ws rm mc ms n) (hp : PreV s H C b Pc As)
    (hg : g.method = m) (hn : As.length = n) (hsize : g.locals.size = nL) (hstack : g.stack = As.reverse ++ .ref b :: rest) (hW : 2 * g.monitorRoom + (rest.map fun v => v.category).sum ≤ 8) (hdg : decode cc g.pc = .ok (.invokevirtual index, 3)) (hf : cells + mc ≤ R.cells ∧ slots + ms ≤ R.slots) :
    vx_Run p l e R s m args below meth c H locs cells slots mc ms g rest (Qc (Value.ref b :: As).toArray) XC free := by
  have hK : vx_Back l R p e below s args y 3 8 (PreOf R mc ms Pc) (PostOf Qc mc ms free) (vx_Post XC mc ms free) := vx_callBack cw.1 hM hp.1
  obtain ⟨⟨-, -, -, -, -, -, hcode, -, hy, hlen, hl⟩, hin, hse⟩ := cw
  obtain ⟨hx, hb, hml, ho, -⟩ := S
  obtain ⟨-, ⟨cellB, hcB, hoB, hclB⟩, hPc⟩ := hp
  intro T hT X
  rcases vx_callV X hx (C := C) (bytes := bytes) (maxL := maxL) (ret := ret) ho hl hin hse hcode hy hK (by rw [hT]; exact hcB) hoB hclB hg (hsize.trans hml.symm) (argsL := As) (rest := rest) (fun sig h => hn.trans (hlen sig h)) hstack hW (by rw [hb]; exact hdg)
    (fun vm₁ hW₁ => ⟨hf.1, hf.2, hPc (T.setVm vm₁) hT hW₁⟩) with ⟨v, vm₁, ⟨U', l2, c2, s2⟩, hW₁, X', ⟨g', mk, t, L, e1, e2, hq, h1, hL, h2, h3⟩, st⟩ | ⟨q, vm₁, ⟨U', l2, c2, s2⟩, hW₁, X', ⟨g', mk, t, L, E, ce, e1, e2, hq, hce, hcv, hcl, h1, hL, h2, h3⟩, st⟩
  · dsimp only [Pt.U, Pt.locs, Pt.cells, Pt.slots] at X' e1 e2 h1 h2 h3 st
    subst h1; subst h2; subst h3
    exact Or.inl ⟨v, (T.setVm vm₁).calling g' mk (Value.ref b :: As).toArray, t, U', L, hT, X', hL, e1, e2, hq, st⟩
  · dsimp only [Pt.U, Pt.locs, Pt.cells, Pt.slots] at X' e1 e2 h1 h2 h3 st hcl
    subst h1; subst h2; subst h3
    exact Or.inr ⟨q, (T.setVm vm₁).calling g' mk (Value.ref b :: As).toArray, t, U', L, E, ce, hT, X', hL, e1, e2, hq, hce, hcv, vx_cls hW₁ hcl, st⟩
theorem vx_runS (S : CallFix p m c cc nL s args Ts own) (hM : vx_Met l y ws rm Pc Qc XC mc ms free) (cw : CallB R s args own index y bytes maxL ret ws rm mc ms n ∧ (Cond.static y).before args s = true) (hp : PreS s H Pc As)
    (hg : g.method = m) (hn : As.length = n) (hsize : g.locals.size = nL) (hstack : g.stack = As.reverse ++ rest) (hW : 2 * g.monitorRoom + (rest.map fun v => v.category).sum ≤ 8) (hdg : decode cc g.pc = .ok (.invokestatic index, 3)) (hf : cells + mc ≤ R.cells ∧ slots + ms ≤ R.slots) :
    vx_Run p l e R s m args below meth c H locs cells slots mc ms g rest (Qc As.toArray) XC free := by
  have hK : vx_Back l R p e below s args y 3 8 (PreOf R mc ms Pc) (PostOf Qc mc ms free) (vx_Post XC mc ms free) := vx_callBack cw.1 hM hp.1
  obtain ⟨⟨-, -, -, -, -, -, hcode, hini, hy, hlen, hl⟩, hstt⟩ := cw
  obtain ⟨hx, hb, hml, ho, -⟩ := S
  intro T hT X
  rcases vx_callS X hx (bytes := bytes) (maxL := maxL) (ret := ret) ho hl hstt hini hcode hy hK hg (hsize.trans hml.symm) (argsL := As) (rest := rest) (fun sig h => hn.trans (hlen sig h)) hstack hW (by rw [hb]; exact hdg)
    (fun vm₁ hW₁ => ⟨hf.1, hf.2, hp.2 (T.setVm vm₁) hT hW₁⟩) with ⟨v, vm₁, ⟨U', l2, c2, s2⟩, hW₁, X', ⟨g', mk, t, L, e1, e2, hq, h1, hL, h2, h3⟩, st⟩ | ⟨q, vm₁, ⟨U', l2, c2, s2⟩, hW₁, X', ⟨g', mk, t, L, E, ce, e1, e2, hq, hce, hcv, hcl, h1, hL, h2, h3⟩, st⟩
  · dsimp only [Pt.U, Pt.locs, Pt.cells, Pt.slots] at X' e1 e2 h1 h2 h3 st
    subst h1; subst h2; subst h3
    exact Or.inl ⟨v, (T.setVm vm₁).calling g' mk As.toArray, t, U', L, hT, X', hL, e1, e2, hq, st⟩
  · dsimp only [Pt.U, Pt.locs, Pt.cells, Pt.slots] at X' e1 e2 h1 h2 h3 st hcl
    subst h1; subst h2; subst h3
    exact Or.inr ⟨q, (T.setVm vm₁).calling g' mk As.toArray, t, U', L, E, ce, hT, X', hL, e1, e2, hq, hce, hcv, vx_cls hW₁ hcl, st⟩
end Runs
section Rows
variable {p : Program} {l : Launch} {e : Env} {R : Room} {s : State} {m : MethodId} {args : Array Value} {below : List Frame} {meth : Method} {c : Code} {H : Heap} {locs : List Loc} {cells slots : Nat} {Q : State → Prop}
variable {mc ms : Nat} {free : Addr → Prop} {A0 A1 : Nat → Prop} {H0 : Heap} {a : Array Value} {pc : Nat} {ls : Array Slot} {st0 rest : List Value}
theorem vx_keep {st₀ t T' : State} {L : List Loc} (h0 : st₀.heap = H) (e1 : T'.heap = t.heap) (hS : va_S A0 H0 H locs) (hA : ∀ q, q < H.size → A1 q → A0 q) (hf : ∀ q, free q → A0 q) (hL : ∀ q ∈ L, free q.base) (hF : va_F A1 st₀ t) :
    H.size ≤ T'.heap.size ∧ (∀ q : Nat, q < H.size → ¬ A1 q → T'.heap[q]? = H[q]?) ∧ va_S A0 H0 T'.heap (locs ++ L) := by
  obtain ⟨hz, hk⟩ := hF
  rw [h0] at hz hk
  exact ⟨by rw [e1]; exact hz, fun q h1 h2 => by rw [e1]; exact hk q h1 h2,
    ⟨Nat.le_trans hS.1 (by rw [e1]; exact hz), fun q h1 h2 => by rw [e1, hk q (Nat.lt_of_lt_of_le h1 hS.1) (fun z => h2 (hA q (Nat.lt_of_lt_of_le h1 hS.1) z))]; exact hS.2.1 q h1 h2, fun q hq => by
      rcases List.mem_append.mp hq with h | h
      · exact hS.2.2 q h
      · exact hf _ (hL q h)⟩⟩
theorem vx_calli {S SX : Type} {post : Int32 → S → Prop} {px : SX → Prop} {B : S → State → Prop} {BX : String → SX → State → Prop} {AX : Nat → Prop} (hr : vx_Run p l e R s m args below meth c H locs cells slots mc ms (F0 m pc ls st0) rest (va_Qi post B A1 a) (vx_X px BX AX) free) (hS : va_S A0 H0 H locs) (hA : ∀ q, q < H.size → A1 q → A0 q) (hf : ∀ q, free q → A0 q) (hAX : ∀ q, q < H.size → AX q → A0 q)
    (kx : ∀ (E : String) (ce : Cell) (q9 : Addr) (u : SX) (t : State) (H1 : Heap) (locs1 : List Loc), t.heap = H1 → s.vm.Alike t.vm → px u → BX E u t → H.size ≤ H1.size → (∀ q : Nat, q < H.size → ¬ AX q → H1[q]? = H[q]?) → va_S A0 H0 H1 locs1 → H1[q9]? = some ce → ce.vm = .none → s.vm.findClass E = some ce.cls → vx_W p l e R s m args below meth c H1 locs1 (cells + mc) (slots + ms) Q (F0 m pc ls rest) q9)
    (kk : ∀ (r : Int32) (u : S) (t : State) (H1 : Heap) (locs1 : List Loc), t.heap = H1 → s.vm.Alike t.vm → post r u → B u t → H.size ≤ H1.size → (∀ q : Nat, q < H.size → ¬ A1 q → H1[q]? = H[q]?) → va_S A0 H0 H1 locs1 → W p l e R s m args below meth c H1 locs1 (cells + mc) (slots + ms) Q (F0 m (pc + 3) ls (.int r :: rest))) : W p l e R s m args below meth c H locs cells slots Q (F0 m pc ls st0) := by
  intro T hT X
  rcases hr T hT X with ⟨v, st₀, t, T', L, h0, X', hL, e1, e2, ⟨⟨r, u, hv, hp, hb⟩, hF⟩, st⟩ | ⟨q, st₀, t, T', L, E, ce, h0, X', hL, e1, e2, ⟨u, hp, hb, hF⟩, hce, hcv, hcl, st⟩
  · cases hv
    obtain ⟨k1, k2, k3⟩ := vx_keep h0 e1 hS hA hf hL hF
    obtain ⟨t2, a1, b1⟩ := kk r u t T'.heap (locs ++ L) e1.symm (by rw [← e2]; exact X'.warmed.alike) hp hb k1 k2 k3 T' rfl X'
    exact ⟨t2, st t2 a1, b1⟩
  · obtain ⟨k1, k2, k3⟩ := vx_keep h0 e1 hS hAX hf hL hF
    obtain ⟨t2, a1, b1⟩ := kx E ce q u t T'.heap (locs ++ L) e1.symm (by rw [← e2]; exact X'.warmed.alike) hp hb k1 k2 k3 (by rw [e1]; exact hce) hcv hcl T' rfl X'
    exact ⟨t2, st.trans a1, b1⟩
theorem vx_calll {S SX : Type} {post : Int64 → S → Prop} {px : SX → Prop} {B : S → State → Prop} {BX : String → SX → State → Prop} {AX : Nat → Prop} (hr : vx_Run p l e R s m args below meth c H locs cells slots mc ms (F0 m pc ls st0) rest (va_Ql post B A1 a) (vx_X px BX AX) free) (hS : va_S A0 H0 H locs) (hA : ∀ q, q < H.size → A1 q → A0 q) (hf : ∀ q, free q → A0 q) (hAX : ∀ q, q < H.size → AX q → A0 q)
    (kx : ∀ (E : String) (ce : Cell) (q9 : Addr) (u : SX) (t : State) (H1 : Heap) (locs1 : List Loc), t.heap = H1 → s.vm.Alike t.vm → px u → BX E u t → H.size ≤ H1.size → (∀ q : Nat, q < H.size → ¬ AX q → H1[q]? = H[q]?) → va_S A0 H0 H1 locs1 → H1[q9]? = some ce → ce.vm = .none → s.vm.findClass E = some ce.cls → vx_W p l e R s m args below meth c H1 locs1 (cells + mc) (slots + ms) Q (F0 m pc ls rest) q9)
    (kk : ∀ (r : Int64) (u : S) (t : State) (H1 : Heap) (locs1 : List Loc), t.heap = H1 → s.vm.Alike t.vm → post r u → B u t → H.size ≤ H1.size → (∀ q : Nat, q < H.size → ¬ A1 q → H1[q]? = H[q]?) → va_S A0 H0 H1 locs1 → W p l e R s m args below meth c H1 locs1 (cells + mc) (slots + ms) Q (F0 m (pc + 3) ls (.long r :: rest))) : W p l e R s m args below meth c H locs cells slots Q (F0 m pc ls st0) := by
  intro T hT X
  rcases hr T hT X with ⟨v, st₀, t, T', L, h0, X', hL, e1, e2, ⟨⟨r, u, hv, hp, hb⟩, hF⟩, st⟩ | ⟨q, st₀, t, T', L, E, ce, h0, X', hL, e1, e2, ⟨u, hp, hb, hF⟩, hce, hcv, hcl, st⟩
  · cases hv
    obtain ⟨k1, k2, k3⟩ := vx_keep h0 e1 hS hA hf hL hF
    obtain ⟨t2, a1, b1⟩ := kk r u t T'.heap (locs ++ L) e1.symm (by rw [← e2]; exact X'.warmed.alike) hp hb k1 k2 k3 T' rfl X'
    exact ⟨t2, st t2 a1, b1⟩
  · obtain ⟨k1, k2, k3⟩ := vx_keep h0 e1 hS hAX hf hL hF
    obtain ⟨t2, a1, b1⟩ := kx E ce q u t T'.heap (locs ++ L) e1.symm (by rw [← e2]; exact X'.warmed.alike) hp hb k1 k2 k3 (by rw [e1]; exact hce) hcv hcl T' rfl X'
    exact ⟨t2, st.trans a1, b1⟩
theorem vx_callf {S SX : Type} {post : UInt32 → S → Prop} {px : SX → Prop} {B : S → State → Prop} {BX : String → SX → State → Prop} {AX : Nat → Prop} (hr : vx_Run p l e R s m args below meth c H locs cells slots mc ms (F0 m pc ls st0) rest (va_Qf post B A1 a) (vx_X px BX AX) free) (hS : va_S A0 H0 H locs) (hA : ∀ q, q < H.size → A1 q → A0 q) (hf : ∀ q, free q → A0 q) (hAX : ∀ q, q < H.size → AX q → A0 q)
    (kx : ∀ (E : String) (ce : Cell) (q9 : Addr) (u : SX) (t : State) (H1 : Heap) (locs1 : List Loc), t.heap = H1 → s.vm.Alike t.vm → px u → BX E u t → H.size ≤ H1.size → (∀ q : Nat, q < H.size → ¬ AX q → H1[q]? = H[q]?) → va_S A0 H0 H1 locs1 → H1[q9]? = some ce → ce.vm = .none → s.vm.findClass E = some ce.cls → vx_W p l e R s m args below meth c H1 locs1 (cells + mc) (slots + ms) Q (F0 m pc ls rest) q9)
    (kk : ∀ (r : UInt32) (u : S) (t : State) (H1 : Heap) (locs1 : List Loc), t.heap = H1 → s.vm.Alike t.vm → post r u → B u t → H.size ≤ H1.size → (∀ q : Nat, q < H.size → ¬ A1 q → H1[q]? = H[q]?) → va_S A0 H0 H1 locs1 → W p l e R s m args below meth c H1 locs1 (cells + mc) (slots + ms) Q (F0 m (pc + 3) ls (.float r :: rest))) : W p l e R s m args below meth c H locs cells slots Q (F0 m pc ls st0) := by
  intro T hT X
  rcases hr T hT X with ⟨v, st₀, t, T', L, h0, X', hL, e1, e2, ⟨⟨r, u, hv, hp, hb⟩, hF⟩, st⟩ | ⟨q, st₀, t, T', L, E, ce, h0, X', hL, e1, e2, ⟨u, hp, hb, hF⟩, hce, hcv, hcl, st⟩
  · cases hv
    obtain ⟨k1, k2, k3⟩ := vx_keep h0 e1 hS hA hf hL hF
    obtain ⟨t2, a1, b1⟩ := kk r u t T'.heap (locs ++ L) e1.symm (by rw [← e2]; exact X'.warmed.alike) hp hb k1 k2 k3 T' rfl X'
    exact ⟨t2, st t2 a1, b1⟩
  · obtain ⟨k1, k2, k3⟩ := vx_keep h0 e1 hS hAX hf hL hF
    obtain ⟨t2, a1, b1⟩ := kx E ce q u t T'.heap (locs ++ L) e1.symm (by rw [← e2]; exact X'.warmed.alike) hp hb k1 k2 k3 (by rw [e1]; exact hce) hcv hcl T' rfl X'
    exact ⟨t2, st.trans a1, b1⟩
theorem vx_calld {S SX : Type} {post : UInt64 → S → Prop} {px : SX → Prop} {B : S → State → Prop} {BX : String → SX → State → Prop} {AX : Nat → Prop} (hr : vx_Run p l e R s m args below meth c H locs cells slots mc ms (F0 m pc ls st0) rest (va_Qd post B A1 a) (vx_X px BX AX) free) (hS : va_S A0 H0 H locs) (hA : ∀ q, q < H.size → A1 q → A0 q) (hf : ∀ q, free q → A0 q) (hAX : ∀ q, q < H.size → AX q → A0 q)
    (kx : ∀ (E : String) (ce : Cell) (q9 : Addr) (u : SX) (t : State) (H1 : Heap) (locs1 : List Loc), t.heap = H1 → s.vm.Alike t.vm → px u → BX E u t → H.size ≤ H1.size → (∀ q : Nat, q < H.size → ¬ AX q → H1[q]? = H[q]?) → va_S A0 H0 H1 locs1 → H1[q9]? = some ce → ce.vm = .none → s.vm.findClass E = some ce.cls → vx_W p l e R s m args below meth c H1 locs1 (cells + mc) (slots + ms) Q (F0 m pc ls rest) q9)
    (kk : ∀ (r : UInt64) (u : S) (t : State) (H1 : Heap) (locs1 : List Loc), t.heap = H1 → s.vm.Alike t.vm → post r u → B u t → H.size ≤ H1.size → (∀ q : Nat, q < H.size → ¬ A1 q → H1[q]? = H[q]?) → va_S A0 H0 H1 locs1 → W p l e R s m args below meth c H1 locs1 (cells + mc) (slots + ms) Q (F0 m (pc + 3) ls (.double r :: rest))) : W p l e R s m args below meth c H locs cells slots Q (F0 m pc ls st0) := by
  intro T hT X
  rcases hr T hT X with ⟨v, st₀, t, T', L, h0, X', hL, e1, e2, ⟨⟨r, u, hv, hp, hb⟩, hF⟩, st⟩ | ⟨q, st₀, t, T', L, E, ce, h0, X', hL, e1, e2, ⟨u, hp, hb, hF⟩, hce, hcv, hcl, st⟩
  · cases hv
    obtain ⟨k1, k2, k3⟩ := vx_keep h0 e1 hS hA hf hL hF
    obtain ⟨t2, a1, b1⟩ := kk r u t T'.heap (locs ++ L) e1.symm (by rw [← e2]; exact X'.warmed.alike) hp hb k1 k2 k3 T' rfl X'
    exact ⟨t2, st t2 a1, b1⟩
  · obtain ⟨k1, k2, k3⟩ := vx_keep h0 e1 hS hAX hf hL hF
    obtain ⟨t2, a1, b1⟩ := kx E ce q u t T'.heap (locs ++ L) e1.symm (by rw [← e2]; exact X'.warmed.alike) hp hb k1 k2 k3 (by rw [e1]; exact hce) hcv hcl T' rfl X'
    exact ⟨t2, st.trans a1, b1⟩
theorem vx_callv {S SX : Type} {post : S → Prop} {px : SX → Prop} {B : S → State → Prop} {BX : String → SX → State → Prop} {AX : Nat → Prop} (hr : vx_Run p l e R s m args below meth c H locs cells slots mc ms (F0 m pc ls st0) rest (va_Qv post B A1 a) (vx_X px BX AX) free) (hS : va_S A0 H0 H locs) (hA : ∀ q, q < H.size → A1 q → A0 q) (hf : ∀ q, free q → A0 q) (hAX : ∀ q, q < H.size → AX q → A0 q)
    (kx : ∀ (E : String) (ce : Cell) (q9 : Addr) (u : SX) (t : State) (H1 : Heap) (locs1 : List Loc), t.heap = H1 → s.vm.Alike t.vm → px u → BX E u t → H.size ≤ H1.size → (∀ q : Nat, q < H.size → ¬ AX q → H1[q]? = H[q]?) → va_S A0 H0 H1 locs1 → H1[q9]? = some ce → ce.vm = .none → s.vm.findClass E = some ce.cls → vx_W p l e R s m args below meth c H1 locs1 (cells + mc) (slots + ms) Q (F0 m pc ls rest) q9)
    (kk : ∀ (u : S) (t : State) (H1 : Heap) (locs1 : List Loc), t.heap = H1 → s.vm.Alike t.vm → post u → B u t → H.size ≤ H1.size → (∀ q : Nat, q < H.size → ¬ A1 q → H1[q]? = H[q]?) → va_S A0 H0 H1 locs1 → W p l e R s m args below meth c H1 locs1 (cells + mc) (slots + ms) Q (F0 m (pc + 3) ls (rest))) : W p l e R s m args below meth c H locs cells slots Q (F0 m pc ls st0) := by
  intro T hT X
  rcases hr T hT X with ⟨v, st₀, t, T', L, h0, X', hL, e1, e2, ⟨⟨u, hv, hp, hb⟩, hF⟩, st⟩ | ⟨q, st₀, t, T', L, E, ce, h0, X', hL, e1, e2, ⟨u, hp, hb, hF⟩, hce, hcv, hcl, st⟩
  · cases hv
    obtain ⟨k1, k2, k3⟩ := vx_keep h0 e1 hS hA hf hL hF
    obtain ⟨t2, a1, b1⟩ := kk u t T'.heap (locs ++ L) e1.symm (by rw [← e2]; exact X'.warmed.alike) hp hb k1 k2 k3 T' rfl X'
    exact ⟨t2, st t2 a1, b1⟩
  · obtain ⟨k1, k2, k3⟩ := vx_keep h0 e1 hS hAX hf hL hF
    obtain ⟨t2, a1, b1⟩ := kx E ce q u t T'.heap (locs ++ L) e1.symm (by rw [← e2]; exact X'.warmed.alike) hp hb k1 k2 k3 (by rw [e1]; exact hce) hcv hcl T' rfl X'
    exact ⟨t2, st.trans a1, b1⟩
end Rows
section Ends
variable {p : Program} {l : Launch} {e : Env} {R : Room} {s : State} {m : MethodId} {args : Array Value} {below : List Frame} {meth : Method} {c : Code} {H : Heap} {locs : List Loc} {cells slots : Nat} {Q : State → Prop}
variable {mc ms : Nat} {free : Addr → Prop} {A0 A1 : Nat → Prop} {H0 : Heap} {a : Array Value} {ls : Array Slot} {st0 rest : List Value}
variable {Qc : Array Value → State → Outcome → State → Prop} {XC : String → State → State → Prop}
/-- what a body that may throw owes at its end -/
def vx_MQ (below : List Frame) (Qc : Array Value → State → Outcome → State → Prop) (XC : String → State → State → Prop) (a : Array Value) (s : State) (mc ms : Nat) (free : Addr → Prop) : State → Prop := fun t =>
  ∃ o, t.status = .running ∧ Ended t below o ∧ vx_Q Qc XC mc ms free a s o t
theorem vx_ret {g : JFrame} {mc ms : Nat} (k : W p l e R s m args below meth c H locs cells slots (MQ below Qc args s mc ms free) g) : W p l e R s m args below meth c H locs cells slots (vx_MQ below Qc XC args s mc ms free) g := by
  intro T hT X
  obtain ⟨t, a1, o, b1, b2, b3, b4⟩ := k T hT X
  exact ⟨t, a1, o, b1, b2, Or.inl ⟨b3, b4⟩⟩
/-- not caught here: it goes on to the caller -/
theorem vx_widen {g : JFrame} {q : Addr} {k n : Nat} (h1 : cells ≤ k) (h2 : slots ≤ n) (kk : vx_W p l e R s m args below meth c H locs k n Q g q) : vx_W p l e R s m args below meth c H locs cells slots Q g q := fun T hT X => kk T hT (stand_widen X h1 h2)
theorem vx_out {pc : Nat} {E : String} {ce : Cell} {q : Addr} {mc ms : Nat} (hout : ∀ x ∈ c.exceptionTable.toList, covers x pc = false) (hlocks : meth.locks = false) (hcell : H[q]? = some ce) (hv : ce.vm = .none) (hcl : s.vm.findClass E = some ce.cls)
    (hx : ∀ t : State, t.heap = H → s.vm.Alike t.vm → XC E s t) (hf : ∀ z ∈ locs, free z.base) (hc : cells ≤ mc) (hs : slots ≤ ms) :
    vx_W p l e R s m args below meth c H locs cells slots (vx_MQ below Qc XC args s mc ms free) (F0 m pc ls rest) q := by
  intro T hT X
  obtain ⟨st1, hrun, hend, hW, hsm⟩ := X.leaveThrown q (g := F0 m pc ls rest) rfl rfl rfl hout hlocks
  have hcell9 : (T.setFrames (.throwing q :: below)).heap[q]? = some ce := by
    show T.heap[q]? = some ce
    rw [hT]; exact hcell
  exact ⟨_, st1, .threw q, hrun, hend, Or.inr ⟨q, rfl, E, ce, locs, hx _ hT hW.alike, hcell9, hv, hcl, hW, hsm.mono hc hs, hf⟩⟩
theorem vx_frame {U : State} {k n : Nat} (h : s.sameButNew ({ U with vm := s.vm } : State) locs k n) : s.heap.size ≤ U.heap.size ∧ ∀ q : Nat, q < s.heap.size → (∀ z ∈ locs, z.base ≠ q) → U.heap[q]? = s.heap[q]? := by
  obtain ⟨-, h2, -, -, -, h6⟩ := h
  refine ⟨h2, fun q hq hz => ?_⟩
  obtain ⟨c9, e1, e2, e3, e4⟩ := h6 q _ (Array.getElem?_eq_getElem hq)
  have hs : c9.slots = (s.heap[q]).slots := Array.ext_getElem? fun i => e4 i fun hm => hz _ hm rfl
  have h9 : c9 = s.heap[q] := by
    rw [hs] at e2
    exact e2
  have e5 : U.heap[q]? = some c9 := e1
  rw [e5, h9, Array.getElem?_eq_getElem hq]
/-- the words of a throw but the four that speak of the heap -/
def vx_no (w : Cond) : Bool := decide (w ≠ .isRef (.static Bundle.tN "UNASSIGNED_STACK" Bundle.steD)) && decide (w ≠ .isRef (.static Bundle.tN "SUPPRESSED_SENTINEL" Bundle.listD)) && decide (w ≠ .laysStatic Bundle.tN "UNASSIGNED_STACK" Bundle.steD) && decide (w ≠ .laysStatic Bundle.tN "SUPPRESSED_SENTINEL" Bundle.listD)
def vx_at0 (own : String) (ic : Nat) (X : String) (names : List String) : List Cond := (Bundle.ownAtoms0 own ic X names).filter vx_no
def vx_atS (own : String) (ic : Nat) (X : String) (names : List String) : List Cond := (Bundle.ownAtoms own ic X names).filter vx_no
/-- a word that the tables alone decide, or a good one -/
def vx_ot (w : Cond) : Bool := w.onTables || goodWord w
theorem vx_ot_at {args a' : Array Value} {s U : State} {w : Cond} (hW : s.WarmedH U.vm) (hvm : s.vm = U.vm) (hg : vx_ot w = true) (h : w.before args s = true) : w.before a' U = true := by
  simp only [vx_ot, Bool.or_eq_true] at hg
  rcases hg with hg | hg
  · exact va_tabs hg hvm h
  · exact word_at hW (good_of_word hg) h
/-- a list's words: the good ones out of the method's own list, the others by premises of their own -/
theorem vx_hat {args : Array Value} {s : State} {L B : List Cond} (h1 : ∀ w ∈ L.filter goodWord, w.before args s = true) (h2 : ∀ w ∈ L.filter (fun w => !goodWord w), w ∈ B) (h3 : ∀ w ∈ B, w.before args s = true) : ∀ w ∈ L, w.before args s = true := by
  intro w hw
  by_cases g : goodWord w = true
  · exact h1 w (List.mem_filter.mpr ⟨hw, g⟩)
  · refine h3 w (h2 w (List.mem_filter.mpr ⟨hw, ?_⟩))
    show (!goodWord w) = true
    cases hgw : goodWord w
    · rfl
    · exact absurd hgw g
theorem vx_c {args : Array Value} {s : State} {w : Cond} {B : List Cond} (h : w.before args s = true) (t : ∀ w ∈ B, w.before args s = true) : ∀ w' ∈ w :: B, w'.before args s = true := fun w' h' => (List.mem_cons.mp h').elim (fun e => by rw [e]; exact h) (t w')
theorem vx_n {args : Array Value} {s : State} : ∀ w ∈ ([] : List Cond), w.before args s = true := fun _ h => nomatch h
theorem vx_own {args : Array Value} {s : State} {L : List Cond} (h1 : ∀ w ∈ L.filter vx_no, w.before args s = true)
    (hU : (Cond.isRef (.static Bundle.tN "UNASSIGNED_STACK" Bundle.steD)).before args s = true) (hN : (Cond.isRef (.static Bundle.tN "SUPPRESSED_SENTINEL" Bundle.listD)).before args s = true)
    (lU : (Cond.laysStatic Bundle.tN "UNASSIGNED_STACK" Bundle.steD).before args s = true) (lN : (Cond.laysStatic Bundle.tN "SUPPRESSED_SENTINEL" Bundle.listD).before args s = true) : ∀ w ∈ L, w.before args s = true := by
  intro w hw
  by_cases e1 : w = .isRef (.static Bundle.tN "UNASSIGNED_STACK" Bundle.steD)
  · rw [e1]; exact hU
  · by_cases e2 : w = .isRef (.static Bundle.tN "SUPPRESSED_SENTINEL" Bundle.listD)
    · rw [e2]; exact hN
    · by_cases e3 : w = .laysStatic Bundle.tN "UNASSIGNED_STACK" Bundle.steD
      · rw [e3]; exact lU
      · by_cases e4 : w = .laysStatic Bundle.tN "SUPPRESSED_SENTINEL" Bundle.listD
        · rw [e4]; exact lN
        · exact h1 w (List.mem_filter.mpr ⟨hw, by unfold vx_no; rw [decide_eq_true e1, decide_eq_true e2, decide_eq_true e3, decide_eq_true e4]; rfl⟩)
/-- where a static field lies, its class's statics cell in H -/
def vx_L (C n d : String) (A : Nat → Prop) (U : State) (H : Heap) : Prop := ∃ (c : ClassId) (k : Class) (i : Nat) (f : Field) (a : Nat) (cell : Cell), U.vm.findClass C = some c ∧ U.fieldFound? C n d = some (c, k, i, f) ∧ f.isStatic = true ∧ k.statics = some a ∧ H[a]? = some cell ∧ cell.vm.isStatics = true ∧ cell.cls = c ∧ f.slot < cell.slots.size ∧ k.staticTypes[f.slot]? = some f.type ∧ ¬ A a
theorem vx_L.moved {C n d : String} {A : Nat → Prop} {u U : State} {H : Heap} (hvm : u.vm.Alike U.vm) (h : vx_L C n d A u H) : vx_L C n d A U H := by
  obtain ⟨c, k, i, f, a, cell, h1, h2, h3, h4, h5, h6, h7, h8, h9, h10⟩ := h
  obtain ⟨k', hi', he⟩ := State.fieldFound?_setVm hvm h2
  exact ⟨c, k', i, f, a, cell, by rw [hvm.findClass]; exact h1, hi', h3, by rw [he]; exact h4, h5, h6, h7, h8, by rw [he]; exact h9, h10⟩
theorem vx_L.kept {C n d : String} {A : Nat → Prop} {U : State} {H H1 : Heap} (h : vx_L C n d A U H) (hq : ∀ a : Nat, a < H.size → ¬ A a → H1[a]? = H[a]?) : vx_L C n d A U H1 := by
  obtain ⟨c, k, i, f, a, cell, h1, h2, h3, h4, h5, h6, h7, h8, h9, h10⟩ := h
  exact ⟨c, k, i, f, a, cell, h1, h2, h3, h4, by rw [hq a (Array.getElem?_eq_some_iff.mp h5).1 h10]; exact h5, h6, h7, h8, h9, h10⟩
theorem vx_L.narrow {C n d : String} {A B : Nat → Prop} {U : State} {H : Heap} (h : vx_L C n d A U H) (hAB : ∀ q, B q → A q) : vx_L C n d B U H := by
  obtain ⟨c, k, i, f, a, cell, h1, h2, h3, h4, h5, h6, h7, h8, h9, h10⟩ := h
  exact ⟨c, k, i, f, a, cell, h1, h2, h3, h4, h5, h6, h7, h8, h9, fun z => h10 (hAB _ z)⟩
theorem vx_L.word {C n d : String} {A : Nat → Prop} {s : State} {args : Array Value} (h : vx_L C n d A s s.heap) : (Cond.laysStatic C n d).before args s = true := by
  obtain ⟨c, k, i, f, a, cell, h1, h2, h3, h4, h5, h6, h7, h8, h9, -⟩ := h
  show (Cond.laysStatic C n d).holds args s none s [] = true
  exact Cond.laysStatic_of h1 h2 h3 h4 h5 h6 h7 h8 h9
/-- .. and what it holds: null or some reference -/
def vx_Zq (C n d : String) (A : Nat → Prop) (U : State) (H : Heap) : Prop := va_Zq C n d A U H ∧ vx_L C n d A U H
theorem vx_Zq.moved {C n d : String} {A : Nat → Prop} {u U : State} {H : Heap} (hvm : u.vm.Alike U.vm) (h : vx_Zq C n d A u H) : vx_Zq C n d A U H := ⟨va_Zq.moved hvm h.1, vx_L.moved hvm h.2⟩
theorem vx_Zq.kept {C n d : String} {A : Nat → Prop} {U : State} {H H1 : Heap} (h : vx_Zq C n d A U H) (hq : ∀ a : Nat, a < H.size → ¬ A a → H1[a]? = H[a]?) : vx_Zq C n d A U H1 := ⟨va_Zq.kept h.1 hq, vx_L.kept h.2 hq⟩
theorem vx_Zq.narrow {C n d : String} {A B : Nat → Prop} {U : State} {H : Heap} (h : vx_Zq C n d A U H) (hAB : ∀ q, B q → A q) : vx_Zq C n d B U H := ⟨va_Zq.narrow h.1 hAB, vx_L.narrow h.2 hAB⟩
theorem vx_Zqof {args : Array Value} {s : State} {C n d : String} {A : Nat → Prop} (hl : (Cond.laysStatic C n d).before args s = true) (hini : (Cond.initialized C).before args s = true) (h : (Cond.isRef (.static C n d)).before args s = true) (hA : ∀ a : Nat, a < s.heap.size → ¬ A a) : vx_Zq C n d A s s.heap := by
  refine ⟨va_Zqof hl hini h hA, ?_⟩
  obtain ⟨c, k, i, f, a, cell, h1, h2, h3, h4, h5, h6, h7, h8, h9⟩ := Cond.laysStatic_spec hl
  exact ⟨c, k, i, f, a, cell, h1, h2, h3, h4, h5, h6, h7, h8, h9, hA a (Array.getElem?_eq_some_iff.mp h5).1⟩
theorem vx_isRef {C n d : String} {v : Value} {A : Nat → Prop} {s : State} {args : Array Value} (h : va_Z C n d v A s s.heap) (hv : v.isRef = true) : (Cond.isRef (.static C n d)).before args s = true := by
  obtain ⟨cf, kf, fi, f, a, cell, h1, h2, h3, h4, h5, h6, h7, -⟩ := h
  have he : (Term.static C n d).eval args s none [] s = some v := by
    simp [Term.eval, State.fieldNamed?, h1, h2, h4, h5, h6, h7]
  simp only [Cond.before, Cond.holds, Cond.value, he]
  cases v <;> simp_all [Value.isRef]
theorem vx_isRefq {C n d : String} {A : Nat → Prop} {s : State} {args : Array Value} (h : va_Zq C n d A s s.heap) : (Cond.isRef (.static C n d)).before args s = true := by
  rcases h with h | ⟨t, h⟩
  · exact vx_isRef h rfl
  · exact vx_isRef h rfl
/-- the same frame, seen from here: as if the method were called anew in this heap -/
theorem vx_rebase {T : State} (X : Stand p l e R s m args below meth c T locs cells slots) {R' : Room} (hf : R'.frames ≤ R.frames) (hl : R'.locals ≤ R.locals) (hc : cells + R'.cells ≤ R.cells) (hs : slots + R'.slots ≤ R.slots) :
    Stand p l e R' ((T.setVm s.vm).setFrames (.invoking m args :: below)) m args below meth c T [] 0 0 := by
  have htop : (T.setVm s.vm).topJava?.isSome := X.here.top
  have hF : ((T.setVm s.vm).setFrames (.invoking m args :: below)).frames = .invoking m args :: below := State.frames_setFrames _ (State.cur_lt_of_top htop)
  obtain ⟨g₀, hg0⟩ := Option.isSome_iff_exists.mp htop
  obtain ⟨r, hr⟩ := State.topJava?_eq_some.mp hg0
  have hl9 : e.platform.stackLimits (T.setVm s.vm).me = e.platform.stackLimits s.me := X.limits
  have hb9 : (T.setVm s.vm).me.stackBytes = s.me.stackBytes := X.bytes
  refine ⟨X.admits, X.cas, X.clock, hF, ?_, X.hears, X.method, X.code, X.here, X.tail, X.warmed, ?_, ?_, ?_⟩
  · have h := X.room
    have hU : ((T.setVm s.vm).setFrames (.invoking m args :: below)).localsInUse = s.localsInUse := by
      rw [State.localsInUse_invoking hF (meth := meth) (c := c) X.method X.code, State.localsInUse_invoking X.frames X.method X.code]
    simp only [State.hasRoom, Bool.and_eq_true, decide_eq_true_eq] at h ⊢
    obtain ⟨⟨⟨⟨h1, h2, h3, h4, h5, h6⟩, h7⟩, h8⟩, h9⟩ := h
    rw [X.frames, List.length_cons] at h2 h3
    have q1 := X.heapSize
    have q2 := X.used
    simp only [hF, hU, List.length_cons, State.stackLimits_setFrames, State.stackBytes_setFrames, hl9, hb9]
    refine ⟨⟨⟨⟨by omega, by omega, by omega, by omega, by omega, h6⟩, ?_⟩, ?_⟩, X.book⟩
    · show T.heap.size + R'.cells ≤ e.platform.maxCells
      omega
    · show T.slotsUsed + R'.slots ≤ e.platform.maxSlots
      omega
  · rw [State.stackLimits_setFrames]; rfl
  · rw [State.stackBytes_setFrames]; rfl
  · refine ⟨?_, Nat.le_refl _, Nat.le_refl _, ?_, ?_, fun a c9 h9 => ⟨c9, h9, rfl, rfl, fun _ _ => rfl⟩⟩
    · obtain ⟨t, ht, -⟩ := State.frames_cons hr
      show T.setVm s.vm = { ((T.setVm s.vm).setFrames (.invoking m args :: below)).setFrames (T.setVm s.vm).frames with heap := T.heap, slotsUsed := T.slotsUsed }
      rw [State.setFrames_setFrames, State.setFrames_self ht]
      rfl
    · show T.slotsUsed = T.slotsUsed + ((T.heap.toList.drop T.heap.size).map (·.slots.size)).sum
      rw [List.drop_eq_nil_of_le (Nat.le_of_eq Array.length_toList)]
      rfl
    · show ((T.heap.toList.drop T.heap.size).map (·.slots.size)).sum ≤ 0
      rw [List.drop_eq_nil_of_le (Nat.le_of_eq Array.length_toList)]
      exact Nat.le_refl _
/-- 'throw new E()': new; dup; invokespecial; athrow -/
theorem vx_throw0 {cc : ByteArray} {pc : Nat} (hexec : p.tables.exec = Jvm.exec) (hb : c.code = cc) (hl : l.stackTraces = false) {own cls : String} {names : List String} {ik ic mc ms : Nat} {A : Nat → Prop}
    (hown : s.vm.findClass own = some m.cls) (hcls : Bundle.fit cls = true) (hnames : ∀ n ∈ names, Bundle.fit n = true)
    (hk : (Cond.classLink own ik cls).before args s = true) (hini : (Cond.initialized cls).before args s = true) (hat : ∀ w ∈ vx_at0 own ic cls names, w.before args s = true)
    (hgood : ∀ w ∈ Cond.classLink own ik cls :: Cond.initialized cls :: vx_at0 own ic cls names, vx_ot w = true)
    (hU : vx_Zq Bundle.tN "UNASSIGNED_STACK" Bundle.steD A s s.heap) (hN : vx_Zq Bundle.tN "SUPPRESSED_SENTINEL" Bundle.listD A s s.heap) (hS : va_S A s.heap H locs) (hsize : ls.size = c.maxLocals)
    (d0 : decode cc pc = .ok (.new ik, 3)) (d3 : decode cc (pc + 3) = .ok (.dup, 1)) (d4 : decode cc (pc + 4) = .ok (.invokespecial ic, 3)) (d7 : decode cc (pc + 7) = .ok (.athrow, 1))
    (hout : ∀ x ∈ c.exceptionTable.toList, covers x (pc + 7) = false)
    (hRframes : names.length + 3 < R.frames) (hRlocals : (rest.map fun v => v.category).sum + (13 * (names.length + 1) + 42) ≤ R.locals) (hRcells : cells + 1 ≤ R.cells) (hRslots : slots + 6 ≤ R.slots) (hlocks : meth.locks = false)
    (hx : ∀ t : State, s.vm.Alike t.vm → H.size ≤ t.heap.size → (∀ q : Nat, q < H.size → t.heap[q]? = H[q]?) → XC cls s t)
    (hf : ∀ z ∈ locs, free z.base) (hc : cells + 1 ≤ mc) (hs : slots + 6 ≤ ms) :
    W p l e R s m args below meth c H locs cells slots (vx_MQ below Qc XC args s mc ms free) (F0 m pc ls rest) := by
  intro T hT X
  have htr : e.platform.stackTraces = false := (show e.platform.stackTraces = l.stackTraces by rw [X.admits.platform]).trans hl
  have Y := vx_rebase X (R' := { frames := R.frames, locals := R.locals, cells := 1, slots := 6 }) (Nat.le_refl _) (Nat.le_refl _) hRcells hRslots
  obtain ⟨s', hA⟩ : ∃ z, z = (T.setVm s.vm).setFrames (.invoking m args :: below) := ⟨_, rfl⟩
  rw [← hA] at Y
  have hvm : s'.vm = s.vm := by rw [hA]; rfl
  have hhp : s'.heap = H := by rw [hA]; exact hT
  have hW0 : s.WarmedH s'.vm := by rw [hvm]; exact State.WarmedH.refl s
  have hat' : ∀ w ∈ vx_at0 own ic cls names, w.before args s' = true := fun w hw => vx_ot_at hW0 hvm.symm (hgood w (List.mem_cons_of_mem _ (List.mem_cons_of_mem _ hw))) (hat w hw)
  have hk' : (Cond.classLink own ik cls).before args s' = true := vx_ot_at hW0 hvm.symm (hgood _ List.mem_cons_self) hk
  have hini' : (Cond.initialized cls).before args s' = true := vx_ot_at hW0 hvm.symm (hgood _ (List.mem_cons_of_mem _ List.mem_cons_self)) hini
  have hU' : vx_Zq Bundle.tN "UNASSIGNED_STACK" Bundle.steD A s' s'.heap := by rw [hhp]; exact vx_Zq.moved hW0.alike (hU.kept hS.2.1)
  have hN' : vx_Zq Bundle.tN "SUPPRESSED_SENTINEL" Bundle.listD A s' s'.heap := by rw [hhp]; exact vx_Zq.moved hW0.alike (hN.kept hS.2.1)
  have h : ∀ w ∈ Bundle.ownAtoms0 own ic cls names, w.before args s' = true := vx_own hat' (vx_isRefq hU'.1) (vx_isRefq hN'.1) hU'.2.word hN'.2.word
  have hown' : s'.vm.findClass own = some m.cls := by rw [hvm]; exact hown
  have hins : (Cond.instantiable cls 6).before args s' = true := h _ (by simp [Bundle.ownAtoms0])
  obtain ⟨vm₁, cX, kX, hfX, hkX, -, -, X₁, st1⟩ := Y.newCold hexec (own := own) (C := cls) (index := ik) (n := 6) hown' hk' hins hini'
    (g := F0 m pc ls rest) rfl (by rw [hb]; exact d0) (Nat.le_refl _) (Nat.le_refl _)
  generalize hT1 : (T.setVm vm₁).pushCell { cls := cX, slots := kX.instanceTypes.map defaultValue, vm := .none } = T1 at X₁ st1
  have hcat : (Value.ref T.heap.size).category = 1 := rfl
  have hcellA : T1.heap[T.heap.size]? = some (freshCell cX kX) := by rw [← hT1]; exact State.heap_pushCell_size _ _
  have d3' : decode c.code (pc + 3) = .ok (.dup, 1) := by rw [hb]; exact d3
  obtain ⟨U, hsteps, hrun, hend, hW, hsame, ce, hce, hO⟩ := X₁.ctorThrow0 hexec htr (own := own) (cls := cls) (names := names) (ic := ic) hown' hcls hnames h (fun x hx => nomatch hx) hfX hkX hcellA (by rw [hhp, hT]; exact Nat.le_refl _)
    (g := { method := m, pc := pc + 4, locals := ls, stack := .ref T.heap.size :: .ref T.heap.size :: rest, locked := none }) rfl hsize rfl rfl (rest := rest) rfl
    (by rw [hb]; exact d4) (by rw [hb]; exact d7) hout hRframes (by simp only [List.map_cons, List.sum_cons, hcat]; omega) hlocks
  obtain ⟨f1, f2⟩ := vx_frame hsame
  rw [hhp] at f1 f2
  have hWs : s.WarmedH U.vm := State.WarmedH.trans hW0 hW
  have hcl : s.vm.findClass cls = some ce.cls := by
    have h9 := hO.cls
    rw [hvm] at h9
    exact h9
  have hall : s.sameButNew ({ U with vm := s.vm } : State) locs mc ms := by
    subst hA
    obtain ⟨e1, e2⟩ := hsame
    rw [State.setFrames_setFrames] at e1
    have h2 : (T.setVm s.vm).sameButNew ({ U with vm := s.vm } : State) [] (0 + 1) (0 + 6) := ⟨e1, e2⟩
    have h3 := X.same.trans h2
    rw [List.append_nil] at h3
    exact h3.mono hc hs
  refine ⟨U, ?_, .threw T.heap.size, hrun, hend, Or.inr ⟨T.heap.size, rfl, cls, ce, locs, hx U hWs.alike f1 (fun q hq => f2 q hq (fun z hz => nomatch hz)), hce, hO.vm, hcl, hWs, hall, hf⟩⟩
  refine st1 _ ?_
  show Steps p.tables e below (T1.setTop { method := m, pc := pc + 3, locals := ls, stack := .ref T.heap.size :: rest, locked := none }) _
  jvm_step X₁.here [X₁.here.top, hexec, d3', Value.category]
  exact hsteps
/-- 'throw new E("text")': new; dup; ldc; invokespecial; athrow -/
theorem vx_throwS {cc : ByteArray} {pc : Nat} (hexec : p.tables.exec = Jvm.exec) (hb : c.code = cc) (hl : l.stackTraces = false) {own cls text : String} {names : List String} {ik is ic mc ms sa : Nat} {A : Nat → Prop}
    (hown : s.vm.findClass own = some m.cls) (hcls : Bundle.fit cls = true) (hnames : ∀ n ∈ names, Bundle.fit n = true)
    (hk : (Cond.classLink own ik cls).before args s = true) (hini : (Cond.initialized cls).before args s = true) (hstr : vk_R own is text sa s) (hat : ∀ w ∈ vx_atS own ic cls names, w.before args s = true)
    (hgood : ∀ w ∈ Cond.classLink own ik cls :: Cond.initialized cls :: vx_atS own ic cls names, vx_ot w = true)
    (hU : vx_Zq Bundle.tN "UNASSIGNED_STACK" Bundle.steD A s s.heap) (hN : vx_Zq Bundle.tN "SUPPRESSED_SENTINEL" Bundle.listD A s s.heap) (hS : va_S A s.heap H locs) (hsize : ls.size = c.maxLocals)
    (d0 : decode cc pc = .ok (.new ik, 3)) (d3 : decode cc (pc + 3) = .ok (.dup, 1)) (d4 : decode cc (pc + 4) = .ok (.ldc is, 2)) (d6 : decode cc (pc + 6) = .ok (.invokespecial ic, 3)) (d9 : decode cc (pc + 9) = .ok (.athrow, 1))
    (hout : ∀ x ∈ c.exceptionTable.toList, covers x (pc + 9) = false)
    (hRframes : names.length + 3 < R.frames) (hRlocals : (rest.map fun v => v.category).sum + (13 * (names.length + 1) + 43) ≤ R.locals) (hRcells : cells + 1 ≤ R.cells) (hRslots : slots + 6 ≤ R.slots) (hlocks : meth.locks = false)
    (hx : ∀ t : State, s.vm.Alike t.vm → H.size ≤ t.heap.size → (∀ q : Nat, q < H.size → t.heap[q]? = H[q]?) → XC cls s t)
    (hf : ∀ z ∈ locs, free z.base) (hc : cells + 1 ≤ mc) (hs : slots + 6 ≤ ms) :
    W p l e R s m args below meth c H locs cells slots (vx_MQ below Qc XC args s mc ms free) (F0 m pc ls rest) := by
  intro T hT X
  have htr : e.platform.stackTraces = false := (show e.platform.stackTraces = l.stackTraces by rw [X.admits.platform]).trans hl
  have Y := vx_rebase X (R' := { frames := R.frames, locals := R.locals, cells := 1, slots := 6 }) (Nat.le_refl _) (Nat.le_refl _) hRcells hRslots
  obtain ⟨s', hA⟩ : ∃ z, z = (T.setVm s.vm).setFrames (.invoking m args :: below) := ⟨_, rfl⟩
  rw [← hA] at Y
  have hvm : s'.vm = s.vm := by rw [hA]; rfl
  have hhp : s'.heap = H := by rw [hA]; exact hT
  have hW0 : s.WarmedH s'.vm := by rw [hvm]; exact State.WarmedH.refl s
  have hat' : ∀ w ∈ vx_atS own ic cls names, w.before args s' = true := fun w hw => vx_ot_at hW0 hvm.symm (hgood w (List.mem_cons_of_mem _ (List.mem_cons_of_mem _ hw))) (hat w hw)
  have hk' : (Cond.classLink own ik cls).before args s' = true := vx_ot_at hW0 hvm.symm (hgood _ List.mem_cons_self) hk
  have hini' : (Cond.initialized cls).before args s' = true := vx_ot_at hW0 hvm.symm (hgood _ (List.mem_cons_of_mem _ List.mem_cons_self)) hini
  have hU' : vx_Zq Bundle.tN "UNASSIGNED_STACK" Bundle.steD A s' s'.heap := by rw [hhp]; exact vx_Zq.moved hW0.alike (hU.kept hS.2.1)
  have hN' : vx_Zq Bundle.tN "SUPPRESSED_SENTINEL" Bundle.listD A s' s'.heap := by rw [hhp]; exact vx_Zq.moved hW0.alike (hN.kept hS.2.1)
  have h : ∀ w ∈ Bundle.ownAtoms own ic cls names, w.before args s' = true := vx_own hat' (vx_isRefq hU'.1) (vx_isRefq hN'.1) hU'.2.word hN'.2.word
  have hown' : s'.vm.findClass own = some m.cls := by rw [hvm]; exact hown
  have hins : (Cond.instantiable cls 6).before args s' = true := h _ (by simp [Bundle.ownAtoms])
  obtain ⟨vm₁, cX, kX, hfX, hkX, -, -, X₁, st1⟩ := Y.newCold hexec (own := own) (C := cls) (index := ik) (n := 6) hown' hk' hins hini'
    (g := F0 m pc ls rest) rfl (by rw [hb]; exact d0) (Nat.le_refl _) (Nat.le_refl _)
  generalize hT1 : (T.setVm vm₁).pushCell { cls := cX, slots := kX.instanceTypes.map defaultValue, vm := .none } = T1 at X₁ st1
  have hcat : (Value.ref T.heap.size).category = 1 := rfl
  have hcellA : T1.heap[T.heap.size]? = some (freshCell cX kX) := by rw [← hT1]; exact State.heap_pushCell_size _ _
  have d3' : decode c.code (pc + 3) = .ok (.dup, 1) := by rw [hb]; exact d3
  have d4' : decode c.code (pc + 4) = .ok (.ldc is, 2) := by rw [hb]; exact d4
  have hstr' : vk_R own is text sa s' := vk_R.warm hW0 hstr
  obtain ⟨U, hsteps, hrun, hend, hW, hsame, ce, hce, hO⟩ := X₁.ctorThrowS hexec htr (own := own) (cls := cls) (names := names) (ic := ic) hown' hcls hnames h (fun x hx => nomatch hx) hfX hkX hcellA (by rw [hhp, hT]; exact Nat.le_refl _) (msg := .ref sa) rfl
    (g := { method := m, pc := pc + 6, locals := ls, stack := .ref sa :: .ref T.heap.size :: .ref T.heap.size :: rest, locked := none }) rfl hsize rfl rfl (rest := rest) rfl
    (by rw [hb]; exact d6) (by rw [hb]; exact d9) hout hRframes (by simp only [List.map_cons, List.sum_cons, hcat]; omega) hlocks
  obtain ⟨f1, f2⟩ := vx_frame hsame
  rw [hhp] at f1 f2
  have hWs : s.WarmedH U.vm := State.WarmedH.trans hW0 hW
  have hcl : s.vm.findClass cls = some ce.cls := by
    have h9 := hO.cls
    rw [hvm] at h9
    exact h9
  have hall : s.sameButNew ({ U with vm := s.vm } : State) locs mc ms := by
    subst hA
    obtain ⟨e1, e2⟩ := hsame
    rw [State.setFrames_setFrames] at e1
    have h2 : (T.setVm s.vm).sameButNew ({ U with vm := s.vm } : State) [] (0 + 1) (0 + 6) := ⟨e1, e2⟩
    have h3 := X.same.trans h2
    rw [List.append_nil] at h3
    exact h3.mono hc hs
  refine ⟨U, ?_, .threw T.heap.size, hrun, hend, Or.inr ⟨T.heap.size, rfl, cls, ce, locs, hx U hWs.alike f1 (fun q hq => f2 q hq (fun z hz => nomatch hz)), hce, hO.vm, hcl, hWs, hall, hf⟩⟩
  refine st1 _ ?_
  show Steps p.tables e below (T1.setTop { method := m, pc := pc + 3, locals := ls, stack := .ref T.heap.size :: rest, locked := none }) _
  jvm_step X₁.here [X₁.here.top, hexec, d3', Value.category]
  exact X₁.ldcString hexec (own := own) (text := text) (index := is) (a := sa) hown' hstr'.1 hstr'.2
    (g := { method := m, pc := pc + 4, locals := ls, stack := .ref T.heap.size :: .ref T.heap.size :: rest, locked := none }) rfl d4' _ hsteps
/-- 'throw new E("text")', the text by a wide index -/
theorem vx_throwSW {cc : ByteArray} {pc : Nat} (hexec : p.tables.exec = Jvm.exec) (hb : c.code = cc) (hl : l.stackTraces = false) {own cls text : String} {names : List String} {ik is ic mc ms sa : Nat} {A : Nat → Prop}
    (hown : s.vm.findClass own = some m.cls) (hcls : Bundle.fit cls = true) (hnames : ∀ n ∈ names, Bundle.fit n = true)
    (hk : (Cond.classLink own ik cls).before args s = true) (hini : (Cond.initialized cls).before args s = true) (hstr : vk_R own is text sa s) (hat : ∀ w ∈ vx_atS own ic cls names, w.before args s = true)
    (hgood : ∀ w ∈ Cond.classLink own ik cls :: Cond.initialized cls :: vx_atS own ic cls names, vx_ot w = true)
    (hU : vx_Zq Bundle.tN "UNASSIGNED_STACK" Bundle.steD A s s.heap) (hN : vx_Zq Bundle.tN "SUPPRESSED_SENTINEL" Bundle.listD A s s.heap) (hS : va_S A s.heap H locs) (hsize : ls.size = c.maxLocals)
    (d0 : decode cc pc = .ok (.new ik, 3)) (d3 : decode cc (pc + 3) = .ok (.dup, 1)) (d4 : decode cc (pc + 4) = .ok (.ldc_w is, 3)) (d7 : decode cc (pc + 7) = .ok (.invokespecial ic, 3)) (d10 : decode cc (pc + 10) = .ok (.athrow, 1))
    (hout : ∀ x ∈ c.exceptionTable.toList, covers x (pc + 10) = false)
    (hRframes : names.length + 3 < R.frames) (hRlocals : (rest.map fun v => v.category).sum + (13 * (names.length + 1) + 43) ≤ R.locals) (hRcells : cells + 1 ≤ R.cells) (hRslots : slots + 6 ≤ R.slots) (hlocks : meth.locks = false)
    (hx : ∀ t : State, s.vm.Alike t.vm → H.size ≤ t.heap.size → (∀ q : Nat, q < H.size → t.heap[q]? = H[q]?) → XC cls s t)
    (hf : ∀ z ∈ locs, free z.base) (hc : cells + 1 ≤ mc) (hs : slots + 6 ≤ ms) :
    W p l e R s m args below meth c H locs cells slots (vx_MQ below Qc XC args s mc ms free) (F0 m pc ls rest) := by
  intro T hT X
  have htr : e.platform.stackTraces = false := (show e.platform.stackTraces = l.stackTraces by rw [X.admits.platform]).trans hl
  have Y := vx_rebase X (R' := { frames := R.frames, locals := R.locals, cells := 1, slots := 6 }) (Nat.le_refl _) (Nat.le_refl _) hRcells hRslots
  obtain ⟨s', hA⟩ : ∃ z, z = (T.setVm s.vm).setFrames (.invoking m args :: below) := ⟨_, rfl⟩
  rw [← hA] at Y
  have hvm : s'.vm = s.vm := by rw [hA]; rfl
  have hhp : s'.heap = H := by rw [hA]; exact hT
  have hW0 : s.WarmedH s'.vm := by rw [hvm]; exact State.WarmedH.refl s
  have hat' : ∀ w ∈ vx_atS own ic cls names, w.before args s' = true := fun w hw => vx_ot_at hW0 hvm.symm (hgood w (List.mem_cons_of_mem _ (List.mem_cons_of_mem _ hw))) (hat w hw)
  have hk' : (Cond.classLink own ik cls).before args s' = true := vx_ot_at hW0 hvm.symm (hgood _ List.mem_cons_self) hk
  have hini' : (Cond.initialized cls).before args s' = true := vx_ot_at hW0 hvm.symm (hgood _ (List.mem_cons_of_mem _ List.mem_cons_self)) hini
  have hU' : vx_Zq Bundle.tN "UNASSIGNED_STACK" Bundle.steD A s' s'.heap := by rw [hhp]; exact vx_Zq.moved hW0.alike (hU.kept hS.2.1)
  have hN' : vx_Zq Bundle.tN "SUPPRESSED_SENTINEL" Bundle.listD A s' s'.heap := by rw [hhp]; exact vx_Zq.moved hW0.alike (hN.kept hS.2.1)
  have h : ∀ w ∈ Bundle.ownAtoms own ic cls names, w.before args s' = true := vx_own hat' (vx_isRefq hU'.1) (vx_isRefq hN'.1) hU'.2.word hN'.2.word
  have hown' : s'.vm.findClass own = some m.cls := by rw [hvm]; exact hown
  have hins : (Cond.instantiable cls 6).before args s' = true := h _ (by simp [Bundle.ownAtoms])
  obtain ⟨vm₁, cX, kX, hfX, hkX, -, -, X₁, st1⟩ := Y.newCold hexec (own := own) (C := cls) (index := ik) (n := 6) hown' hk' hins hini'
    (g := F0 m pc ls rest) rfl (by rw [hb]; exact d0) (Nat.le_refl _) (Nat.le_refl _)
  generalize hT1 : (T.setVm vm₁).pushCell { cls := cX, slots := kX.instanceTypes.map defaultValue, vm := .none } = T1 at X₁ st1
  have hcat : (Value.ref T.heap.size).category = 1 := rfl
  have hcellA : T1.heap[T.heap.size]? = some (freshCell cX kX) := by rw [← hT1]; exact State.heap_pushCell_size _ _
  have d3' : decode c.code (pc + 3) = .ok (.dup, 1) := by rw [hb]; exact d3
  have d4' : decode c.code (pc + 4) = .ok (.ldc_w is, 3) := by rw [hb]; exact d4
  have hstr' : vk_R own is text sa s' := vk_R.warm hW0 hstr
  obtain ⟨U, hsteps, hrun, hend, hW, hsame, ce, hce, hO⟩ := X₁.ctorThrowS hexec htr (own := own) (cls := cls) (names := names) (ic := ic) hown' hcls hnames h (fun x hx => nomatch hx) hfX hkX hcellA (by rw [hhp, hT]; exact Nat.le_refl _) (msg := .ref sa) rfl
    (g := { method := m, pc := pc + 7, locals := ls, stack := .ref sa :: .ref T.heap.size :: .ref T.heap.size :: rest, locked := none }) rfl hsize rfl rfl (rest := rest) rfl
    (by rw [hb]; exact d7) (by rw [hb]; exact d10) hout hRframes (by simp only [List.map_cons, List.sum_cons, hcat]; omega) hlocks
  obtain ⟨f1, f2⟩ := vx_frame hsame
  rw [hhp] at f1 f2
  have hWs : s.WarmedH U.vm := State.WarmedH.trans hW0 hW
  have hcl : s.vm.findClass cls = some ce.cls := by
    have h9 := hO.cls
    rw [hvm] at h9
    exact h9
  have hall : s.sameButNew ({ U with vm := s.vm } : State) locs mc ms := by
    subst hA
    obtain ⟨e1, e2⟩ := hsame
    rw [State.setFrames_setFrames] at e1
    have h2 : (T.setVm s.vm).sameButNew ({ U with vm := s.vm } : State) [] (0 + 1) (0 + 6) := ⟨e1, e2⟩
    have h3 := X.same.trans h2
    rw [List.append_nil] at h3
    exact h3.mono hc hs
  refine ⟨U, ?_, .threw T.heap.size, hrun, hend, Or.inr ⟨T.heap.size, rfl, cls, ce, locs, hx U hWs.alike f1 (fun q hq => f2 q hq (fun z hz => nomatch hz)), hce, hO.vm, hcl, hWs, hall, hf⟩⟩
  refine st1 _ ?_
  show Steps p.tables e below (T1.setTop { method := m, pc := pc + 3, locals := ls, stack := .ref T.heap.size :: rest, locked := none }) _
  jvm_step X₁.here [X₁.here.top, hexec, d3', Value.category]
  exact X₁.ldcStringW hexec (own := own) (text := text) (index := is) (a := sa) hown' hstr'.1 hstr'.2
    (g := { method := m, pc := pc + 4, locals := ls, stack := .ref T.heap.size :: .ref T.heap.size :: rest, locked := none }) rfl d4' _ hsteps
end Ends
section Bodies
variable {l : Launch}
theorem vx_ofW {y : MethodName} {ws ws' : List Cond} {rm : Room} {Pc : Array Value → State → Prop} {Qc : Array Value → State → Outcome → State → Prop} {XC : String → State → State → Prop} {mc ms : Nat} {free : Addr → Prop} {cc : ByteArray} {maxL : Nat} {ret : Option FieldType}
    (hy : plainName y.cls = true) (hw : ws = Cond.code y cc maxL ret :: ws')
    (body : ∀ p e s m args below meth c s₁, BodyLoose p l y (headSpec ws rm) cc maxL ret e s m args below meth c s₁ → c.maxLocals = maxL → (∀ x ∈ c.exceptionTable.toList, False) → Pc args s →
      W p l e (headSpec ws rm).room s m args below meth c s.heap [] 0 0 (vx_MQ below Qc XC args s mc ms free) (entryFrame m args maxL)) : vx_Met l y ws rm Pc Qc XC mc ms free := by
  refine MetFree.of_bodyS (code := cc) (maxLocals := maxL) (ret := ret) hy ?_ ?_
  · intro args s m h hn
    obtain ⟨meth, c, h1, h2, h3, h4, h5, h6, -, -⟩ := Cond.code_spec hn (atoms_spec (ws := ws) h _ (by rw [hw]; exact List.mem_cons_self))
    exact ⟨meth, c, h1, h2, h3, h4, h5, h6⟩
  · intro p e s m args below meth c s₁ B hml hP _
    have hh0 : s₁.heap = s.heap := by rw [B.state]; rfl
    have ht : ∀ x ∈ c.exceptionTable.toList, False := by
      obtain ⟨meth9, c9, h1, h2, -, -, -, -, h7, -⟩ := Cond.code_spec B.named (atoms_spec (ws := ws) B.pre _ (by rw [hw]; exact List.mem_cons_self))
      cases Option.some.inj (h1.symm.trans B.method)
      cases Option.some.inj (h2.symm.trans (Stand.of_body B).code)
      intro x hx
      rw [Array.isEmpty_iff.mp h7] at hx
      cases hx
    obtain ⟨t, a1, o, b1, b2, b3⟩ := body p e s m args below meth c s₁ B hml ht hP s₁ hh0 (Stand.of_body B)
    exact ⟨t, o, a1, b1, b2, b3⟩
/-- the table of a body with handlers -/
theorem vx_table {p : Program} {x y : MethodName} {S : Spec} {cc bytes : ByteArray} {maxL maxL' : Nat} {ret ret' : Option FieldType} {e : Env} {s s₁ : State} {m : MethodId} {args : Array Value} {below : List Frame} {meth : Method} {c : Code} {hh : List (Nat × Nat × Nat × Nat)}
    (B : BodyLoose p l y S cc maxL ret e s m args below meth c s₁) (h : (Cond.codeWith y bytes maxL' ret' hh).before args s = true) : c.exceptionTable.toList = tableOf hh := by
  obtain ⟨m9, meth9, c9, hn9, h1, h2, -, -, h6, -⟩ := Cond.codeWith_spec h
  cases Option.some.inj (hn9.symm.trans B.named)
  cases Option.some.inj (h1.symm.trans B.method)
  cases Option.some.inj (h2.symm.trans (Stand.of_body B).code)
  rw [← h6, table_eq]
end Bodies
end VXA
/-! ===== END ===== -/
/-! ===== BEGIN a static call of a method with an exception table ===== -/
section VXS
variable {p : Program} {l : Launch} {e : Env} {R : Room} {s : State} {m : MethodId} {args : Array Value} {below : List Frame} {meth : Method} {c : Code} {T : State} {H : Heap} {locs : List Loc} {cells slots : Nat}
abbrev vx_CSW (R : Room) (s : State) (args : Array Value) (own : String) (index : Nat) (y : MethodName) (bytes : ByteArray) (maxL : Nat) (ret : Option FieldType) (hh : List (Nat × Nat × Nat × Nat)) (ws : List Cond) (rm : Room) (mc ms n : Nat) : Prop :=
  (rm.cells = mc ∧ rm.slots = ms ∧ rm.frames + 1 ≤ R.frames ∧ 8 + (maxL + 11) + rm.locals ≤ R.locals ∧ (∀ w ∈ ws, ∀ (a' : Array Value) (U : State), s.WarmedH U.vm → w.before a' U = true) ∧ Cond.codeWith y bytes maxL ret hh ∈ ws) ∧
  (Cond.codeWith y bytes maxL ret hh).before args s = true ∧ (Cond.initialized y.cls).before args s = true ∧ (y.cls ≠ "java/lang/invoke/MethodHandle" ∧ y.cls ≠ "java/lang/invoke/VarHandle") ∧
  (∀ sig, parseMethodDescriptor y.desc = some sig → n = sig.parameters.length) ∧ (Cond.methodLink own index y).before args s = true ∧ (Cond.static y).before args s = true
theorem vx_cwSW {own : String} {index maxL mc ms : Nat} {y : MethodName} {bytes : ByteArray} {ret : Option FieldType} {hh : List (Nat × Nat × Nat × Nat)} {Ts ws ws' : List Cond} {rm : Room} (n : Nat) (ht : ∀ w ∈ Ts, w.before args s = true) (hT : GoodIn Ts (va_wsS own index y ws)) (hw : ws = Cond.codeWith y bytes maxL ret hh :: ws') (hrc : rm.cells = mc) (hrs : rm.slots = ms)
    (hd : y.cls ≠ "java/lang/invoke/MethodHandle" ∧ y.cls ≠ "java/lang/invoke/VarHandle" ∧ (parseMethodDescriptor y.desc).map (fun d => d.parameters.length) = some n) (hR : rm.frames + 1 ≤ R.frames ∧ 8 + (maxL + 11) + rm.locals ≤ R.locals) :
    vx_CSW R s args own index y bytes maxL ret hh ws rm mc ms n := by
  have ok : ∀ w ∈ va_wsS own index y ws, w.before args s = true := fun w h => ht w (hT w h).1
  have hG : GoodIn Ts ws := fun w h => hT w (by unfold va_wsS; exact List.mem_append_right _ h)
  have hc : Cond.codeWith y bytes maxL ret hh ∈ ws := by rw [hw]; exact List.mem_cons_self
  refine ⟨⟨hrc, hrs, hR.1, hR.2, pay_in ht hG, hc⟩, ht _ (hG _ hc).1, ok _ (by simp [va_wsS]), ⟨hd.1, hd.2.1⟩, fun sig h => ?_, ok _ (by simp [va_wsS]), ok _ (by simp [va_wsS])⟩
  have h2 := hd.2.2
  rw [h] at h2
  exact (Option.some.inj h2).symm
theorem vx_callSW (X : Stand p l e R s m args below meth c T locs cells slots) (hexec : p.tables.exec = Jvm.exec) {own : String} {index : Nat} {y : MethodName} {bytes : ByteArray} {maxL : Nat} {ret : Option FieldType} {hh : List (Nat × Nat × Nat × Nat)}
    (hown : s.vm.findClass own = some m.cls) (hlink : (Cond.methodLink own index y).before args s = true) (hstat : (Cond.static y).before args s = true) (hinit : (Cond.initialized y.cls).before args s = true)
    (hcode : (Cond.codeWith y bytes maxL ret hh).before args s = true) (hy : y.cls ≠ "java/lang/invoke/MethodHandle" ∧ y.cls ≠ "java/lang/invoke/VarHandle")
    {W9 : Nat} {Pre : Pt → Array Value → Prop} {Post : Pt → Array Value → Option Value → Pt → Prop} (hK : Back l R p e below s args y 3 W9 Pre Post)
    {g : JFrame} (hg : g.method = m) (hsize : g.locals.size = c.maxLocals) {argsL rest : List Value} (hlen : ∀ sig, parseMethodDescriptor y.desc = some sig → argsL.length = sig.parameters.length)
    (hstack : g.stack = argsL.reverse ++ rest) (hW : 2 * g.monitorRoom + (rest.map fun v => v.category).sum ≤ W9) (hdg : decode c.code g.pc = .ok (.invokestatic index, 3))
    (hpre : ∀ vm₁, s.WarmedH vm₁ → Pre ⟨T.setVm vm₁, locs, cells, slots⟩ argsL.toArray) :
    ∃ (v : Option Value) (vm₁ : Vm) (B : Pt), s.WarmedH vm₁ ∧ Stand p l e R s m args below meth c B.U B.locs B.cells B.slots ∧ Post ⟨T.setVm vm₁, locs, cells, slots⟩ argsL.toArray v B ∧
      ∀ target, Steps p.tables e below (B.U.setTop { g with pc := g.pc + 3, stack := v.toList ++ rest }) target → Steps p.tables e below (T.setTop g) target := by
  obtain ⟨mk, methM, cM, hnamed, hmethM, -, -, -, -, -, -, hsigM⟩ := Cond.codeWith_spec hcode
  have hstatic : methM.isStatic = true := Cond.static_spec hnamed hmethM hstat
  obtain ⟨kP, hkP, -⟩ := className_of_methodNamed hnamed
  have hinitP : kP.init = .initialized := Cond.initialized_spec (findClass_of_methodNamed hnamed) hkP hinit
  obtain ⟨vm₁, X₁, hstep₁⟩ := X.invokestatic hexec hown hlink hnamed hmethM hstatic hkP hinitP hy (g := g) hg (argsL := argsL) (rest := rest) (hlen _ hsigM) hstack hdg
  obtain ⟨v, B, X', hpost, hsteps⟩ := hK m meth c ⟨T.setVm vm₁, locs, cells, slots⟩ { g with stack := rest } (.invokestatic index) mk argsL.toArray X₁ hg hsize hdg hW (X₁.named hnamed) (hpre vm₁ X₁.warmed)
  exact ⟨v, vm₁, B, X₁.warmed, X', hpost, fun target h => hstep₁ _ fun acts => by rw [doInvoke_state]; exact hsteps.trans h⟩
theorem vx_runSW {y : MethodName} {bytes cc : ByteArray} {maxL nL mc ms n index : Nat} {ret : Option FieldType} {hh : List (Nat × Nat × Nat × Nat)} {ws : List Cond} {rm : Room} {Pc : Array Value → State → Prop} {Qc : Array Value → State → Outcome → State → Prop} {free : Addr → Prop} {Ts : List Cond} {own : String} {As rest : List Value} {g : JFrame}
    (S : CallFix p m c cc nL s args Ts own) (hM : Met l y ws rm Pc Qc mc ms free) (cw : vx_CSW R s args own index y bytes maxL ret hh ws rm mc ms n) (hp : PreS s H Pc As)
    (hg : g.method = m) (hn : As.length = n) (hsize : g.locals.size = nL) (hstack : g.stack = As.reverse ++ rest) (hW : 2 * g.monitorRoom + (rest.map fun v => v.category).sum ≤ 8) (hdg : decode cc g.pc = .ok (.invokestatic index, 3)) (hf : cells + mc ≤ R.cells ∧ slots + ms ≤ R.slots) :
    va_Run p l e R s m args below meth c H locs cells slots mc ms g rest (Qc As.toArray) (free) := by
  obtain ⟨⟨hrc, hrs, hfr, hlo, hws, hcw⟩, hcode, hini, hy, hlen, hl, hstt⟩ := cw
  have hK : Back l R p e below s args y 3 8 (PreOf R mc ms Pc) (PostOf Qc mc ms free) := va_backW (hh := hh) (bytes := bytes) (maxL := maxL) (ret := ret) hM hp.1 hrc hrs hfr hlo hws hcw (fun a' U hW => word_at hW (Or.inl (by first | rfl | simp [Cond.onTables, Cond.keeps, Cond.steady])) hini)
  obtain ⟨hx, hb, hml, ho, -⟩ := S
  intro T hT X
  obtain ⟨v, vm₁, ⟨U', l2, c2, s2⟩, hW₁, X', ⟨g', mk, t, L, e1, e2, hq, h1, hL, h2, h3⟩, st⟩ := vx_callSW X hx (hh := hh) (bytes := bytes) (maxL := maxL) (ret := ret) ho hl hstt hini hcode hy hK hg (hsize.trans hml.symm) (argsL := As) (rest := rest) (fun sig h => hn.trans (hlen sig h)) hstack hW (by rw [hb]; exact hdg)
    (fun vm₁ hW₁ => ⟨hf.1, hf.2, hp.2 (T.setVm vm₁) hT hW₁⟩)
  dsimp only [Pt.U, Pt.locs, Pt.cells, Pt.slots] at X' e1 e2 h1 h2 h3 st
  subst h1; subst h2; subst h3
  exact ⟨v, (T.setVm vm₁).calling g' mk As.toArray, t, U', L, hT, X', hL, e1, e2, hq, st⟩
/-- a thing of a world lies in the heap -/
theorem vx_lt {D : va_G} {cl : List vw_C} {ws : va_W} {H1 : Heap} (h : va_P D cl ws H1) {k : Nat} {q : Nat × va_E} (hk : ws[k]? = some q) : q.1 < H1.size := (h k q hk).lt
end VXS
/-! ===== END ===== -/
/-! ===== BEGIN methods with a table of their own: called by a name, returning or throwing ===== -/
section VXH
/-! vx_backW, vx_callVX, vx_callSX, vx_callVW, vx_runVW, vx_runVX, vx_runSX, vx_ofWH follow the same proofs as their sisters above (Free/Laws.lean, Shelf42/LK1.lean); vx_outP calls Shelf42/NT130.lean (outThrough). -/
section
variable {l : Launch} {R : Room} {p : Program} {e : Env} {below : List Frame} {s : State} {sargs : Array Value} {y : MethodName} {len W9 : Nat}
theorem vx_backW {ws : List Cond} {rm : Room} {Pc : Array Value → State → Prop} {Qc : Array Value → State → Outcome → State → Prop} {XC : String → State → State → Prop} {mc ms : Nat} {free : Addr → Prop} {bytes : ByteArray} {maxL : Nat} {ret : Option FieldType} {hh : List (Nat × Nat × Nat × Nat)}
    (hM : vx_Met l y ws rm Pc Qc XC mc ms free) (hblind : FrameBlind Pc) (hrc : rm.cells = mc) (hrs : rm.slots = ms)
    (hframes : rm.frames + 1 ≤ R.frames) (hlocals : W9 + (maxL + 11) + rm.locals ≤ R.locals)
    (hws : ∀ w ∈ ws, ∀ a' U, s.WarmedH U.vm → w.before a' U = true) (hcode : Cond.codeWith y bytes maxL ret hh ∈ ws) (hinit : ∀ a' U, s.WarmedH U.vm → (Cond.initialized y.cls).before a' U = true) :
    vx_Back l R p e below s sargs y len W9 (PreOf R mc ms Pc) (PostOf Qc mc ms free) (vx_Post XC mc ms free) := by
  intro m meth c A g ig mk a X hg hsize hdg hW hn hp
  have h1 : (headSpec ws rm).pre.before a A.U = true := atoms_intro fun w hw => hws w hw _ _ X.warmed
  have h2 : (Cond.codeWith y bytes maxL ret hh).before a A.U = true := hws _ hcode _ _ X.warmed
  have h3 : (Cond.initialized y.cls).before a A.U = true := hinit _ _ X.warmed
  have h4 : A.cells + (headSpec ws rm).room.cells ≤ R.cells := by rw [show (headSpec ws rm).room.cells = mc from hrc]; exact hp.1
  have h5 : A.slots + (headSpec ws rm).room.slots ≤ R.slots := by rw [show (headSpec ws rm).room.slots = ms from hrs]; exact hp.2.1
  have hPc : Pc a (A.U.calling g mk a) := hblind _ _ _ _ hp.2.2
  obtain ⟨U, Ls, c0, s0⟩ := A
  dsimp only [Pt.U, Pt.locs, Pt.cells, Pt.slots] at h1 h2 h3 h4 h5 X hn hPc ⊢
  obtain ⟨m9, methY, cY, hn9, hmY, hcY, -, hlY, -⟩ := Cond.codeWith_spec h2
  cases Option.some.inj (hn9.symm.trans hn)
  obtain ⟨kY, hkY, -⟩ := className_of_methodNamed hn
  have hinitY : kY.init = .initialized := Cond.initialized_spec (findClass_of_methodNamed hn) hkY h3
  have h : At U g.method c below := by rw [hg]; exact X.here
  have hlocals9 : W9 + (maxL + 11) + (headSpec ws rm).room.locals ≤ R.locals := hlocals
  have happ : (headSpec ws rm).appliesLoose y e.platform (U.calling g mk a) = true :=
    Spec.appliesLoose_calling (g := g) h hdg hn hkY hinitY
      (X.room_calling (g := g) (R' := (headSpec ws rm).room) hsize hmY hcY hframes (by rw [hlY]; omega) h4 h5) h1
  obtain ⟨mid, hmid⟩ := h.above
  have hfr : (U.setTop g).frames = (.java g :: mid) ++ below := by rw [State.frames_setTop' g h.top, hmid]; rfl
  obtain ⟨o, s₂, hsteps, -, hend, hq⟩ := Steps.callFree hM p X.admits X.cas X.clock (acts := []) hfr happ hPc trivial
  have hq' : vx_Q Qc XC mc ms free a (U.calling g mk a) o s₂ := hq
  rw [State.frames_setTop' g h.top] at hend
  obtain ⟨g₀, hg0⟩ := Option.isSome_iff_exists.mp h.top
  obtain ⟨r, hr⟩ := State.topJava?_eq_some.mp hg0
  have hr' : (({ U with heap := s₂.heap, slotsUsed := s₂.slotsUsed } : State).setVm s₂.vm).frames = .java g₀ :: r := hr
  rcases hq' with ⟨hqc, L, hfe, hL⟩ | ⟨q, rfl, E, ce, L, hx, hce, hcv, hcl, hW₂, hsm, hL⟩
  · obtain ⟨⟨v, rfl⟩, hW₂, e2, q2, q3, q4, q5, q6⟩ := id hfe
    have e3 : s₂ = ({ (U.calling g mk a).setFrames s₂.frames with heap := s₂.heap, slotsUsed := s₂.slotsUsed } : State).setVm s₂.vm := by
      have : s₂ = ({ s₂ with vm := (U.calling g mk a).vm } : State).setVm s₂.vm := rfl
      rw [e2] at this
      exact this
    obtain ⟨c₂, i₂, len₂, hc₂, hd₂, hf₂⟩ := hend
    have hW' : U.WarmedH s₂.vm := hW₂
    have hcc : c₂ = c := by
      have h1 : s₂.code? g.method = U.code? g.method := by
        rw [State.code?_eq, State.code?_eq, hW'.alike.method?]
      exact Option.some.inj (hc₂.symm.trans (h1.trans h.code))
    subst hcc
    have hlen : len₂ = len := by rw [hdg] at hd₂; cases hd₂; rfl
    subst hlen
    have hs₂ : s₂ = (({ U with heap := s₂.heap, slotsUsed := s₂.slotsUsed } : State).setVm s₂.vm).setTop { g with pc := g.pc + len₂, stack := v.toList ++ g.stack } := by
      refine e3.trans ?_
      rw [hf₂, State.calling_eq h.top, State.setFrames_setFrames, State.setTop_of_frames _ hr', hr]
      rfl
    have hsame : U.sameButNew ({ U with heap := s₂.heap, slotsUsed := s₂.slotsUsed } : State) L mc ms := by
      refine ⟨?_, q2, q3, q4, q5, q6⟩
      obtain ⟨t, ht, -⟩ := State.frames_cons hr
      show ({ U with heap := s₂.heap, slotsUsed := s₂.slotsUsed } : State) = { U.setFrames U.frames with heap := s₂.heap, slotsUsed := s₂.slotsUsed }
      rw [State.setFrames_self ht]
    subst hg
    refine Or.inl ⟨v, ⟨(({ U with heap := s₂.heap, slotsUsed := s₂.slotsUsed } : State).setVm s₂.vm), Ls ++ L, c0 + mc, s0 + ms⟩,
      ⟨X.admits, X.cas, X.clock, X.frames, X.room, X.hears, X.method, X.code, (X.here.setHeapUsed s₂.heap s₂.slotsUsed).setVm hW'.alike, X.tail, State.WarmedH.trans X.warmed hW', X.limits, X.bytes, X.same.trans (hsame.setVm s.vm)⟩,
      ⟨g, mk, s₂, L, rfl, rfl, hqc, rfl, hL, rfl, rfl⟩, ?_⟩
    show Steps p.tables e below _ ((({ U with heap := s₂.heap, slotsUsed := s₂.slotsUsed } : State).setVm s₂.vm).setTop { g with pc := g.pc + len₂, stack := v.toList ++ g.stack })
    rw [← hs₂]
    exact hsteps
  · obtain ⟨e2, q2, q3, q4, q5, q6⟩ := id hsm
    have e3 : s₂ = ({ (U.calling g mk a).setFrames s₂.frames with heap := s₂.heap, slotsUsed := s₂.slotsUsed } : State).setVm s₂.vm := by
      have : s₂ = ({ s₂ with vm := (U.calling g mk a).vm } : State).setVm s₂.vm := rfl
      rw [e2] at this
      exact this
    have hf₂ : s₂.frames = .throwing q :: .java g :: U.frames.tail := hend
    have hW' : U.WarmedH s₂.vm := hW₂
    have hs₂ : s₂ = ((({ U with heap := s₂.heap, slotsUsed := s₂.slotsUsed } : State).setVm s₂.vm).setTop g).pushFrame (.throwing q) := by
      refine e3.trans ?_
      rw [hf₂, State.calling_eq h.top, State.setFrames_setFrames, State.pushFrame, State.frames_setTop _ hr', State.setTop_of_frames _ hr', State.setFrames_setFrames, hr]
      rfl
    have hsame : U.sameButNew ({ U with heap := s₂.heap, slotsUsed := s₂.slotsUsed } : State) L mc ms := by
      refine ⟨?_, q2, q3, q4, q5, q6⟩
      obtain ⟨t, ht, -⟩ := State.frames_cons hr
      show ({ U with heap := s₂.heap, slotsUsed := s₂.slotsUsed } : State) = { U.setFrames U.frames with heap := s₂.heap, slotsUsed := s₂.slotsUsed }
      rw [State.setFrames_self ht]
    subst hg
    refine Or.inr ⟨q, ⟨(({ U with heap := s₂.heap, slotsUsed := s₂.slotsUsed } : State).setVm s₂.vm), Ls ++ L, c0 + mc, s0 + ms⟩,
      ⟨X.admits, X.cas, X.clock, X.frames, X.room, X.hears, X.method, X.code, (X.here.setHeapUsed s₂.heap s₂.slotsUsed).setVm hW'.alike, X.tail, State.WarmedH.trans X.warmed hW', X.limits, X.bytes, X.same.trans (hsame.setVm s.vm)⟩,
      ⟨g, mk, s₂, L, E, ce, rfl, rfl, hx, hce, hcv, hcl, rfl, hL, rfl, rfl⟩, ?_⟩
    show Steps p.tables e below _ (((({ U with heap := s₂.heap, slotsUsed := s₂.slotsUsed } : State).setVm s₂.vm).setTop g).pushFrame (.throwing q))
    rw [← hs₂]
    exact hsteps
end
variable {p : Program} {l : Launch} {e : Env} {R : Room} {s : State} {m : MethodId} {args : Array Value} {below : List Frame} {meth : Method} {c : Code} {T : State} {H : Heap} {locs : List Loc} {cells slots : Nat}
theorem vx_callVX (X : Stand p l e R s m args below meth c T locs cells slots) (hexec : p.tables.exec = Jvm.exec) {own C : String} {index : Nat} {y : MethodName} {bytes : ByteArray} {maxL : Nat} {ret : Option FieldType} {hh : List (Nat × Nat × Nat × Nat)}
    (hown : s.vm.findClass own = some m.cls) (hlink : (Cond.methodLink own index y).before args s = true) (hinst : (Cond.instanceMethod y).before args s = true) (hsel : (Cond.selects C y y).before args s = true)
    (hcode : (Cond.codeWith y bytes maxL ret hh).before args s = true) (hy : y.cls ≠ "java/lang/invoke/MethodHandle" ∧ y.cls ≠ "java/lang/invoke/VarHandle")
    {W9 : Nat} {Pre : Pt → Array Value → Prop} {Post : Pt → Array Value → Option Value → Pt → Prop} {PostX : Pt → Array Value → Addr → Pt → Prop} (hK : vx_Back l R p e below s args y 3 W9 Pre Post PostX)
    {b : Addr} {cellB : Cell} (hcell : T.heap[b]? = some cellB) (hobj : cellB.vm.isStatics = false) (hcls : s.vm.findClass C = some cellB.cls)
    {g : JFrame} (hg : g.method = m) (hsize : g.locals.size = c.maxLocals) {argsL rest : List Value} (hlen : ∀ sig, parseMethodDescriptor y.desc = some sig → argsL.length = sig.parameters.length)
    (hstack : g.stack = argsL.reverse ++ .ref b :: rest) (hW : 2 * g.monitorRoom + (rest.map fun v => v.category).sum ≤ W9) (hdg : decode c.code g.pc = .ok (.invokevirtual index, 3))
    (hpre : ∀ vm₁, s.WarmedH vm₁ → Pre ⟨T.setVm vm₁, locs, cells, slots⟩ (Value.ref b :: argsL).toArray) :
    (∃ (v : Option Value) (vm₁ : Vm) (B : Pt), s.WarmedH vm₁ ∧ Stand p l e R s m args below meth c B.U B.locs B.cells B.slots ∧ Post ⟨T.setVm vm₁, locs, cells, slots⟩ (Value.ref b :: argsL).toArray v B ∧
      ∀ target, Steps p.tables e below (B.U.setTop { g with pc := g.pc + 3, stack := v.toList ++ rest }) target → Steps p.tables e below (T.setTop g) target) ∨
    (∃ (q : Addr) (vm₁ : Vm) (B : Pt), s.WarmedH vm₁ ∧ Stand p l e R s m args below meth c B.U B.locs B.cells B.slots ∧ PostX ⟨T.setVm vm₁, locs, cells, slots⟩ (Value.ref b :: argsL).toArray q B ∧
      Steps p.tables e below (T.setTop g) ((B.U.setTop { g with stack := rest }).pushFrame (.throwing q))) := by
  obtain ⟨mk, methM, hnamed, hmethM, hstM, habM⟩ := Cond.instanceMethod_spec hinst
  obtain ⟨m8, methM', cM, hn8, hmethM', -, -, -, -, -, -, hsigM⟩ := Cond.codeWith_spec hcode
  cases Option.some.inj (hn8.symm.trans hnamed)
  cases hmethM.symm.trans hmethM'
  obtain ⟨c2, r2, m2, q1, q2, q3, q4, kP, hkP, hkPi⟩ := Cond.selects_spec hsel
  cases hcls.symm.trans q1
  cases (State.methodFound?_of_named hnamed hy).symm.trans q2
  cases hnamed.symm.trans q3
  have hselP : selectMethod e.platform s.vm cellB.cls mk = .method mk := by rw [Launch.admits_selectMethod X.admits]; exact q4
  obtain ⟨vm₁, X₁, hstep₁⟩ := X.invokevirtual hexec hown hlink hnamed hmethM hstM hkP hkPi hy (a := b) (cell := cellB) hcell
    (fun z h => by rw [h] at hobj; cases hobj) hselP hmethM habM hkP hkPi (g := g) hg (argsL := argsL) (rest := rest) (hlen _ hsigM) hstack hdg
  rcases hK m meth c ⟨T.setVm vm₁, locs, cells, slots⟩ { g with stack := rest } (.invokevirtual index) mk (Value.ref b :: argsL).toArray X₁ hg hsize hdg hW (X₁.named hnamed) (hpre vm₁ X₁.warmed) with ⟨v, B, X', hpost, hsteps⟩ | ⟨q, B, X', hpost, hsteps⟩
  · exact Or.inl ⟨v, vm₁, B, X₁.warmed, X', hpost, fun target h => hstep₁ _ fun acts => by rw [doInvoke_state]; exact hsteps.trans h⟩
  · exact Or.inr ⟨q, vm₁, B, X₁.warmed, X', hpost, hstep₁ _ fun acts => by rw [doInvoke_state]; exact hsteps⟩
theorem vx_callSX (X : Stand p l e R s m args below meth c T locs cells slots) (hexec : p.tables.exec = Jvm.exec) {own : String} {index : Nat} {y : MethodName} {bytes : ByteArray} {maxL : Nat} {ret : Option FieldType} {hh : List (Nat × Nat × Nat × Nat)}
    (hown : s.vm.findClass own = some m.cls) (hlink : (Cond.methodLink own index y).before args s = true) (hstat : (Cond.static y).before args s = true) (hinit : (Cond.initialized y.cls).before args s = true)
    (hcode : (Cond.codeWith y bytes maxL ret hh).before args s = true) (hy : y.cls ≠ "java/lang/invoke/MethodHandle" ∧ y.cls ≠ "java/lang/invoke/VarHandle")
    {W9 : Nat} {Pre : Pt → Array Value → Prop} {Post : Pt → Array Value → Option Value → Pt → Prop} {PostX : Pt → Array Value → Addr → Pt → Prop} (hK : vx_Back l R p e below s args y 3 W9 Pre Post PostX)
    {g : JFrame} (hg : g.method = m) (hsize : g.locals.size = c.maxLocals) {argsL rest : List Value} (hlen : ∀ sig, parseMethodDescriptor y.desc = some sig → argsL.length = sig.parameters.length)
    (hstack : g.stack = argsL.reverse ++ rest) (hW : 2 * g.monitorRoom + (rest.map fun v => v.category).sum ≤ W9) (hdg : decode c.code g.pc = .ok (.invokestatic index, 3))
    (hpre : ∀ vm₁, s.WarmedH vm₁ → Pre ⟨T.setVm vm₁, locs, cells, slots⟩ argsL.toArray) :
    (∃ (v : Option Value) (vm₁ : Vm) (B : Pt), s.WarmedH vm₁ ∧ Stand p l e R s m args below meth c B.U B.locs B.cells B.slots ∧ Post ⟨T.setVm vm₁, locs, cells, slots⟩ argsL.toArray v B ∧
      ∀ target, Steps p.tables e below (B.U.setTop { g with pc := g.pc + 3, stack := v.toList ++ rest }) target → Steps p.tables e below (T.setTop g) target) ∨
    (∃ (q : Addr) (vm₁ : Vm) (B : Pt), s.WarmedH vm₁ ∧ Stand p l e R s m args below meth c B.U B.locs B.cells B.slots ∧ PostX ⟨T.setVm vm₁, locs, cells, slots⟩ argsL.toArray q B ∧
      Steps p.tables e below (T.setTop g) ((B.U.setTop { g with stack := rest }).pushFrame (.throwing q))) := by
  obtain ⟨mk, methM, cM, hnamed, hmethM, -, -, -, -, -, -, hsigM⟩ := Cond.codeWith_spec hcode
  have hstatic : methM.isStatic = true := Cond.static_spec hnamed hmethM hstat
  obtain ⟨kP, hkP, -⟩ := className_of_methodNamed hnamed
  have hinitP : kP.init = .initialized := Cond.initialized_spec (findClass_of_methodNamed hnamed) hkP hinit
  obtain ⟨vm₁, X₁, hstep₁⟩ := X.invokestatic hexec hown hlink hnamed hmethM hstatic hkP hinitP hy (g := g) hg (argsL := argsL) (rest := rest) (hlen _ hsigM) hstack hdg
  rcases hK m meth c ⟨T.setVm vm₁, locs, cells, slots⟩ { g with stack := rest } (.invokestatic index) mk argsL.toArray X₁ hg hsize hdg hW (X₁.named hnamed) (hpre vm₁ X₁.warmed) with ⟨v, B, X', hpost, hsteps⟩ | ⟨q, B, X', hpost, hsteps⟩
  · exact Or.inl ⟨v, vm₁, B, X₁.warmed, X', hpost, fun target h => hstep₁ _ fun acts => by rw [doInvoke_state]; exact hsteps.trans h⟩
  · exact Or.inr ⟨q, vm₁, B, X₁.warmed, X', hpost, hstep₁ _ fun acts => by rw [doInvoke_state]; exact hsteps⟩
theorem vx_callVW (X : Stand p l e R s m args below meth c T locs cells slots) (hexec : p.tables.exec = Jvm.exec) {own C : String} {index : Nat} {y : MethodName} {bytes : ByteArray} {maxL : Nat} {ret : Option FieldType} {hh : List (Nat × Nat × Nat × Nat)}
    (hown : s.vm.findClass own = some m.cls) (hlink : (Cond.methodLink own index y).before args s = true) (hinst : (Cond.instanceMethod y).before args s = true) (hsel : (Cond.selects C y y).before args s = true)
    (hcode : (Cond.codeWith y bytes maxL ret hh).before args s = true) (hy : y.cls ≠ "java/lang/invoke/MethodHandle" ∧ y.cls ≠ "java/lang/invoke/VarHandle")
    {W9 : Nat} {Pre : Pt → Array Value → Prop} {Post : Pt → Array Value → Option Value → Pt → Prop} (hK : Back l R p e below s args y 3 W9 Pre Post)
    {b : Addr} {cellB : Cell} (hcell : T.heap[b]? = some cellB) (hobj : cellB.vm.isStatics = false) (hcls : s.vm.findClass C = some cellB.cls)
    {g : JFrame} (hg : g.method = m) (hsize : g.locals.size = c.maxLocals) {argsL rest : List Value} (hlen : ∀ sig, parseMethodDescriptor y.desc = some sig → argsL.length = sig.parameters.length)
    (hstack : g.stack = argsL.reverse ++ .ref b :: rest) (hW : 2 * g.monitorRoom + (rest.map fun v => v.category).sum ≤ W9) (hdg : decode c.code g.pc = .ok (.invokevirtual index, 3))
    (hpre : ∀ vm₁, s.WarmedH vm₁ → Pre ⟨T.setVm vm₁, locs, cells, slots⟩ (Value.ref b :: argsL).toArray) :
    ∃ (v : Option Value) (vm₁ : Vm) (B : Pt), s.WarmedH vm₁ ∧ Stand p l e R s m args below meth c B.U B.locs B.cells B.slots ∧ Post ⟨T.setVm vm₁, locs, cells, slots⟩ (Value.ref b :: argsL).toArray v B ∧
      ∀ target, Steps p.tables e below (B.U.setTop { g with pc := g.pc + 3, stack := v.toList ++ rest }) target → Steps p.tables e below (T.setTop g) target := by
  obtain ⟨mk, methM, hnamed, hmethM, hstM, habM⟩ := Cond.instanceMethod_spec hinst
  obtain ⟨m8, methM', cM, hn8, hmethM', -, -, -, -, -, -, hsigM⟩ := Cond.codeWith_spec hcode
  cases Option.some.inj (hn8.symm.trans hnamed)
  cases hmethM.symm.trans hmethM'
  obtain ⟨c2, r2, m2, q1, q2, q3, q4, kP, hkP, hkPi⟩ := Cond.selects_spec hsel
  cases hcls.symm.trans q1
  cases (State.methodFound?_of_named hnamed hy).symm.trans q2
  cases hnamed.symm.trans q3
  have hselP : selectMethod e.platform s.vm cellB.cls mk = .method mk := by rw [Launch.admits_selectMethod X.admits]; exact q4
  obtain ⟨vm₁, X₁, hstep₁⟩ := X.invokevirtual hexec hown hlink hnamed hmethM hstM hkP hkPi hy (a := b) (cell := cellB) hcell
    (fun z h => by rw [h] at hobj; cases hobj) hselP hmethM habM hkP hkPi (g := g) hg (argsL := argsL) (rest := rest) (hlen _ hsigM) hstack hdg
  obtain ⟨v, B, X', hpost, hsteps⟩ := hK m meth c ⟨T.setVm vm₁, locs, cells, slots⟩ { g with stack := rest } (.invokevirtual index) mk (Value.ref b :: argsL).toArray X₁ hg hsize hdg hW (X₁.named hnamed) (hpre vm₁ X₁.warmed)
  exact ⟨v, vm₁, B, X₁.warmed, X', hpost, fun target h => hstep₁ _ fun acts => by rw [doInvoke_state]; exact hsteps.trans h⟩
abbrev vx_CVW (R : Room) (s : State) (args : Array Value) (own C : String) (index : Nat) (y : MethodName) (bytes : ByteArray) (maxL : Nat) (ret : Option FieldType) (hh : List (Nat × Nat × Nat × Nat)) (ws : List Cond) (rm : Room) (mc ms n : Nat) : Prop :=
  (rm.cells = mc ∧ rm.slots = ms ∧ rm.frames + 1 ≤ R.frames ∧ 8 + (maxL + 11) + rm.locals ≤ R.locals ∧ (∀ w ∈ ws, ∀ (a' : Array Value) (U : State), s.WarmedH U.vm → w.before a' U = true) ∧ Cond.codeWith y bytes maxL ret hh ∈ ws) ∧
  (Cond.codeWith y bytes maxL ret hh).before args s = true ∧ (Cond.initialized y.cls).before args s = true ∧ (y.cls ≠ "java/lang/invoke/MethodHandle" ∧ y.cls ≠ "java/lang/invoke/VarHandle") ∧
  (∀ sig, parseMethodDescriptor y.desc = some sig → n = sig.parameters.length) ∧ (Cond.methodLink own index y).before args s = true ∧ (Cond.instanceMethod y).before args s = true ∧ (Cond.selects C y y).before args s = true
theorem vx_cwVW {own C : String} {index maxL mc ms : Nat} {y : MethodName} {bytes : ByteArray} {ret : Option FieldType} {hh : List (Nat × Nat × Nat × Nat)} {Ts ws ws' : List Cond} {rm : Room} (n : Nat) (ht : ∀ w ∈ Ts, w.before args s = true) (hT : GoodIn Ts (wsV own index C y ws)) (hw : ws = Cond.codeWith y bytes maxL ret hh :: ws') (hrc : rm.cells = mc) (hrs : rm.slots = ms)
    (hd : y.cls = C ∧ y.cls ≠ "java/lang/invoke/MethodHandle" ∧ y.cls ≠ "java/lang/invoke/VarHandle" ∧ (parseMethodDescriptor y.desc).map (fun d => d.parameters.length) = some n) (hR : rm.frames + 1 ≤ R.frames ∧ 8 + (maxL + 11) + rm.locals ≤ R.locals) :
    vx_CVW R s args own C index y bytes maxL ret hh ws rm mc ms n := by
  obtain ⟨hC, hd⟩ := hd
  subst hC
  have ok : ∀ w ∈ wsV own index y.cls y ws, w.before args s = true := fun w h => ht w (hT w h).1
  have hG : GoodIn Ts ws := fun w h => hT w (by unfold wsV; exact List.mem_append_right _ h)
  have hc : Cond.codeWith y bytes maxL ret hh ∈ ws := by rw [hw]; exact List.mem_cons_self
  refine ⟨⟨hrc, hrs, hR.1, hR.2, pay_in ht hG, hc⟩, ht _ (hG _ hc).1, ok _ (by simp [wsV]), ⟨hd.1, hd.2.1⟩, fun sig h => ?_, ok _ (by simp [wsV]), ok _ (by simp [wsV]), ok _ (by simp [wsV])⟩
  have h2 := hd.2.2
  rw [h] at h2
  exact (Option.some.inj h2).symm
theorem vx_runVW {y : MethodName} {bytes cc : ByteArray} {maxL nL mc ms n index : Nat} {ret : Option FieldType} {hh : List (Nat × Nat × Nat × Nat)} {ws : List Cond} {rm : Room} {Pc : Array Value → State → Prop} {Qc : Array Value → State → Outcome → State → Prop} {free : Addr → Prop} {Ts : List Cond} {own C : String} {b : Addr} {As rest : List Value} {g : JFrame}
    (S : CallFix p m c cc nL s args Ts own) (hM : Met l y ws rm Pc Qc mc ms free) (cw : vx_CVW R s args own C index y bytes maxL ret hh ws rm mc ms n) (hp : PreV s H C b Pc As)
    (hg : g.method = m) (hn : As.length = n) (hsize : g.locals.size = nL) (hstack : g.stack = As.reverse ++ .ref b :: rest) (hW : 2 * g.monitorRoom + (rest.map fun v => v.category).sum ≤ 8) (hdg : decode cc g.pc = .ok (.invokevirtual index, 3)) (hf : cells + mc ≤ R.cells ∧ slots + ms ≤ R.slots) :
    va_Run p l e R s m args below meth c H locs cells slots mc ms g rest (Qc (Value.ref b :: As).toArray) free := by
  obtain ⟨⟨hrc, hrs, hfr, hlo, hws, hcw⟩, hcode, hini, hy, hlen, hl, hin, hse⟩ := cw
  have hK : Back l R p e below s args y 3 8 (PreOf R mc ms Pc) (PostOf Qc mc ms free) := va_backW (hh := hh) (bytes := bytes) (maxL := maxL) (ret := ret) hM hp.1 hrc hrs hfr hlo hws hcw (fun a' U hW => word_at hW (Or.inl (by first | rfl | simp [Cond.onTables, Cond.keeps, Cond.steady])) hini)
  obtain ⟨hx, hb, hml, ho, -⟩ := S
  obtain ⟨-, ⟨cellB, hcB, hoB, hclB⟩, hPc⟩ := hp
  intro T hT X
  obtain ⟨v, vm₁, ⟨U', l2, c2, s2⟩, hW₁, X', ⟨g', mk, t, L, e1, e2, hq, h1, hL, h2, h3⟩, st⟩ := vx_callVW X hx (C := C) (hh := hh) (bytes := bytes) (maxL := maxL) (ret := ret) ho hl hin hse hcode hy hK (by rw [hT]; exact hcB) hoB hclB hg (hsize.trans hml.symm) (argsL := As) (rest := rest) (fun sig h => hn.trans (hlen sig h)) hstack hW (by rw [hb]; exact hdg)
    (fun vm₁ hW₁ => ⟨hf.1, hf.2, hPc (T.setVm vm₁) hT hW₁⟩)
  dsimp only [Pt.U, Pt.locs, Pt.cells, Pt.slots] at X' e1 e2 h1 h2 h3 st
  subst h1; subst h2; subst h3
  exact ⟨v, (T.setVm vm₁).calling g' mk (Value.ref b :: As).toArray, t, U', L, hT, X', hL, e1, e2, hq, st⟩
section
variable {y : MethodName} {bytes cc : ByteArray} {maxL nL mc ms n index : Nat} {ret : Option FieldType} {ws : List Cond} {rm : Room} {Pc : Array Value → State → Prop} {Qc : Array Value → State → Outcome → State → Prop} {XC : String → State → State → Prop} {free : Addr → Prop} {Ts : List Cond} {own C : String} {b : Addr} {As rest : List Value} {g : JFrame}
theorem vx_runVX {hh : List (Nat × Nat × Nat × Nat)} (S : CallFix p m c cc nL s args Ts own) (hM : vx_Met l y ws rm Pc Qc XC mc ms free) (cw : vx_CVW R s args own C index y bytes maxL ret hh ws rm mc ms n) (hp : PreV s H C b Pc As)
    (hg : g.method = m) (hn : As.length = n) (hsize : g.locals.size = nL) (hstack : g.stack = As.reverse ++ .ref b :: rest) (hW : 2 * g.monitorRoom + (rest.map fun v => v.category).sum ≤ 8) (hdg : decode cc g.pc = .ok (.invokevirtual index, 3)) (hf : cells + mc ≤ R.cells ∧ slots + ms ≤ R.slots) :
    vx_Run p l e R s m args below meth c H locs cells slots mc ms g rest (Qc (Value.ref b :: As).toArray) XC free := by
  obtain ⟨⟨hrc, hrs, hfr, hlo, hws, hcw⟩, hcode, hini, hy, hlen, hl, hin, hse⟩ := cw
  have hK : vx_Back l R p e below s args y 3 8 (PreOf R mc ms Pc) (PostOf Qc mc ms free) (vx_Post XC mc ms free) := vx_backW (hh := hh) (bytes := bytes) (maxL := maxL) (ret := ret) hM hp.1 hrc hrs hfr hlo hws hcw (fun a' U hW => word_at hW (Or.inl (by first | rfl | simp [Cond.onTables, Cond.keeps, Cond.steady])) hini)
  obtain ⟨hx, hb, hml, ho, -⟩ := S
  obtain ⟨-, ⟨cellB, hcB, hoB, hclB⟩, hPc⟩ := hp
  intro T hT X
  rcases vx_callVX X hx (C := C) (hh := hh) (bytes := bytes) (maxL := maxL) (ret := ret) ho hl hin hse hcode hy hK (by rw [hT]; exact hcB) hoB hclB hg (hsize.trans hml.symm) (argsL := As) (rest := rest) (fun sig h => hn.trans (hlen sig h)) hstack hW (by rw [hb]; exact hdg)
    (fun vm₁ hW₁ => ⟨hf.1, hf.2, hPc (T.setVm vm₁) hT hW₁⟩) with ⟨v, vm₁, ⟨U', l2, c2, s2⟩, hW₁, X', ⟨g', mk, t, L, e1, e2, hq, h1, hL, h2, h3⟩, st⟩ | ⟨q, vm₁, ⟨U', l2, c2, s2⟩, hW₁, X', ⟨g', mk, t, L, E, ce, e1, e2, hq, hce, hcv, hcl, h1, hL, h2, h3⟩, st⟩
  · dsimp only [Pt.U, Pt.locs, Pt.cells, Pt.slots] at X' e1 e2 h1 h2 h3 st
    subst h1; subst h2; subst h3
    exact Or.inl ⟨v, (T.setVm vm₁).calling g' mk (Value.ref b :: As).toArray, t, U', L, hT, X', hL, e1, e2, hq, st⟩
  · dsimp only [Pt.U, Pt.locs, Pt.cells, Pt.slots] at X' e1 e2 h1 h2 h3 st hcl
    subst h1; subst h2; subst h3
    exact Or.inr ⟨q, (T.setVm vm₁).calling g' mk (Value.ref b :: As).toArray, t, U', L, E, ce, hT, X', hL, e1, e2, hq, hce, hcv, vx_cls hW₁ hcl, st⟩
theorem vx_runSX {hh : List (Nat × Nat × Nat × Nat)} (S : CallFix p m c cc nL s args Ts own) (hM : vx_Met l y ws rm Pc Qc XC mc ms free) (cw : vx_CSW R s args own index y bytes maxL ret hh ws rm mc ms n) (hp : PreS s H Pc As)
    (hg : g.method = m) (hn : As.length = n) (hsize : g.locals.size = nL) (hstack : g.stack = As.reverse ++ rest) (hW : 2 * g.monitorRoom + (rest.map fun v => v.category).sum ≤ 8) (hdg : decode cc g.pc = .ok (.invokestatic index, 3)) (hf : cells + mc ≤ R.cells ∧ slots + ms ≤ R.slots) :
    vx_Run p l e R s m args below meth c H locs cells slots mc ms g rest (Qc As.toArray) XC free := by
  obtain ⟨⟨hrc, hrs, hfr, hlo, hws, hcw⟩, hcode, hini, hy, hlen, hl, hstt⟩ := cw
  have hK : vx_Back l R p e below s args y 3 8 (PreOf R mc ms Pc) (PostOf Qc mc ms free) (vx_Post XC mc ms free) := vx_backW (hh := hh) (bytes := bytes) (maxL := maxL) (ret := ret) hM hp.1 hrc hrs hfr hlo hws hcw (fun a' U hW => word_at hW (Or.inl (by first | rfl | simp [Cond.onTables, Cond.keeps, Cond.steady])) hini)
  obtain ⟨hx, hb, hml, ho, -⟩ := S
  intro T hT X
  rcases vx_callSX X hx (hh := hh) (bytes := bytes) (maxL := maxL) (ret := ret) ho hl hstt hini hcode hy hK hg (hsize.trans hml.symm) (argsL := As) (rest := rest) (fun sig h => hn.trans (hlen sig h)) hstack hW (by rw [hb]; exact hdg)
    (fun vm₁ hW₁ => ⟨hf.1, hf.2, hp.2 (T.setVm vm₁) hT hW₁⟩) with ⟨v, vm₁, ⟨U', l2, c2, s2⟩, hW₁, X', ⟨g', mk, t, L, e1, e2, hq, h1, hL, h2, h3⟩, st⟩ | ⟨q, vm₁, ⟨U', l2, c2, s2⟩, hW₁, X', ⟨g', mk, t, L, E, ce, e1, e2, hq, hce, hcv, hcl, h1, hL, h2, h3⟩, st⟩
  · dsimp only [Pt.U, Pt.locs, Pt.cells, Pt.slots] at X' e1 e2 h1 h2 h3 st
    subst h1; subst h2; subst h3
    exact Or.inl ⟨v, (T.setVm vm₁).calling g' mk As.toArray, t, U', L, hT, X', hL, e1, e2, hq, st⟩
  · dsimp only [Pt.U, Pt.locs, Pt.cells, Pt.slots] at X' e1 e2 h1 h2 h3 st hcl
    subst h1; subst h2; subst h3
    exact Or.inr ⟨q, (T.setVm vm₁).calling g' mk As.toArray, t, U', L, E, ce, hT, X', hL, e1, e2, hq, hce, hcv, vx_cls hW₁ hcl, st⟩
end
end VXH
theorem vx_ofWH {l : Launch} {y : MethodName} {ws ws' : List Cond} {rm : Room} {Pc : Array Value → State → Prop} {Qc : Array Value → State → Outcome → State → Prop} {XC : String → State → State → Prop} {mc ms : Nat} {free : Addr → Prop} {cc : ByteArray} {maxL : Nat} {ret : Option FieldType} {hh : List (Nat × Nat × Nat × Nat)}
    (hy : plainName y.cls = true) (hw : ws = Cond.codeWith y cc maxL ret hh :: ws')
    (body : ∀ p e s m args below meth c s₁, BodyLoose p l y (headSpec ws rm) cc maxL ret e s m args below meth c s₁ → c.maxLocals = maxL → Pc args s →
      W p l e (headSpec ws rm).room s m args below meth c s.heap [] 0 0 (vx_MQ below Qc XC args s mc ms free) (entryFrame m args maxL)) : vx_Met l y ws rm Pc Qc XC mc ms free := by
  refine MetFree.of_bodyS (code := cc) (maxLocals := maxL) (ret := ret) hy ?_ ?_
  · intro args s m h hn
    obtain ⟨m9, meth, c, hn9, h1, h2, h3, h4, -, h5, h6, -⟩ := Cond.codeWith_spec (atoms_spec (ws := ws) h _ (by rw [hw]; exact List.mem_cons_self))
    cases hn.symm.trans hn9
    exact ⟨meth, c, h1, h2, h3, h4, h5, h6⟩
  · intro p e s m args below meth c s₁ B hml hP _
    have hh0 : s₁.heap = s.heap := by rw [B.state]; rfl
    obtain ⟨t, a1, o, b1, b2, b3⟩ := body p e s m args below meth c s₁ B hml hP s₁ hh0 (Stand.of_body B)
    exact ⟨t, o, a1, b1, b2, b3⟩
/-! ===== END ===== -/
end
section
/-! ===== BEGIN printed: names, fields, word lists, decode rows ===== -/
def RX0 : String := "PointTrees$Boxes"
def TX0 : u_T := fun k => match k with
  | _ => ("PointTrees$Boxes", "ends", "[I", true)
def tyX0 : Nat → FieldType := fun k => match k with
  | _ => .array .int
abbrev wsX00 : List Cond := u_ws RX0 TX0 1
theorem nmX0 : ∀ a, a < 1 → ∀ b, b < 1 → a ≠ b → (TX0 a).2.1 ≠ (TX0 b).2.1 := by decide +kernel
theorem tyX0_ok : ∀ k, k < 1 → parseFieldDescriptor (TX0 k).2.2.1 = some (tyX0 k) := by decide +kernel
abbrev cX0_init : ByteArray := prog_2_method_1_code
def yX0_init : MethodName := ⟨RX0, "<init>", "(I)V"⟩
abbrev cX0_at : ByteArray := prog_2_method_2_code
def yX0_at : MethodName := ⟨RX0, "at", "(III)I"⟩
abbrev cX0_put : ByteArray := prog_2_method_3_code
def yX0_put : MethodName := ⟨RX0, "put", "(IIIIIII)V"⟩
abbrev cX0_putSpan : ByteArray := prog_2_method_4_code
def yX0_putSpan : MethodName := ⟨RX0, "putSpan", "(IIII)V"⟩
abbrev cX0_copyFrom : ByteArray := prog_2_method_5_code
def yX0_copyFrom : MethodName := ⟨RX0, "copyFrom", "(ILPointTrees$Boxes;I)V"⟩
abbrev cX0_widen : ByteArray := prog_2_method_6_code
def yX0_widen : MethodName := ⟨RX0, "widen", "(ILPointTrees$Boxes;I)V"⟩
abbrev cX0_sum : ByteArray := prog_2_method_7_code
def yX0_sum : MethodName := ⟨RX0, "sum", "(II)I"⟩
abbrev cX0_squareTo : ByteArray := prog_2_method_8_code
def yX0_squareTo : MethodName := ⟨RX0, "squareTo", "(IIIII)J"⟩
abbrev cX0_squareOnAxis : ByteArray := prog_2_method_9_code
def yX0_squareOnAxis : MethodName := ⟨RX0, "squareOnAxis", "(III)J"⟩
abbrev cX0_meet : ByteArray := prog_2_method_10_code
def yX0_meet : MethodName := ⟨RX0, "meet", "(LPointTrees$Boxes;ILPointTrees$Boxes;II)Z"⟩
abbrev cX0_within : ByteArray := prog_2_method_11_code
def yX0_within : MethodName := ⟨RX0, "within", "(LPointTrees$Boxes;ILPointTrees$Boxes;II)Z"⟩
def RX1 : String := "PointTrees"
def TX1 : u_T := fun k => match k with
  | 0 => ("PointTrees", "axes", "I", false)
  | 1 => ("PointTrees", "made", "I", false)
  | 2 => ("PointTrees", "present", "I", false)
  | 3 => ("PointTrees", "isThere", "[Z", true)
  | 4 => ("PointTrees", "things", "LPointTrees$Boxes;", true)
  | 5 => ("PointTrees", "blocks", "I", false)
  | 6 => ("PointTrees", "firstLoose", "I", false)
  | 7 => ("PointTrees", "order", "[I", true)
  | 8 => ("PointTrees", "blockFrom", "[I", true)
  | 9 => ("PointTrees", "blockTo", "[I", true)
  | 10 => ("PointTrees", "otherHalf", "[I", true)
  | 11 => ("PointTrees", "blockDepth", "[I", true)
  | 12 => ("PointTrees", "bounds", "LPointTrees$Boxes;", true)
  | 13 => ("PointTrees", "asked", "LPointTrees$Boxes;", true)
  | 14 => ("PointTrees", "isFound", "[Z", true)
  | 15 => ("PointTrees", "foundCount", "I", false)
  | 16 => ("PointTrees", "toldCounts", "[I", true)
  | _ => ("PointTrees", "squares", "[J", true)
def tyX1 : Nat → FieldType := fun k => match k with
  | 0 => .int
  | 1 => .int
  | 2 => .int
  | 3 => .array .boolean
  | 4 => .object "PointTrees$Boxes"
  | 5 => .int
  | 6 => .int
  | 7 => .array .int
  | 8 => .array .int
  | 9 => .array .int
  | 10 => .array .int
  | 11 => .array .int
  | 12 => .object "PointTrees$Boxes"
  | 13 => .object "PointTrees$Boxes"
  | 14 => .array .boolean
  | 15 => .int
  | 16 => .array .int
  | _ => .array .long
abbrev wsX10 : List Cond := u_ws RX1 TX1 18
theorem nmX1 : ∀ a, a < 18 → ∀ b, b < 18 → a ≠ b → (TX1 a).2.1 ≠ (TX1 b).2.1 := by decide +kernel
theorem tyX1_ok : ∀ k, k < 18 → parseFieldDescriptor (TX1 k).2.2.1 = some (tyX1 k) := by decide +kernel
abbrev cX1_init : ByteArray := prog_1_method_1_code
def yX1_init : MethodName := ⟨RX1, "<init>", "()V"⟩
abbrev cX1_dimensions : ByteArray := prog_1_method_2_code
def yX1_dimensions : MethodName := ⟨RX1, "dimensions", "(I)I"⟩
abbrev cX1_thing : ByteArray := prog_1_method_3_code
def yX1_thing : MethodName := ⟨RX1, "thing", "(IIIIII)I"⟩
abbrev cX1_drop : ByteArray := prog_1_method_4_code
def yX1_drop : MethodName := ⟨RX1, "drop", "(I)I"⟩
abbrev cX1_count : ByteArray := prog_1_method_5_code
def yX1_count : MethodName := ⟨RX1, "count", "()I"⟩
abbrev cX1_end : ByteArray := prog_1_method_6_code
def yX1_end : MethodName := ⟨RX1, "end", "(III)J"⟩
abbrev cX1_build : ByteArray := prog_1_method_7_code
def yX1_build : MethodName := ⟨RX1, "build", "()I"⟩
abbrev cX1_block : ByteArray := prog_1_method_8_code
def yX1_block : MethodName := ⟨RX1, "block", "(II)I"⟩
abbrev cX1_bound : ByteArray := prog_1_method_9_code
def yX1_bound : MethodName := ⟨RX1, "bound", "(III)J"⟩
abbrev cX1_range : ByteArray := prog_1_method_10_code
def yX1_range : MethodName := ⟨RX1, "range", "(IIIIIII)I"⟩
abbrev cX1_found : ByteArray := prog_1_method_11_code
def yX1_found : MethodName := ⟨RX1, "found", "(I)I"⟩
abbrev cX1_told : ByteArray := prog_1_method_12_code
def yX1_told : MethodName := ⟨RX1, "told", "(I)I"⟩
abbrev cX1_nearest : ByteArray := prog_1_method_13_code
def yX1_nearest : MethodName := ⟨RX1, "nearest", "(IIII)I"⟩
abbrev cX1_distance : ByteArray := prog_1_method_14_code
def yX1_distance : MethodName := ⟨RX1, "distance", "(IIII)J"⟩
abbrev cX1_pairs : ByteArray := prog_1_method_15_code
def yX1_pairs : MethodName := ⟨RX1, "pairs", "()I"⟩
abbrev cX1_day : ByteArray := prog_1_method_16_code
def yX1_day : MethodName := ⟨RX1, "day", "(JJ)J"⟩
abbrev cX1_hasThing : ByteArray := prog_1_method_17_code
def yX1_hasThing : MethodName := ⟨RX1, "hasThing", "(I)Z"⟩
abbrev cX1_hasBlock : ByteArray := prog_1_method_18_code
def yX1_hasBlock : MethodName := ⟨RX1, "hasBlock", "(I)Z"⟩
abbrev cX1_hasEnd : ByteArray := prog_1_method_19_code
def yX1_hasEnd : MethodName := ⟨RX1, "hasEnd", "(II)Z"⟩
abbrev cX1_isBox : ByteArray := prog_1_method_20_code
def yX1_isBox : MethodName := ⟨RX1, "isBox", "(IIIIII)Z"⟩
abbrev cX1_isPlace : ByteArray := prog_1_method_21_code
def yX1_isPlace : MethodName := ⟨RX1, "isPlace", "(III)Z"⟩
abbrev cX1_isSpan : ByteArray := prog_1_method_22_code
def yX1_isSpan : MethodName := ⟨RX1, "isSpan", "(II)Z"⟩
abbrev cX1_isParted : ByteArray := prog_1_method_23_code
def yX1_isParted : MethodName := ⟨RX1, "isParted", "(I)Z"⟩
abbrev cX1_makeBlock : ByteArray := prog_1_method_24_code
def yX1_makeBlock : MethodName := ⟨RX1, "makeBlock", "(III)V"⟩
abbrev cX1_setBounds : ByteArray := prog_1_method_25_code
def yX1_setBounds : MethodName := ⟨RX1, "setBounds", "(I)V"⟩
abbrev cX1_widestAxis : ByteArray := prog_1_method_26_code
def yX1_widestAxis : MethodName := ⟨RX1, "widestAxis", "(II)I"⟩
abbrev cX1_spread : ByteArray := prog_1_method_27_code
def yX1_spread : MethodName := ⟨RX1, "spread", "(III)I"⟩
abbrev cX1_sortRun : ByteArray := prog_1_method_28_code
def yX1_sortRun : MethodName := ⟨RX1, "sortRun", "(III)V"⟩
abbrev cX1_comesBefore : ByteArray := prog_1_method_29_code
def yX1_comesBefore : MethodName := ⟨RX1, "comesBefore", "(III)Z"⟩
abbrev cX1_forgetAsked : ByteArray := prog_1_method_30_code
def yX1_forgetAsked : MethodName := ⟨RX1, "forgetAsked", "()V"⟩
abbrev cX1_askBlocks : ByteArray := prog_1_method_31_code
def yX1_askBlocks : MethodName := ⟨RX1, "askBlocks", "(I)V"⟩
abbrev cX1_verdictOn : ByteArray := prog_1_method_32_code
def yX1_verdictOn : MethodName := ⟨RX1, "verdictOn", "(II)I"⟩
abbrev cX1_findAllOf : ByteArray := prog_1_method_33_code
def yX1_findAllOf : MethodName := ⟨RX1, "findAllOf", "(I)V"⟩
abbrev cX1_askThingsOf : ByteArray := prog_1_method_34_code
def yX1_askThingsOf : MethodName := ⟨RX1, "askThingsOf", "(II)V"⟩
abbrev cX1_askThing : ByteArray := prog_1_method_35_code
def yX1_askThing : MethodName := ⟨RX1, "askThing", "(II)V"⟩
abbrev cX1_markFound : ByteArray := prog_1_method_36_code
def yX1_markFound : MethodName := ⟨RX1, "markFound", "(I)V"⟩
abbrev cX1_isSo : ByteArray := prog_1_method_37_code
def yX1_isSo : MethodName := ⟨RX1, "isSo", "(II)Z"⟩
abbrev cX1_nearerThan : ByteArray := prog_1_method_38_code
def yX1_nearerThan : MethodName := ⟨RX1, "nearerThan", "(I)I"⟩
abbrev cX1_isNearer : ByteArray := prog_1_method_39_code
def yX1_isNearer : MethodName := ⟨RX1, "isNearer", "(II)Z"⟩
def RX2 : String := "PointTreesModel"
def TX2 : u_T := fun k => match k with
  | 0 => ("PointTreesModel", "thrown", "I", false)
  | 1 => ("PointTreesModel", "axes", "I", false)
  | 2 => ("PointTreesModel", "made", "I", false)
  | 3 => ("PointTreesModel", "there", "[Z", true)
  | 4 => ("PointTreesModel", "lows", "[I", true)
  | 5 => ("PointTreesModel", "highs", "[I", true)
  | 6 => ("PointTreesModel", "inTree", "[Z", true)
  | 7 => ("PointTreesModel", "row", "[I", true)
  | 8 => ("PointTreesModel", "blocks", "I", false)
  | 9 => ("PointTreesModel", "froms", "[I", true)
  | 10 => ("PointTreesModel", "manys", "[I", true)
  | 11 => ("PointTreesModel", "others", "[I", true)
  | 12 => ("PointTreesModel", "depths", "[I", true)
  | 13 => ("PointTreesModel", "leasts", "[I", true)
  | 14 => ("PointTreesModel", "greatests", "[I", true)
  | 15 => ("PointTreesModel", "waiting", "I", false)
  | 16 => ("PointTreesModel", "waitFrom", "[I", true)
  | 17 => ("PointTreesModel", "waitMany", "[I", true)
  | 18 => ("PointTreesModel", "waitDepth", "[I", true)
  | 19 => ("PointTreesModel", "waitOf", "[I", true)
  | 20 => ("PointTreesModel", "low", "[I", true)
  | 21 => ("PointTreesModel", "high", "[I", true)
  | 22 => ("PointTreesModel", "isFound", "[Z", true)
  | 23 => ("PointTreesModel", "foundMany", "I", false)
  | 24 => ("PointTreesModel", "opened", "I", false)
  | 25 => ("PointTreesModel", "settled", "I", false)
  | _ => ("PointTreesModel", "foundThere", "I", false)
def tyX2 : Nat → FieldType := fun k => match k with
  | 0 => .int
  | 1 => .int
  | 2 => .int
  | 3 => .array .boolean
  | 4 => .array .int
  | 5 => .array .int
  | 6 => .array .boolean
  | 7 => .array .int
  | 8 => .int
  | 9 => .array .int
  | 10 => .array .int
  | 11 => .array .int
  | 12 => .array .int
  | 13 => .array .int
  | 14 => .array .int
  | 15 => .int
  | 16 => .array .int
  | 17 => .array .int
  | 18 => .array .int
  | 19 => .array .int
  | 20 => .array .int
  | 21 => .array .int
  | 22 => .array .boolean
  | 23 => .int
  | 24 => .int
  | 25 => .int
  | _ => .int
abbrev wsX20 : List Cond := u_ws RX2 TX2 27
theorem nmX2 : ∀ a, a < 27 → ∀ b, b < 27 → a ≠ b → (TX2 a).2.1 ≠ (TX2 b).2.1 := by decide +kernel
theorem tyX2_ok : ∀ k, k < 27 → parseFieldDescriptor (TX2 k).2.2.1 = some (tyX2 k) := by decide +kernel
abbrev cX2_init : ByteArray := prog_4_method_1_code
def yX2_init : MethodName := ⟨RX2, "<init>", "()V"⟩
abbrev cX2_thrown : ByteArray := prog_4_method_2_code
def yX2_thrown : MethodName := ⟨RX2, "thrown", "()I"⟩
abbrev cX2_isThing : ByteArray := prog_4_method_3_code
def yX2_isThing : MethodName := ⟨RX2, "isThing", "(I)Z"⟩
abbrev cX2_isPlace : ByteArray := prog_4_method_4_code
def yX2_isPlace : MethodName := ⟨RX2, "isPlace", "(I)Z"⟩
abbrev cX2_dimensions : ByteArray := prog_4_method_5_code
def yX2_dimensions : MethodName := ⟨RX2, "dimensions", "(I)I"⟩
abbrev cX2_tells : ByteArray := prog_4_method_6_code
def yX2_tells : MethodName := ⟨RX2, "tells", "(IIIIII)Z"⟩
abbrev cX2_thing : ByteArray := prog_4_method_7_code
def yX2_thing : MethodName := ⟨RX2, "thing", "(IIIIII)I"⟩
abbrev cX2_count : ByteArray := prog_4_method_8_code
def yX2_count : MethodName := ⟨RX2, "count", "()I"⟩
abbrev cX2_drop : ByteArray := prog_4_method_9_code
def yX2_drop : MethodName := ⟨RX2, "drop", "(I)I"⟩
abbrev cX2_end : ByteArray := prog_4_method_10_code
def yX2_end : MethodName := ⟨RX2, "end", "(III)J"⟩
abbrev cX2_sum : ByteArray := prog_4_method_11_code
def yX2_sum : MethodName := ⟨RX2, "sum", "(II)I"⟩
abbrev cX2_await : ByteArray := prog_4_method_12_code
def yX2_await : MethodName := ⟨RX2, "await", "(IIII)V"⟩
abbrev cX2_look : ByteArray := prog_4_method_13_code
def yX2_look : MethodName := ⟨RX2, "look", "(I)I"⟩
abbrev cX2_sort : ByteArray := prog_4_method_14_code
def yX2_sort : MethodName := ⟨RX2, "sort", "(III)V"⟩
abbrev cX2_build : ByteArray := prog_4_method_15_code
def yX2_build : MethodName := ⟨RX2, "build", "()I"⟩
abbrev cX2_isBlock : ByteArray := prog_4_method_16_code
def yX2_isBlock : MethodName := ⟨RX2, "isBlock", "(I)Z"⟩
abbrev cX2_block : ByteArray := prog_4_method_17_code
def yX2_block : MethodName := ⟨RX2, "block", "(II)I"⟩
abbrev cX2_bound : ByteArray := prog_4_method_18_code
def yX2_bound : MethodName := ⟨RX2, "bound", "(III)J"⟩
abbrev cX2_isSo : ByteArray := prog_4_method_19_code
def yX2_isSo : MethodName := ⟨RX2, "isSo", "(I[I[II)Z"⟩
abbrev cX2_tellsOf : ByteArray := prog_4_method_20_code
def yX2_tellsOf : MethodName := ⟨RX2, "tellsOf", "(II)I"⟩
abbrev cX2_find : ByteArray := prog_4_method_21_code
def yX2_find : MethodName := ⟨RX2, "find", "(I)V"⟩
abbrev cX2_range : ByteArray := prog_4_method_22_code
def yX2_range : MethodName := ⟨RX2, "range", "(IIIIIII)I"⟩
abbrev cX2_found : ByteArray := prog_4_method_23_code
def yX2_found : MethodName := ⟨RX2, "found", "(I)I"⟩
abbrev cX2_told : ByteArray := prog_4_method_24_code
def yX2_told : MethodName := ⟨RX2, "told", "(I)I"⟩
abbrev cX2_isAt : ByteArray := prog_4_method_25_code
def yX2_isAt : MethodName := ⟨RX2, "isAt", "(III)Z"⟩
abbrev cX2_square : ByteArray := prog_4_method_26_code
def yX2_square : MethodName := ⟨RX2, "square", "(IIII)J"⟩
abbrev cX2_nearest : ByteArray := prog_4_method_27_code
def yX2_nearest : MethodName := ⟨RX2, "nearest", "(IIII)I"⟩
abbrev cX2_distance : ByteArray := prog_4_method_28_code
def yX2_distance : MethodName := ⟨RX2, "distance", "(IIII)J"⟩
abbrev cX2_pairs : ByteArray := prog_4_method_29_code
def yX2_pairs : MethodName := ⟨RX2, "pairs", "()I"⟩
abbrev cX2_day : ByteArray := prog_4_method_30_code
def yX2_day : MethodName := ⟨RX2, "day", "(JJ)J"⟩
def RJ9 : String := "java/lang/Math"
def TJ9 : u_T := fun k => match k with
  | _ => ("", "", "", false)
def tyJ9 : Nat → FieldType := fun k => match k with
  | _ => .int
abbrev wsJ90 : List Cond := u_ws RJ9 TJ9 0
theorem nmJ9 : ∀ a, a < 0 → ∀ b, b < 0 → a ≠ b → (TJ9 a).2.1 ≠ (TJ9 b).2.1 := by decide +kernel
theorem tyJ9_ok : ∀ k, k < 0 → parseFieldDescriptor (TJ9 k).2.2.1 = some (tyJ9 k) := by decide +kernel
abbrev cJ9_floorDiv_f86c9 : ByteArray := prog_7_method_49_code
def yJ9_floorDiv_f86c9 : MethodName := ⟨RJ9, "floorDiv", "(JJ)J"⟩
abbrev cJ9_max_7cf53 : ByteArray := prog_7_method_65_code
def yJ9_max_7cf53 : MethodName := ⟨RJ9, "max", "(II)I"⟩
abbrev cJ9_max_f86c9 : ByteArray := prog_7_method_66_code
def yJ9_max_f86c9 : MethodName := ⟨RJ9, "max", "(JJ)J"⟩
abbrev cJ9_min_7cf53 : ByteArray := prog_7_method_69_code
def yJ9_min_7cf53 : MethodName := ⟨RJ9, "min", "(II)I"⟩
def RJ0 : String := "java/lang/String"
def TJ0 : u_T := fun k => match k with
  | _ => ("", "", "", false)
def tyJ0 : Nat → FieldType := fun k => match k with
  | _ => .int
abbrev wsJ00 : List Cond := u_ws RJ0 TJ0 0
theorem nmJ0 : ∀ a, a < 0 → ∀ b, b < 0 → a ≠ b → (TJ0 a).2.1 ≠ (TJ0 b).2.1 := by decide +kernel
theorem tyJ0_ok : ∀ k, k < 0 → parseFieldDescriptor (TJ0 k).2.2.1 = some (tyJ0 k) := by decide +kernel
def RL : String := "PointTreesLaw"
abbrev cL_day : ByteArray := method_3_code
def yL_day : MethodName := ⟨RL, "day", "(LPointTrees;JJ[J)I"⟩
abbrev cL_law : ByteArray := code
def yL_law : MethodName := ⟨RL, "law", "([I)Z"⟩
def wsX0_init : List Cond := .code yX0_init cX0_init 2 none :: ([.methodLink RX0 5 objectInit, .instanceMethod objectInit, .code objectInit ⟨#[0xb1]⟩ 1 none, .arrayClass .int, .fieldLink RX0 11 "PointTrees$Boxes" "ends" "[I"] ++ wsX00)
def wsX0_at : List Cond := .code yX0_at cX0_at 4 (some .int) :: ([.fieldLink RX0 11 "PointTrees$Boxes" "ends" "[I"] ++ wsX00)
def wsX0_putSpan : List Cond := .code yX0_putSpan cX0_putSpan 5 none :: ([.fieldLink RX0 11 "PointTrees$Boxes" "ends" "[I"] ++ wsX00)
def wsX0_put : List Cond := .code yX0_put cX0_put 8 none :: ([.methodLink RX0 15 yX0_putSpan, .instanceMethod yX0_putSpan, .selects RX0 yX0_putSpan yX0_putSpan, .initialized RX0, .code yX0_putSpan cX0_putSpan 5 none, .fieldLink RX0 11 "PointTrees$Boxes" "ends" "[I"] ++ wsX00)
def wsX0_copyFrom : List Cond := .code yX0_copyFrom cX0_copyFrom 5 none :: ([.methodLink RX0 19 yX0_at, .instanceMethod yX0_at, .selects RX0 yX0_at yX0_at, .initialized RX0, .code yX0_at cX0_at 4 (some .int), .fieldLink RX0 11 "PointTrees$Boxes" "ends" "[I", .methodLink RX0 15 yX0_putSpan, .instanceMethod yX0_putSpan, .selects RX0 yX0_putSpan yX0_putSpan, .code yX0_putSpan cX0_putSpan 5 none] ++ wsX00)
def wsX0_widen : List Cond := .code yX0_widen cX0_widen 7 none :: ([.methodLink RX0 23 Lib.Math.min.name, .static Lib.Math.min.name, .initialized "java/lang/Math", .code Lib.Math.min.name Lib.Math.min.code 2 (some .int), .methodLink RX0 29 Lib.Math.max.name, .static Lib.Math.max.name, .code Lib.Math.max.name Lib.Math.max.code 2 (some .int), .methodLink RX0 19 yX0_at, .instanceMethod yX0_at, .selects RX0 yX0_at yX0_at, .initialized RX0, .code yX0_at cX0_at 4 (some .int), .fieldLink RX0 11 "PointTrees$Boxes" "ends" "[I", .methodLink RX0 15 yX0_putSpan, .instanceMethod yX0_putSpan, .selects RX0 yX0_putSpan yX0_putSpan, .code yX0_putSpan cX0_putSpan 5 none] ++ wsX00)
def wsX0_sum : List Cond := .code yX0_sum cX0_sum 3 (some .int) :: ([.methodLink RX0 19 yX0_at, .instanceMethod yX0_at, .selects RX0 yX0_at yX0_at, .initialized RX0, .code yX0_at cX0_at 4 (some .int), .fieldLink RX0 11 "PointTrees$Boxes" "ends" "[I"] ++ wsX00)
def wsX0_squareOnAxis : List Cond := .code yX0_squareOnAxis cX0_squareOnAxis 10 (some .long) :: ([.methodLink RX0 36 Lib.MathLoose.max_long.x, .static Lib.MathLoose.max_long.x, .initialized "java/lang/Math", .code Lib.MathLoose.max_long.x Lib.MathLoose.max_long.code 4 (some .long), .methodLink RX0 19 yX0_at, .instanceMethod yX0_at, .selects RX0 yX0_at yX0_at, .initialized RX0, .code yX0_at cX0_at 4 (some .int), .fieldLink RX0 11 "PointTrees$Boxes" "ends" "[I"] ++ wsX00)
def wsX0_squareTo : List Cond := .code yX0_squareTo cX0_squareTo 8 (some .long) :: ([.methodLink RX0 32 yX0_squareOnAxis, .instanceMethod yX0_squareOnAxis, .selects RX0 yX0_squareOnAxis yX0_squareOnAxis, .initialized RX0, .code yX0_squareOnAxis cX0_squareOnAxis 10 (some .long), .methodLink RX0 36 Lib.MathLoose.max_long.x, .static Lib.MathLoose.max_long.x, .initialized "java/lang/Math", .code Lib.MathLoose.max_long.x Lib.MathLoose.max_long.code 4 (some .long), .methodLink RX0 19 yX0_at, .instanceMethod yX0_at, .selects RX0 yX0_at yX0_at, .code yX0_at cX0_at 4 (some .int), .fieldLink RX0 11 "PointTrees$Boxes" "ends" "[I"] ++ wsX00)
def wsX0_meet : List Cond := .code yX0_meet cX0_meet 6 (some .boolean) :: ([.methodLink RX0 19 yX0_at, .instanceMethod yX0_at, .selects RX0 yX0_at yX0_at, .initialized RX0, .code yX0_at cX0_at 4 (some .int), .fieldLink RX0 11 "PointTrees$Boxes" "ends" "[I"] ++ wsX00)
def wsX0_within : List Cond := .code yX0_within cX0_within 6 (some .boolean) :: ([.methodLink RX0 19 yX0_at, .instanceMethod yX0_at, .selects RX0 yX0_at yX0_at, .initialized RX0, .code yX0_at cX0_at 4 (some .int), .fieldLink RX0 11 "PointTrees$Boxes" "ends" "[I"] ++ wsX00)
def wsX1_init_r1 : List Cond := [Cond.methodLink RX1 3 objectInit, Cond.instanceMethod objectInit, Cond.code objectInit ⟨#[0xb1]⟩ 1 none, Cond.fieldLink RX1 9 "PointTrees" "axes" "I", Cond.arrayClass .boolean, Cond.fieldLink RX1 15 "PointTrees" "isThere" "[Z", Cond.classLink RX1 19 RX0, Cond.instantiable RX0 1, Cond.initialized RX0, Cond.fieldLink RX1 24 "PointTrees" "things" "LPointTrees$Boxes;", Cond.arrayClass .int, Cond.fieldLink RX1 28 "PointTrees" "order" "[I", Cond.fieldLink RX1 32 "PointTrees" "blockFrom" "[I", Cond.fieldLink RX1 35 "PointTrees" "blockTo" "[I", Cond.fieldLink RX1 38 "PointTrees" "otherHalf" "[I", Cond.fieldLink RX1 41 "PointTrees" "blockDepth" "[I", Cond.fieldLink RX1 44 "PointTrees" "bounds" "LPointTrees$Boxes;", Cond.fieldLink RX1 47 "PointTrees" "asked" "LPointTrees$Boxes;", Cond.fieldLink RX1 50 "PointTrees" "isFound" "[Z", Cond.fieldLink RX1 53 "PointTrees" "toldCounts" "[I", Cond.arrayClass .long, Cond.fieldLink RX1 56 "PointTrees" "squares" "[J", Cond.instanceMethod yX0_init, Cond.code yX0_init cX0_init 2 none]
def wsX1_init_r2 : List Cond := [Cond.methodLink RX0 5 objectInit, Cond.fieldLink RX0 11 "PointTrees$Boxes" "ends" "[I"]
def wsX1_init : List Cond := .code yX1_init cX1_init 1 none :: ((wsX1_init_r1 ++ wsX1_init_r2) ++ wsX10 ++ wsX00)
def wsX1_forgetAsked : List Cond := .code yX1_forgetAsked cX1_forgetAsked 2 none :: ([.fieldLink RX1 50 "PointTrees" "isFound" "[Z", .fieldLink RX1 114 "PointTrees" "foundCount" "I", .fieldLink RX1 53 "PointTrees" "toldCounts" "[I"] ++ wsX10)
def wsX1_dimensions : List Cond := .code yX1_dimensions cX1_dimensions 3 (some .int) :: ([.fieldLink RX1 9 "PointTrees" "axes" "I", .fieldLink RX1 60 "PointTrees" "made" "I", .fieldLink RX1 63 "PointTrees" "present" "I", .fieldLink RX1 66 "PointTrees" "blocks" "I", .fieldLink RX1 69 "PointTrees" "firstLoose" "I", .methodLink RX1 72 yX1_forgetAsked, .instanceMethod yX1_forgetAsked, .selects RX1 yX1_forgetAsked yX1_forgetAsked, .initialized RX1, .code yX1_forgetAsked cX1_forgetAsked 2 none, .fieldLink RX1 50 "PointTrees" "isFound" "[Z", .fieldLink RX1 114 "PointTrees" "foundCount" "I", .fieldLink RX1 53 "PointTrees" "toldCounts" "[I"] ++ wsX10)
def wsX1_isSpan : List Cond := .code yX1_isSpan cX1_isSpan 2 (some .boolean) :: ([.constant RX1 149 (-1000000), .constant RX1 150 (1000000)])
def wsX1_isBox : List Cond := .code yX1_isBox cX1_isBox 7 (some .boolean) :: ([.fieldLink RX1 9 "PointTrees" "axes" "I", .methodLink RX1 146 yX1_isSpan, .static yX1_isSpan, .initialized RX1, .code yX1_isSpan cX1_isSpan 2 (some .boolean), .constant RX1 149 (-1000000), .constant RX1 150 (1000000)] ++ wsX10)
def wsX1_thing : List Cond := .code yX1_thing cX1_thing 8 (some .int) :: ([.fieldLink RX1 60 "PointTrees" "made" "I", .fieldLink RX1 24 "PointTrees" "things" "LPointTrees$Boxes;", .fieldLink RX1 15 "PointTrees" "isThere" "[Z", .fieldLink RX1 63 "PointTrees" "present" "I", .methodLink RX1 75 yX1_isBox, .instanceMethod yX1_isBox, .selects RX1 yX1_isBox yX1_isBox, .initialized RX1, .code yX1_isBox cX1_isBox 7 (some .boolean), .fieldLink RX1 9 "PointTrees" "axes" "I", .methodLink RX1 146 yX1_isSpan, .static yX1_isSpan, .code yX1_isSpan cX1_isSpan 2 (some .boolean), .constant RX1 149 (-1000000), .constant RX1 150 (1000000), .instanceMethod yX0_put, .initialized RX0, .selects RX0 yX0_put yX0_put, .code yX0_put cX0_put 8 none, .methodLink RX0 15 yX0_putSpan, .instanceMethod yX0_putSpan, .selects RX0 yX0_putSpan yX0_putSpan, .code yX0_putSpan cX0_putSpan 5 none, .fieldLink RX0 11 "PointTrees$Boxes" "ends" "[I"] ++ wsX10 ++ wsX00)
def wsX1_hasThing : List Cond := .code yX1_hasThing cX1_hasThing 2 (some .boolean) :: ([.fieldLink RX1 60 "PointTrees" "made" "I", .fieldLink RX1 15 "PointTrees" "isThere" "[Z"] ++ wsX10)
def wsX1_drop : List Cond := .code yX1_drop cX1_drop 2 (some .int) :: ([.fieldLink RX1 15 "PointTrees" "isThere" "[Z", .fieldLink RX1 63 "PointTrees" "present" "I", .methodLink RX1 83 yX1_hasThing, .instanceMethod yX1_hasThing, .selects RX1 yX1_hasThing yX1_hasThing, .initialized RX1, .code yX1_hasThing cX1_hasThing 2 (some .boolean), .fieldLink RX1 60 "PointTrees" "made" "I"] ++ wsX10)
def wsX1_count : List Cond := .code yX1_count cX1_count 1 (some .int) :: ([.fieldLink RX1 63 "PointTrees" "present" "I"] ++ wsX10)
def wsX1_hasEnd : List Cond := .code yX1_hasEnd cX1_hasEnd 3 (some .boolean) :: ([.fieldLink RX1 9 "PointTrees" "axes" "I"] ++ wsX10)
def wsX1_end : List Cond := .code yX1_end cX1_end 4 (some .long) :: ([.constantLong RX1 91 (-9223372036854775808), .fieldLink RX1 24 "PointTrees" "things" "LPointTrees$Boxes;", .methodLink RX1 83 yX1_hasThing, .instanceMethod yX1_hasThing, .selects RX1 yX1_hasThing yX1_hasThing, .initialized RX1, .code yX1_hasThing cX1_hasThing 2 (some .boolean), .fieldLink RX1 60 "PointTrees" "made" "I", .fieldLink RX1 15 "PointTrees" "isThere" "[Z", .methodLink RX1 87 yX1_hasEnd, .instanceMethod yX1_hasEnd, .selects RX1 yX1_hasEnd yX1_hasEnd, .code yX1_hasEnd cX1_hasEnd 3 (some .boolean), .fieldLink RX1 9 "PointTrees" "axes" "I", .instanceMethod yX0_at, .initialized RX0, .selects RX0 yX0_at yX0_at, .code yX0_at cX0_at 4 (some .int), .fieldLink RX0 11 "PointTrees$Boxes" "ends" "[I"] ++ wsX10 ++ wsX00)
def wsX1_setBounds_r1 : List Cond := [Cond.fieldLink RX1 44 "PointTrees" "bounds" "LPointTrees$Boxes;", Cond.fieldLink RX1 24 "PointTrees" "things" "LPointTrees$Boxes;", Cond.fieldLink RX1 28 "PointTrees" "order" "[I", Cond.fieldLink RX1 32 "PointTrees" "blockFrom" "[I", Cond.fieldLink RX1 35 "PointTrees" "blockTo" "[I", Cond.instanceMethod yX0_copyFrom, Cond.initialized RX0, Cond.selects RX0 yX0_copyFrom yX0_copyFrom, Cond.code yX0_copyFrom cX0_copyFrom 5 none, Cond.methodLink RX0 19 yX0_at, Cond.instanceMethod yX0_at, Cond.selects RX0 yX0_at yX0_at, Cond.code yX0_at cX0_at 4 (some .int), Cond.fieldLink RX0 11 "PointTrees$Boxes" "ends" "[I", Cond.methodLink RX0 15 yX0_putSpan, Cond.instanceMethod yX0_putSpan, Cond.selects RX0 yX0_putSpan yX0_putSpan, Cond.code yX0_putSpan cX0_putSpan 5 none, Cond.instanceMethod yX0_widen, Cond.selects RX0 yX0_widen yX0_widen, Cond.code yX0_widen cX0_widen 7 none, Cond.methodLink RX0 23 Lib.Math.min.name, Cond.static Lib.Math.min.name, Cond.initialized "java/lang/Math"]
def wsX1_setBounds_r2 : List Cond := [Cond.code Lib.Math.min.name Lib.Math.min.code 2 (some .int), Cond.methodLink RX0 29 Lib.Math.max.name, Cond.static Lib.Math.max.name, Cond.code Lib.Math.max.name Lib.Math.max.code 2 (some .int)]
def wsX1_setBounds : List Cond := .code yX1_setBounds cX1_setBounds 3 none :: ((wsX1_setBounds_r1 ++ wsX1_setBounds_r2) ++ wsX10 ++ wsX00)
def wsX1_spread : List Cond := .code yX1_spread cX1_spread 8 (some .int) :: ([.fieldLink RX1 24 "PointTrees" "things" "LPointTrees$Boxes;", .fieldLink RX1 28 "PointTrees" "order" "[I", .methodLink RX1 174 Lib.Math.min.name, .static Lib.Math.min.name, .initialized "java/lang/Math", .code Lib.Math.min.name Lib.Math.min.code 2 (some .int), .methodLink RX1 177 Lib.Math.max.name, .static Lib.Math.max.name, .code Lib.Math.max.name Lib.Math.max.code 2 (some .int), .instanceMethod yX0_sum, .initialized RX0, .selects RX0 yX0_sum yX0_sum, .code yX0_sum cX0_sum 3 (some .int), .methodLink RX0 19 yX0_at, .instanceMethod yX0_at, .selects RX0 yX0_at yX0_at, .code yX0_at cX0_at 4 (some .int), .fieldLink RX0 11 "PointTrees$Boxes" "ends" "[I"] ++ wsX10 ++ wsX00)
def wsX1_widestAxis : List Cond := .code yX1_widestAxis cX1_widestAxis 5 (some .int) :: ([.fieldLink RX1 9 "PointTrees" "axes" "I", .methodLink RX1 168 yX1_spread, .instanceMethod yX1_spread, .selects RX1 yX1_spread yX1_spread, .initialized RX1, .code yX1_spread cX1_spread 8 (some .int), .fieldLink RX1 24 "PointTrees" "things" "LPointTrees$Boxes;", .fieldLink RX1 28 "PointTrees" "order" "[I", .methodLink RX1 174 Lib.Math.min.name, .static Lib.Math.min.name, .initialized "java/lang/Math", .code Lib.Math.min.name Lib.Math.min.code 2 (some .int), .methodLink RX1 177 Lib.Math.max.name, .static Lib.Math.max.name, .code Lib.Math.max.name Lib.Math.max.code 2 (some .int), .instanceMethod yX0_sum, .initialized RX0, .selects RX0 yX0_sum yX0_sum, .code yX0_sum cX0_sum 3 (some .int), .methodLink RX0 19 yX0_at, .instanceMethod yX0_at, .selects RX0 yX0_at yX0_at, .code yX0_at cX0_at 4 (some .int), .fieldLink RX0 11 "PointTrees$Boxes" "ends" "[I"] ++ wsX10 ++ wsX00)
def wsX1_comesBefore : List Cond := .code yX1_comesBefore cX1_comesBefore 6 (some .boolean) :: ([.fieldLink RX1 24 "PointTrees" "things" "LPointTrees$Boxes;", .instanceMethod yX0_sum, .initialized RX0, .selects RX0 yX0_sum yX0_sum, .code yX0_sum cX0_sum 3 (some .int), .methodLink RX0 19 yX0_at, .instanceMethod yX0_at, .selects RX0 yX0_at yX0_at, .code yX0_at cX0_at 4 (some .int), .fieldLink RX0 11 "PointTrees$Boxes" "ends" "[I"] ++ wsX10 ++ wsX00)
def wsX1_sortRun : List Cond := .code yX1_sortRun cX1_sortRun 7 none :: ([.fieldLink RX1 28 "PointTrees" "order" "[I", .methodLink RX1 180 yX1_comesBefore, .instanceMethod yX1_comesBefore, .selects RX1 yX1_comesBefore yX1_comesBefore, .initialized RX1, .code yX1_comesBefore cX1_comesBefore 6 (some .boolean), .fieldLink RX1 24 "PointTrees" "things" "LPointTrees$Boxes;", .instanceMethod yX0_sum, .initialized RX0, .selects RX0 yX0_sum yX0_sum, .code yX0_sum cX0_sum 3 (some .int), .methodLink RX0 19 yX0_at, .instanceMethod yX0_at, .selects RX0 yX0_at yX0_at, .code yX0_at cX0_at 4 (some .int), .fieldLink RX0 11 "PointTrees$Boxes" "ends" "[I"] ++ wsX10 ++ wsX00)
def wsX1_makeBlock_r1 : List Cond := [Cond.fieldLink RX1 66 "PointTrees" "blocks" "I", Cond.fieldLink RX1 32 "PointTrees" "blockFrom" "[I", Cond.fieldLink RX1 35 "PointTrees" "blockTo" "[I", Cond.fieldLink RX1 38 "PointTrees" "otherHalf" "[I", Cond.fieldLink RX1 41 "PointTrees" "blockDepth" "[I", Cond.methodLink RX1 151 yX1_setBounds, Cond.instanceMethod yX1_setBounds, Cond.selects RX1 yX1_setBounds yX1_setBounds, Cond.initialized RX1, Cond.code yX1_setBounds cX1_setBounds 3 none, Cond.fieldLink RX1 44 "PointTrees" "bounds" "LPointTrees$Boxes;", Cond.fieldLink RX1 24 "PointTrees" "things" "LPointTrees$Boxes;", Cond.fieldLink RX1 28 "PointTrees" "order" "[I", Cond.instanceMethod yX0_copyFrom, Cond.initialized RX0, Cond.selects RX0 yX0_copyFrom yX0_copyFrom, Cond.code yX0_copyFrom cX0_copyFrom 5 none, Cond.methodLink RX0 19 yX0_at, Cond.instanceMethod yX0_at, Cond.selects RX0 yX0_at yX0_at, Cond.code yX0_at cX0_at 4 (some .int), Cond.fieldLink RX0 11 "PointTrees$Boxes" "ends" "[I", Cond.methodLink RX0 15 yX0_putSpan, Cond.instanceMethod yX0_putSpan]
def wsX1_makeBlock_r2 : List Cond := [Cond.selects RX0 yX0_putSpan yX0_putSpan, Cond.code yX0_putSpan cX0_putSpan 5 none, Cond.instanceMethod yX0_widen, Cond.selects RX0 yX0_widen yX0_widen, Cond.code yX0_widen cX0_widen 7 none, Cond.methodLink RX0 23 Lib.Math.min.name, Cond.static Lib.Math.min.name, Cond.initialized "java/lang/Math", Cond.code Lib.Math.min.name Lib.Math.min.code 2 (some .int), Cond.methodLink RX0 29 Lib.Math.max.name, Cond.static Lib.Math.max.name, Cond.code Lib.Math.max.name Lib.Math.max.code 2 (some .int), Cond.methodLink RX1 154 yX1_widestAxis, Cond.instanceMethod yX1_widestAxis, Cond.selects RX1 yX1_widestAxis yX1_widestAxis, Cond.code yX1_widestAxis cX1_widestAxis 5 (some .int), Cond.fieldLink RX1 9 "PointTrees" "axes" "I", Cond.methodLink RX1 168 yX1_spread, Cond.instanceMethod yX1_spread, Cond.selects RX1 yX1_spread yX1_spread, Cond.code yX1_spread cX1_spread 8 (some .int), Cond.methodLink RX1 174 Lib.Math.min.name, Cond.methodLink RX1 177 Lib.Math.max.name, Cond.instanceMethod yX0_sum]
def wsX1_makeBlock_r3 : List Cond := [Cond.selects RX0 yX0_sum yX0_sum, Cond.code yX0_sum cX0_sum 3 (some .int), Cond.methodLink RX1 158 yX1_sortRun, Cond.instanceMethod yX1_sortRun, Cond.selects RX1 yX1_sortRun yX1_sortRun, Cond.code yX1_sortRun cX1_sortRun 7 none, Cond.methodLink RX1 180 yX1_comesBefore, Cond.instanceMethod yX1_comesBefore, Cond.selects RX1 yX1_comesBefore yX1_comesBefore, Cond.code yX1_comesBefore cX1_comesBefore 6 (some .boolean), Cond.methodLink RX1 97 yX1_makeBlock, Cond.instanceMethod yX1_makeBlock, Cond.selects RX1 yX1_makeBlock yX1_makeBlock]
def wsX1_makeBlock : List Cond := .code yX1_makeBlock cX1_makeBlock 6 none :: ((wsX1_makeBlock_r1 ++ (wsX1_makeBlock_r2 ++ wsX1_makeBlock_r3)) ++ wsX10 ++ wsX00)
def wsX1_build_r1 : List Cond := [Cond.fieldLink RX1 66 "PointTrees" "blocks" "I", Cond.fieldLink RX1 60 "PointTrees" "made" "I", Cond.fieldLink RX1 69 "PointTrees" "firstLoose" "I", Cond.fieldLink RX1 15 "PointTrees" "isThere" "[Z", Cond.fieldLink RX1 28 "PointTrees" "order" "[I", Cond.methodLink RX1 97 yX1_makeBlock, Cond.instanceMethod yX1_makeBlock, Cond.selects RX1 yX1_makeBlock yX1_makeBlock, Cond.initialized RX1, Cond.code yX1_makeBlock cX1_makeBlock 6 none, Cond.fieldLink RX1 32 "PointTrees" "blockFrom" "[I", Cond.fieldLink RX1 35 "PointTrees" "blockTo" "[I", Cond.fieldLink RX1 38 "PointTrees" "otherHalf" "[I", Cond.fieldLink RX1 41 "PointTrees" "blockDepth" "[I", Cond.methodLink RX1 151 yX1_setBounds, Cond.instanceMethod yX1_setBounds, Cond.selects RX1 yX1_setBounds yX1_setBounds, Cond.code yX1_setBounds cX1_setBounds 3 none, Cond.fieldLink RX1 44 "PointTrees" "bounds" "LPointTrees$Boxes;", Cond.fieldLink RX1 24 "PointTrees" "things" "LPointTrees$Boxes;", Cond.instanceMethod yX0_copyFrom, Cond.initialized RX0, Cond.selects RX0 yX0_copyFrom yX0_copyFrom, Cond.code yX0_copyFrom cX0_copyFrom 5 none]
def wsX1_build_r2 : List Cond := [Cond.methodLink RX0 19 yX0_at, Cond.instanceMethod yX0_at, Cond.selects RX0 yX0_at yX0_at, Cond.code yX0_at cX0_at 4 (some .int), Cond.fieldLink RX0 11 "PointTrees$Boxes" "ends" "[I", Cond.methodLink RX0 15 yX0_putSpan, Cond.instanceMethod yX0_putSpan, Cond.selects RX0 yX0_putSpan yX0_putSpan, Cond.code yX0_putSpan cX0_putSpan 5 none, Cond.instanceMethod yX0_widen, Cond.selects RX0 yX0_widen yX0_widen, Cond.code yX0_widen cX0_widen 7 none, Cond.methodLink RX0 23 Lib.Math.min.name, Cond.static Lib.Math.min.name, Cond.initialized "java/lang/Math", Cond.code Lib.Math.min.name Lib.Math.min.code 2 (some .int), Cond.methodLink RX0 29 Lib.Math.max.name, Cond.static Lib.Math.max.name, Cond.code Lib.Math.max.name Lib.Math.max.code 2 (some .int), Cond.methodLink RX1 154 yX1_widestAxis, Cond.instanceMethod yX1_widestAxis, Cond.selects RX1 yX1_widestAxis yX1_widestAxis, Cond.code yX1_widestAxis cX1_widestAxis 5 (some .int), Cond.fieldLink RX1 9 "PointTrees" "axes" "I"]
def wsX1_build_r3 : List Cond := [Cond.methodLink RX1 168 yX1_spread, Cond.instanceMethod yX1_spread, Cond.selects RX1 yX1_spread yX1_spread, Cond.code yX1_spread cX1_spread 8 (some .int), Cond.methodLink RX1 174 Lib.Math.min.name, Cond.methodLink RX1 177 Lib.Math.max.name, Cond.instanceMethod yX0_sum, Cond.selects RX0 yX0_sum yX0_sum, Cond.code yX0_sum cX0_sum 3 (some .int), Cond.methodLink RX1 158 yX1_sortRun, Cond.instanceMethod yX1_sortRun, Cond.selects RX1 yX1_sortRun yX1_sortRun, Cond.code yX1_sortRun cX1_sortRun 7 none, Cond.methodLink RX1 180 yX1_comesBefore, Cond.instanceMethod yX1_comesBefore, Cond.selects RX1 yX1_comesBefore yX1_comesBefore, Cond.code yX1_comesBefore cX1_comesBefore 6 (some .boolean)]
def wsX1_build : List Cond := .code yX1_build cX1_build 3 (some .int) :: ((wsX1_build_r1 ++ (wsX1_build_r2 ++ wsX1_build_r3)) ++ wsX10 ++ wsX00)
def wsX1_hasBlock : List Cond := .code yX1_hasBlock cX1_hasBlock 2 (some .boolean) :: ([.fieldLink RX1 66 "PointTrees" "blocks" "I"] ++ wsX10)
def wsX1_isParted : List Cond := .code yX1_isParted cX1_isParted 2 (some .boolean) :: ([.fieldLink RX1 38 "PointTrees" "otherHalf" "[I"] ++ wsX10)
def wsX1_block : List Cond := .code yX1_block cX1_block 3 (some .int) :: ([.fieldLink RX1 35 "PointTrees" "blockTo" "[I", .fieldLink RX1 32 "PointTrees" "blockFrom" "[I", .fieldLink RX1 38 "PointTrees" "otherHalf" "[I", .fieldLink RX1 41 "PointTrees" "blockDepth" "[I", .methodLink RX1 101 yX1_hasBlock, .instanceMethod yX1_hasBlock, .selects RX1 yX1_hasBlock yX1_hasBlock, .initialized RX1, .code yX1_hasBlock cX1_hasBlock 2 (some .boolean), .fieldLink RX1 66 "PointTrees" "blocks" "I", .methodLink RX1 104 yX1_isParted, .instanceMethod yX1_isParted, .selects RX1 yX1_isParted yX1_isParted, .code yX1_isParted cX1_isParted 2 (some .boolean)] ++ wsX10)
def wsX1_bound : List Cond := .code yX1_bound cX1_bound 4 (some .long) :: ([.constantLong RX1 91 (-9223372036854775808), .fieldLink RX1 44 "PointTrees" "bounds" "LPointTrees$Boxes;", .methodLink RX1 101 yX1_hasBlock, .instanceMethod yX1_hasBlock, .selects RX1 yX1_hasBlock yX1_hasBlock, .initialized RX1, .code yX1_hasBlock cX1_hasBlock 2 (some .boolean), .fieldLink RX1 66 "PointTrees" "blocks" "I", .methodLink RX1 87 yX1_hasEnd, .instanceMethod yX1_hasEnd, .selects RX1 yX1_hasEnd yX1_hasEnd, .code yX1_hasEnd cX1_hasEnd 3 (some .boolean), .fieldLink RX1 9 "PointTrees" "axes" "I", .instanceMethod yX0_at, .initialized RX0, .selects RX0 yX0_at yX0_at, .code yX0_at cX0_at 4 (some .int), .fieldLink RX0 11 "PointTrees$Boxes" "ends" "[I"] ++ wsX10 ++ wsX00)
def wsX1_verdictOn : List Cond := .code yX1_verdictOn cX1_verdictOn 3 (some .int) :: ([.fieldLink RX1 47 "PointTrees" "asked" "LPointTrees$Boxes;", .fieldLink RX1 44 "PointTrees" "bounds" "LPointTrees$Boxes;", .fieldLink RX1 9 "PointTrees" "axes" "I", .static yX0_within, .initialized RX0, .code yX0_within cX0_within 6 (some .boolean), .methodLink RX0 19 yX0_at, .instanceMethod yX0_at, .selects RX0 yX0_at yX0_at, .code yX0_at cX0_at 4 (some .int), .fieldLink RX0 11 "PointTrees$Boxes" "ends" "[I", .static yX0_meet, .code yX0_meet cX0_meet 6 (some .boolean)] ++ wsX10 ++ wsX00)
def wsX1_markFound : List Cond := .code yX1_markFound cX1_markFound 2 none :: ([.fieldLink RX1 50 "PointTrees" "isFound" "[Z", .fieldLink RX1 114 "PointTrees" "foundCount" "I"] ++ wsX10)
def wsX1_findAllOf : List Cond := .code yX1_findAllOf cX1_findAllOf 3 none :: ([.fieldLink RX1 32 "PointTrees" "blockFrom" "[I", .fieldLink RX1 35 "PointTrees" "blockTo" "[I", .fieldLink RX1 15 "PointTrees" "isThere" "[Z", .fieldLink RX1 28 "PointTrees" "order" "[I", .fieldLink RX1 53 "PointTrees" "toldCounts" "[I", .methodLink RX1 195 yX1_markFound, .instanceMethod yX1_markFound, .selects RX1 yX1_markFound yX1_markFound, .initialized RX1, .code yX1_markFound cX1_markFound 2 none, .fieldLink RX1 50 "PointTrees" "isFound" "[Z", .fieldLink RX1 114 "PointTrees" "foundCount" "I"] ++ wsX10)
def wsX1_isSo : List Cond := .code yX1_isSo cX1_isSo 3 (some .boolean) :: ([.fieldLink RX1 24 "PointTrees" "things" "LPointTrees$Boxes;", .fieldLink RX1 47 "PointTrees" "asked" "LPointTrees$Boxes;", .fieldLink RX1 9 "PointTrees" "axes" "I", .static yX0_meet, .initialized RX0, .code yX0_meet cX0_meet 6 (some .boolean), .methodLink RX0 19 yX0_at, .instanceMethod yX0_at, .selects RX0 yX0_at yX0_at, .code yX0_at cX0_at 4 (some .int), .fieldLink RX0 11 "PointTrees$Boxes" "ends" "[I", .static yX0_within, .code yX0_within cX0_within 6 (some .boolean)] ++ wsX10 ++ wsX00)
def wsX1_askThing_r1 : List Cond := [Cond.fieldLink RX1 15 "PointTrees" "isThere" "[Z", Cond.methodLink RX1 198 yX1_isSo, Cond.instanceMethod yX1_isSo, Cond.selects RX1 yX1_isSo yX1_isSo, Cond.initialized RX1, Cond.code yX1_isSo cX1_isSo 3 (some .boolean), Cond.fieldLink RX1 24 "PointTrees" "things" "LPointTrees$Boxes;", Cond.fieldLink RX1 47 "PointTrees" "asked" "LPointTrees$Boxes;", Cond.fieldLink RX1 9 "PointTrees" "axes" "I", Cond.static yX0_meet, Cond.initialized RX0, Cond.code yX0_meet cX0_meet 6 (some .boolean), Cond.methodLink RX0 19 yX0_at, Cond.instanceMethod yX0_at, Cond.selects RX0 yX0_at yX0_at, Cond.code yX0_at cX0_at 4 (some .int), Cond.fieldLink RX0 11 "PointTrees$Boxes" "ends" "[I", Cond.static yX0_within, Cond.code yX0_within cX0_within 6 (some .boolean), Cond.methodLink RX1 195 yX1_markFound, Cond.instanceMethod yX1_markFound, Cond.selects RX1 yX1_markFound yX1_markFound, Cond.code yX1_markFound cX1_markFound 2 none, Cond.fieldLink RX1 50 "PointTrees" "isFound" "[Z"]
def wsX1_askThing_r2 : List Cond := [Cond.fieldLink RX1 114 "PointTrees" "foundCount" "I"]
def wsX1_askThing : List Cond := .code yX1_askThing cX1_askThing 3 none :: ((wsX1_askThing_r1 ++ wsX1_askThing_r2) ++ wsX10 ++ wsX00)
def wsX1_askThingsOf_r1 : List Cond := [Cond.fieldLink RX1 32 "PointTrees" "blockFrom" "[I", Cond.fieldLink RX1 35 "PointTrees" "blockTo" "[I", Cond.fieldLink RX1 28 "PointTrees" "order" "[I", Cond.methodLink RX1 110 yX1_askThing, Cond.instanceMethod yX1_askThing, Cond.selects RX1 yX1_askThing yX1_askThing, Cond.initialized RX1, Cond.code yX1_askThing cX1_askThing 3 none, Cond.fieldLink RX1 15 "PointTrees" "isThere" "[Z", Cond.methodLink RX1 198 yX1_isSo, Cond.instanceMethod yX1_isSo, Cond.selects RX1 yX1_isSo yX1_isSo, Cond.code yX1_isSo cX1_isSo 3 (some .boolean), Cond.fieldLink RX1 24 "PointTrees" "things" "LPointTrees$Boxes;", Cond.fieldLink RX1 47 "PointTrees" "asked" "LPointTrees$Boxes;", Cond.fieldLink RX1 9 "PointTrees" "axes" "I", Cond.static yX0_meet, Cond.initialized RX0, Cond.code yX0_meet cX0_meet 6 (some .boolean), Cond.methodLink RX0 19 yX0_at, Cond.instanceMethod yX0_at, Cond.selects RX0 yX0_at yX0_at, Cond.code yX0_at cX0_at 4 (some .int), Cond.fieldLink RX0 11 "PointTrees$Boxes" "ends" "[I"]
def wsX1_askThingsOf_r2 : List Cond := [Cond.static yX0_within, Cond.code yX0_within cX0_within 6 (some .boolean), Cond.methodLink RX1 195 yX1_markFound, Cond.instanceMethod yX1_markFound, Cond.selects RX1 yX1_markFound yX1_markFound, Cond.code yX1_markFound cX1_markFound 2 none, Cond.fieldLink RX1 50 "PointTrees" "isFound" "[Z", Cond.fieldLink RX1 114 "PointTrees" "foundCount" "I"]
def wsX1_askThingsOf : List Cond := .code yX1_askThingsOf cX1_askThingsOf 4 none :: ((wsX1_askThingsOf_r1 ++ wsX1_askThingsOf_r2) ++ wsX10 ++ wsX00)
def wsX1_askBlocks_r1 : List Cond := [Cond.fieldLink RX1 66 "PointTrees" "blocks" "I", Cond.fieldLink RX1 35 "PointTrees" "blockTo" "[I", Cond.fieldLink RX1 53 "PointTrees" "toldCounts" "[I", Cond.methodLink RX1 183 yX1_verdictOn, Cond.instanceMethod yX1_verdictOn, Cond.selects RX1 yX1_verdictOn yX1_verdictOn, Cond.initialized RX1, Cond.code yX1_verdictOn cX1_verdictOn 3 (some .int), Cond.fieldLink RX1 47 "PointTrees" "asked" "LPointTrees$Boxes;", Cond.fieldLink RX1 44 "PointTrees" "bounds" "LPointTrees$Boxes;", Cond.fieldLink RX1 9 "PointTrees" "axes" "I", Cond.static yX0_within, Cond.initialized RX0, Cond.code yX0_within cX0_within 6 (some .boolean), Cond.methodLink RX0 19 yX0_at, Cond.instanceMethod yX0_at, Cond.selects RX0 yX0_at yX0_at, Cond.code yX0_at cX0_at 4 (some .int), Cond.fieldLink RX0 11 "PointTrees$Boxes" "ends" "[I", Cond.static yX0_meet, Cond.code yX0_meet cX0_meet 6 (some .boolean), Cond.methodLink RX1 186 yX1_findAllOf, Cond.instanceMethod yX1_findAllOf, Cond.selects RX1 yX1_findAllOf yX1_findAllOf]
def wsX1_askBlocks_r2 : List Cond := [Cond.code yX1_findAllOf cX1_findAllOf 3 none, Cond.fieldLink RX1 32 "PointTrees" "blockFrom" "[I", Cond.fieldLink RX1 15 "PointTrees" "isThere" "[Z", Cond.fieldLink RX1 28 "PointTrees" "order" "[I", Cond.methodLink RX1 195 yX1_markFound, Cond.instanceMethod yX1_markFound, Cond.selects RX1 yX1_markFound yX1_markFound, Cond.code yX1_markFound cX1_markFound 2 none, Cond.fieldLink RX1 50 "PointTrees" "isFound" "[Z", Cond.fieldLink RX1 114 "PointTrees" "foundCount" "I", Cond.methodLink RX1 104 yX1_isParted, Cond.instanceMethod yX1_isParted, Cond.selects RX1 yX1_isParted yX1_isParted, Cond.code yX1_isParted cX1_isParted 2 (some .boolean), Cond.fieldLink RX1 38 "PointTrees" "otherHalf" "[I", Cond.methodLink RX1 189 yX1_askThingsOf, Cond.instanceMethod yX1_askThingsOf, Cond.selects RX1 yX1_askThingsOf yX1_askThingsOf, Cond.code yX1_askThingsOf cX1_askThingsOf 4 none, Cond.methodLink RX1 110 yX1_askThing, Cond.instanceMethod yX1_askThing, Cond.selects RX1 yX1_askThing yX1_askThing, Cond.code yX1_askThing cX1_askThing 3 none, Cond.methodLink RX1 198 yX1_isSo]
def wsX1_askBlocks_r3 : List Cond := [Cond.instanceMethod yX1_isSo, Cond.selects RX1 yX1_isSo yX1_isSo, Cond.code yX1_isSo cX1_isSo 3 (some .boolean), Cond.fieldLink RX1 24 "PointTrees" "things" "LPointTrees$Boxes;"]
def wsX1_askBlocks : List Cond := .code yX1_askBlocks cX1_askBlocks 5 none :: ((wsX1_askBlocks_r1 ++ (wsX1_askBlocks_r2 ++ wsX1_askBlocks_r3)) ++ wsX10 ++ wsX00)
def wsX1_range_r1 : List Cond := [Cond.fieldLink RX1 47 "PointTrees" "asked" "LPointTrees$Boxes;", Cond.fieldLink RX1 69 "PointTrees" "firstLoose" "I", Cond.fieldLink RX1 60 "PointTrees" "made" "I", Cond.fieldLink RX1 114 "PointTrees" "foundCount" "I", Cond.methodLink RX1 75 yX1_isBox, Cond.instanceMethod yX1_isBox, Cond.selects RX1 yX1_isBox yX1_isBox, Cond.initialized RX1, Cond.code yX1_isBox cX1_isBox 7 (some .boolean), Cond.fieldLink RX1 9 "PointTrees" "axes" "I", Cond.methodLink RX1 146 yX1_isSpan, Cond.static yX1_isSpan, Cond.code yX1_isSpan cX1_isSpan 2 (some .boolean), Cond.constant RX1 149 (-1000000), Cond.constant RX1 150 (1000000), Cond.instanceMethod yX0_put, Cond.initialized RX0, Cond.selects RX0 yX0_put yX0_put, Cond.code yX0_put cX0_put 8 none, Cond.methodLink RX0 15 yX0_putSpan, Cond.instanceMethod yX0_putSpan, Cond.selects RX0 yX0_putSpan yX0_putSpan, Cond.code yX0_putSpan cX0_putSpan 5 none, Cond.fieldLink RX0 11 "PointTrees$Boxes" "ends" "[I"]
def wsX1_range_r2 : List Cond := [Cond.methodLink RX1 72 yX1_forgetAsked, Cond.instanceMethod yX1_forgetAsked, Cond.selects RX1 yX1_forgetAsked yX1_forgetAsked, Cond.code yX1_forgetAsked cX1_forgetAsked 2 none, Cond.fieldLink RX1 50 "PointTrees" "isFound" "[Z", Cond.fieldLink RX1 53 "PointTrees" "toldCounts" "[I", Cond.methodLink RX1 107 yX1_askBlocks, Cond.instanceMethod yX1_askBlocks, Cond.selects RX1 yX1_askBlocks yX1_askBlocks, Cond.code yX1_askBlocks cX1_askBlocks 5 none, Cond.fieldLink RX1 66 "PointTrees" "blocks" "I", Cond.fieldLink RX1 35 "PointTrees" "blockTo" "[I", Cond.methodLink RX1 183 yX1_verdictOn, Cond.instanceMethod yX1_verdictOn, Cond.selects RX1 yX1_verdictOn yX1_verdictOn, Cond.code yX1_verdictOn cX1_verdictOn 3 (some .int), Cond.fieldLink RX1 44 "PointTrees" "bounds" "LPointTrees$Boxes;", Cond.static yX0_within, Cond.code yX0_within cX0_within 6 (some .boolean), Cond.methodLink RX0 19 yX0_at, Cond.instanceMethod yX0_at, Cond.selects RX0 yX0_at yX0_at, Cond.code yX0_at cX0_at 4 (some .int), Cond.static yX0_meet]
def wsX1_range_r3 : List Cond := [Cond.code yX0_meet cX0_meet 6 (some .boolean), Cond.methodLink RX1 186 yX1_findAllOf, Cond.instanceMethod yX1_findAllOf, Cond.selects RX1 yX1_findAllOf yX1_findAllOf, Cond.code yX1_findAllOf cX1_findAllOf 3 none, Cond.fieldLink RX1 32 "PointTrees" "blockFrom" "[I", Cond.fieldLink RX1 15 "PointTrees" "isThere" "[Z", Cond.fieldLink RX1 28 "PointTrees" "order" "[I", Cond.methodLink RX1 195 yX1_markFound, Cond.instanceMethod yX1_markFound, Cond.selects RX1 yX1_markFound yX1_markFound, Cond.code yX1_markFound cX1_markFound 2 none, Cond.methodLink RX1 104 yX1_isParted, Cond.instanceMethod yX1_isParted, Cond.selects RX1 yX1_isParted yX1_isParted, Cond.code yX1_isParted cX1_isParted 2 (some .boolean), Cond.fieldLink RX1 38 "PointTrees" "otherHalf" "[I", Cond.methodLink RX1 189 yX1_askThingsOf, Cond.instanceMethod yX1_askThingsOf, Cond.selects RX1 yX1_askThingsOf yX1_askThingsOf, Cond.code yX1_askThingsOf cX1_askThingsOf 4 none, Cond.methodLink RX1 110 yX1_askThing, Cond.instanceMethod yX1_askThing, Cond.selects RX1 yX1_askThing yX1_askThing]
def wsX1_range_r4 : List Cond := [Cond.code yX1_askThing cX1_askThing 3 none, Cond.methodLink RX1 198 yX1_isSo, Cond.instanceMethod yX1_isSo, Cond.selects RX1 yX1_isSo yX1_isSo, Cond.code yX1_isSo cX1_isSo 3 (some .boolean), Cond.fieldLink RX1 24 "PointTrees" "things" "LPointTrees$Boxes;"]
def wsX1_range : List Cond := .code yX1_range cX1_range 9 (some .int) :: ((wsX1_range_r1 ++ (wsX1_range_r2 ++ (wsX1_range_r3 ++ wsX1_range_r4))) ++ wsX10 ++ wsX00)
def wsX1_found : List Cond := .code yX1_found cX1_found 4 (some .int) :: ([.fieldLink RX1 114 "PointTrees" "foundCount" "I", .fieldLink RX1 50 "PointTrees" "isFound" "[Z"] ++ wsX10)
def wsX1_told : List Cond := .code yX1_told cX1_told 2 (some .int) :: ([.fieldLink RX1 53 "PointTrees" "toldCounts" "[I"] ++ wsX10)
def wsX1_isPlace : List Cond := .code yX1_isPlace cX1_isPlace 4 (some .boolean) :: ([.methodLink RX1 75 yX1_isBox, .instanceMethod yX1_isBox, .selects RX1 yX1_isBox yX1_isBox, .initialized RX1, .code yX1_isBox cX1_isBox 7 (some .boolean), .fieldLink RX1 9 "PointTrees" "axes" "I", .methodLink RX1 146 yX1_isSpan, .static yX1_isSpan, .code yX1_isSpan cX1_isSpan 2 (some .boolean), .constant RX1 149 (-1000000), .constant RX1 150 (1000000)] ++ wsX10)
def wsX1_isNearer : List Cond := .code yX1_isNearer cX1_isNearer 3 (some .boolean) :: ([.fieldLink RX1 56 "PointTrees" "squares" "[J"] ++ wsX10)
def wsX1_nearerThan : List Cond := .code yX1_nearerThan cX1_nearerThan 4 (some .int) :: ([.fieldLink RX1 60 "PointTrees" "made" "I", .fieldLink RX1 15 "PointTrees" "isThere" "[Z", .methodLink RX1 201 yX1_isNearer, .instanceMethod yX1_isNearer, .selects RX1 yX1_isNearer yX1_isNearer, .initialized RX1, .code yX1_isNearer cX1_isNearer 3 (some .boolean), .fieldLink RX1 56 "PointTrees" "squares" "[J"] ++ wsX10)
def wsX1_nearest_r1 : List Cond := [Cond.fieldLink RX1 63 "PointTrees" "present" "I", Cond.fieldLink RX1 60 "PointTrees" "made" "I", Cond.fieldLink RX1 56 "PointTrees" "squares" "[J", Cond.fieldLink RX1 24 "PointTrees" "things" "LPointTrees$Boxes;", Cond.fieldLink RX1 9 "PointTrees" "axes" "I", Cond.fieldLink RX1 15 "PointTrees" "isThere" "[Z", Cond.methodLink RX1 117 yX1_isPlace, Cond.instanceMethod yX1_isPlace, Cond.selects RX1 yX1_isPlace yX1_isPlace, Cond.initialized RX1, Cond.code yX1_isPlace cX1_isPlace 4 (some .boolean), Cond.methodLink RX1 75 yX1_isBox, Cond.instanceMethod yX1_isBox, Cond.selects RX1 yX1_isBox yX1_isBox, Cond.code yX1_isBox cX1_isBox 7 (some .boolean), Cond.methodLink RX1 146 yX1_isSpan, Cond.static yX1_isSpan, Cond.code yX1_isSpan cX1_isSpan 2 (some .boolean), Cond.constant RX1 149 (-1000000), Cond.constant RX1 150 (1000000), Cond.instanceMethod yX0_squareTo, Cond.initialized RX0, Cond.selects RX0 yX0_squareTo yX0_squareTo, Cond.code yX0_squareTo cX0_squareTo 8 (some .long)]
def wsX1_nearest_r2 : List Cond := [Cond.methodLink RX0 32 yX0_squareOnAxis, Cond.instanceMethod yX0_squareOnAxis, Cond.selects RX0 yX0_squareOnAxis yX0_squareOnAxis, Cond.code yX0_squareOnAxis cX0_squareOnAxis 10 (some .long), Cond.methodLink RX0 36 Lib.MathLoose.max_long.x, Cond.static Lib.MathLoose.max_long.x, Cond.initialized "java/lang/Math", Cond.code Lib.MathLoose.max_long.x Lib.MathLoose.max_long.code 4 (some .long), Cond.methodLink RX0 19 yX0_at, Cond.instanceMethod yX0_at, Cond.selects RX0 yX0_at yX0_at, Cond.code yX0_at cX0_at 4 (some .int), Cond.fieldLink RX0 11 "PointTrees$Boxes" "ends" "[I", Cond.methodLink RX1 125 yX1_nearerThan, Cond.instanceMethod yX1_nearerThan, Cond.selects RX1 yX1_nearerThan yX1_nearerThan, Cond.code yX1_nearerThan cX1_nearerThan 4 (some .int), Cond.methodLink RX1 201 yX1_isNearer, Cond.instanceMethod yX1_isNearer, Cond.selects RX1 yX1_isNearer yX1_isNearer, Cond.code yX1_isNearer cX1_isNearer 3 (some .boolean)]
def wsX1_nearest : List Cond := .code yX1_nearest cX1_nearest 6 (some .int) :: ((wsX1_nearest_r1 ++ wsX1_nearest_r2) ++ wsX10 ++ wsX00)
def wsX1_distance_r1 : List Cond := [Cond.constantLong RX1 91 (-9223372036854775808), Cond.fieldLink RX1 24 "PointTrees" "things" "LPointTrees$Boxes;", Cond.fieldLink RX1 9 "PointTrees" "axes" "I", Cond.methodLink RX1 83 yX1_hasThing, Cond.instanceMethod yX1_hasThing, Cond.selects RX1 yX1_hasThing yX1_hasThing, Cond.initialized RX1, Cond.code yX1_hasThing cX1_hasThing 2 (some .boolean), Cond.fieldLink RX1 60 "PointTrees" "made" "I", Cond.fieldLink RX1 15 "PointTrees" "isThere" "[Z", Cond.methodLink RX1 117 yX1_isPlace, Cond.instanceMethod yX1_isPlace, Cond.selects RX1 yX1_isPlace yX1_isPlace, Cond.code yX1_isPlace cX1_isPlace 4 (some .boolean), Cond.methodLink RX1 75 yX1_isBox, Cond.instanceMethod yX1_isBox, Cond.selects RX1 yX1_isBox yX1_isBox, Cond.code yX1_isBox cX1_isBox 7 (some .boolean), Cond.methodLink RX1 146 yX1_isSpan, Cond.static yX1_isSpan, Cond.code yX1_isSpan cX1_isSpan 2 (some .boolean), Cond.constant RX1 149 (-1000000), Cond.constant RX1 150 (1000000), Cond.instanceMethod yX0_squareTo]
def wsX1_distance_r2 : List Cond := [Cond.initialized RX0, Cond.selects RX0 yX0_squareTo yX0_squareTo, Cond.code yX0_squareTo cX0_squareTo 8 (some .long), Cond.methodLink RX0 32 yX0_squareOnAxis, Cond.instanceMethod yX0_squareOnAxis, Cond.selects RX0 yX0_squareOnAxis yX0_squareOnAxis, Cond.code yX0_squareOnAxis cX0_squareOnAxis 10 (some .long), Cond.methodLink RX0 36 Lib.MathLoose.max_long.x, Cond.static Lib.MathLoose.max_long.x, Cond.initialized "java/lang/Math", Cond.code Lib.MathLoose.max_long.x Lib.MathLoose.max_long.code 4 (some .long), Cond.methodLink RX0 19 yX0_at, Cond.instanceMethod yX0_at, Cond.selects RX0 yX0_at yX0_at, Cond.code yX0_at cX0_at 4 (some .int), Cond.fieldLink RX0 11 "PointTrees$Boxes" "ends" "[I"]
def wsX1_distance : List Cond := .code yX1_distance cX1_distance 5 (some .long) :: ((wsX1_distance_r1 ++ wsX1_distance_r2) ++ wsX10 ++ wsX00)
def wsX1_pairs : List Cond := .code yX1_pairs cX1_pairs 4 (some .int) :: ([.fieldLink RX1 60 "PointTrees" "made" "I", .fieldLink RX1 15 "PointTrees" "isThere" "[Z", .fieldLink RX1 24 "PointTrees" "things" "LPointTrees$Boxes;", .fieldLink RX1 9 "PointTrees" "axes" "I", .static yX0_meet, .initialized RX0, .code yX0_meet cX0_meet 6 (some .boolean), .methodLink RX0 19 yX0_at, .instanceMethod yX0_at, .selects RX0 yX0_at yX0_at, .code yX0_at cX0_at 4 (some .int), .fieldLink RX0 11 "PointTrees$Boxes" "ends" "[I"] ++ wsX10 ++ wsX00)
def wsJ9_floorDiv_f86c9 : List Cond := .code yJ9_floorDiv_f86c9 cJ9_floorDiv_f86c9 6 (some .long) :: ([])
def wsX1_day : List Cond := .code yX1_day cX1_day 5 (some .long) :: ([.classLink RX1 133 "java/lang/ArithmeticException", .initialized "java/lang/ArithmeticException", .constantLong RX1 91 (-9223372036854775808), .methodLink RX1 140 yJ9_floorDiv_f86c9, .static yJ9_floorDiv_f86c9, .initialized RJ9, .code yJ9_floorDiv_f86c9 cJ9_floorDiv_f86c9 6 (some .long)] ++ (vx_atS RX1 137 "java/lang/ArithmeticException" ["java/lang/RuntimeException", "java/lang/Exception"]).filter goodWord)
def wsX2_init : List Cond := .code yX2_init cX2_init 1 none :: ([.methodLink RX2 1 objectInit, .instanceMethod objectInit, .code objectInit ⟨#[0xb1]⟩ 1 none, .fieldLink RX2 7 "PointTreesModel" "axes" "I", .arrayClass .boolean, .fieldLink RX2 13 "PointTreesModel" "there" "[Z", .arrayClass .int, .fieldLink RX2 17 "PointTreesModel" "lows" "[I", .fieldLink RX2 21 "PointTreesModel" "highs" "[I", .fieldLink RX2 24 "PointTreesModel" "inTree" "[Z", .fieldLink RX2 27 "PointTreesModel" "row" "[I", .fieldLink RX2 30 "PointTreesModel" "froms" "[I", .fieldLink RX2 33 "PointTreesModel" "manys" "[I", .fieldLink RX2 36 "PointTreesModel" "others" "[I", .fieldLink RX2 39 "PointTreesModel" "depths" "[I", .fieldLink RX2 42 "PointTreesModel" "leasts" "[I", .fieldLink RX2 45 "PointTreesModel" "greatests" "[I", .fieldLink RX2 48 "PointTreesModel" "waitFrom" "[I", .fieldLink RX2 51 "PointTreesModel" "waitMany" "[I", .fieldLink RX2 54 "PointTreesModel" "waitDepth" "[I", .fieldLink RX2 57 "PointTreesModel" "waitOf" "[I", .fieldLink RX2 60 "PointTreesModel" "low" "[I", .fieldLink RX2 63 "PointTreesModel" "high" "[I", .fieldLink RX2 66 "PointTreesModel" "isFound" "[Z"] ++ wsX20)
def wsX2_thrown : List Cond := .code yX2_thrown cX2_thrown 1 (some .int) :: ([.fieldLink RX2 69 "PointTreesModel" "thrown" "I"] ++ wsX20)
def wsX2_isThing : List Cond := .code yX2_isThing cX2_isThing 2 (some .boolean) :: ([.fieldLink RX2 72 "PointTreesModel" "made" "I", .fieldLink RX2 13 "PointTreesModel" "there" "[Z"] ++ wsX20)
def wsX2_isPlace : List Cond := .code yX2_isPlace cX2_isPlace 1 (some .boolean) :: ([.constant RX2 75 (-1000000), .constant RX2 76 (1000000)])
def wsX2_dimensions : List Cond := .code yX2_dimensions cX2_dimensions 4 (some .int) :: ([.fieldLink RX2 69 "PointTreesModel" "thrown" "I", .fieldLink RX2 7 "PointTreesModel" "axes" "I", .fieldLink RX2 72 "PointTreesModel" "made" "I", .fieldLink RX2 77 "PointTreesModel" "blocks" "I", .fieldLink RX2 80 "PointTreesModel" "foundMany" "I", .fieldLink RX2 83 "PointTreesModel" "opened" "I", .fieldLink RX2 86 "PointTreesModel" "settled" "I", .fieldLink RX2 89 "PointTreesModel" "foundThere" "I", .fieldLink RX2 66 "PointTreesModel" "isFound" "[Z", .fieldLink RX2 24 "PointTreesModel" "inTree" "[Z", .fieldLink RX2 13 "PointTreesModel" "there" "[Z"] ++ wsX20)
def wsX2_tells : List Cond := .code yX2_tells cX2_tells 11 (some .boolean) :: ([.fieldLink RX2 7 "PointTreesModel" "axes" "I", .fieldLink RX2 60 "PointTreesModel" "low" "[I", .fieldLink RX2 63 "PointTreesModel" "high" "[I", .methodLink RX2 92 yX2_isPlace, .static yX2_isPlace, .initialized RX2, .code yX2_isPlace cX2_isPlace 1 (some .boolean), .constant RX2 75 (-1000000), .constant RX2 76 (1000000)] ++ wsX20)
def wsX2_thing : List Cond := .code yX2_thing cX2_thing 8 (some .int) :: ([.fieldLink RX2 69 "PointTreesModel" "thrown" "I", .fieldLink RX2 72 "PointTreesModel" "made" "I", .fieldLink RX2 7 "PointTreesModel" "axes" "I", .fieldLink RX2 17 "PointTreesModel" "lows" "[I", .fieldLink RX2 60 "PointTreesModel" "low" "[I", .fieldLink RX2 21 "PointTreesModel" "highs" "[I", .fieldLink RX2 63 "PointTreesModel" "high" "[I", .fieldLink RX2 13 "PointTreesModel" "there" "[Z", .fieldLink RX2 24 "PointTreesModel" "inTree" "[Z", .methodLink RX2 96 yX2_tells, .instanceMethod yX2_tells, .selects RX2 yX2_tells yX2_tells, .initialized RX2, .code yX2_tells cX2_tells 11 (some .boolean), .methodLink RX2 92 yX2_isPlace, .static yX2_isPlace, .code yX2_isPlace cX2_isPlace 1 (some .boolean), .constant RX2 75 (-1000000), .constant RX2 76 (1000000)] ++ wsX20)
def wsX2_count : List Cond := .code yX2_count cX2_count 3 (some .int) :: ([.fieldLink RX2 69 "PointTreesModel" "thrown" "I", .fieldLink RX2 72 "PointTreesModel" "made" "I", .fieldLink RX2 13 "PointTreesModel" "there" "[Z"] ++ wsX20)
def wsX2_drop : List Cond := .code yX2_drop cX2_drop 2 (some .int) :: ([.fieldLink RX2 69 "PointTreesModel" "thrown" "I", .fieldLink RX2 13 "PointTreesModel" "there" "[Z", .methodLink RX2 100 yX2_isThing, .instanceMethod yX2_isThing, .selects RX2 yX2_isThing yX2_isThing, .initialized RX2, .code yX2_isThing cX2_isThing 2 (some .boolean), .fieldLink RX2 72 "PointTreesModel" "made" "I", .methodLink RX2 103 yX2_count, .instanceMethod yX2_count, .selects RX2 yX2_count yX2_count, .code yX2_count cX2_count 3 (some .int)] ++ wsX20)
def wsX2_end : List Cond := .code yX2_end cX2_end 4 (some .long) :: ([.fieldLink RX2 69 "PointTreesModel" "thrown" "I", .fieldLink RX2 7 "PointTreesModel" "axes" "I", .constantLong RX2 107 (-9223372036854775808), .fieldLink RX2 17 "PointTreesModel" "lows" "[I", .fieldLink RX2 21 "PointTreesModel" "highs" "[I", .methodLink RX2 100 yX2_isThing, .instanceMethod yX2_isThing, .selects RX2 yX2_isThing yX2_isThing, .initialized RX2, .code yX2_isThing cX2_isThing 2 (some .boolean), .fieldLink RX2 72 "PointTreesModel" "made" "I", .fieldLink RX2 13 "PointTreesModel" "there" "[Z"] ++ wsX20)
def wsX2_sum : List Cond := .code yX2_sum cX2_sum 3 (some .int) :: ([.fieldLink RX2 17 "PointTreesModel" "lows" "[I", .fieldLink RX2 21 "PointTreesModel" "highs" "[I"] ++ wsX20)
def wsX2_await : List Cond := .code yX2_await cX2_await 5 none :: ([.fieldLink RX2 48 "PointTreesModel" "waitFrom" "[I", .fieldLink RX2 109 "PointTreesModel" "waiting" "I", .fieldLink RX2 51 "PointTreesModel" "waitMany" "[I", .fieldLink RX2 54 "PointTreesModel" "waitDepth" "[I", .fieldLink RX2 57 "PointTreesModel" "waitOf" "[I"] ++ wsX20)
def wsX2_look : List Cond := .code yX2_look cX2_look 11 (some .int) :: ([.fieldLink RX2 7 "PointTreesModel" "axes" "I", .constant RX2 76 (1000000), .constant RX2 75 (-1000000), .constant RX2 112 (2000000), .constant RX2 113 (-2000000), .fieldLink RX2 30 "PointTreesModel" "froms" "[I", .fieldLink RX2 33 "PointTreesModel" "manys" "[I", .fieldLink RX2 27 "PointTreesModel" "row" "[I", .fieldLink RX2 17 "PointTreesModel" "lows" "[I", .fieldLink RX2 21 "PointTreesModel" "highs" "[I", .fieldLink RX2 42 "PointTreesModel" "leasts" "[I", .fieldLink RX2 45 "PointTreesModel" "greatests" "[I", .methodLink RX2 114 yX2_sum, .instanceMethod yX2_sum, .selects RX2 yX2_sum yX2_sum, .initialized RX2, .code yX2_sum cX2_sum 3 (some .int)] ++ wsX20)
def wsX2_sort : List Cond := .code yX2_sort cX2_sort 7 none :: ([.fieldLink RX2 27 "PointTreesModel" "row" "[I", .methodLink RX2 114 yX2_sum, .instanceMethod yX2_sum, .selects RX2 yX2_sum yX2_sum, .initialized RX2, .code yX2_sum cX2_sum 3 (some .int), .fieldLink RX2 17 "PointTreesModel" "lows" "[I", .fieldLink RX2 21 "PointTreesModel" "highs" "[I"] ++ wsX20)
def wsX2_build_r1 : List Cond := [Cond.fieldLink RX2 69 "PointTreesModel" "thrown" "I", Cond.fieldLink RX2 72 "PointTreesModel" "made" "I", Cond.fieldLink RX2 24 "PointTreesModel" "inTree" "[Z", Cond.fieldLink RX2 13 "PointTreesModel" "there" "[Z", Cond.fieldLink RX2 27 "PointTreesModel" "row" "[I", Cond.fieldLink RX2 77 "PointTreesModel" "blocks" "I", Cond.fieldLink RX2 109 "PointTreesModel" "waiting" "I", Cond.fieldLink RX2 30 "PointTreesModel" "froms" "[I", Cond.fieldLink RX2 48 "PointTreesModel" "waitFrom" "[I", Cond.fieldLink RX2 33 "PointTreesModel" "manys" "[I", Cond.fieldLink RX2 51 "PointTreesModel" "waitMany" "[I", Cond.fieldLink RX2 39 "PointTreesModel" "depths" "[I", Cond.fieldLink RX2 54 "PointTreesModel" "waitDepth" "[I", Cond.fieldLink RX2 36 "PointTreesModel" "others" "[I", Cond.fieldLink RX2 57 "PointTreesModel" "waitOf" "[I", Cond.methodLink RX2 118 yX2_await, Cond.instanceMethod yX2_await, Cond.selects RX2 yX2_await yX2_await, Cond.initialized RX2, Cond.code yX2_await cX2_await 5 none, Cond.methodLink RX2 122 yX2_look, Cond.instanceMethod yX2_look, Cond.selects RX2 yX2_look yX2_look, Cond.code yX2_look cX2_look 11 (some .int)]
def wsX2_build_r2 : List Cond := [Cond.fieldLink RX2 7 "PointTreesModel" "axes" "I", Cond.constant RX2 76 (1000000), Cond.constant RX2 75 (-1000000), Cond.constant RX2 112 (2000000), Cond.constant RX2 113 (-2000000), Cond.fieldLink RX2 17 "PointTreesModel" "lows" "[I", Cond.fieldLink RX2 21 "PointTreesModel" "highs" "[I", Cond.fieldLink RX2 42 "PointTreesModel" "leasts" "[I", Cond.fieldLink RX2 45 "PointTreesModel" "greatests" "[I", Cond.methodLink RX2 114 yX2_sum, Cond.instanceMethod yX2_sum, Cond.selects RX2 yX2_sum yX2_sum, Cond.code yX2_sum cX2_sum 3 (some .int), Cond.methodLink RX2 126 yX2_sort, Cond.instanceMethod yX2_sort, Cond.selects RX2 yX2_sort yX2_sort, Cond.code yX2_sort cX2_sort 7 none]
def wsX2_build : List Cond := .code yX2_build cX2_build 5 (some .int) :: ((wsX2_build_r1 ++ wsX2_build_r2) ++ wsX20)
def wsX2_isBlock : List Cond := .code yX2_isBlock cX2_isBlock 2 (some .boolean) :: ([.fieldLink RX2 77 "PointTreesModel" "blocks" "I"] ++ wsX20)
def wsX2_block : List Cond := .code yX2_block cX2_block 3 (some .int) :: ([.fieldLink RX2 69 "PointTreesModel" "thrown" "I", .fieldLink RX2 33 "PointTreesModel" "manys" "[I", .fieldLink RX2 36 "PointTreesModel" "others" "[I", .fieldLink RX2 39 "PointTreesModel" "depths" "[I", .methodLink RX2 130 yX2_isBlock, .instanceMethod yX2_isBlock, .selects RX2 yX2_isBlock yX2_isBlock, .initialized RX2, .code yX2_isBlock cX2_isBlock 2 (some .boolean), .fieldLink RX2 77 "PointTreesModel" "blocks" "I"] ++ wsX20)
def wsX2_bound : List Cond := .code yX2_bound cX2_bound 4 (some .long) :: ([.fieldLink RX2 69 "PointTreesModel" "thrown" "I", .fieldLink RX2 7 "PointTreesModel" "axes" "I", .constantLong RX2 107 (-9223372036854775808), .fieldLink RX2 42 "PointTreesModel" "leasts" "[I", .fieldLink RX2 45 "PointTreesModel" "greatests" "[I", .methodLink RX2 130 yX2_isBlock, .instanceMethod yX2_isBlock, .selects RX2 yX2_isBlock yX2_isBlock, .initialized RX2, .code yX2_isBlock cX2_isBlock 2 (some .boolean), .fieldLink RX2 77 "PointTreesModel" "blocks" "I"] ++ wsX20)
def wsX2_isSo : List Cond := .code yX2_isSo cX2_isSo 9 (some .boolean) :: ([.fieldLink RX2 7 "PointTreesModel" "axes" "I", .fieldLink RX2 63 "PointTreesModel" "high" "[I", .fieldLink RX2 60 "PointTreesModel" "low" "[I"] ++ wsX20)
def wsX2_tellsOf : List Cond := .code yX2_tellsOf cX2_tellsOf 5 (some .int) :: ([.fieldLink RX2 42 "PointTreesModel" "leasts" "[I", .fieldLink RX2 45 "PointTreesModel" "greatests" "[I", .methodLink RX2 133 yX2_isSo, .instanceMethod yX2_isSo, .selects RX2 yX2_isSo yX2_isSo, .initialized RX2, .code yX2_isSo cX2_isSo 9 (some .boolean), .fieldLink RX2 7 "PointTreesModel" "axes" "I", .fieldLink RX2 63 "PointTreesModel" "high" "[I", .fieldLink RX2 60 "PointTreesModel" "low" "[I"] ++ wsX20)
def wsX2_find : List Cond := .code yX2_find cX2_find 2 none :: ([.fieldLink RX2 66 "PointTreesModel" "isFound" "[Z", .fieldLink RX2 80 "PointTreesModel" "foundMany" "I"] ++ wsX20)
def wsX2_range_r1 : List Cond := [Cond.fieldLink RX2 69 "PointTreesModel" "thrown" "I", Cond.fieldLink RX2 80 "PointTreesModel" "foundMany" "I", Cond.fieldLink RX2 83 "PointTreesModel" "opened" "I", Cond.fieldLink RX2 86 "PointTreesModel" "settled" "I", Cond.fieldLink RX2 89 "PointTreesModel" "foundThere" "I", Cond.fieldLink RX2 66 "PointTreesModel" "isFound" "[Z", Cond.fieldLink RX2 77 "PointTreesModel" "blocks" "I", Cond.fieldLink RX2 39 "PointTreesModel" "depths" "[I", Cond.fieldLink RX2 30 "PointTreesModel" "froms" "[I", Cond.fieldLink RX2 33 "PointTreesModel" "manys" "[I", Cond.fieldLink RX2 27 "PointTreesModel" "row" "[I", Cond.fieldLink RX2 13 "PointTreesModel" "there" "[Z", Cond.fieldLink RX2 17 "PointTreesModel" "lows" "[I", Cond.fieldLink RX2 21 "PointTreesModel" "highs" "[I", Cond.fieldLink RX2 72 "PointTreesModel" "made" "I", Cond.fieldLink RX2 24 "PointTreesModel" "inTree" "[Z", Cond.methodLink RX2 96 yX2_tells, Cond.instanceMethod yX2_tells, Cond.selects RX2 yX2_tells yX2_tells, Cond.initialized RX2, Cond.code yX2_tells cX2_tells 11 (some .boolean), Cond.fieldLink RX2 7 "PointTreesModel" "axes" "I", Cond.fieldLink RX2 60 "PointTreesModel" "low" "[I", Cond.fieldLink RX2 63 "PointTreesModel" "high" "[I"]
def wsX2_range_r2 : List Cond := [Cond.methodLink RX2 92 yX2_isPlace, Cond.static yX2_isPlace, Cond.code yX2_isPlace cX2_isPlace 1 (some .boolean), Cond.constant RX2 75 (-1000000), Cond.constant RX2 76 (1000000), Cond.methodLink RX2 137 yX2_tellsOf, Cond.instanceMethod yX2_tellsOf, Cond.selects RX2 yX2_tellsOf yX2_tellsOf, Cond.code yX2_tellsOf cX2_tellsOf 5 (some .int), Cond.fieldLink RX2 42 "PointTreesModel" "leasts" "[I", Cond.fieldLink RX2 45 "PointTreesModel" "greatests" "[I", Cond.methodLink RX2 133 yX2_isSo, Cond.instanceMethod yX2_isSo, Cond.selects RX2 yX2_isSo yX2_isSo, Cond.code yX2_isSo cX2_isSo 9 (some .boolean), Cond.methodLink RX2 140 yX2_find, Cond.instanceMethod yX2_find, Cond.selects RX2 yX2_find yX2_find, Cond.code yX2_find cX2_find 2 none]
def wsX2_range : List Cond := .code yX2_range cX2_range 13 (some .int) :: ((wsX2_range_r1 ++ wsX2_range_r2) ++ wsX20)
def wsX2_found : List Cond := .code yX2_found cX2_found 4 (some .int) :: ([.fieldLink RX2 69 "PointTreesModel" "thrown" "I", .fieldLink RX2 66 "PointTreesModel" "isFound" "[Z"] ++ wsX20)
def wsX2_told : List Cond := .code yX2_told cX2_told 2 (some .int) :: ([.fieldLink RX2 69 "PointTreesModel" "thrown" "I", .fieldLink RX2 83 "PointTreesModel" "opened" "I", .fieldLink RX2 86 "PointTreesModel" "settled" "I", .fieldLink RX2 89 "PointTreesModel" "foundThere" "I"] ++ wsX20)
def wsX2_isAt : List Cond := .code yX2_isAt cX2_isAt 4 (some .boolean) :: ([.fieldLink RX2 7 "PointTreesModel" "axes" "I", .methodLink RX2 92 yX2_isPlace, .static yX2_isPlace, .initialized RX2, .code yX2_isPlace cX2_isPlace 1 (some .boolean), .constant RX2 75 (-1000000), .constant RX2 76 (1000000)] ++ wsX20)
def wsX2_square : List Cond := .code yX2_square cX2_square 12 (some .long) :: ([.fieldLink RX2 7 "PointTreesModel" "axes" "I", .fieldLink RX2 17 "PointTreesModel" "lows" "[I", .fieldLink RX2 21 "PointTreesModel" "highs" "[I"] ++ wsX20)
def wsX2_nearest : List Cond := .code yX2_nearest cX2_nearest 9 (some .int) :: ([.fieldLink RX2 69 "PointTreesModel" "thrown" "I", .fieldLink RX2 72 "PointTreesModel" "made" "I", .fieldLink RX2 13 "PointTreesModel" "there" "[Z", .methodLink RX2 103 yX2_count, .instanceMethod yX2_count, .selects RX2 yX2_count yX2_count, .initialized RX2, .code yX2_count cX2_count 3 (some .int), .methodLink RX2 144 yX2_isAt, .instanceMethod yX2_isAt, .selects RX2 yX2_isAt yX2_isAt, .code yX2_isAt cX2_isAt 4 (some .boolean), .fieldLink RX2 7 "PointTreesModel" "axes" "I", .methodLink RX2 92 yX2_isPlace, .static yX2_isPlace, .code yX2_isPlace cX2_isPlace 1 (some .boolean), .constant RX2 75 (-1000000), .constant RX2 76 (1000000), .methodLink RX2 148 yX2_square, .instanceMethod yX2_square, .selects RX2 yX2_square yX2_square, .code yX2_square cX2_square 12 (some .long), .fieldLink RX2 17 "PointTreesModel" "lows" "[I", .fieldLink RX2 21 "PointTreesModel" "highs" "[I"] ++ wsX20)
def wsX2_distance_r1 : List Cond := [Cond.fieldLink RX2 69 "PointTreesModel" "thrown" "I", Cond.constantLong RX2 107 (-9223372036854775808), Cond.methodLink RX2 100 yX2_isThing, Cond.instanceMethod yX2_isThing, Cond.selects RX2 yX2_isThing yX2_isThing, Cond.initialized RX2, Cond.code yX2_isThing cX2_isThing 2 (some .boolean), Cond.fieldLink RX2 72 "PointTreesModel" "made" "I", Cond.fieldLink RX2 13 "PointTreesModel" "there" "[Z", Cond.methodLink RX2 144 yX2_isAt, Cond.instanceMethod yX2_isAt, Cond.selects RX2 yX2_isAt yX2_isAt, Cond.code yX2_isAt cX2_isAt 4 (some .boolean), Cond.fieldLink RX2 7 "PointTreesModel" "axes" "I", Cond.methodLink RX2 92 yX2_isPlace, Cond.static yX2_isPlace, Cond.code yX2_isPlace cX2_isPlace 1 (some .boolean), Cond.constant RX2 75 (-1000000), Cond.constant RX2 76 (1000000), Cond.methodLink RX2 148 yX2_square, Cond.instanceMethod yX2_square, Cond.selects RX2 yX2_square yX2_square, Cond.code yX2_square cX2_square 12 (some .long), Cond.fieldLink RX2 17 "PointTreesModel" "lows" "[I"]
def wsX2_distance_r2 : List Cond := [Cond.fieldLink RX2 21 "PointTreesModel" "highs" "[I"]
def wsX2_distance : List Cond := .code yX2_distance cX2_distance 5 (some .long) :: ((wsX2_distance_r1 ++ wsX2_distance_r2) ++ wsX20)
def wsX2_pairs : List Cond := .code yX2_pairs cX2_pairs 6 (some .int) :: ([.fieldLink RX2 69 "PointTreesModel" "thrown" "I", .fieldLink RX2 72 "PointTreesModel" "made" "I", .fieldLink RX2 13 "PointTreesModel" "there" "[Z", .fieldLink RX2 7 "PointTreesModel" "axes" "I", .fieldLink RX2 17 "PointTreesModel" "lows" "[I", .fieldLink RX2 21 "PointTreesModel" "highs" "[I"] ++ wsX20)
def wsX2_day : List Cond := .code yX2_day cX2_day 7 (some .long) :: ([.fieldLink RX2 69 "PointTreesModel" "thrown" "I", .constantLong RX2 107 (-9223372036854775808)] ++ wsX20)
def wsJ9_max_7cf53 : List Cond := .code yJ9_max_7cf53 cJ9_max_7cf53 2 (some .int) :: ([])
def wsJ9_max_f86c9 : List Cond := .code yJ9_max_f86c9 cJ9_max_f86c9 4 (some .long) :: ([])
def wsJ9_min_7cf53 : List Cond := .code yJ9_min_7cf53 cJ9_min_7cf53 2 (some .int) :: ([])
theorem dX0_init_0 : decode cX0_init 0 = .ok (.aload_n 0, 1) := by decide +kernel
theorem dX0_init_1 : decode cX0_init 1 = .ok (.invokespecial 5, 3) := by decide +kernel
theorem dX0_init_4 : decode cX0_init 4 = .ok (.aload_n 0, 1) := by decide +kernel
theorem dX0_init_5 : decode cX0_init 5 = .ok (.iload_n 1, 1) := by decide +kernel
theorem dX0_init_6 : decode cX0_init 6 = .ok (.ifCond .le 10, 3) := by decide +kernel
theorem dX0_init_9 : decode cX0_init 9 = .ok (.iload_n 1, 1) := by decide +kernel
theorem dX0_init_10 : decode cX0_init 10 = .ok (.bipush 6, 2) := by decide +kernel
theorem dX0_init_12 : decode cX0_init 12 = .ok (.imul, 1) := by decide +kernel
theorem dX0_init_13 : decode cX0_init 13 = .ok (.goto 4, 3) := by decide +kernel
theorem dX0_init_16 : decode cX0_init 16 = .ok (.iconst 0, 1) := by decide +kernel
theorem dX0_init_17 : decode cX0_init 17 = .ok (.newarray .int, 2) := by decide +kernel
theorem dX0_init_19 : decode cX0_init 19 = .ok (.putfield 11, 3) := by decide +kernel
theorem dX0_init_22 : decode cX0_init 22 = .ok (.return_, 1) := by decide +kernel
theorem dX0_at_0 : decode cX0_at 0 = .ok (.aload_n 0, 1) := by decide +kernel
theorem dX0_at_1 : decode cX0_at 1 = .ok (.getfield 11, 3) := by decide +kernel
theorem dX0_at_4 : decode cX0_at 4 = .ok (.iload_n 1, 1) := by decide +kernel
theorem dX0_at_5 : decode cX0_at 5 = .ok (.bipush 6, 2) := by decide +kernel
theorem dX0_at_7 : decode cX0_at 7 = .ok (.imul, 1) := by decide +kernel
theorem dX0_at_8 : decode cX0_at 8 = .ok (.iload_n 2, 1) := by decide +kernel
theorem dX0_at_9 : decode cX0_at 9 = .ok (.iconst 2, 1) := by decide +kernel
theorem dX0_at_10 : decode cX0_at 10 = .ok (.imul, 1) := by decide +kernel
theorem dX0_at_11 : decode cX0_at 11 = .ok (.iadd, 1) := by decide +kernel
theorem dX0_at_12 : decode cX0_at 12 = .ok (.iload_n 3, 1) := by decide +kernel
theorem dX0_at_13 : decode cX0_at 13 = .ok (.iadd, 1) := by decide +kernel
theorem dX0_at_14 : decode cX0_at 14 = .ok (.iaload, 1) := by decide +kernel
theorem dX0_at_15 : decode cX0_at 15 = .ok (.ireturn, 1) := by decide +kernel
set_option maxRecDepth 20000 in
theorem ggX0_put_X0_putSpan : GoodIn wsX0_put wsX0_putSpan := goodIn_r _ [5, 6, 7] (by decide +kernel) (by decide +kernel)
set_option maxRecDepth 20000 in
theorem gX0_put_X0_putSpan : GoodIn wsX0_put (wsV RX0 15 RX0 yX0_putSpan wsX0_putSpan) := goodIn_app (goodIn_of _ (by decide +kernel)) ggX0_put_X0_putSpan
theorem dX0_put_0 : decode cX0_put 0 = .ok (.aload_n 0, 1) := by decide +kernel
theorem dX0_put_1 : decode cX0_put 1 = .ok (.iload_n 1, 1) := by decide +kernel
theorem dX0_put_2 : decode cX0_put 2 = .ok (.iconst 0, 1) := by decide +kernel
theorem dX0_put_3 : decode cX0_put 3 = .ok (.iload_n 2, 1) := by decide +kernel
theorem dX0_put_4 : decode cX0_put 4 = .ok (.iload_n 3, 1) := by decide +kernel
theorem dX0_put_5 : decode cX0_put 5 = .ok (.invokevirtual 15, 3) := by decide +kernel
theorem dX0_put_8 : decode cX0_put 8 = .ok (.aload_n 0, 1) := by decide +kernel
theorem dX0_put_9 : decode cX0_put 9 = .ok (.iload_n 1, 1) := by decide +kernel
theorem dX0_put_10 : decode cX0_put 10 = .ok (.iconst 1, 1) := by decide +kernel
theorem dX0_put_11 : decode cX0_put 11 = .ok (.iload 4, 2) := by decide +kernel
theorem dX0_put_13 : decode cX0_put 13 = .ok (.iload 5, 2) := by decide +kernel
theorem dX0_put_15 : decode cX0_put 15 = .ok (.invokevirtual 15, 3) := by decide +kernel
theorem dX0_put_18 : decode cX0_put 18 = .ok (.aload_n 0, 1) := by decide +kernel
theorem dX0_put_19 : decode cX0_put 19 = .ok (.iload_n 1, 1) := by decide +kernel
theorem dX0_put_20 : decode cX0_put 20 = .ok (.iconst 2, 1) := by decide +kernel
theorem dX0_put_21 : decode cX0_put 21 = .ok (.iload 6, 2) := by decide +kernel
theorem dX0_put_23 : decode cX0_put 23 = .ok (.iload 7, 2) := by decide +kernel
theorem dX0_put_25 : decode cX0_put 25 = .ok (.invokevirtual 15, 3) := by decide +kernel
theorem dX0_put_28 : decode cX0_put 28 = .ok (.return_, 1) := by decide +kernel
theorem dX0_putSpan_0 : decode cX0_putSpan 0 = .ok (.aload_n 0, 1) := by decide +kernel
theorem dX0_putSpan_1 : decode cX0_putSpan 1 = .ok (.getfield 11, 3) := by decide +kernel
theorem dX0_putSpan_4 : decode cX0_putSpan 4 = .ok (.iload_n 1, 1) := by decide +kernel
theorem dX0_putSpan_5 : decode cX0_putSpan 5 = .ok (.bipush 6, 2) := by decide +kernel
theorem dX0_putSpan_7 : decode cX0_putSpan 7 = .ok (.imul, 1) := by decide +kernel
theorem dX0_putSpan_8 : decode cX0_putSpan 8 = .ok (.iload_n 2, 1) := by decide +kernel
theorem dX0_putSpan_9 : decode cX0_putSpan 9 = .ok (.iconst 2, 1) := by decide +kernel
theorem dX0_putSpan_10 : decode cX0_putSpan 10 = .ok (.imul, 1) := by decide +kernel
theorem dX0_putSpan_11 : decode cX0_putSpan 11 = .ok (.iadd, 1) := by decide +kernel
theorem dX0_putSpan_12 : decode cX0_putSpan 12 = .ok (.iconst 0, 1) := by decide +kernel
theorem dX0_putSpan_13 : decode cX0_putSpan 13 = .ok (.iadd, 1) := by decide +kernel
theorem dX0_putSpan_14 : decode cX0_putSpan 14 = .ok (.iload_n 3, 1) := by decide +kernel
theorem dX0_putSpan_15 : decode cX0_putSpan 15 = .ok (.iastore, 1) := by decide +kernel
theorem dX0_putSpan_16 : decode cX0_putSpan 16 = .ok (.aload_n 0, 1) := by decide +kernel
theorem dX0_putSpan_17 : decode cX0_putSpan 17 = .ok (.getfield 11, 3) := by decide +kernel
theorem dX0_putSpan_20 : decode cX0_putSpan 20 = .ok (.iload_n 1, 1) := by decide +kernel
theorem dX0_putSpan_21 : decode cX0_putSpan 21 = .ok (.bipush 6, 2) := by decide +kernel
theorem dX0_putSpan_23 : decode cX0_putSpan 23 = .ok (.imul, 1) := by decide +kernel
theorem dX0_putSpan_24 : decode cX0_putSpan 24 = .ok (.iload_n 2, 1) := by decide +kernel
theorem dX0_putSpan_25 : decode cX0_putSpan 25 = .ok (.iconst 2, 1) := by decide +kernel
theorem dX0_putSpan_26 : decode cX0_putSpan 26 = .ok (.imul, 1) := by decide +kernel
theorem dX0_putSpan_27 : decode cX0_putSpan 27 = .ok (.iadd, 1) := by decide +kernel
theorem dX0_putSpan_28 : decode cX0_putSpan 28 = .ok (.iconst 1, 1) := by decide +kernel
theorem dX0_putSpan_29 : decode cX0_putSpan 29 = .ok (.iadd, 1) := by decide +kernel
theorem dX0_putSpan_30 : decode cX0_putSpan 30 = .ok (.iload 4, 2) := by decide +kernel
theorem dX0_putSpan_32 : decode cX0_putSpan 32 = .ok (.iastore, 1) := by decide +kernel
theorem dX0_putSpan_33 : decode cX0_putSpan 33 = .ok (.return_, 1) := by decide +kernel
set_option maxRecDepth 20000 in
theorem ggX0_copyFrom_X0_at : GoodIn wsX0_copyFrom wsX0_at := goodIn_r _ [5, 6, 11] (by decide +kernel) (by decide +kernel)
set_option maxRecDepth 20000 in
theorem gX0_copyFrom_X0_at : GoodIn wsX0_copyFrom (wsV RX0 19 RX0 yX0_at wsX0_at) := goodIn_app (goodIn_of _ (by decide +kernel)) ggX0_copyFrom_X0_at
set_option maxRecDepth 20000 in
theorem ggX0_copyFrom_X0_putSpan : GoodIn wsX0_copyFrom wsX0_putSpan := goodIn_r _ [10, 6, 11] (by decide +kernel) (by decide +kernel)
set_option maxRecDepth 20000 in
theorem gX0_copyFrom_X0_putSpan : GoodIn wsX0_copyFrom (wsV RX0 15 RX0 yX0_putSpan wsX0_putSpan) := goodIn_app (goodIn_of _ (by decide +kernel)) ggX0_copyFrom_X0_putSpan
theorem dX0_copyFrom_0 : decode cX0_copyFrom 0 = .ok (.iconst 0, 1) := by decide +kernel
theorem dX0_copyFrom_1 : decode cX0_copyFrom 1 = .ok (.istore 4, 2) := by decide +kernel
theorem dX0_copyFrom_3 : decode cX0_copyFrom 3 = .ok (.iload 4, 2) := by decide +kernel
theorem dX0_copyFrom_5 : decode cX0_copyFrom 5 = .ok (.iconst 3, 1) := by decide +kernel
theorem dX0_copyFrom_6 : decode cX0_copyFrom 6 = .ok (.if_icmp .ge 32, 3) := by decide +kernel
theorem dX0_copyFrom_9 : decode cX0_copyFrom 9 = .ok (.aload_n 0, 1) := by decide +kernel
theorem dX0_copyFrom_10 : decode cX0_copyFrom 10 = .ok (.iload_n 1, 1) := by decide +kernel
theorem dX0_copyFrom_11 : decode cX0_copyFrom 11 = .ok (.iload 4, 2) := by decide +kernel
theorem dX0_copyFrom_13 : decode cX0_copyFrom 13 = .ok (.aload_n 2, 1) := by decide +kernel
theorem dX0_copyFrom_14 : decode cX0_copyFrom 14 = .ok (.iload_n 3, 1) := by decide +kernel
theorem dX0_copyFrom_15 : decode cX0_copyFrom 15 = .ok (.iload 4, 2) := by decide +kernel
theorem dX0_copyFrom_17 : decode cX0_copyFrom 17 = .ok (.iconst 0, 1) := by decide +kernel
theorem dX0_copyFrom_18 : decode cX0_copyFrom 18 = .ok (.invokevirtual 19, 3) := by decide +kernel
theorem dX0_copyFrom_21 : decode cX0_copyFrom 21 = .ok (.aload_n 2, 1) := by decide +kernel
theorem dX0_copyFrom_22 : decode cX0_copyFrom 22 = .ok (.iload_n 3, 1) := by decide +kernel
theorem dX0_copyFrom_23 : decode cX0_copyFrom 23 = .ok (.iload 4, 2) := by decide +kernel
theorem dX0_copyFrom_25 : decode cX0_copyFrom 25 = .ok (.iconst 1, 1) := by decide +kernel
theorem dX0_copyFrom_26 : decode cX0_copyFrom 26 = .ok (.invokevirtual 19, 3) := by decide +kernel
theorem dX0_copyFrom_29 : decode cX0_copyFrom 29 = .ok (.invokevirtual 15, 3) := by decide +kernel
theorem dX0_copyFrom_32 : decode cX0_copyFrom 32 = .ok (.iinc 4 1, 3) := by decide +kernel
theorem dX0_copyFrom_35 : decode cX0_copyFrom 35 = .ok (.goto (-32), 3) := by decide +kernel
theorem dX0_copyFrom_38 : decode cX0_copyFrom 38 = .ok (.return_, 1) := by decide +kernel
set_option maxRecDepth 20000 in
theorem ggX0_widen_X0_at : GoodIn wsX0_widen wsX0_at := goodIn_r _ [12, 13, 18] (by decide +kernel) (by decide +kernel)
set_option maxRecDepth 20000 in
theorem gX0_widen_X0_at : GoodIn wsX0_widen (wsV RX0 19 RX0 yX0_at wsX0_at) := goodIn_app (goodIn_of _ (by decide +kernel)) ggX0_widen_X0_at
set_option maxRecDepth 20000 in
theorem ggX0_widen_X0_putSpan : GoodIn wsX0_widen wsX0_putSpan := goodIn_r _ [17, 13, 18] (by decide +kernel) (by decide +kernel)
set_option maxRecDepth 20000 in
theorem gX0_widen_X0_putSpan : GoodIn wsX0_widen (wsV RX0 15 RX0 yX0_putSpan wsX0_putSpan) := goodIn_app (goodIn_of _ (by decide +kernel)) ggX0_widen_X0_putSpan
theorem dX0_widen_0 : decode cX0_widen 0 = .ok (.iconst 0, 1) := by decide +kernel
theorem dX0_widen_1 : decode cX0_widen 1 = .ok (.istore 4, 2) := by decide +kernel
theorem dX0_widen_3 : decode cX0_widen 3 = .ok (.iload 4, 2) := by decide +kernel
theorem dX0_widen_5 : decode cX0_widen 5 = .ok (.iconst 3, 1) := by decide +kernel
theorem dX0_widen_6 : decode cX0_widen 6 = .ok (.if_icmp .ge 62, 3) := by decide +kernel
theorem dX0_widen_9 : decode cX0_widen 9 = .ok (.aload_n 0, 1) := by decide +kernel
theorem dX0_widen_10 : decode cX0_widen 10 = .ok (.iload_n 1, 1) := by decide +kernel
theorem dX0_widen_11 : decode cX0_widen 11 = .ok (.iload 4, 2) := by decide +kernel
theorem dX0_widen_13 : decode cX0_widen 13 = .ok (.iconst 0, 1) := by decide +kernel
theorem dX0_widen_14 : decode cX0_widen 14 = .ok (.invokevirtual 19, 3) := by decide +kernel
theorem dX0_widen_17 : decode cX0_widen 17 = .ok (.aload_n 2, 1) := by decide +kernel
theorem dX0_widen_18 : decode cX0_widen 18 = .ok (.iload_n 3, 1) := by decide +kernel
theorem dX0_widen_19 : decode cX0_widen 19 = .ok (.iload 4, 2) := by decide +kernel
theorem dX0_widen_21 : decode cX0_widen 21 = .ok (.iconst 0, 1) := by decide +kernel
theorem dX0_widen_22 : decode cX0_widen 22 = .ok (.invokevirtual 19, 3) := by decide +kernel
theorem dX0_widen_25 : decode cX0_widen 25 = .ok (.invokestatic 23, 3) := by decide +kernel
theorem dX0_widen_28 : decode cX0_widen 28 = .ok (.istore 5, 2) := by decide +kernel
theorem dX0_widen_30 : decode cX0_widen 30 = .ok (.aload_n 0, 1) := by decide +kernel
theorem dX0_widen_31 : decode cX0_widen 31 = .ok (.iload_n 1, 1) := by decide +kernel
theorem dX0_widen_32 : decode cX0_widen 32 = .ok (.iload 4, 2) := by decide +kernel
theorem dX0_widen_34 : decode cX0_widen 34 = .ok (.iconst 1, 1) := by decide +kernel
theorem dX0_widen_35 : decode cX0_widen 35 = .ok (.invokevirtual 19, 3) := by decide +kernel
theorem dX0_widen_38 : decode cX0_widen 38 = .ok (.aload_n 2, 1) := by decide +kernel
theorem dX0_widen_39 : decode cX0_widen 39 = .ok (.iload_n 3, 1) := by decide +kernel
theorem dX0_widen_40 : decode cX0_widen 40 = .ok (.iload 4, 2) := by decide +kernel
theorem dX0_widen_42 : decode cX0_widen 42 = .ok (.iconst 1, 1) := by decide +kernel
theorem dX0_widen_43 : decode cX0_widen 43 = .ok (.invokevirtual 19, 3) := by decide +kernel
theorem dX0_widen_46 : decode cX0_widen 46 = .ok (.invokestatic 29, 3) := by decide +kernel
theorem dX0_widen_49 : decode cX0_widen 49 = .ok (.istore 6, 2) := by decide +kernel
theorem dX0_widen_51 : decode cX0_widen 51 = .ok (.aload_n 0, 1) := by decide +kernel
theorem dX0_widen_52 : decode cX0_widen 52 = .ok (.iload_n 1, 1) := by decide +kernel
theorem dX0_widen_53 : decode cX0_widen 53 = .ok (.iload 4, 2) := by decide +kernel
theorem dX0_widen_55 : decode cX0_widen 55 = .ok (.iload 5, 2) := by decide +kernel
theorem dX0_widen_57 : decode cX0_widen 57 = .ok (.iload 6, 2) := by decide +kernel
theorem dX0_widen_59 : decode cX0_widen 59 = .ok (.invokevirtual 15, 3) := by decide +kernel
theorem dX0_widen_62 : decode cX0_widen 62 = .ok (.iinc 4 1, 3) := by decide +kernel
theorem dX0_widen_65 : decode cX0_widen 65 = .ok (.goto (-62), 3) := by decide +kernel
theorem dX0_widen_68 : decode cX0_widen 68 = .ok (.return_, 1) := by decide +kernel
set_option maxRecDepth 20000 in
theorem ggX0_sum_X0_at : GoodIn wsX0_sum wsX0_at := goodIn_r _ [5, 6, 7] (by decide +kernel) (by decide +kernel)
set_option maxRecDepth 20000 in
theorem gX0_sum_X0_at : GoodIn wsX0_sum (wsV RX0 19 RX0 yX0_at wsX0_at) := goodIn_app (goodIn_of _ (by decide +kernel)) ggX0_sum_X0_at
theorem dX0_sum_0 : decode cX0_sum 0 = .ok (.aload_n 0, 1) := by decide +kernel
theorem dX0_sum_1 : decode cX0_sum 1 = .ok (.iload_n 1, 1) := by decide +kernel
theorem dX0_sum_2 : decode cX0_sum 2 = .ok (.iload_n 2, 1) := by decide +kernel
theorem dX0_sum_3 : decode cX0_sum 3 = .ok (.iconst 0, 1) := by decide +kernel
theorem dX0_sum_4 : decode cX0_sum 4 = .ok (.invokevirtual 19, 3) := by decide +kernel
theorem dX0_sum_7 : decode cX0_sum 7 = .ok (.aload_n 0, 1) := by decide +kernel
theorem dX0_sum_8 : decode cX0_sum 8 = .ok (.iload_n 1, 1) := by decide +kernel
theorem dX0_sum_9 : decode cX0_sum 9 = .ok (.iload_n 2, 1) := by decide +kernel
theorem dX0_sum_10 : decode cX0_sum 10 = .ok (.iconst 1, 1) := by decide +kernel
theorem dX0_sum_11 : decode cX0_sum 11 = .ok (.invokevirtual 19, 3) := by decide +kernel
theorem dX0_sum_14 : decode cX0_sum 14 = .ok (.iadd, 1) := by decide +kernel
theorem dX0_sum_15 : decode cX0_sum 15 = .ok (.ireturn, 1) := by decide +kernel
set_option maxRecDepth 20000 in
theorem ggX0_squareTo_X0_squareOnAxis : GoodIn wsX0_squareTo wsX0_squareOnAxis := goodIn_r _ [5, 6, 7, 8, 9, 10, 11, 12, 4, 13, 14, 15] (by decide +kernel) (by decide +kernel)
set_option maxRecDepth 20000 in
theorem gX0_squareTo_X0_squareOnAxis : GoodIn wsX0_squareTo (wsV RX0 32 RX0 yX0_squareOnAxis wsX0_squareOnAxis) := goodIn_app (goodIn_of _ (by decide +kernel)) ggX0_squareTo_X0_squareOnAxis
theorem dX0_squareTo_0 : decode cX0_squareTo 0 = .ok (.aload_n 0, 1) := by decide +kernel
theorem dX0_squareTo_1 : decode cX0_squareTo 1 = .ok (.iload_n 1, 1) := by decide +kernel
theorem dX0_squareTo_2 : decode cX0_squareTo 2 = .ok (.iconst 0, 1) := by decide +kernel
theorem dX0_squareTo_3 : decode cX0_squareTo 3 = .ok (.iload_n 3, 1) := by decide +kernel
theorem dX0_squareTo_4 : decode cX0_squareTo 4 = .ok (.invokevirtual 32, 3) := by decide +kernel
theorem dX0_squareTo_7 : decode cX0_squareTo 7 = .ok (.lstore 6, 2) := by decide +kernel
theorem dX0_squareTo_9 : decode cX0_squareTo 9 = .ok (.iload_n 2, 1) := by decide +kernel
theorem dX0_squareTo_10 : decode cX0_squareTo 10 = .ok (.iconst 1, 1) := by decide +kernel
theorem dX0_squareTo_11 : decode cX0_squareTo 11 = .ok (.if_icmp .le 16, 3) := by decide +kernel
theorem dX0_squareTo_14 : decode cX0_squareTo 14 = .ok (.lload 6, 2) := by decide +kernel
theorem dX0_squareTo_16 : decode cX0_squareTo 16 = .ok (.aload_n 0, 1) := by decide +kernel
theorem dX0_squareTo_17 : decode cX0_squareTo 17 = .ok (.iload_n 1, 1) := by decide +kernel
theorem dX0_squareTo_18 : decode cX0_squareTo 18 = .ok (.iconst 1, 1) := by decide +kernel
theorem dX0_squareTo_19 : decode cX0_squareTo 19 = .ok (.iload 4, 2) := by decide +kernel
theorem dX0_squareTo_21 : decode cX0_squareTo 21 = .ok (.invokevirtual 32, 3) := by decide +kernel
theorem dX0_squareTo_24 : decode cX0_squareTo 24 = .ok (.ladd, 1) := by decide +kernel
theorem dX0_squareTo_25 : decode cX0_squareTo 25 = .ok (.lstore 6, 2) := by decide +kernel
theorem dX0_squareTo_27 : decode cX0_squareTo 27 = .ok (.iload_n 2, 1) := by decide +kernel
theorem dX0_squareTo_28 : decode cX0_squareTo 28 = .ok (.iconst 2, 1) := by decide +kernel
theorem dX0_squareTo_29 : decode cX0_squareTo 29 = .ok (.if_icmp .le 16, 3) := by decide +kernel
theorem dX0_squareTo_32 : decode cX0_squareTo 32 = .ok (.lload 6, 2) := by decide +kernel
theorem dX0_squareTo_34 : decode cX0_squareTo 34 = .ok (.aload_n 0, 1) := by decide +kernel
theorem dX0_squareTo_35 : decode cX0_squareTo 35 = .ok (.iload_n 1, 1) := by decide +kernel
theorem dX0_squareTo_36 : decode cX0_squareTo 36 = .ok (.iconst 2, 1) := by decide +kernel
theorem dX0_squareTo_37 : decode cX0_squareTo 37 = .ok (.iload 5, 2) := by decide +kernel
theorem dX0_squareTo_39 : decode cX0_squareTo 39 = .ok (.invokevirtual 32, 3) := by decide +kernel
theorem dX0_squareTo_42 : decode cX0_squareTo 42 = .ok (.ladd, 1) := by decide +kernel
theorem dX0_squareTo_43 : decode cX0_squareTo 43 = .ok (.lstore 6, 2) := by decide +kernel
theorem dX0_squareTo_45 : decode cX0_squareTo 45 = .ok (.lload 6, 2) := by decide +kernel
theorem dX0_squareTo_47 : decode cX0_squareTo 47 = .ok (.lreturn, 1) := by decide +kernel
set_option maxRecDepth 20000 in
theorem ggX0_squareOnAxis_X0_at : GoodIn wsX0_squareOnAxis wsX0_at := goodIn_r _ [9, 10, 11] (by decide +kernel) (by decide +kernel)
set_option maxRecDepth 20000 in
theorem gX0_squareOnAxis_X0_at : GoodIn wsX0_squareOnAxis (wsV RX0 19 RX0 yX0_at wsX0_at) := goodIn_app (goodIn_of _ (by decide +kernel)) ggX0_squareOnAxis_X0_at
theorem dX0_squareOnAxis_0 : decode cX0_squareOnAxis 0 = .ok (.aload_n 0, 1) := by decide +kernel
theorem dX0_squareOnAxis_1 : decode cX0_squareOnAxis 1 = .ok (.iload_n 1, 1) := by decide +kernel
theorem dX0_squareOnAxis_2 : decode cX0_squareOnAxis 2 = .ok (.iload_n 2, 1) := by decide +kernel
theorem dX0_squareOnAxis_3 : decode cX0_squareOnAxis 3 = .ok (.iconst 0, 1) := by decide +kernel
theorem dX0_squareOnAxis_4 : decode cX0_squareOnAxis 4 = .ok (.invokevirtual 19, 3) := by decide +kernel
theorem dX0_squareOnAxis_7 : decode cX0_squareOnAxis 7 = .ok (.i2l, 1) := by decide +kernel
theorem dX0_squareOnAxis_8 : decode cX0_squareOnAxis 8 = .ok (.iload_n 3, 1) := by decide +kernel
theorem dX0_squareOnAxis_9 : decode cX0_squareOnAxis 9 = .ok (.i2l, 1) := by decide +kernel
theorem dX0_squareOnAxis_10 : decode cX0_squareOnAxis 10 = .ok (.lsub, 1) := by decide +kernel
theorem dX0_squareOnAxis_11 : decode cX0_squareOnAxis 11 = .ok (.lstore 4, 2) := by decide +kernel
theorem dX0_squareOnAxis_13 : decode cX0_squareOnAxis 13 = .ok (.iload_n 3, 1) := by decide +kernel
theorem dX0_squareOnAxis_14 : decode cX0_squareOnAxis 14 = .ok (.i2l, 1) := by decide +kernel
theorem dX0_squareOnAxis_15 : decode cX0_squareOnAxis 15 = .ok (.aload_n 0, 1) := by decide +kernel
theorem dX0_squareOnAxis_16 : decode cX0_squareOnAxis 16 = .ok (.iload_n 1, 1) := by decide +kernel
theorem dX0_squareOnAxis_17 : decode cX0_squareOnAxis 17 = .ok (.iload_n 2, 1) := by decide +kernel
theorem dX0_squareOnAxis_18 : decode cX0_squareOnAxis 18 = .ok (.iconst 1, 1) := by decide +kernel
theorem dX0_squareOnAxis_19 : decode cX0_squareOnAxis 19 = .ok (.invokevirtual 19, 3) := by decide +kernel
theorem dX0_squareOnAxis_22 : decode cX0_squareOnAxis 22 = .ok (.i2l, 1) := by decide +kernel
theorem dX0_squareOnAxis_23 : decode cX0_squareOnAxis 23 = .ok (.lsub, 1) := by decide +kernel
theorem dX0_squareOnAxis_24 : decode cX0_squareOnAxis 24 = .ok (.lstore 6, 2) := by decide +kernel
theorem dX0_squareOnAxis_26 : decode cX0_squareOnAxis 26 = .ok (.lconst 0, 1) := by decide +kernel
theorem dX0_squareOnAxis_27 : decode cX0_squareOnAxis 27 = .ok (.lload 4, 2) := by decide +kernel
theorem dX0_squareOnAxis_29 : decode cX0_squareOnAxis 29 = .ok (.lload 6, 2) := by decide +kernel
theorem dX0_squareOnAxis_31 : decode cX0_squareOnAxis 31 = .ok (.invokestatic 36, 3) := by decide +kernel
theorem dX0_squareOnAxis_34 : decode cX0_squareOnAxis 34 = .ok (.invokestatic 36, 3) := by decide +kernel
theorem dX0_squareOnAxis_37 : decode cX0_squareOnAxis 37 = .ok (.lstore 8, 2) := by decide +kernel
theorem dX0_squareOnAxis_39 : decode cX0_squareOnAxis 39 = .ok (.lload 8, 2) := by decide +kernel
theorem dX0_squareOnAxis_41 : decode cX0_squareOnAxis 41 = .ok (.lload 8, 2) := by decide +kernel
theorem dX0_squareOnAxis_43 : decode cX0_squareOnAxis 43 = .ok (.lmul, 1) := by decide +kernel
theorem dX0_squareOnAxis_44 : decode cX0_squareOnAxis 44 = .ok (.lreturn, 1) := by decide +kernel
set_option maxRecDepth 20000 in
theorem ggX0_meet_X0_at : GoodIn wsX0_meet wsX0_at := goodIn_r _ [5, 6, 7] (by decide +kernel) (by decide +kernel)
set_option maxRecDepth 20000 in
theorem gX0_meet_X0_at : GoodIn wsX0_meet (wsV RX0 19 RX0 yX0_at wsX0_at) := goodIn_app (goodIn_of _ (by decide +kernel)) ggX0_meet_X0_at
theorem dX0_meet_0 : decode cX0_meet 0 = .ok (.iconst 0, 1) := by decide +kernel
theorem dX0_meet_1 : decode cX0_meet 1 = .ok (.istore 5, 2) := by decide +kernel
theorem dX0_meet_3 : decode cX0_meet 3 = .ok (.iload 5, 2) := by decide +kernel
theorem dX0_meet_5 : decode cX0_meet 5 = .ok (.iload 4, 2) := by decide +kernel
theorem dX0_meet_7 : decode cX0_meet 7 = .ok (.if_icmp .ge 49, 3) := by decide +kernel
theorem dX0_meet_10 : decode cX0_meet 10 = .ok (.aload_n 0, 1) := by decide +kernel
theorem dX0_meet_11 : decode cX0_meet 11 = .ok (.iload_n 1, 1) := by decide +kernel
theorem dX0_meet_12 : decode cX0_meet 12 = .ok (.iload 5, 2) := by decide +kernel
theorem dX0_meet_14 : decode cX0_meet 14 = .ok (.iconst 0, 1) := by decide +kernel
theorem dX0_meet_15 : decode cX0_meet 15 = .ok (.invokevirtual 19, 3) := by decide +kernel
theorem dX0_meet_18 : decode cX0_meet 18 = .ok (.aload_n 2, 1) := by decide +kernel
theorem dX0_meet_19 : decode cX0_meet 19 = .ok (.iload_n 3, 1) := by decide +kernel
theorem dX0_meet_20 : decode cX0_meet 20 = .ok (.iload 5, 2) := by decide +kernel
theorem dX0_meet_22 : decode cX0_meet 22 = .ok (.iconst 1, 1) := by decide +kernel
theorem dX0_meet_23 : decode cX0_meet 23 = .ok (.invokevirtual 19, 3) := by decide +kernel
theorem dX0_meet_26 : decode cX0_meet 26 = .ok (.if_icmp .gt 22, 3) := by decide +kernel
theorem dX0_meet_29 : decode cX0_meet 29 = .ok (.aload_n 2, 1) := by decide +kernel
theorem dX0_meet_30 : decode cX0_meet 30 = .ok (.iload_n 3, 1) := by decide +kernel
theorem dX0_meet_31 : decode cX0_meet 31 = .ok (.iload 5, 2) := by decide +kernel
theorem dX0_meet_33 : decode cX0_meet 33 = .ok (.iconst 0, 1) := by decide +kernel
theorem dX0_meet_34 : decode cX0_meet 34 = .ok (.invokevirtual 19, 3) := by decide +kernel
theorem dX0_meet_37 : decode cX0_meet 37 = .ok (.aload_n 0, 1) := by decide +kernel
theorem dX0_meet_38 : decode cX0_meet 38 = .ok (.iload_n 1, 1) := by decide +kernel
theorem dX0_meet_39 : decode cX0_meet 39 = .ok (.iload 5, 2) := by decide +kernel
theorem dX0_meet_41 : decode cX0_meet 41 = .ok (.iconst 1, 1) := by decide +kernel
theorem dX0_meet_42 : decode cX0_meet 42 = .ok (.invokevirtual 19, 3) := by decide +kernel
theorem dX0_meet_45 : decode cX0_meet 45 = .ok (.if_icmp .le 5, 3) := by decide +kernel
theorem dX0_meet_48 : decode cX0_meet 48 = .ok (.iconst 0, 1) := by decide +kernel
theorem dX0_meet_49 : decode cX0_meet 49 = .ok (.ireturn, 1) := by decide +kernel
theorem dX0_meet_50 : decode cX0_meet 50 = .ok (.iinc 5 1, 3) := by decide +kernel
theorem dX0_meet_53 : decode cX0_meet 53 = .ok (.goto (-50), 3) := by decide +kernel
theorem dX0_meet_56 : decode cX0_meet 56 = .ok (.iconst 1, 1) := by decide +kernel
theorem dX0_meet_57 : decode cX0_meet 57 = .ok (.ireturn, 1) := by decide +kernel
set_option maxRecDepth 20000 in
theorem ggX0_within_X0_at : GoodIn wsX0_within wsX0_at := goodIn_r _ [5, 6, 7] (by decide +kernel) (by decide +kernel)
set_option maxRecDepth 20000 in
theorem gX0_within_X0_at : GoodIn wsX0_within (wsV RX0 19 RX0 yX0_at wsX0_at) := goodIn_app (goodIn_of _ (by decide +kernel)) ggX0_within_X0_at
theorem dX0_within_0 : decode cX0_within 0 = .ok (.iconst 0, 1) := by decide +kernel
theorem dX0_within_1 : decode cX0_within 1 = .ok (.istore 5, 2) := by decide +kernel
theorem dX0_within_3 : decode cX0_within 3 = .ok (.iload 5, 2) := by decide +kernel
theorem dX0_within_5 : decode cX0_within 5 = .ok (.iload 4, 2) := by decide +kernel
theorem dX0_within_7 : decode cX0_within 7 = .ok (.if_icmp .ge 49, 3) := by decide +kernel
theorem dX0_within_10 : decode cX0_within 10 = .ok (.aload_n 0, 1) := by decide +kernel
theorem dX0_within_11 : decode cX0_within 11 = .ok (.iload_n 1, 1) := by decide +kernel
theorem dX0_within_12 : decode cX0_within 12 = .ok (.iload 5, 2) := by decide +kernel
theorem dX0_within_14 : decode cX0_within 14 = .ok (.iconst 0, 1) := by decide +kernel
theorem dX0_within_15 : decode cX0_within 15 = .ok (.invokevirtual 19, 3) := by decide +kernel
theorem dX0_within_18 : decode cX0_within 18 = .ok (.aload_n 2, 1) := by decide +kernel
theorem dX0_within_19 : decode cX0_within 19 = .ok (.iload_n 3, 1) := by decide +kernel
theorem dX0_within_20 : decode cX0_within 20 = .ok (.iload 5, 2) := by decide +kernel
theorem dX0_within_22 : decode cX0_within 22 = .ok (.iconst 0, 1) := by decide +kernel
theorem dX0_within_23 : decode cX0_within 23 = .ok (.invokevirtual 19, 3) := by decide +kernel
theorem dX0_within_26 : decode cX0_within 26 = .ok (.if_icmp .lt 22, 3) := by decide +kernel
theorem dX0_within_29 : decode cX0_within 29 = .ok (.aload_n 0, 1) := by decide +kernel
theorem dX0_within_30 : decode cX0_within 30 = .ok (.iload_n 1, 1) := by decide +kernel
theorem dX0_within_31 : decode cX0_within 31 = .ok (.iload 5, 2) := by decide +kernel
theorem dX0_within_33 : decode cX0_within 33 = .ok (.iconst 1, 1) := by decide +kernel
theorem dX0_within_34 : decode cX0_within 34 = .ok (.invokevirtual 19, 3) := by decide +kernel
theorem dX0_within_37 : decode cX0_within 37 = .ok (.aload_n 2, 1) := by decide +kernel
theorem dX0_within_38 : decode cX0_within 38 = .ok (.iload_n 3, 1) := by decide +kernel
theorem dX0_within_39 : decode cX0_within 39 = .ok (.iload 5, 2) := by decide +kernel
theorem dX0_within_41 : decode cX0_within 41 = .ok (.iconst 1, 1) := by decide +kernel
theorem dX0_within_42 : decode cX0_within 42 = .ok (.invokevirtual 19, 3) := by decide +kernel
theorem dX0_within_45 : decode cX0_within 45 = .ok (.if_icmp .le 5, 3) := by decide +kernel
theorem dX0_within_48 : decode cX0_within 48 = .ok (.iconst 0, 1) := by decide +kernel
theorem dX0_within_49 : decode cX0_within 49 = .ok (.ireturn, 1) := by decide +kernel
theorem dX0_within_50 : decode cX0_within 50 = .ok (.iinc 5 1, 3) := by decide +kernel
theorem dX0_within_53 : decode cX0_within 53 = .ok (.goto (-50), 3) := by decide +kernel
theorem dX0_within_56 : decode cX0_within 56 = .ok (.iconst 1, 1) := by decide +kernel
theorem dX0_within_57 : decode cX0_within 57 = .ok (.ireturn, 1) := by decide +kernel
set_option maxRecDepth 20000 in
theorem ggX1_init_X0_init : GoodIn wsX1_init wsX0_init := goodIn_r _ [24, 25, 2, 3, 11, 26, 45] (by decide +kernel) (by decide +kernel)
set_option maxRecDepth 20000 in
theorem gX1_init_X0_init_n21 : GoodIn wsX1_init (wsX0_init) := ggX1_init_X0_init
theorem dX1_init_0 : decode cX1_init 0 = .ok (.aload_n 0, 1) := by decide +kernel
theorem dX1_init_1 : decode cX1_init 1 = .ok (.invokespecial 3, 3) := by decide +kernel
theorem dX1_init_4 : decode cX1_init 4 = .ok (.aload_n 0, 1) := by decide +kernel
theorem dX1_init_5 : decode cX1_init 5 = .ok (.iconst 1, 1) := by decide +kernel
theorem dX1_init_6 : decode cX1_init 6 = .ok (.putfield 9, 3) := by decide +kernel
theorem dX1_init_9 : decode cX1_init 9 = .ok (.aload_n 0, 1) := by decide +kernel
theorem dX1_init_10 : decode cX1_init 10 = .ok (.bipush 64, 2) := by decide +kernel
theorem dX1_init_12 : decode cX1_init 12 = .ok (.newarray .boolean, 2) := by decide +kernel
theorem dX1_init_14 : decode cX1_init 14 = .ok (.putfield 15, 3) := by decide +kernel
theorem dX1_init_17 : decode cX1_init 17 = .ok (.aload_n 0, 1) := by decide +kernel
theorem dX1_init_18 : decode cX1_init 18 = .ok (.new 19, 3) := by decide +kernel
theorem dX1_init_21 : decode cX1_init 21 = .ok (.dup, 1) := by decide +kernel
theorem dX1_init_22 : decode cX1_init 22 = .ok (.bipush 64, 2) := by decide +kernel
theorem dX1_init_24 : decode cX1_init 24 = .ok (.invokespecial 21, 3) := by decide +kernel
theorem dX1_init_27 : decode cX1_init 27 = .ok (.putfield 24, 3) := by decide +kernel
theorem dX1_init_30 : decode cX1_init 30 = .ok (.aload_n 0, 1) := by decide +kernel
theorem dX1_init_31 : decode cX1_init 31 = .ok (.bipush 64, 2) := by decide +kernel
theorem dX1_init_33 : decode cX1_init 33 = .ok (.newarray .int, 2) := by decide +kernel
theorem dX1_init_35 : decode cX1_init 35 = .ok (.putfield 28, 3) := by decide +kernel
theorem dX1_init_38 : decode cX1_init 38 = .ok (.aload_n 0, 1) := by decide +kernel
theorem dX1_init_39 : decode cX1_init 39 = .ok (.bipush 31, 2) := by decide +kernel
theorem dX1_init_41 : decode cX1_init 41 = .ok (.newarray .int, 2) := by decide +kernel
theorem dX1_init_43 : decode cX1_init 43 = .ok (.putfield 32, 3) := by decide +kernel
theorem dX1_init_46 : decode cX1_init 46 = .ok (.aload_n 0, 1) := by decide +kernel
theorem dX1_init_47 : decode cX1_init 47 = .ok (.bipush 31, 2) := by decide +kernel
theorem dX1_init_49 : decode cX1_init 49 = .ok (.newarray .int, 2) := by decide +kernel
theorem dX1_init_51 : decode cX1_init 51 = .ok (.putfield 35, 3) := by decide +kernel
theorem dX1_init_54 : decode cX1_init 54 = .ok (.aload_n 0, 1) := by decide +kernel
theorem dX1_init_55 : decode cX1_init 55 = .ok (.bipush 31, 2) := by decide +kernel
theorem dX1_init_57 : decode cX1_init 57 = .ok (.newarray .int, 2) := by decide +kernel
theorem dX1_init_59 : decode cX1_init 59 = .ok (.putfield 38, 3) := by decide +kernel
theorem dX1_init_62 : decode cX1_init 62 = .ok (.aload_n 0, 1) := by decide +kernel
theorem dX1_init_63 : decode cX1_init 63 = .ok (.bipush 31, 2) := by decide +kernel
theorem dX1_init_65 : decode cX1_init 65 = .ok (.newarray .int, 2) := by decide +kernel
theorem dX1_init_67 : decode cX1_init 67 = .ok (.putfield 41, 3) := by decide +kernel
theorem dX1_init_70 : decode cX1_init 70 = .ok (.aload_n 0, 1) := by decide +kernel
theorem dX1_init_71 : decode cX1_init 71 = .ok (.new 19, 3) := by decide +kernel
theorem dX1_init_74 : decode cX1_init 74 = .ok (.dup, 1) := by decide +kernel
theorem dX1_init_75 : decode cX1_init 75 = .ok (.bipush 31, 2) := by decide +kernel
theorem dX1_init_77 : decode cX1_init 77 = .ok (.invokespecial 21, 3) := by decide +kernel
theorem dX1_init_80 : decode cX1_init 80 = .ok (.putfield 44, 3) := by decide +kernel
theorem dX1_init_83 : decode cX1_init 83 = .ok (.aload_n 0, 1) := by decide +kernel
theorem dX1_init_84 : decode cX1_init 84 = .ok (.new 19, 3) := by decide +kernel
theorem dX1_init_87 : decode cX1_init 87 = .ok (.dup, 1) := by decide +kernel
theorem dX1_init_88 : decode cX1_init 88 = .ok (.iconst 1, 1) := by decide +kernel
theorem dX1_init_89 : decode cX1_init 89 = .ok (.invokespecial 21, 3) := by decide +kernel
theorem dX1_init_92 : decode cX1_init 92 = .ok (.putfield 47, 3) := by decide +kernel
theorem dX1_init_95 : decode cX1_init 95 = .ok (.aload_n 0, 1) := by decide +kernel
theorem dX1_init_96 : decode cX1_init 96 = .ok (.bipush 64, 2) := by decide +kernel
theorem dX1_init_98 : decode cX1_init 98 = .ok (.newarray .boolean, 2) := by decide +kernel
theorem dX1_init_100 : decode cX1_init 100 = .ok (.putfield 50, 3) := by decide +kernel
theorem dX1_init_103 : decode cX1_init 103 = .ok (.aload_n 0, 1) := by decide +kernel
theorem dX1_init_104 : decode cX1_init 104 = .ok (.iconst 3, 1) := by decide +kernel
theorem dX1_init_105 : decode cX1_init 105 = .ok (.newarray .int, 2) := by decide +kernel
theorem dX1_init_107 : decode cX1_init 107 = .ok (.putfield 53, 3) := by decide +kernel
theorem dX1_init_110 : decode cX1_init 110 = .ok (.aload_n 0, 1) := by decide +kernel
theorem dX1_init_111 : decode cX1_init 111 = .ok (.bipush 64, 2) := by decide +kernel
theorem dX1_init_113 : decode cX1_init 113 = .ok (.newarray .long, 2) := by decide +kernel
theorem dX1_init_115 : decode cX1_init 115 = .ok (.putfield 56, 3) := by decide +kernel
theorem dX1_init_118 : decode cX1_init 118 = .ok (.return_, 1) := by decide +kernel
set_option maxRecDepth 20000 in
theorem ggX1_dimensions_X1_forgetAsked : GoodIn wsX1_dimensions wsX1_forgetAsked := goodIn_r _ [10, 11, 12, 13, 14, 15, 16, 17, 18, 19, 20, 21, 22, 23, 24, 25, 26, 27, 28, 29, 30, 31] (by decide +kernel) (by decide +kernel)
set_option maxRecDepth 20000 in
theorem gX1_dimensions_X1_forgetAsked : GoodIn wsX1_dimensions (wsV RX1 72 RX1 yX1_forgetAsked wsX1_forgetAsked) := goodIn_app (goodIn_of _ (by decide +kernel)) ggX1_dimensions_X1_forgetAsked
theorem dX1_dimensions_0 : decode cX1_dimensions 0 = .ok (.iload_n 1, 1) := by decide +kernel
theorem dX1_dimensions_1 : decode cX1_dimensions 1 = .ok (.iconst 1, 1) := by decide +kernel
theorem dX1_dimensions_2 : decode cX1_dimensions 2 = .ok (.if_icmp .lt 8, 3) := by decide +kernel
theorem dX1_dimensions_5 : decode cX1_dimensions 5 = .ok (.iload_n 1, 1) := by decide +kernel
theorem dX1_dimensions_6 : decode cX1_dimensions 6 = .ok (.iconst 3, 1) := by decide +kernel
theorem dX1_dimensions_7 : decode cX1_dimensions 7 = .ok (.if_icmp .le 6, 3) := by decide +kernel
theorem dX1_dimensions_10 : decode cX1_dimensions 10 = .ok (.bipush (-2), 2) := by decide +kernel
theorem dX1_dimensions_12 : decode cX1_dimensions 12 = .ok (.ireturn, 1) := by decide +kernel
theorem dX1_dimensions_13 : decode cX1_dimensions 13 = .ok (.aload_n 0, 1) := by decide +kernel
theorem dX1_dimensions_14 : decode cX1_dimensions 14 = .ok (.getfield 9, 3) := by decide +kernel
theorem dX1_dimensions_17 : decode cX1_dimensions 17 = .ok (.istore_n 2, 1) := by decide +kernel
theorem dX1_dimensions_18 : decode cX1_dimensions 18 = .ok (.aload_n 0, 1) := by decide +kernel
theorem dX1_dimensions_19 : decode cX1_dimensions 19 = .ok (.iload_n 1, 1) := by decide +kernel
theorem dX1_dimensions_20 : decode cX1_dimensions 20 = .ok (.putfield 9, 3) := by decide +kernel
theorem dX1_dimensions_23 : decode cX1_dimensions 23 = .ok (.aload_n 0, 1) := by decide +kernel
theorem dX1_dimensions_24 : decode cX1_dimensions 24 = .ok (.iconst 0, 1) := by decide +kernel
theorem dX1_dimensions_25 : decode cX1_dimensions 25 = .ok (.putfield 60, 3) := by decide +kernel
theorem dX1_dimensions_28 : decode cX1_dimensions 28 = .ok (.aload_n 0, 1) := by decide +kernel
theorem dX1_dimensions_29 : decode cX1_dimensions 29 = .ok (.iconst 0, 1) := by decide +kernel
theorem dX1_dimensions_30 : decode cX1_dimensions 30 = .ok (.putfield 63, 3) := by decide +kernel
theorem dX1_dimensions_33 : decode cX1_dimensions 33 = .ok (.aload_n 0, 1) := by decide +kernel
theorem dX1_dimensions_34 : decode cX1_dimensions 34 = .ok (.iconst 0, 1) := by decide +kernel
theorem dX1_dimensions_35 : decode cX1_dimensions 35 = .ok (.putfield 66, 3) := by decide +kernel
theorem dX1_dimensions_38 : decode cX1_dimensions 38 = .ok (.aload_n 0, 1) := by decide +kernel
theorem dX1_dimensions_39 : decode cX1_dimensions 39 = .ok (.iconst 0, 1) := by decide +kernel
theorem dX1_dimensions_40 : decode cX1_dimensions 40 = .ok (.putfield 69, 3) := by decide +kernel
theorem dX1_dimensions_43 : decode cX1_dimensions 43 = .ok (.aload_n 0, 1) := by decide +kernel
theorem dX1_dimensions_44 : decode cX1_dimensions 44 = .ok (.invokevirtual 72, 3) := by decide +kernel
theorem dX1_dimensions_47 : decode cX1_dimensions 47 = .ok (.iload_n 2, 1) := by decide +kernel
theorem dX1_dimensions_48 : decode cX1_dimensions 48 = .ok (.ireturn, 1) := by decide +kernel
set_option maxRecDepth 20000 in
theorem ggX1_thing_X1_isBox : GoodIn wsX1_thing wsX1_isBox := goodIn_r _ [9, 10, 11, 12, 8, 13, 14, 15, 25, 26, 27, 28, 29, 30, 31, 32, 33, 34, 35, 36, 37, 38, 39, 40, 41, 42] (by decide +kernel) (by decide +kernel)
set_option maxRecDepth 20000 in
theorem gX1_thing_X1_isBox : GoodIn wsX1_thing (wsV RX1 75 RX1 yX1_isBox wsX1_isBox) := goodIn_app (goodIn_of _ (by decide +kernel)) ggX1_thing_X1_isBox
set_option maxRecDepth 20000 in
theorem ggX1_thing_X0_put : GoodIn wsX1_thing wsX0_put := goodIn_r _ [19, 20, 21, 22, 17, 23, 24, 43] (by decide +kernel) (by decide +kernel)
set_option maxRecDepth 20000 in
theorem gX1_thing_X0_put_n79 : GoodIn wsX1_thing (wsX0_put) := ggX1_thing_X0_put
theorem dX1_thing_0 : decode cX1_thing 0 = .ok (.aload_n 0, 1) := by decide +kernel
theorem dX1_thing_1 : decode cX1_thing 1 = .ok (.iload_n 1, 1) := by decide +kernel
theorem dX1_thing_2 : decode cX1_thing 2 = .ok (.iload_n 2, 1) := by decide +kernel
theorem dX1_thing_3 : decode cX1_thing 3 = .ok (.iload_n 3, 1) := by decide +kernel
theorem dX1_thing_4 : decode cX1_thing 4 = .ok (.iload 4, 2) := by decide +kernel
theorem dX1_thing_6 : decode cX1_thing 6 = .ok (.iload 5, 2) := by decide +kernel
theorem dX1_thing_8 : decode cX1_thing 8 = .ok (.iload 6, 2) := by decide +kernel
theorem dX1_thing_10 : decode cX1_thing 10 = .ok (.invokevirtual 75, 3) := by decide +kernel
theorem dX1_thing_13 : decode cX1_thing 13 = .ok (.ifCond .ne 6, 3) := by decide +kernel
theorem dX1_thing_16 : decode cX1_thing 16 = .ok (.bipush (-2), 2) := by decide +kernel
theorem dX1_thing_18 : decode cX1_thing 18 = .ok (.ireturn, 1) := by decide +kernel
theorem dX1_thing_19 : decode cX1_thing 19 = .ok (.aload_n 0, 1) := by decide +kernel
theorem dX1_thing_20 : decode cX1_thing 20 = .ok (.getfield 60, 3) := by decide +kernel
theorem dX1_thing_23 : decode cX1_thing 23 = .ok (.bipush 64, 2) := by decide +kernel
theorem dX1_thing_25 : decode cX1_thing 25 = .ok (.if_icmp .lt 6, 3) := by decide +kernel
theorem dX1_thing_28 : decode cX1_thing 28 = .ok (.bipush (-4), 2) := by decide +kernel
theorem dX1_thing_30 : decode cX1_thing 30 = .ok (.ireturn, 1) := by decide +kernel
theorem dX1_thing_31 : decode cX1_thing 31 = .ok (.aload_n 0, 1) := by decide +kernel
theorem dX1_thing_32 : decode cX1_thing 32 = .ok (.getfield 60, 3) := by decide +kernel
theorem dX1_thing_35 : decode cX1_thing 35 = .ok (.istore 7, 2) := by decide +kernel
theorem dX1_thing_37 : decode cX1_thing 37 = .ok (.aload_n 0, 1) := by decide +kernel
theorem dX1_thing_38 : decode cX1_thing 38 = .ok (.getfield 24, 3) := by decide +kernel
theorem dX1_thing_41 : decode cX1_thing 41 = .ok (.iload 7, 2) := by decide +kernel
theorem dX1_thing_43 : decode cX1_thing 43 = .ok (.iload_n 1, 1) := by decide +kernel
theorem dX1_thing_44 : decode cX1_thing 44 = .ok (.iload_n 2, 1) := by decide +kernel
theorem dX1_thing_45 : decode cX1_thing 45 = .ok (.iload_n 3, 1) := by decide +kernel
theorem dX1_thing_46 : decode cX1_thing 46 = .ok (.iload 4, 2) := by decide +kernel
theorem dX1_thing_48 : decode cX1_thing 48 = .ok (.iload 5, 2) := by decide +kernel
theorem dX1_thing_50 : decode cX1_thing 50 = .ok (.iload 6, 2) := by decide +kernel
theorem dX1_thing_52 : decode cX1_thing 52 = .ok (.invokevirtual 79, 3) := by decide +kernel
theorem dX1_thing_55 : decode cX1_thing 55 = .ok (.aload_n 0, 1) := by decide +kernel
theorem dX1_thing_56 : decode cX1_thing 56 = .ok (.getfield 15, 3) := by decide +kernel
theorem dX1_thing_59 : decode cX1_thing 59 = .ok (.iload 7, 2) := by decide +kernel
theorem dX1_thing_61 : decode cX1_thing 61 = .ok (.iconst 1, 1) := by decide +kernel
theorem dX1_thing_62 : decode cX1_thing 62 = .ok (.bastore, 1) := by decide +kernel
theorem dX1_thing_63 : decode cX1_thing 63 = .ok (.aload_n 0, 1) := by decide +kernel
theorem dX1_thing_64 : decode cX1_thing 64 = .ok (.dup, 1) := by decide +kernel
theorem dX1_thing_65 : decode cX1_thing 65 = .ok (.getfield 60, 3) := by decide +kernel
theorem dX1_thing_68 : decode cX1_thing 68 = .ok (.iconst 1, 1) := by decide +kernel
theorem dX1_thing_69 : decode cX1_thing 69 = .ok (.iadd, 1) := by decide +kernel
theorem dX1_thing_70 : decode cX1_thing 70 = .ok (.putfield 60, 3) := by decide +kernel
theorem dX1_thing_73 : decode cX1_thing 73 = .ok (.aload_n 0, 1) := by decide +kernel
theorem dX1_thing_74 : decode cX1_thing 74 = .ok (.dup, 1) := by decide +kernel
theorem dX1_thing_75 : decode cX1_thing 75 = .ok (.getfield 63, 3) := by decide +kernel
theorem dX1_thing_78 : decode cX1_thing 78 = .ok (.iconst 1, 1) := by decide +kernel
theorem dX1_thing_79 : decode cX1_thing 79 = .ok (.iadd, 1) := by decide +kernel
theorem dX1_thing_80 : decode cX1_thing 80 = .ok (.putfield 63, 3) := by decide +kernel
theorem dX1_thing_83 : decode cX1_thing 83 = .ok (.iload 7, 2) := by decide +kernel
theorem dX1_thing_85 : decode cX1_thing 85 = .ok (.ireturn, 1) := by decide +kernel
set_option maxRecDepth 20000 in
theorem ggX1_drop_X1_hasThing : GoodIn wsX1_drop wsX1_hasThing := goodIn_r _ [7, 8, 1, 9, 10, 11, 12, 13, 14, 15, 16, 17, 18, 19, 20, 21, 22, 23, 24, 25, 26] (by decide +kernel) (by decide +kernel)
set_option maxRecDepth 20000 in
theorem gX1_drop_X1_hasThing : GoodIn wsX1_drop (wsV RX1 83 RX1 yX1_hasThing wsX1_hasThing) := goodIn_app (goodIn_of _ (by decide +kernel)) ggX1_drop_X1_hasThing
theorem dX1_drop_0 : decode cX1_drop 0 = .ok (.aload_n 0, 1) := by decide +kernel
theorem dX1_drop_1 : decode cX1_drop 1 = .ok (.iload_n 1, 1) := by decide +kernel
theorem dX1_drop_2 : decode cX1_drop 2 = .ok (.invokevirtual 83, 3) := by decide +kernel
theorem dX1_drop_5 : decode cX1_drop 5 = .ok (.ifCond .ne 5, 3) := by decide +kernel
theorem dX1_drop_8 : decode cX1_drop 8 = .ok (.iconst (-1), 1) := by decide +kernel
theorem dX1_drop_9 : decode cX1_drop 9 = .ok (.ireturn, 1) := by decide +kernel
theorem dX1_drop_10 : decode cX1_drop 10 = .ok (.aload_n 0, 1) := by decide +kernel
theorem dX1_drop_11 : decode cX1_drop 11 = .ok (.getfield 15, 3) := by decide +kernel
theorem dX1_drop_14 : decode cX1_drop 14 = .ok (.iload_n 1, 1) := by decide +kernel
theorem dX1_drop_15 : decode cX1_drop 15 = .ok (.iconst 0, 1) := by decide +kernel
theorem dX1_drop_16 : decode cX1_drop 16 = .ok (.bastore, 1) := by decide +kernel
theorem dX1_drop_17 : decode cX1_drop 17 = .ok (.aload_n 0, 1) := by decide +kernel
theorem dX1_drop_18 : decode cX1_drop 18 = .ok (.dup, 1) := by decide +kernel
theorem dX1_drop_19 : decode cX1_drop 19 = .ok (.getfield 63, 3) := by decide +kernel
theorem dX1_drop_22 : decode cX1_drop 22 = .ok (.iconst 1, 1) := by decide +kernel
theorem dX1_drop_23 : decode cX1_drop 23 = .ok (.isub, 1) := by decide +kernel
theorem dX1_drop_24 : decode cX1_drop 24 = .ok (.putfield 63, 3) := by decide +kernel
theorem dX1_drop_27 : decode cX1_drop 27 = .ok (.aload_n 0, 1) := by decide +kernel
theorem dX1_drop_28 : decode cX1_drop 28 = .ok (.getfield 63, 3) := by decide +kernel
theorem dX1_drop_31 : decode cX1_drop 31 = .ok (.ireturn, 1) := by decide +kernel
theorem dX1_count_0 : decode cX1_count 0 = .ok (.aload_n 0, 1) := by decide +kernel
theorem dX1_count_1 : decode cX1_count 1 = .ok (.getfield 63, 3) := by decide +kernel
theorem dX1_count_4 : decode cX1_count 4 = .ok (.ireturn, 1) := by decide +kernel
set_option maxRecDepth 20000 in
theorem ggX1_end_X1_hasThing : GoodIn wsX1_end wsX1_hasThing := goodIn_r _ [7, 8, 9, 20, 21, 22, 23, 24, 25, 26, 27, 28, 29, 30, 31, 32, 33, 34, 35, 36, 37] (by decide +kernel) (by decide +kernel)
set_option maxRecDepth 20000 in
theorem gX1_end_X1_hasThing : GoodIn wsX1_end (wsV RX1 83 RX1 yX1_hasThing wsX1_hasThing) := goodIn_app (goodIn_of _ (by decide +kernel)) ggX1_end_X1_hasThing
set_option maxRecDepth 20000 in
theorem ggX1_end_X1_hasEnd : GoodIn wsX1_end wsX1_hasEnd := goodIn_r _ [13, 14, 20, 21, 22, 23, 24, 25, 26, 27, 28, 29, 30, 31, 32, 33, 34, 35, 36, 37] (by decide +kernel) (by decide +kernel)
set_option maxRecDepth 20000 in
theorem gX1_end_X1_hasEnd : GoodIn wsX1_end (wsV RX1 87 RX1 yX1_hasEnd wsX1_hasEnd) := goodIn_app (goodIn_of _ (by decide +kernel)) ggX1_end_X1_hasEnd
set_option maxRecDepth 20000 in
theorem ggX1_end_X0_at : GoodIn wsX1_end wsX0_at := goodIn_r _ [18, 19, 38] (by decide +kernel) (by decide +kernel)
set_option maxRecDepth 20000 in
theorem gX1_end_X0_at_n93 : GoodIn wsX1_end (wsX0_at) := ggX1_end_X0_at
theorem dX1_end_0 : decode cX1_end 0 = .ok (.aload_n 0, 1) := by decide +kernel
theorem dX1_end_1 : decode cX1_end 1 = .ok (.iload_n 1, 1) := by decide +kernel
theorem dX1_end_2 : decode cX1_end 2 = .ok (.invokevirtual 83, 3) := by decide +kernel
theorem dX1_end_5 : decode cX1_end 5 = .ok (.ifCond .eq 12, 3) := by decide +kernel
theorem dX1_end_8 : decode cX1_end 8 = .ok (.aload_n 0, 1) := by decide +kernel
theorem dX1_end_9 : decode cX1_end 9 = .ok (.iload_n 2, 1) := by decide +kernel
theorem dX1_end_10 : decode cX1_end 10 = .ok (.iload_n 3, 1) := by decide +kernel
theorem dX1_end_11 : decode cX1_end 11 = .ok (.invokevirtual 87, 3) := by decide +kernel
theorem dX1_end_14 : decode cX1_end 14 = .ok (.ifCond .ne 7, 3) := by decide +kernel
theorem dX1_end_17 : decode cX1_end 17 = .ok (.ldc2_w 91, 3) := by decide +kernel
theorem dX1_end_20 : decode cX1_end 20 = .ok (.lreturn, 1) := by decide +kernel
theorem dX1_end_21 : decode cX1_end 21 = .ok (.aload_n 0, 1) := by decide +kernel
theorem dX1_end_22 : decode cX1_end 22 = .ok (.getfield 24, 3) := by decide +kernel
theorem dX1_end_25 : decode cX1_end 25 = .ok (.iload_n 1, 1) := by decide +kernel
theorem dX1_end_26 : decode cX1_end 26 = .ok (.iload_n 2, 1) := by decide +kernel
theorem dX1_end_27 : decode cX1_end 27 = .ok (.iload_n 3, 1) := by decide +kernel
theorem dX1_end_28 : decode cX1_end 28 = .ok (.invokevirtual 93, 3) := by decide +kernel
theorem dX1_end_31 : decode cX1_end 31 = .ok (.i2l, 1) := by decide +kernel
theorem dX1_end_32 : decode cX1_end 32 = .ok (.lreturn, 1) := by decide +kernel
set_option maxRecDepth 20000 in
theorem ggX1_build_X1_makeBlock : GoodIn wsX1_build wsX1_makeBlock := goodIn_r _ [10, 1, 11, 12, 13, 14, 15, 16, 17, 9, 18, 19, 20, 5, 21, 22, 23, 24, 25, 26, 27, 28, 29, 30, 31, 32, 33, 34, 35, 36, 37, 38, 39, 40, 41, 42, 43, 44, 45, 46, 47, 48, 49, 50, 51, 52, 53, 54, 55, 56, 57, 58, 59, 60, 61, 62, 63, 64, 65, 6, 7, 8, 66, 67, 68, 69, 70, 71, 72, 73, 74, 75, 76, 77, 78, 79, 80, 81, 82, 83, 84] (by decide +kernel) (by decide +kernel)
set_option maxRecDepth 20000 in
theorem gX1_build_X1_makeBlock : GoodIn wsX1_build (wsV RX1 97 RX1 yX1_makeBlock wsX1_makeBlock) := goodIn_app (goodIn_of _ (by decide +kernel)) ggX1_build_X1_makeBlock
theorem dX1_build_0 : decode cX1_build 0 = .ok (.aload_n 0, 1) := by decide +kernel
theorem dX1_build_1 : decode cX1_build 1 = .ok (.iconst 0, 1) := by decide +kernel
theorem dX1_build_2 : decode cX1_build 2 = .ok (.putfield 66, 3) := by decide +kernel
theorem dX1_build_5 : decode cX1_build 5 = .ok (.aload_n 0, 1) := by decide +kernel
theorem dX1_build_6 : decode cX1_build 6 = .ok (.aload_n 0, 1) := by decide +kernel
theorem dX1_build_7 : decode cX1_build 7 = .ok (.getfield 60, 3) := by decide +kernel
theorem dX1_build_10 : decode cX1_build 10 = .ok (.putfield 69, 3) := by decide +kernel
theorem dX1_build_13 : decode cX1_build 13 = .ok (.iconst 0, 1) := by decide +kernel
theorem dX1_build_14 : decode cX1_build 14 = .ok (.istore_n 1, 1) := by decide +kernel
theorem dX1_build_15 : decode cX1_build 15 = .ok (.iconst 0, 1) := by decide +kernel
theorem dX1_build_16 : decode cX1_build 16 = .ok (.istore_n 2, 1) := by decide +kernel
theorem dX1_build_17 : decode cX1_build 17 = .ok (.iload_n 2, 1) := by decide +kernel
theorem dX1_build_18 : decode cX1_build 18 = .ok (.aload_n 0, 1) := by decide +kernel
theorem dX1_build_19 : decode cX1_build 19 = .ok (.getfield 60, 3) := by decide +kernel
theorem dX1_build_22 : decode cX1_build 22 = .ok (.if_icmp .ge 28, 3) := by decide +kernel
theorem dX1_build_25 : decode cX1_build 25 = .ok (.aload_n 0, 1) := by decide +kernel
theorem dX1_build_26 : decode cX1_build 26 = .ok (.getfield 15, 3) := by decide +kernel
theorem dX1_build_29 : decode cX1_build 29 = .ok (.iload_n 2, 1) := by decide +kernel
theorem dX1_build_30 : decode cX1_build 30 = .ok (.baload, 1) := by decide +kernel
theorem dX1_build_31 : decode cX1_build 31 = .ok (.ifCond .eq 13, 3) := by decide +kernel
theorem dX1_build_34 : decode cX1_build 34 = .ok (.aload_n 0, 1) := by decide +kernel
theorem dX1_build_35 : decode cX1_build 35 = .ok (.getfield 28, 3) := by decide +kernel
theorem dX1_build_38 : decode cX1_build 38 = .ok (.iload_n 1, 1) := by decide +kernel
theorem dX1_build_39 : decode cX1_build 39 = .ok (.iload_n 2, 1) := by decide +kernel
theorem dX1_build_40 : decode cX1_build 40 = .ok (.iastore, 1) := by decide +kernel
theorem dX1_build_41 : decode cX1_build 41 = .ok (.iinc 1 1, 3) := by decide +kernel
theorem dX1_build_44 : decode cX1_build 44 = .ok (.iinc 2 1, 3) := by decide +kernel
theorem dX1_build_47 : decode cX1_build 47 = .ok (.goto (-30), 3) := by decide +kernel
theorem dX1_build_50 : decode cX1_build 50 = .ok (.aload_n 0, 1) := by decide +kernel
theorem dX1_build_51 : decode cX1_build 51 = .ok (.iconst 0, 1) := by decide +kernel
theorem dX1_build_52 : decode cX1_build 52 = .ok (.iload_n 1, 1) := by decide +kernel
theorem dX1_build_53 : decode cX1_build 53 = .ok (.iconst 0, 1) := by decide +kernel
theorem dX1_build_54 : decode cX1_build 54 = .ok (.invokevirtual 97, 3) := by decide +kernel
theorem dX1_build_57 : decode cX1_build 57 = .ok (.aload_n 0, 1) := by decide +kernel
theorem dX1_build_58 : decode cX1_build 58 = .ok (.getfield 66, 3) := by decide +kernel
theorem dX1_build_61 : decode cX1_build 61 = .ok (.ireturn, 1) := by decide +kernel
set_option maxRecDepth 20000 in
theorem ggX1_block_X1_hasBlock : GoodIn wsX1_block wsX1_hasBlock := goodIn_r _ [9, 10, 15, 16, 17, 18, 19, 20, 21, 22, 23, 24, 25, 26, 27, 28, 29, 30, 31, 32] (by decide +kernel) (by decide +kernel)
set_option maxRecDepth 20000 in
theorem gX1_block_X1_hasBlock : GoodIn wsX1_block (wsV RX1 101 RX1 yX1_hasBlock wsX1_hasBlock) := goodIn_app (goodIn_of _ (by decide +kernel)) ggX1_block_X1_hasBlock
set_option maxRecDepth 20000 in
theorem ggX1_block_X1_isParted : GoodIn wsX1_block wsX1_isParted := goodIn_r _ [14, 3, 15, 16, 17, 18, 19, 20, 21, 22, 23, 24, 25, 26, 27, 28, 29, 30, 31, 32] (by decide +kernel) (by decide +kernel)
set_option maxRecDepth 20000 in
theorem gX1_block_X1_isParted : GoodIn wsX1_block (wsV RX1 104 RX1 yX1_isParted wsX1_isParted) := goodIn_app (goodIn_of _ (by decide +kernel)) ggX1_block_X1_isParted
theorem dX1_block_0 : decode cX1_block 0 = .ok (.aload_n 0, 1) := by decide +kernel
theorem dX1_block_1 : decode cX1_block 1 = .ok (.iload_n 1, 1) := by decide +kernel
theorem dX1_block_2 : decode cX1_block 2 = .ok (.invokevirtual 101, 3) := by decide +kernel
theorem dX1_block_5 : decode cX1_block 5 = .ok (.ifCond .ne 5, 3) := by decide +kernel
theorem dX1_block_8 : decode cX1_block 8 = .ok (.iconst (-1), 1) := by decide +kernel
theorem dX1_block_9 : decode cX1_block 9 = .ok (.ireturn, 1) := by decide +kernel
theorem dX1_block_10 : decode cX1_block 10 = .ok (.iload_n 2, 1) := by decide +kernel
theorem dX1_block_11 : decode cX1_block 11 = .ok (.tableswitch 71 0 3 #[29, 43, 57, 64], 29) := by decide +kernel
theorem dX1_block_40 : decode cX1_block 40 = .ok (.aload_n 0, 1) := by decide +kernel
theorem dX1_block_41 : decode cX1_block 41 = .ok (.iload_n 1, 1) := by decide +kernel
theorem dX1_block_42 : decode cX1_block 42 = .ok (.invokevirtual 104, 3) := by decide +kernel
theorem dX1_block_45 : decode cX1_block 45 = .ok (.ifCond .eq 7, 3) := by decide +kernel
theorem dX1_block_48 : decode cX1_block 48 = .ok (.iconst 1, 1) := by decide +kernel
theorem dX1_block_49 : decode cX1_block 49 = .ok (.goto 4, 3) := by decide +kernel
theorem dX1_block_52 : decode cX1_block 52 = .ok (.iconst 0, 1) := by decide +kernel
theorem dX1_block_53 : decode cX1_block 53 = .ok (.ireturn, 1) := by decide +kernel
theorem dX1_block_54 : decode cX1_block 54 = .ok (.aload_n 0, 1) := by decide +kernel
theorem dX1_block_55 : decode cX1_block 55 = .ok (.getfield 35, 3) := by decide +kernel
theorem dX1_block_58 : decode cX1_block 58 = .ok (.iload_n 1, 1) := by decide +kernel
theorem dX1_block_59 : decode cX1_block 59 = .ok (.iaload, 1) := by decide +kernel
theorem dX1_block_60 : decode cX1_block 60 = .ok (.aload_n 0, 1) := by decide +kernel
theorem dX1_block_61 : decode cX1_block 61 = .ok (.getfield 32, 3) := by decide +kernel
theorem dX1_block_64 : decode cX1_block 64 = .ok (.iload_n 1, 1) := by decide +kernel
theorem dX1_block_65 : decode cX1_block 65 = .ok (.iaload, 1) := by decide +kernel
theorem dX1_block_66 : decode cX1_block 66 = .ok (.isub, 1) := by decide +kernel
theorem dX1_block_67 : decode cX1_block 67 = .ok (.ireturn, 1) := by decide +kernel
theorem dX1_block_68 : decode cX1_block 68 = .ok (.aload_n 0, 1) := by decide +kernel
theorem dX1_block_69 : decode cX1_block 69 = .ok (.getfield 38, 3) := by decide +kernel
theorem dX1_block_72 : decode cX1_block 72 = .ok (.iload_n 1, 1) := by decide +kernel
theorem dX1_block_73 : decode cX1_block 73 = .ok (.iaload, 1) := by decide +kernel
theorem dX1_block_74 : decode cX1_block 74 = .ok (.ireturn, 1) := by decide +kernel
theorem dX1_block_75 : decode cX1_block 75 = .ok (.aload_n 0, 1) := by decide +kernel
theorem dX1_block_76 : decode cX1_block 76 = .ok (.getfield 41, 3) := by decide +kernel
theorem dX1_block_79 : decode cX1_block 79 = .ok (.iload_n 1, 1) := by decide +kernel
theorem dX1_block_80 : decode cX1_block 80 = .ok (.iaload, 1) := by decide +kernel
theorem dX1_block_81 : decode cX1_block 81 = .ok (.ireturn, 1) := by decide +kernel
theorem dX1_block_82 : decode cX1_block 82 = .ok (.bipush (-2), 2) := by decide +kernel
theorem dX1_block_84 : decode cX1_block 84 = .ok (.ireturn, 1) := by decide +kernel
set_option maxRecDepth 20000 in
theorem ggX1_bound_X1_hasBlock : GoodIn wsX1_bound wsX1_hasBlock := goodIn_r _ [7, 8, 19, 20, 21, 22, 23, 24, 25, 26, 27, 28, 29, 30, 31, 32, 33, 34, 35, 36] (by decide +kernel) (by decide +kernel)
set_option maxRecDepth 20000 in
theorem gX1_bound_X1_hasBlock : GoodIn wsX1_bound (wsV RX1 101 RX1 yX1_hasBlock wsX1_hasBlock) := goodIn_app (goodIn_of _ (by decide +kernel)) ggX1_bound_X1_hasBlock
set_option maxRecDepth 20000 in
theorem ggX1_bound_X1_hasEnd : GoodIn wsX1_bound wsX1_hasEnd := goodIn_r _ [12, 13, 19, 20, 21, 22, 23, 24, 25, 26, 27, 28, 29, 30, 31, 32, 33, 34, 35, 36] (by decide +kernel) (by decide +kernel)
set_option maxRecDepth 20000 in
theorem gX1_bound_X1_hasEnd : GoodIn wsX1_bound (wsV RX1 87 RX1 yX1_hasEnd wsX1_hasEnd) := goodIn_app (goodIn_of _ (by decide +kernel)) ggX1_bound_X1_hasEnd
set_option maxRecDepth 20000 in
theorem ggX1_bound_X0_at : GoodIn wsX1_bound wsX0_at := goodIn_r _ [17, 18, 37] (by decide +kernel) (by decide +kernel)
set_option maxRecDepth 20000 in
theorem gX1_bound_X0_at_n93 : GoodIn wsX1_bound (wsX0_at) := ggX1_bound_X0_at
theorem dX1_bound_0 : decode cX1_bound 0 = .ok (.aload_n 0, 1) := by decide +kernel
theorem dX1_bound_1 : decode cX1_bound 1 = .ok (.iload_n 1, 1) := by decide +kernel
theorem dX1_bound_2 : decode cX1_bound 2 = .ok (.invokevirtual 101, 3) := by decide +kernel
theorem dX1_bound_5 : decode cX1_bound 5 = .ok (.ifCond .eq 12, 3) := by decide +kernel
theorem dX1_bound_8 : decode cX1_bound 8 = .ok (.aload_n 0, 1) := by decide +kernel
theorem dX1_bound_9 : decode cX1_bound 9 = .ok (.iload_n 2, 1) := by decide +kernel
theorem dX1_bound_10 : decode cX1_bound 10 = .ok (.iload_n 3, 1) := by decide +kernel
theorem dX1_bound_11 : decode cX1_bound 11 = .ok (.invokevirtual 87, 3) := by decide +kernel
theorem dX1_bound_14 : decode cX1_bound 14 = .ok (.ifCond .ne 7, 3) := by decide +kernel
theorem dX1_bound_17 : decode cX1_bound 17 = .ok (.ldc2_w 91, 3) := by decide +kernel
theorem dX1_bound_20 : decode cX1_bound 20 = .ok (.lreturn, 1) := by decide +kernel
theorem dX1_bound_21 : decode cX1_bound 21 = .ok (.aload_n 0, 1) := by decide +kernel
theorem dX1_bound_22 : decode cX1_bound 22 = .ok (.getfield 44, 3) := by decide +kernel
theorem dX1_bound_25 : decode cX1_bound 25 = .ok (.iload_n 1, 1) := by decide +kernel
theorem dX1_bound_26 : decode cX1_bound 26 = .ok (.iload_n 2, 1) := by decide +kernel
theorem dX1_bound_27 : decode cX1_bound 27 = .ok (.iload_n 3, 1) := by decide +kernel
theorem dX1_bound_28 : decode cX1_bound 28 = .ok (.invokevirtual 93, 3) := by decide +kernel
theorem dX1_bound_31 : decode cX1_bound 31 = .ok (.i2l, 1) := by decide +kernel
theorem dX1_bound_32 : decode cX1_bound 32 = .ok (.lreturn, 1) := by decide +kernel
set_option maxRecDepth 20000 in
theorem ggX1_range_X1_isBox : GoodIn wsX1_range wsX1_isBox := goodIn_r _ [9, 10, 11, 12, 8, 13, 14, 15, 79, 80, 81, 82, 83, 84, 85, 86, 87, 88, 89, 90, 91, 92, 93, 94, 95, 96] (by decide +kernel) (by decide +kernel)
set_option maxRecDepth 20000 in
theorem gX1_range_X1_isBox : GoodIn wsX1_range (wsV RX1 75 RX1 yX1_isBox wsX1_isBox) := goodIn_app (goodIn_of _ (by decide +kernel)) ggX1_range_X1_isBox
set_option maxRecDepth 20000 in
theorem ggX1_range_X0_put : GoodIn wsX1_range wsX0_put := goodIn_r _ [19, 20, 21, 22, 17, 23, 24, 97] (by decide +kernel) (by decide +kernel)
set_option maxRecDepth 20000 in
theorem gX1_range_X0_put_n79 : GoodIn wsX1_range (wsX0_put) := ggX1_range_X0_put
set_option maxRecDepth 20000 in
theorem ggX1_range_X1_forgetAsked : GoodIn wsX1_range wsX1_forgetAsked := goodIn_r _ [28, 29, 4, 30, 79, 80, 81, 82, 83, 84, 85, 86, 87, 88, 89, 90, 91, 92, 93, 94, 95, 96] (by decide +kernel) (by decide +kernel)
set_option maxRecDepth 20000 in
theorem gX1_range_X1_forgetAsked : GoodIn wsX1_range (wsV RX1 72 RX1 yX1_forgetAsked wsX1_forgetAsked) := goodIn_app (goodIn_of _ (by decide +kernel)) ggX1_range_X1_forgetAsked
set_option maxRecDepth 20000 in
theorem ggX1_range_X1_askBlocks : GoodIn wsX1_range wsX1_askBlocks := goodIn_r _ [34, 35, 36, 30, 37, 38, 39, 8, 40, 1, 41, 10, 42, 17, 43, 44, 45, 46, 47, 24, 48, 49, 50, 51, 52, 53, 54, 55, 56, 57, 58, 59, 60, 29, 4, 61, 62, 63, 64, 65, 66, 67, 68, 69, 70, 71, 72, 73, 74, 75, 76, 77, 78, 79, 80, 81, 82, 83, 84, 85, 86, 87, 88, 89, 90, 91, 92, 93, 94, 95, 96, 97] (by decide +kernel) (by decide +kernel)
set_option maxRecDepth 20000 in
theorem gX1_range_X1_askBlocks : GoodIn wsX1_range (wsV RX1 107 RX1 yX1_askBlocks wsX1_askBlocks) := goodIn_app (goodIn_of _ (by decide +kernel)) ggX1_range_X1_askBlocks
set_option maxRecDepth 20000 in
theorem ggX1_range_X1_askThing : GoodIn wsX1_range wsX1_askThing := goodIn_r _ [73, 55, 74, 75, 76, 8, 77, 78, 1, 10, 48, 17, 49, 44, 45, 46, 47, 24, 42, 43, 57, 58, 59, 60, 29, 4, 79, 80, 81, 82, 83, 84, 85, 86, 87, 88, 89, 90, 91, 92, 93, 94, 95, 96, 97] (by decide +kernel) (by decide +kernel)
set_option maxRecDepth 20000 in
theorem gX1_range_X1_askThing : GoodIn wsX1_range (wsV RX1 110 RX1 yX1_askThing wsX1_askThing) := goodIn_app (goodIn_of _ (by decide +kernel)) ggX1_range_X1_askThing
theorem dX1_range_0 : decode cX1_range 0 = .ok (.iload_n 1, 1) := by decide +kernel
theorem dX1_range_1 : decode cX1_range 1 = .ok (.ifCond .lt 25, 3) := by decide +kernel
theorem dX1_range_4 : decode cX1_range 4 = .ok (.iload_n 1, 1) := by decide +kernel
theorem dX1_range_5 : decode cX1_range 5 = .ok (.iconst 3, 1) := by decide +kernel
theorem dX1_range_6 : decode cX1_range 6 = .ok (.if_icmp .gt 20, 3) := by decide +kernel
theorem dX1_range_9 : decode cX1_range 9 = .ok (.aload_n 0, 1) := by decide +kernel
theorem dX1_range_10 : decode cX1_range 10 = .ok (.iload_n 2, 1) := by decide +kernel
theorem dX1_range_11 : decode cX1_range 11 = .ok (.iload_n 3, 1) := by decide +kernel
theorem dX1_range_12 : decode cX1_range 12 = .ok (.iload 4, 2) := by decide +kernel
theorem dX1_range_14 : decode cX1_range 14 = .ok (.iload 5, 2) := by decide +kernel
theorem dX1_range_16 : decode cX1_range 16 = .ok (.iload 6, 2) := by decide +kernel
theorem dX1_range_18 : decode cX1_range 18 = .ok (.iload 7, 2) := by decide +kernel
theorem dX1_range_20 : decode cX1_range 20 = .ok (.invokevirtual 75, 3) := by decide +kernel
theorem dX1_range_23 : decode cX1_range 23 = .ok (.ifCond .ne 6, 3) := by decide +kernel
theorem dX1_range_26 : decode cX1_range 26 = .ok (.bipush (-2), 2) := by decide +kernel
theorem dX1_range_28 : decode cX1_range 28 = .ok (.ireturn, 1) := by decide +kernel
theorem dX1_range_29 : decode cX1_range 29 = .ok (.aload_n 0, 1) := by decide +kernel
theorem dX1_range_30 : decode cX1_range 30 = .ok (.getfield 47, 3) := by decide +kernel
theorem dX1_range_33 : decode cX1_range 33 = .ok (.iconst 0, 1) := by decide +kernel
theorem dX1_range_34 : decode cX1_range 34 = .ok (.iload_n 2, 1) := by decide +kernel
theorem dX1_range_35 : decode cX1_range 35 = .ok (.iload_n 3, 1) := by decide +kernel
theorem dX1_range_36 : decode cX1_range 36 = .ok (.iload 4, 2) := by decide +kernel
theorem dX1_range_38 : decode cX1_range 38 = .ok (.iload 5, 2) := by decide +kernel
theorem dX1_range_40 : decode cX1_range 40 = .ok (.iload 6, 2) := by decide +kernel
theorem dX1_range_42 : decode cX1_range 42 = .ok (.iload 7, 2) := by decide +kernel
theorem dX1_range_44 : decode cX1_range 44 = .ok (.invokevirtual 79, 3) := by decide +kernel
theorem dX1_range_47 : decode cX1_range 47 = .ok (.aload_n 0, 1) := by decide +kernel
theorem dX1_range_48 : decode cX1_range 48 = .ok (.invokevirtual 72, 3) := by decide +kernel
theorem dX1_range_51 : decode cX1_range 51 = .ok (.aload_n 0, 1) := by decide +kernel
theorem dX1_range_52 : decode cX1_range 52 = .ok (.iload_n 1, 1) := by decide +kernel
theorem dX1_range_53 : decode cX1_range 53 = .ok (.invokevirtual 107, 3) := by decide +kernel
theorem dX1_range_56 : decode cX1_range 56 = .ok (.aload_n 0, 1) := by decide +kernel
theorem dX1_range_57 : decode cX1_range 57 = .ok (.getfield 69, 3) := by decide +kernel
theorem dX1_range_60 : decode cX1_range 60 = .ok (.istore 8, 2) := by decide +kernel
theorem dX1_range_62 : decode cX1_range 62 = .ok (.iload 8, 2) := by decide +kernel
theorem dX1_range_64 : decode cX1_range 64 = .ok (.aload_n 0, 1) := by decide +kernel
theorem dX1_range_65 : decode cX1_range 65 = .ok (.getfield 60, 3) := by decide +kernel
theorem dX1_range_68 : decode cX1_range 68 = .ok (.if_icmp .ge 16, 3) := by decide +kernel
theorem dX1_range_71 : decode cX1_range 71 = .ok (.aload_n 0, 1) := by decide +kernel
theorem dX1_range_72 : decode cX1_range 72 = .ok (.iload 8, 2) := by decide +kernel
theorem dX1_range_74 : decode cX1_range 74 = .ok (.iload_n 1, 1) := by decide +kernel
theorem dX1_range_75 : decode cX1_range 75 = .ok (.invokevirtual 110, 3) := by decide +kernel
theorem dX1_range_78 : decode cX1_range 78 = .ok (.iinc 8 1, 3) := by decide +kernel
theorem dX1_range_81 : decode cX1_range 81 = .ok (.goto (-19), 3) := by decide +kernel
theorem dX1_range_84 : decode cX1_range 84 = .ok (.aload_n 0, 1) := by decide +kernel
theorem dX1_range_85 : decode cX1_range 85 = .ok (.getfield 114, 3) := by decide +kernel
theorem dX1_range_88 : decode cX1_range 88 = .ok (.ireturn, 1) := by decide +kernel
theorem dX1_found_0 : decode cX1_found 0 = .ok (.iload_n 1, 1) := by decide +kernel
theorem dX1_found_1 : decode cX1_found 1 = .ok (.ifCond .lt 11, 3) := by decide +kernel
theorem dX1_found_4 : decode cX1_found 4 = .ok (.iload_n 1, 1) := by decide +kernel
theorem dX1_found_5 : decode cX1_found 5 = .ok (.aload_n 0, 1) := by decide +kernel
theorem dX1_found_6 : decode cX1_found 6 = .ok (.getfield 114, 3) := by decide +kernel
theorem dX1_found_9 : decode cX1_found 9 = .ok (.if_icmp .lt 5, 3) := by decide +kernel
theorem dX1_found_12 : decode cX1_found 12 = .ok (.iconst (-1), 1) := by decide +kernel
theorem dX1_found_13 : decode cX1_found 13 = .ok (.ireturn, 1) := by decide +kernel
theorem dX1_found_14 : decode cX1_found 14 = .ok (.iconst 0, 1) := by decide +kernel
theorem dX1_found_15 : decode cX1_found 15 = .ok (.istore_n 2, 1) := by decide +kernel
theorem dX1_found_16 : decode cX1_found 16 = .ok (.iconst 0, 1) := by decide +kernel
theorem dX1_found_17 : decode cX1_found 17 = .ok (.istore_n 3, 1) := by decide +kernel
theorem dX1_found_18 : decode cX1_found 18 = .ok (.iload_n 3, 1) := by decide +kernel
theorem dX1_found_19 : decode cX1_found 19 = .ok (.bipush 64, 2) := by decide +kernel
theorem dX1_found_21 : decode cX1_found 21 = .ok (.if_icmp .ge 28, 3) := by decide +kernel
theorem dX1_found_24 : decode cX1_found 24 = .ok (.aload_n 0, 1) := by decide +kernel
theorem dX1_found_25 : decode cX1_found 25 = .ok (.getfield 50, 3) := by decide +kernel
theorem dX1_found_28 : decode cX1_found 28 = .ok (.iload_n 3, 1) := by decide +kernel
theorem dX1_found_29 : decode cX1_found 29 = .ok (.baload, 1) := by decide +kernel
theorem dX1_found_30 : decode cX1_found 30 = .ok (.ifCond .eq 13, 3) := by decide +kernel
theorem dX1_found_33 : decode cX1_found 33 = .ok (.iload_n 2, 1) := by decide +kernel
theorem dX1_found_34 : decode cX1_found 34 = .ok (.iload_n 1, 1) := by decide +kernel
theorem dX1_found_35 : decode cX1_found 35 = .ok (.if_icmp .ne 5, 3) := by decide +kernel
theorem dX1_found_38 : decode cX1_found 38 = .ok (.iload_n 3, 1) := by decide +kernel
theorem dX1_found_39 : decode cX1_found 39 = .ok (.ireturn, 1) := by decide +kernel
theorem dX1_found_40 : decode cX1_found 40 = .ok (.iinc 2 1, 3) := by decide +kernel
theorem dX1_found_43 : decode cX1_found 43 = .ok (.iinc 3 1, 3) := by decide +kernel
theorem dX1_found_46 : decode cX1_found 46 = .ok (.goto (-28), 3) := by decide +kernel
theorem dX1_found_49 : decode cX1_found 49 = .ok (.iconst (-1), 1) := by decide +kernel
theorem dX1_found_50 : decode cX1_found 50 = .ok (.ireturn, 1) := by decide +kernel
theorem dX1_told_0 : decode cX1_told 0 = .ok (.iload_n 1, 1) := by decide +kernel
theorem dX1_told_1 : decode cX1_told 1 = .ok (.ifCond .lt 8, 3) := by decide +kernel
theorem dX1_told_4 : decode cX1_told 4 = .ok (.iload_n 1, 1) := by decide +kernel
theorem dX1_told_5 : decode cX1_told 5 = .ok (.iconst 3, 1) := by decide +kernel
theorem dX1_told_6 : decode cX1_told 6 = .ok (.if_icmp .lt 6, 3) := by decide +kernel
theorem dX1_told_9 : decode cX1_told 9 = .ok (.bipush (-2), 2) := by decide +kernel
theorem dX1_told_11 : decode cX1_told 11 = .ok (.ireturn, 1) := by decide +kernel
theorem dX1_told_12 : decode cX1_told 12 = .ok (.aload_n 0, 1) := by decide +kernel
theorem dX1_told_13 : decode cX1_told 13 = .ok (.getfield 53, 3) := by decide +kernel
theorem dX1_told_16 : decode cX1_told 16 = .ok (.iload_n 1, 1) := by decide +kernel
theorem dX1_told_17 : decode cX1_told 17 = .ok (.iaload, 1) := by decide +kernel
theorem dX1_told_18 : decode cX1_told 18 = .ok (.ireturn, 1) := by decide +kernel
set_option maxRecDepth 20000 in
theorem ggX1_nearest_X1_isPlace : GoodIn wsX1_nearest wsX1_isPlace := goodIn_r _ [11, 12, 13, 14, 10, 15, 5, 16, 17, 18, 19, 20, 46, 47, 48, 49, 50, 51, 52, 53, 54, 55, 56, 57, 58, 59, 60, 61, 62, 63] (by decide +kernel) (by decide +kernel)
set_option maxRecDepth 20000 in
theorem gX1_nearest_X1_isPlace : GoodIn wsX1_nearest (wsV RX1 117 RX1 yX1_isPlace wsX1_isPlace) := goodIn_app (goodIn_of _ (by decide +kernel)) ggX1_nearest_X1_isPlace
set_option maxRecDepth 20000 in
theorem ggX1_nearest_X0_squareTo : GoodIn wsX1_nearest wsX0_squareTo := goodIn_r _ [24, 25, 26, 27, 22, 28, 29, 30, 31, 32, 33, 34, 35, 36, 37, 64] (by decide +kernel) (by decide +kernel)
set_option maxRecDepth 20000 in
theorem gX1_nearest_X0_squareTo_n121 : GoodIn wsX1_nearest (wsX0_squareTo) := ggX1_nearest_X0_squareTo
set_option maxRecDepth 20000 in
theorem ggX1_nearest_X1_nearerThan : GoodIn wsX1_nearest wsX1_nearerThan := goodIn_r _ [41, 2, 6, 42, 43, 44, 10, 45, 3, 46, 47, 48, 49, 50, 51, 52, 53, 54, 55, 56, 57, 58, 59, 60, 61, 62, 63] (by decide +kernel) (by decide +kernel)
set_option maxRecDepth 20000 in
theorem gX1_nearest_X1_nearerThan : GoodIn wsX1_nearest (wsV RX1 125 RX1 yX1_nearerThan wsX1_nearerThan) := goodIn_app (goodIn_of _ (by decide +kernel)) ggX1_nearest_X1_nearerThan
theorem dX1_nearest_0 : decode cX1_nearest 0 = .ok (.iload 4, 2) := by decide +kernel
theorem dX1_nearest_2 : decode cX1_nearest 2 = .ok (.ifCond .lt 12, 3) := by decide +kernel
theorem dX1_nearest_5 : decode cX1_nearest 5 = .ok (.iload 4, 2) := by decide +kernel
theorem dX1_nearest_7 : decode cX1_nearest 7 = .ok (.aload_n 0, 1) := by decide +kernel
theorem dX1_nearest_8 : decode cX1_nearest 8 = .ok (.getfield 63, 3) := by decide +kernel
theorem dX1_nearest_11 : decode cX1_nearest 11 = .ok (.if_icmp .lt 5, 3) := by decide +kernel
theorem dX1_nearest_14 : decode cX1_nearest 14 = .ok (.iconst (-1), 1) := by decide +kernel
theorem dX1_nearest_15 : decode cX1_nearest 15 = .ok (.ireturn, 1) := by decide +kernel
theorem dX1_nearest_16 : decode cX1_nearest 16 = .ok (.aload_n 0, 1) := by decide +kernel
theorem dX1_nearest_17 : decode cX1_nearest 17 = .ok (.iload_n 1, 1) := by decide +kernel
theorem dX1_nearest_18 : decode cX1_nearest 18 = .ok (.iload_n 2, 1) := by decide +kernel
theorem dX1_nearest_19 : decode cX1_nearest 19 = .ok (.iload_n 3, 1) := by decide +kernel
theorem dX1_nearest_20 : decode cX1_nearest 20 = .ok (.invokevirtual 117, 3) := by decide +kernel
theorem dX1_nearest_23 : decode cX1_nearest 23 = .ok (.ifCond .ne 6, 3) := by decide +kernel
theorem dX1_nearest_26 : decode cX1_nearest 26 = .ok (.bipush (-2), 2) := by decide +kernel
theorem dX1_nearest_28 : decode cX1_nearest 28 = .ok (.ireturn, 1) := by decide +kernel
theorem dX1_nearest_29 : decode cX1_nearest 29 = .ok (.iconst 0, 1) := by decide +kernel
theorem dX1_nearest_30 : decode cX1_nearest 30 = .ok (.istore 5, 2) := by decide +kernel
theorem dX1_nearest_32 : decode cX1_nearest 32 = .ok (.iload 5, 2) := by decide +kernel
theorem dX1_nearest_34 : decode cX1_nearest 34 = .ok (.aload_n 0, 1) := by decide +kernel
theorem dX1_nearest_35 : decode cX1_nearest 35 = .ok (.getfield 60, 3) := by decide +kernel
theorem dX1_nearest_38 : decode cX1_nearest 38 = .ok (.if_icmp .ge 32, 3) := by decide +kernel
theorem dX1_nearest_41 : decode cX1_nearest 41 = .ok (.aload_n 0, 1) := by decide +kernel
theorem dX1_nearest_42 : decode cX1_nearest 42 = .ok (.getfield 56, 3) := by decide +kernel
theorem dX1_nearest_45 : decode cX1_nearest 45 = .ok (.iload 5, 2) := by decide +kernel
theorem dX1_nearest_47 : decode cX1_nearest 47 = .ok (.aload_n 0, 1) := by decide +kernel
theorem dX1_nearest_48 : decode cX1_nearest 48 = .ok (.getfield 24, 3) := by decide +kernel
theorem dX1_nearest_51 : decode cX1_nearest 51 = .ok (.iload 5, 2) := by decide +kernel
theorem dX1_nearest_53 : decode cX1_nearest 53 = .ok (.aload_n 0, 1) := by decide +kernel
theorem dX1_nearest_54 : decode cX1_nearest 54 = .ok (.getfield 9, 3) := by decide +kernel
theorem dX1_nearest_57 : decode cX1_nearest 57 = .ok (.iload_n 1, 1) := by decide +kernel
theorem dX1_nearest_58 : decode cX1_nearest 58 = .ok (.iload_n 2, 1) := by decide +kernel
theorem dX1_nearest_59 : decode cX1_nearest 59 = .ok (.iload_n 3, 1) := by decide +kernel
theorem dX1_nearest_60 : decode cX1_nearest 60 = .ok (.invokevirtual 121, 3) := by decide +kernel
theorem dX1_nearest_63 : decode cX1_nearest 63 = .ok (.lastore, 1) := by decide +kernel
theorem dX1_nearest_64 : decode cX1_nearest 64 = .ok (.iinc 5 1, 3) := by decide +kernel
theorem dX1_nearest_67 : decode cX1_nearest 67 = .ok (.goto (-35), 3) := by decide +kernel
theorem dX1_nearest_70 : decode cX1_nearest 70 = .ok (.iconst 0, 1) := by decide +kernel
theorem dX1_nearest_71 : decode cX1_nearest 71 = .ok (.istore 5, 2) := by decide +kernel
theorem dX1_nearest_73 : decode cX1_nearest 73 = .ok (.iload 5, 2) := by decide +kernel
theorem dX1_nearest_75 : decode cX1_nearest 75 = .ok (.aload_n 0, 1) := by decide +kernel
theorem dX1_nearest_76 : decode cX1_nearest 76 = .ok (.getfield 60, 3) := by decide +kernel
theorem dX1_nearest_79 : decode cX1_nearest 79 = .ok (.if_icmp .ge 33, 3) := by decide +kernel
theorem dX1_nearest_82 : decode cX1_nearest 82 = .ok (.aload_n 0, 1) := by decide +kernel
theorem dX1_nearest_83 : decode cX1_nearest 83 = .ok (.getfield 15, 3) := by decide +kernel
theorem dX1_nearest_86 : decode cX1_nearest 86 = .ok (.iload 5, 2) := by decide +kernel
theorem dX1_nearest_88 : decode cX1_nearest 88 = .ok (.baload, 1) := by decide +kernel
theorem dX1_nearest_89 : decode cX1_nearest 89 = .ok (.ifCond .eq 17, 3) := by decide +kernel
theorem dX1_nearest_92 : decode cX1_nearest 92 = .ok (.aload_n 0, 1) := by decide +kernel
theorem dX1_nearest_93 : decode cX1_nearest 93 = .ok (.iload 5, 2) := by decide +kernel
theorem dX1_nearest_95 : decode cX1_nearest 95 = .ok (.invokevirtual 125, 3) := by decide +kernel
theorem dX1_nearest_98 : decode cX1_nearest 98 = .ok (.iload 4, 2) := by decide +kernel
theorem dX1_nearest_100 : decode cX1_nearest 100 = .ok (.if_icmp .ne 6, 3) := by decide +kernel
theorem dX1_nearest_103 : decode cX1_nearest 103 = .ok (.iload 5, 2) := by decide +kernel
theorem dX1_nearest_105 : decode cX1_nearest 105 = .ok (.ireturn, 1) := by decide +kernel
theorem dX1_nearest_106 : decode cX1_nearest 106 = .ok (.iinc 5 1, 3) := by decide +kernel
theorem dX1_nearest_109 : decode cX1_nearest 109 = .ok (.goto (-36), 3) := by decide +kernel
theorem dX1_nearest_112 : decode cX1_nearest 112 = .ok (.iconst (-1), 1) := by decide +kernel
theorem dX1_nearest_113 : decode cX1_nearest 113 = .ok (.ireturn, 1) := by decide +kernel
set_option maxRecDepth 20000 in
theorem ggX1_distance_X1_hasThing : GoodIn wsX1_distance wsX1_hasThing := goodIn_r _ [8, 9, 10, 41, 42, 43, 44, 45, 46, 47, 48, 49, 50, 51, 52, 53, 54, 55, 56, 57, 58] (by decide +kernel) (by decide +kernel)
set_option maxRecDepth 20000 in
theorem gX1_distance_X1_hasThing : GoodIn wsX1_distance (wsV RX1 83 RX1 yX1_hasThing wsX1_hasThing) := goodIn_app (goodIn_of _ (by decide +kernel)) ggX1_distance_X1_hasThing
set_option maxRecDepth 20000 in
theorem ggX1_distance_X1_isPlace : GoodIn wsX1_distance wsX1_isPlace := goodIn_r _ [14, 15, 16, 17, 7, 18, 3, 19, 20, 21, 22, 23, 41, 42, 43, 44, 45, 46, 47, 48, 49, 50, 51, 52, 53, 54, 55, 56, 57, 58] (by decide +kernel) (by decide +kernel)
set_option maxRecDepth 20000 in
theorem gX1_distance_X1_isPlace : GoodIn wsX1_distance (wsV RX1 117 RX1 yX1_isPlace wsX1_isPlace) := goodIn_app (goodIn_of _ (by decide +kernel)) ggX1_distance_X1_isPlace
set_option maxRecDepth 20000 in
theorem ggX1_distance_X0_squareTo : GoodIn wsX1_distance wsX0_squareTo := goodIn_r _ [27, 28, 29, 30, 25, 31, 32, 33, 34, 35, 36, 37, 38, 39, 40, 59] (by decide +kernel) (by decide +kernel)
set_option maxRecDepth 20000 in
theorem gX1_distance_X0_squareTo_n121 : GoodIn wsX1_distance (wsX0_squareTo) := ggX1_distance_X0_squareTo
theorem dX1_distance_0 : decode cX1_distance 0 = .ok (.aload_n 0, 1) := by decide +kernel
theorem dX1_distance_1 : decode cX1_distance 1 = .ok (.iload_n 1, 1) := by decide +kernel
theorem dX1_distance_2 : decode cX1_distance 2 = .ok (.invokevirtual 83, 3) := by decide +kernel
theorem dX1_distance_5 : decode cX1_distance 5 = .ok (.ifCond .eq 14, 3) := by decide +kernel
theorem dX1_distance_8 : decode cX1_distance 8 = .ok (.aload_n 0, 1) := by decide +kernel
theorem dX1_distance_9 : decode cX1_distance 9 = .ok (.iload_n 2, 1) := by decide +kernel
theorem dX1_distance_10 : decode cX1_distance 10 = .ok (.iload_n 3, 1) := by decide +kernel
theorem dX1_distance_11 : decode cX1_distance 11 = .ok (.iload 4, 2) := by decide +kernel
theorem dX1_distance_13 : decode cX1_distance 13 = .ok (.invokevirtual 117, 3) := by decide +kernel
theorem dX1_distance_16 : decode cX1_distance 16 = .ok (.ifCond .ne 7, 3) := by decide +kernel
theorem dX1_distance_19 : decode cX1_distance 19 = .ok (.ldc2_w 91, 3) := by decide +kernel
theorem dX1_distance_22 : decode cX1_distance 22 = .ok (.lreturn, 1) := by decide +kernel
theorem dX1_distance_23 : decode cX1_distance 23 = .ok (.aload_n 0, 1) := by decide +kernel
theorem dX1_distance_24 : decode cX1_distance 24 = .ok (.getfield 24, 3) := by decide +kernel
theorem dX1_distance_27 : decode cX1_distance 27 = .ok (.iload_n 1, 1) := by decide +kernel
theorem dX1_distance_28 : decode cX1_distance 28 = .ok (.aload_n 0, 1) := by decide +kernel
theorem dX1_distance_29 : decode cX1_distance 29 = .ok (.getfield 9, 3) := by decide +kernel
theorem dX1_distance_32 : decode cX1_distance 32 = .ok (.iload_n 2, 1) := by decide +kernel
theorem dX1_distance_33 : decode cX1_distance 33 = .ok (.iload_n 3, 1) := by decide +kernel
theorem dX1_distance_34 : decode cX1_distance 34 = .ok (.iload 4, 2) := by decide +kernel
theorem dX1_distance_36 : decode cX1_distance 36 = .ok (.invokevirtual 121, 3) := by decide +kernel
theorem dX1_distance_39 : decode cX1_distance 39 = .ok (.lreturn, 1) := by decide +kernel
set_option maxRecDepth 20000 in
theorem ggX1_pairs_X0_meet : GoodIn wsX1_pairs wsX0_meet := goodIn_r _ [7, 8, 9, 10, 6, 11, 12, 31] (by decide +kernel) (by decide +kernel)
set_option maxRecDepth 20000 in
theorem gX1_pairs_X0_meet_n129 : GoodIn wsX1_pairs (wsX0_meet) := ggX1_pairs_X0_meet
theorem dX1_pairs_0 : decode cX1_pairs 0 = .ok (.iconst 0, 1) := by decide +kernel
theorem dX1_pairs_1 : decode cX1_pairs 1 = .ok (.istore_n 1, 1) := by decide +kernel
theorem dX1_pairs_2 : decode cX1_pairs 2 = .ok (.iconst 0, 1) := by decide +kernel
theorem dX1_pairs_3 : decode cX1_pairs 3 = .ok (.istore_n 2, 1) := by decide +kernel
theorem dX1_pairs_4 : decode cX1_pairs 4 = .ok (.iload_n 2, 1) := by decide +kernel
theorem dX1_pairs_5 : decode cX1_pairs 5 = .ok (.aload_n 0, 1) := by decide +kernel
theorem dX1_pairs_6 : decode cX1_pairs 6 = .ok (.getfield 60, 3) := by decide +kernel
theorem dX1_pairs_9 : decode cX1_pairs 9 = .ok (.if_icmp .ge 68, 3) := by decide +kernel
theorem dX1_pairs_12 : decode cX1_pairs 12 = .ok (.iload_n 2, 1) := by decide +kernel
theorem dX1_pairs_13 : decode cX1_pairs 13 = .ok (.iconst 1, 1) := by decide +kernel
theorem dX1_pairs_14 : decode cX1_pairs 14 = .ok (.iadd, 1) := by decide +kernel
theorem dX1_pairs_15 : decode cX1_pairs 15 = .ok (.istore_n 3, 1) := by decide +kernel
theorem dX1_pairs_16 : decode cX1_pairs 16 = .ok (.iload_n 3, 1) := by decide +kernel
theorem dX1_pairs_17 : decode cX1_pairs 17 = .ok (.aload_n 0, 1) := by decide +kernel
theorem dX1_pairs_18 : decode cX1_pairs 18 = .ok (.getfield 60, 3) := by decide +kernel
theorem dX1_pairs_21 : decode cX1_pairs 21 = .ok (.if_icmp .ge 50, 3) := by decide +kernel
theorem dX1_pairs_24 : decode cX1_pairs 24 = .ok (.aload_n 0, 1) := by decide +kernel
theorem dX1_pairs_25 : decode cX1_pairs 25 = .ok (.getfield 15, 3) := by decide +kernel
theorem dX1_pairs_28 : decode cX1_pairs 28 = .ok (.iload_n 2, 1) := by decide +kernel
theorem dX1_pairs_29 : decode cX1_pairs 29 = .ok (.baload, 1) := by decide +kernel
theorem dX1_pairs_30 : decode cX1_pairs 30 = .ok (.ifCond .eq 35, 3) := by decide +kernel
theorem dX1_pairs_33 : decode cX1_pairs 33 = .ok (.aload_n 0, 1) := by decide +kernel
theorem dX1_pairs_34 : decode cX1_pairs 34 = .ok (.getfield 15, 3) := by decide +kernel
theorem dX1_pairs_37 : decode cX1_pairs 37 = .ok (.iload_n 3, 1) := by decide +kernel
theorem dX1_pairs_38 : decode cX1_pairs 38 = .ok (.baload, 1) := by decide +kernel
theorem dX1_pairs_39 : decode cX1_pairs 39 = .ok (.ifCond .eq 26, 3) := by decide +kernel
theorem dX1_pairs_42 : decode cX1_pairs 42 = .ok (.aload_n 0, 1) := by decide +kernel
theorem dX1_pairs_43 : decode cX1_pairs 43 = .ok (.getfield 24, 3) := by decide +kernel
theorem dX1_pairs_46 : decode cX1_pairs 46 = .ok (.iload_n 2, 1) := by decide +kernel
theorem dX1_pairs_47 : decode cX1_pairs 47 = .ok (.aload_n 0, 1) := by decide +kernel
theorem dX1_pairs_48 : decode cX1_pairs 48 = .ok (.getfield 24, 3) := by decide +kernel
theorem dX1_pairs_51 : decode cX1_pairs 51 = .ok (.iload_n 3, 1) := by decide +kernel
theorem dX1_pairs_52 : decode cX1_pairs 52 = .ok (.aload_n 0, 1) := by decide +kernel
theorem dX1_pairs_53 : decode cX1_pairs 53 = .ok (.getfield 9, 3) := by decide +kernel
theorem dX1_pairs_56 : decode cX1_pairs 56 = .ok (.invokestatic 129, 3) := by decide +kernel
theorem dX1_pairs_59 : decode cX1_pairs 59 = .ok (.ifCond .eq 6, 3) := by decide +kernel
theorem dX1_pairs_62 : decode cX1_pairs 62 = .ok (.iinc 1 1, 3) := by decide +kernel
theorem dX1_pairs_65 : decode cX1_pairs 65 = .ok (.iinc 3 1, 3) := by decide +kernel
theorem dX1_pairs_68 : decode cX1_pairs 68 = .ok (.goto (-52), 3) := by decide +kernel
theorem dX1_pairs_71 : decode cX1_pairs 71 = .ok (.iinc 2 1, 3) := by decide +kernel
theorem dX1_pairs_74 : decode cX1_pairs 74 = .ok (.goto (-70), 3) := by decide +kernel
theorem dX1_pairs_77 : decode cX1_pairs 77 = .ok (.iload_n 1, 1) := by decide +kernel
theorem dX1_pairs_78 : decode cX1_pairs 78 = .ok (.ireturn, 1) := by decide +kernel
set_option maxRecDepth 20000 in
theorem ggX1_day_J9_floorDiv_f86c9 : GoodIn wsX1_day wsJ9_floorDiv_f86c9 := goodIn_r _ [7] (by decide +kernel) (by decide +kernel)
set_option maxRecDepth 20000 in
theorem gX1_day_J9_floorDiv_f86c9 : GoodIn wsX1_day (va_wsS RX1 140 yJ9_floorDiv_f86c9 wsJ9_floorDiv_f86c9) := goodIn_app (goodIn_of _ (by decide +kernel)) ggX1_day_J9_floorDiv_f86c9
theorem dX1_day_0 : decode cX1_day 0 = .ok (.lload_n 3, 1) := by decide +kernel
theorem dX1_day_1 : decode cX1_day 1 = .ok (.lconst 0, 1) := by decide +kernel
theorem dX1_day_2 : decode cX1_day 2 = .ok (.lcmp, 1) := by decide +kernel
theorem dX1_day_3 : decode cX1_day 3 = .ok (.ifCond .ne 13, 3) := by decide +kernel
theorem dX1_day_6 : decode cX1_day 6 = .ok (.new 133, 3) := by decide +kernel
theorem dX1_day_9 : decode cX1_day 9 = .ok (.dup, 1) := by decide +kernel
theorem dX1_day_10 : decode cX1_day 10 = .ok (.ldc 135, 2) := by decide +kernel
theorem dX1_day_12 : decode cX1_day 12 = .ok (.invokespecial 137, 3) := by decide +kernel
theorem dX1_day_15 : decode cX1_day 15 = .ok (.athrow, 1) := by decide +kernel
theorem dX1_day_16 : decode cX1_day 16 = .ok (.lload_n 3, 1) := by decide +kernel
theorem dX1_day_17 : decode cX1_day 17 = .ok (.lconst 0, 1) := by decide +kernel
theorem dX1_day_18 : decode cX1_day 18 = .ok (.lcmp, 1) := by decide +kernel
theorem dX1_day_19 : decode cX1_day 19 = .ok (.ifCond .ge 7, 3) := by decide +kernel
theorem dX1_day_22 : decode cX1_day 22 = .ok (.ldc2_w 91, 3) := by decide +kernel
theorem dX1_day_25 : decode cX1_day 25 = .ok (.lreturn, 1) := by decide +kernel
theorem dX1_day_26 : decode cX1_day 26 = .ok (.lload_n 1, 1) := by decide +kernel
theorem dX1_day_27 : decode cX1_day 27 = .ok (.lload_n 3, 1) := by decide +kernel
theorem dX1_day_28 : decode cX1_day 28 = .ok (.invokestatic 140, 3) := by decide +kernel
theorem dX1_day_31 : decode cX1_day 31 = .ok (.lreturn, 1) := by decide +kernel
theorem dX1_hasThing_0 : decode cX1_hasThing 0 = .ok (.iload_n 1, 1) := by decide +kernel
theorem dX1_hasThing_1 : decode cX1_hasThing 1 = .ok (.ifCond .lt 24, 3) := by decide +kernel
theorem dX1_hasThing_4 : decode cX1_hasThing 4 = .ok (.iload_n 1, 1) := by decide +kernel
theorem dX1_hasThing_5 : decode cX1_hasThing 5 = .ok (.aload_n 0, 1) := by decide +kernel
theorem dX1_hasThing_6 : decode cX1_hasThing 6 = .ok (.getfield 60, 3) := by decide +kernel
theorem dX1_hasThing_9 : decode cX1_hasThing 9 = .ok (.if_icmp .ge 16, 3) := by decide +kernel
theorem dX1_hasThing_12 : decode cX1_hasThing 12 = .ok (.aload_n 0, 1) := by decide +kernel
theorem dX1_hasThing_13 : decode cX1_hasThing 13 = .ok (.getfield 15, 3) := by decide +kernel
theorem dX1_hasThing_16 : decode cX1_hasThing 16 = .ok (.iload_n 1, 1) := by decide +kernel
theorem dX1_hasThing_17 : decode cX1_hasThing 17 = .ok (.baload, 1) := by decide +kernel
theorem dX1_hasThing_18 : decode cX1_hasThing 18 = .ok (.ifCond .eq 7, 3) := by decide +kernel
theorem dX1_hasThing_21 : decode cX1_hasThing 21 = .ok (.iconst 1, 1) := by decide +kernel
theorem dX1_hasThing_22 : decode cX1_hasThing 22 = .ok (.goto 4, 3) := by decide +kernel
theorem dX1_hasThing_25 : decode cX1_hasThing 25 = .ok (.iconst 0, 1) := by decide +kernel
theorem dX1_hasThing_26 : decode cX1_hasThing 26 = .ok (.ireturn, 1) := by decide +kernel
theorem dX1_hasBlock_0 : decode cX1_hasBlock 0 = .ok (.iload_n 1, 1) := by decide +kernel
theorem dX1_hasBlock_1 : decode cX1_hasBlock 1 = .ok (.ifCond .lt 15, 3) := by decide +kernel
theorem dX1_hasBlock_4 : decode cX1_hasBlock 4 = .ok (.iload_n 1, 1) := by decide +kernel
theorem dX1_hasBlock_5 : decode cX1_hasBlock 5 = .ok (.aload_n 0, 1) := by decide +kernel
theorem dX1_hasBlock_6 : decode cX1_hasBlock 6 = .ok (.getfield 66, 3) := by decide +kernel
theorem dX1_hasBlock_9 : decode cX1_hasBlock 9 = .ok (.if_icmp .ge 7, 3) := by decide +kernel
theorem dX1_hasBlock_12 : decode cX1_hasBlock 12 = .ok (.iconst 1, 1) := by decide +kernel
theorem dX1_hasBlock_13 : decode cX1_hasBlock 13 = .ok (.goto 4, 3) := by decide +kernel
theorem dX1_hasBlock_16 : decode cX1_hasBlock 16 = .ok (.iconst 0, 1) := by decide +kernel
theorem dX1_hasBlock_17 : decode cX1_hasBlock 17 = .ok (.ireturn, 1) := by decide +kernel
theorem dX1_hasEnd_0 : decode cX1_hasEnd 0 = .ok (.iload_n 1, 1) := by decide +kernel
theorem dX1_hasEnd_1 : decode cX1_hasEnd 1 = .ok (.ifCond .lt 24, 3) := by decide +kernel
theorem dX1_hasEnd_4 : decode cX1_hasEnd 4 = .ok (.iload_n 1, 1) := by decide +kernel
theorem dX1_hasEnd_5 : decode cX1_hasEnd 5 = .ok (.aload_n 0, 1) := by decide +kernel
theorem dX1_hasEnd_6 : decode cX1_hasEnd 6 = .ok (.getfield 9, 3) := by decide +kernel
theorem dX1_hasEnd_9 : decode cX1_hasEnd 9 = .ok (.if_icmp .ge 16, 3) := by decide +kernel
end
section
theorem dX1_hasEnd_12 : decode cX1_hasEnd 12 = .ok (.iload_n 2, 1) := by decide +kernel
theorem dX1_hasEnd_13 : decode cX1_hasEnd 13 = .ok (.ifCond .eq 8, 3) := by decide +kernel
theorem dX1_hasEnd_16 : decode cX1_hasEnd 16 = .ok (.iload_n 2, 1) := by decide +kernel
theorem dX1_hasEnd_17 : decode cX1_hasEnd 17 = .ok (.iconst 1, 1) := by decide +kernel
theorem dX1_hasEnd_18 : decode cX1_hasEnd 18 = .ok (.if_icmp .ne 7, 3) := by decide +kernel
theorem dX1_hasEnd_21 : decode cX1_hasEnd 21 = .ok (.iconst 1, 1) := by decide +kernel
theorem dX1_hasEnd_22 : decode cX1_hasEnd 22 = .ok (.goto 4, 3) := by decide +kernel
theorem dX1_hasEnd_25 : decode cX1_hasEnd 25 = .ok (.iconst 0, 1) := by decide +kernel
theorem dX1_hasEnd_26 : decode cX1_hasEnd 26 = .ok (.ireturn, 1) := by decide +kernel
set_option maxRecDepth 20000 in
theorem ggX1_isBox_X1_isSpan : GoodIn wsX1_isBox wsX1_isSpan := goodIn_r _ [5, 6, 7] (by decide +kernel) (by decide +kernel)
set_option maxRecDepth 20000 in
theorem gX1_isBox_X1_isSpan : GoodIn wsX1_isBox (va_wsS RX1 146 yX1_isSpan wsX1_isSpan) := goodIn_app (goodIn_of _ (by decide +kernel)) ggX1_isBox_X1_isSpan
theorem dX1_isBox_0 : decode cX1_isBox 0 = .ok (.iload_n 1, 1) := by decide +kernel
theorem dX1_isBox_1 : decode cX1_isBox 1 = .ok (.iload_n 2, 1) := by decide +kernel
theorem dX1_isBox_2 : decode cX1_isBox 2 = .ok (.invokestatic 146, 3) := by decide +kernel
theorem dX1_isBox_5 : decode cX1_isBox 5 = .ok (.ifCond .eq 42, 3) := by decide +kernel
theorem dX1_isBox_8 : decode cX1_isBox 8 = .ok (.aload_n 0, 1) := by decide +kernel
theorem dX1_isBox_9 : decode cX1_isBox 9 = .ok (.getfield 9, 3) := by decide +kernel
theorem dX1_isBox_12 : decode cX1_isBox 12 = .ok (.iconst 2, 1) := by decide +kernel
theorem dX1_isBox_13 : decode cX1_isBox 13 = .ok (.if_icmp .lt 12, 3) := by decide +kernel
theorem dX1_isBox_16 : decode cX1_isBox 16 = .ok (.iload_n 3, 1) := by decide +kernel
theorem dX1_isBox_17 : decode cX1_isBox 17 = .ok (.iload 4, 2) := by decide +kernel
theorem dX1_isBox_19 : decode cX1_isBox 19 = .ok (.invokestatic 146, 3) := by decide +kernel
theorem dX1_isBox_22 : decode cX1_isBox 22 = .ok (.ifCond .eq 25, 3) := by decide +kernel
theorem dX1_isBox_25 : decode cX1_isBox 25 = .ok (.aload_n 0, 1) := by decide +kernel
theorem dX1_isBox_26 : decode cX1_isBox 26 = .ok (.getfield 9, 3) := by decide +kernel
theorem dX1_isBox_29 : decode cX1_isBox 29 = .ok (.iconst 3, 1) := by decide +kernel
theorem dX1_isBox_30 : decode cX1_isBox 30 = .ok (.if_icmp .lt 13, 3) := by decide +kernel
theorem dX1_isBox_33 : decode cX1_isBox 33 = .ok (.iload 5, 2) := by decide +kernel
theorem dX1_isBox_35 : decode cX1_isBox 35 = .ok (.iload 6, 2) := by decide +kernel
theorem dX1_isBox_37 : decode cX1_isBox 37 = .ok (.invokestatic 146, 3) := by decide +kernel
theorem dX1_isBox_40 : decode cX1_isBox 40 = .ok (.ifCond .eq 7, 3) := by decide +kernel
theorem dX1_isBox_43 : decode cX1_isBox 43 = .ok (.iconst 1, 1) := by decide +kernel
theorem dX1_isBox_44 : decode cX1_isBox 44 = .ok (.goto 4, 3) := by decide +kernel
theorem dX1_isBox_47 : decode cX1_isBox 47 = .ok (.iconst 0, 1) := by decide +kernel
theorem dX1_isBox_48 : decode cX1_isBox 48 = .ok (.ireturn, 1) := by decide +kernel
set_option maxRecDepth 20000 in
theorem ggX1_isPlace_X1_isBox : GoodIn wsX1_isPlace wsX1_isBox := goodIn_r _ [5, 6, 7, 8, 4, 9, 10, 11, 12, 13, 14, 15, 16, 17, 18, 19, 20, 21, 22, 23, 24, 25, 26, 27, 28, 29] (by decide +kernel) (by decide +kernel)
set_option maxRecDepth 20000 in
theorem gX1_isPlace_X1_isBox : GoodIn wsX1_isPlace (wsV RX1 75 RX1 yX1_isBox wsX1_isBox) := goodIn_app (goodIn_of _ (by decide +kernel)) ggX1_isPlace_X1_isBox
theorem dX1_isPlace_0 : decode cX1_isPlace 0 = .ok (.aload_n 0, 1) := by decide +kernel
theorem dX1_isPlace_1 : decode cX1_isPlace 1 = .ok (.iload_n 1, 1) := by decide +kernel
theorem dX1_isPlace_2 : decode cX1_isPlace 2 = .ok (.iload_n 1, 1) := by decide +kernel
theorem dX1_isPlace_3 : decode cX1_isPlace 3 = .ok (.iload_n 2, 1) := by decide +kernel
theorem dX1_isPlace_4 : decode cX1_isPlace 4 = .ok (.iload_n 2, 1) := by decide +kernel
theorem dX1_isPlace_5 : decode cX1_isPlace 5 = .ok (.iload_n 3, 1) := by decide +kernel
theorem dX1_isPlace_6 : decode cX1_isPlace 6 = .ok (.iload_n 3, 1) := by decide +kernel
theorem dX1_isPlace_7 : decode cX1_isPlace 7 = .ok (.invokevirtual 75, 3) := by decide +kernel
theorem dX1_isPlace_10 : decode cX1_isPlace 10 = .ok (.ireturn, 1) := by decide +kernel
theorem dX1_isSpan_0 : decode cX1_isSpan 0 = .ok (.iload_n 0, 1) := by decide +kernel
theorem dX1_isSpan_1 : decode cX1_isSpan 1 = .ok (.ldc 149, 2) := by decide +kernel
theorem dX1_isSpan_3 : decode cX1_isSpan 3 = .ok (.if_icmp .lt 18, 3) := by decide +kernel
theorem dX1_isSpan_6 : decode cX1_isSpan 6 = .ok (.iload_n 1, 1) := by decide +kernel
theorem dX1_isSpan_7 : decode cX1_isSpan 7 = .ok (.ldc 150, 2) := by decide +kernel
theorem dX1_isSpan_9 : decode cX1_isSpan 9 = .ok (.if_icmp .gt 12, 3) := by decide +kernel
theorem dX1_isSpan_12 : decode cX1_isSpan 12 = .ok (.iload_n 0, 1) := by decide +kernel
theorem dX1_isSpan_13 : decode cX1_isSpan 13 = .ok (.iload_n 1, 1) := by decide +kernel
theorem dX1_isSpan_14 : decode cX1_isSpan 14 = .ok (.if_icmp .gt 7, 3) := by decide +kernel
theorem dX1_isSpan_17 : decode cX1_isSpan 17 = .ok (.iconst 1, 1) := by decide +kernel
theorem dX1_isSpan_18 : decode cX1_isSpan 18 = .ok (.goto 4, 3) := by decide +kernel
theorem dX1_isSpan_21 : decode cX1_isSpan 21 = .ok (.iconst 0, 1) := by decide +kernel
theorem dX1_isSpan_22 : decode cX1_isSpan 22 = .ok (.ireturn, 1) := by decide +kernel
theorem dX1_isParted_0 : decode cX1_isParted 0 = .ok (.aload_n 0, 1) := by decide +kernel
theorem dX1_isParted_1 : decode cX1_isParted 1 = .ok (.getfield 38, 3) := by decide +kernel
theorem dX1_isParted_4 : decode cX1_isParted 4 = .ok (.iload_n 1, 1) := by decide +kernel
theorem dX1_isParted_5 : decode cX1_isParted 5 = .ok (.iaload, 1) := by decide +kernel
theorem dX1_isParted_6 : decode cX1_isParted 6 = .ok (.ifCond .eq 7, 3) := by decide +kernel
theorem dX1_isParted_9 : decode cX1_isParted 9 = .ok (.iconst 1, 1) := by decide +kernel
theorem dX1_isParted_10 : decode cX1_isParted 10 = .ok (.goto 4, 3) := by decide +kernel
theorem dX1_isParted_13 : decode cX1_isParted 13 = .ok (.iconst 0, 1) := by decide +kernel
theorem dX1_isParted_14 : decode cX1_isParted 14 = .ok (.ireturn, 1) := by decide +kernel
set_option maxRecDepth 20000 in
theorem ggX1_makeBlock_X1_setBounds : GoodIn wsX1_makeBlock wsX1_setBounds := goodIn_r _ [10, 11, 12, 13, 2, 3, 14, 15, 16, 17, 18, 19, 20, 21, 22, 23, 24, 25, 26, 27, 28, 29, 30, 31, 32, 33, 34, 35, 36, 62, 63, 64, 65, 66, 67, 68, 69, 70, 71, 72, 73, 74, 75, 76, 77, 78, 79, 80] (by decide +kernel) (by decide +kernel)
set_option maxRecDepth 20000 in
theorem gX1_makeBlock_X1_setBounds : GoodIn wsX1_makeBlock (wsV RX1 151 RX1 yX1_setBounds wsX1_setBounds) := goodIn_app (goodIn_of _ (by decide +kernel)) ggX1_makeBlock_X1_setBounds
set_option maxRecDepth 20000 in
theorem ggX1_makeBlock_X1_widestAxis : GoodIn wsX1_makeBlock wsX1_widestAxis := goodIn_r _ [40, 41, 42, 43, 44, 9, 45, 12, 13, 46, 31, 32, 33, 47, 35, 36, 48, 15, 49, 50, 18, 19, 20, 21, 22, 62, 63, 64, 65, 66, 67, 68, 69, 70, 71, 72, 73, 74, 75, 76, 77, 78, 79, 80] (by decide +kernel) (by decide +kernel)
set_option maxRecDepth 20000 in
theorem gX1_makeBlock_X1_widestAxis : GoodIn wsX1_makeBlock (wsV RX1 154 RX1 yX1_widestAxis wsX1_widestAxis) := goodIn_app (goodIn_of _ (by decide +kernel)) ggX1_makeBlock_X1_widestAxis
set_option maxRecDepth 20000 in
theorem ggX1_makeBlock_X1_sortRun : GoodIn wsX1_makeBlock wsX1_sortRun := goodIn_r _ [54, 13, 55, 56, 57, 9, 58, 12, 48, 15, 49, 50, 18, 19, 20, 21, 22, 62, 63, 64, 65, 66, 67, 68, 69, 70, 71, 72, 73, 74, 75, 76, 77, 78, 79, 80] (by decide +kernel) (by decide +kernel)
set_option maxRecDepth 20000 in
theorem gX1_makeBlock_X1_sortRun : GoodIn wsX1_makeBlock (wsV RX1 158 RX1 yX1_sortRun wsX1_sortRun) := goodIn_app (goodIn_of _ (by decide +kernel)) ggX1_makeBlock_X1_sortRun
set_option maxRecDepth 20000 in
theorem ggX1_makeBlock_X1_makeBlock : GoodIn wsX1_makeBlock wsX1_makeBlock := goodIn_r _ [0, 1, 2, 3, 4, 5, 6, 7, 8, 9, 10, 11, 12, 13, 14, 15, 16, 17, 18, 19, 20, 21, 22, 23, 24, 25, 26, 27, 28, 29, 30, 31, 32, 33, 34, 35, 36, 37, 38, 39, 40, 41, 42, 43, 44, 45, 46, 47, 48, 49, 50, 51, 52, 53, 54, 55, 56, 57, 58, 59, 60, 61, 62, 63, 64, 65, 66, 67, 68, 69, 70, 71, 72, 73, 74, 75, 76, 77, 78, 79, 80] (by decide +kernel) (by decide +kernel)
set_option maxRecDepth 20000 in
theorem gX1_makeBlock_X1_makeBlock : GoodIn wsX1_makeBlock (wsV RX1 97 RX1 yX1_makeBlock wsX1_makeBlock) := goodIn_app (goodIn_of _ (by decide +kernel)) ggX1_makeBlock_X1_makeBlock
theorem dX1_makeBlock_0 : decode cX1_makeBlock 0 = .ok (.iload_n 1, 1) := by decide +kernel
theorem dX1_makeBlock_1 : decode cX1_makeBlock 1 = .ok (.iload_n 2, 1) := by decide +kernel
theorem dX1_makeBlock_2 : decode cX1_makeBlock 2 = .ok (.if_icmp .ge 17, 3) := by decide +kernel
theorem dX1_makeBlock_5 : decode cX1_makeBlock 5 = .ok (.iload_n 3, 1) := by decide +kernel
theorem dX1_makeBlock_6 : decode cX1_makeBlock 6 = .ok (.iconst 4, 1) := by decide +kernel
theorem dX1_makeBlock_7 : decode cX1_makeBlock 7 = .ok (.if_icmp .gt 12, 3) := by decide +kernel
theorem dX1_makeBlock_10 : decode cX1_makeBlock 10 = .ok (.aload_n 0, 1) := by decide +kernel
theorem dX1_makeBlock_11 : decode cX1_makeBlock 11 = .ok (.getfield 66, 3) := by decide +kernel
theorem dX1_makeBlock_14 : decode cX1_makeBlock 14 = .ok (.bipush 31, 2) := by decide +kernel
theorem dX1_makeBlock_16 : decode cX1_makeBlock 16 = .ok (.if_icmp .lt 4, 3) := by decide +kernel
theorem dX1_makeBlock_19 : decode cX1_makeBlock 19 = .ok (.return_, 1) := by decide +kernel
theorem dX1_makeBlock_20 : decode cX1_makeBlock 20 = .ok (.aload_n 0, 1) := by decide +kernel
theorem dX1_makeBlock_21 : decode cX1_makeBlock 21 = .ok (.getfield 66, 3) := by decide +kernel
theorem dX1_makeBlock_24 : decode cX1_makeBlock 24 = .ok (.istore 4, 2) := by decide +kernel
theorem dX1_makeBlock_26 : decode cX1_makeBlock 26 = .ok (.aload_n 0, 1) := by decide +kernel
theorem dX1_makeBlock_27 : decode cX1_makeBlock 27 = .ok (.dup, 1) := by decide +kernel
theorem dX1_makeBlock_28 : decode cX1_makeBlock 28 = .ok (.getfield 66, 3) := by decide +kernel
theorem dX1_makeBlock_31 : decode cX1_makeBlock 31 = .ok (.iconst 1, 1) := by decide +kernel
theorem dX1_makeBlock_32 : decode cX1_makeBlock 32 = .ok (.iadd, 1) := by decide +kernel
theorem dX1_makeBlock_33 : decode cX1_makeBlock 33 = .ok (.putfield 66, 3) := by decide +kernel
theorem dX1_makeBlock_36 : decode cX1_makeBlock 36 = .ok (.aload_n 0, 1) := by decide +kernel
theorem dX1_makeBlock_37 : decode cX1_makeBlock 37 = .ok (.getfield 32, 3) := by decide +kernel
theorem dX1_makeBlock_40 : decode cX1_makeBlock 40 = .ok (.iload 4, 2) := by decide +kernel
theorem dX1_makeBlock_42 : decode cX1_makeBlock 42 = .ok (.iload_n 1, 1) := by decide +kernel
theorem dX1_makeBlock_43 : decode cX1_makeBlock 43 = .ok (.iastore, 1) := by decide +kernel
theorem dX1_makeBlock_44 : decode cX1_makeBlock 44 = .ok (.aload_n 0, 1) := by decide +kernel
theorem dX1_makeBlock_45 : decode cX1_makeBlock 45 = .ok (.getfield 35, 3) := by decide +kernel
theorem dX1_makeBlock_48 : decode cX1_makeBlock 48 = .ok (.iload 4, 2) := by decide +kernel
theorem dX1_makeBlock_50 : decode cX1_makeBlock 50 = .ok (.iload_n 2, 1) := by decide +kernel
theorem dX1_makeBlock_51 : decode cX1_makeBlock 51 = .ok (.iastore, 1) := by decide +kernel
theorem dX1_makeBlock_52 : decode cX1_makeBlock 52 = .ok (.aload_n 0, 1) := by decide +kernel
theorem dX1_makeBlock_53 : decode cX1_makeBlock 53 = .ok (.getfield 38, 3) := by decide +kernel
theorem dX1_makeBlock_56 : decode cX1_makeBlock 56 = .ok (.iload 4, 2) := by decide +kernel
theorem dX1_makeBlock_58 : decode cX1_makeBlock 58 = .ok (.iconst 0, 1) := by decide +kernel
theorem dX1_makeBlock_59 : decode cX1_makeBlock 59 = .ok (.iastore, 1) := by decide +kernel
theorem dX1_makeBlock_60 : decode cX1_makeBlock 60 = .ok (.aload_n 0, 1) := by decide +kernel
theorem dX1_makeBlock_61 : decode cX1_makeBlock 61 = .ok (.getfield 41, 3) := by decide +kernel
theorem dX1_makeBlock_64 : decode cX1_makeBlock 64 = .ok (.iload 4, 2) := by decide +kernel
theorem dX1_makeBlock_66 : decode cX1_makeBlock 66 = .ok (.iload_n 3, 1) := by decide +kernel
theorem dX1_makeBlock_67 : decode cX1_makeBlock 67 = .ok (.iastore, 1) := by decide +kernel
theorem dX1_makeBlock_68 : decode cX1_makeBlock 68 = .ok (.aload_n 0, 1) := by decide +kernel
theorem dX1_makeBlock_69 : decode cX1_makeBlock 69 = .ok (.iload 4, 2) := by decide +kernel
theorem dX1_makeBlock_71 : decode cX1_makeBlock 71 = .ok (.invokevirtual 151, 3) := by decide +kernel
theorem dX1_makeBlock_74 : decode cX1_makeBlock 74 = .ok (.iload_n 2, 1) := by decide +kernel
theorem dX1_makeBlock_75 : decode cX1_makeBlock 75 = .ok (.iload_n 1, 1) := by decide +kernel
theorem dX1_makeBlock_76 : decode cX1_makeBlock 76 = .ok (.isub, 1) := by decide +kernel
theorem dX1_makeBlock_77 : decode cX1_makeBlock 77 = .ok (.iconst 4, 1) := by decide +kernel
theorem dX1_makeBlock_78 : decode cX1_makeBlock 78 = .ok (.if_icmp .gt 4, 3) := by decide +kernel
theorem dX1_makeBlock_81 : decode cX1_makeBlock 81 = .ok (.return_, 1) := by decide +kernel
theorem dX1_makeBlock_82 : decode cX1_makeBlock 82 = .ok (.aload_n 0, 1) := by decide +kernel
theorem dX1_makeBlock_83 : decode cX1_makeBlock 83 = .ok (.iload_n 1, 1) := by decide +kernel
theorem dX1_makeBlock_84 : decode cX1_makeBlock 84 = .ok (.iload_n 2, 1) := by decide +kernel
theorem dX1_makeBlock_85 : decode cX1_makeBlock 85 = .ok (.aload_n 0, 1) := by decide +kernel
theorem dX1_makeBlock_86 : decode cX1_makeBlock 86 = .ok (.iload_n 1, 1) := by decide +kernel
theorem dX1_makeBlock_87 : decode cX1_makeBlock 87 = .ok (.iload_n 2, 1) := by decide +kernel
theorem dX1_makeBlock_88 : decode cX1_makeBlock 88 = .ok (.invokevirtual 154, 3) := by decide +kernel
theorem dX1_makeBlock_91 : decode cX1_makeBlock 91 = .ok (.invokevirtual 158, 3) := by decide +kernel
theorem dX1_makeBlock_94 : decode cX1_makeBlock 94 = .ok (.iload_n 1, 1) := by decide +kernel
theorem dX1_makeBlock_95 : decode cX1_makeBlock 95 = .ok (.iload_n 2, 1) := by decide +kernel
theorem dX1_makeBlock_96 : decode cX1_makeBlock 96 = .ok (.iload_n 1, 1) := by decide +kernel
theorem dX1_makeBlock_97 : decode cX1_makeBlock 97 = .ok (.isub, 1) := by decide +kernel
theorem dX1_makeBlock_98 : decode cX1_makeBlock 98 = .ok (.iconst 1, 1) := by decide +kernel
theorem dX1_makeBlock_99 : decode cX1_makeBlock 99 = .ok (.iadd, 1) := by decide +kernel
theorem dX1_makeBlock_100 : decode cX1_makeBlock 100 = .ok (.iconst 2, 1) := by decide +kernel
theorem dX1_makeBlock_101 : decode cX1_makeBlock 101 = .ok (.idiv, 1) := by decide +kernel
theorem dX1_makeBlock_102 : decode cX1_makeBlock 102 = .ok (.iadd, 1) := by decide +kernel
theorem dX1_makeBlock_103 : decode cX1_makeBlock 103 = .ok (.istore 5, 2) := by decide +kernel
theorem dX1_makeBlock_105 : decode cX1_makeBlock 105 = .ok (.aload_n 0, 1) := by decide +kernel
theorem dX1_makeBlock_106 : decode cX1_makeBlock 106 = .ok (.iload_n 1, 1) := by decide +kernel
theorem dX1_makeBlock_107 : decode cX1_makeBlock 107 = .ok (.iload 5, 2) := by decide +kernel
theorem dX1_makeBlock_109 : decode cX1_makeBlock 109 = .ok (.iload_n 3, 1) := by decide +kernel
theorem dX1_makeBlock_110 : decode cX1_makeBlock 110 = .ok (.iconst 1, 1) := by decide +kernel
theorem dX1_makeBlock_111 : decode cX1_makeBlock 111 = .ok (.iadd, 1) := by decide +kernel
theorem dX1_makeBlock_112 : decode cX1_makeBlock 112 = .ok (.invokevirtual 97, 3) := by decide +kernel
theorem dX1_makeBlock_115 : decode cX1_makeBlock 115 = .ok (.aload_n 0, 1) := by decide +kernel
theorem dX1_makeBlock_116 : decode cX1_makeBlock 116 = .ok (.getfield 38, 3) := by decide +kernel
theorem dX1_makeBlock_119 : decode cX1_makeBlock 119 = .ok (.iload 4, 2) := by decide +kernel
theorem dX1_makeBlock_121 : decode cX1_makeBlock 121 = .ok (.aload_n 0, 1) := by decide +kernel
theorem dX1_makeBlock_122 : decode cX1_makeBlock 122 = .ok (.getfield 66, 3) := by decide +kernel
theorem dX1_makeBlock_125 : decode cX1_makeBlock 125 = .ok (.iastore, 1) := by decide +kernel
theorem dX1_makeBlock_126 : decode cX1_makeBlock 126 = .ok (.aload_n 0, 1) := by decide +kernel
theorem dX1_makeBlock_127 : decode cX1_makeBlock 127 = .ok (.iload 5, 2) := by decide +kernel
theorem dX1_makeBlock_129 : decode cX1_makeBlock 129 = .ok (.iload_n 2, 1) := by decide +kernel
theorem dX1_makeBlock_130 : decode cX1_makeBlock 130 = .ok (.iload_n 3, 1) := by decide +kernel
theorem dX1_makeBlock_131 : decode cX1_makeBlock 131 = .ok (.iconst 1, 1) := by decide +kernel
theorem dX1_makeBlock_132 : decode cX1_makeBlock 132 = .ok (.iadd, 1) := by decide +kernel
theorem dX1_makeBlock_133 : decode cX1_makeBlock 133 = .ok (.invokevirtual 97, 3) := by decide +kernel
theorem dX1_makeBlock_136 : decode cX1_makeBlock 136 = .ok (.return_, 1) := by decide +kernel
set_option maxRecDepth 20000 in
theorem ggX1_setBounds_X0_copyFrom : GoodIn wsX1_setBounds wsX0_copyFrom := goodIn_r _ [9, 10, 11, 12, 7, 13, 14, 15, 16, 17, 18, 47] (by decide +kernel) (by decide +kernel)
set_option maxRecDepth 20000 in
theorem gX1_setBounds_X0_copyFrom_n161 : GoodIn wsX1_setBounds (wsX0_copyFrom) := ggX1_setBounds_X0_copyFrom
set_option maxRecDepth 20000 in
theorem ggX1_setBounds_X0_widen : GoodIn wsX1_setBounds wsX0_widen := goodIn_r _ [21, 22, 23, 24, 25, 26, 27, 28, 10, 11, 12, 7, 13, 14, 15, 16, 17, 18, 47] (by decide +kernel) (by decide +kernel)
set_option maxRecDepth 20000 in
theorem gX1_setBounds_X0_widen_n165 : GoodIn wsX1_setBounds (wsX0_widen) := ggX1_setBounds_X0_widen
theorem dX1_setBounds_0 : decode cX1_setBounds 0 = .ok (.aload_n 0, 1) := by decide +kernel
theorem dX1_setBounds_1 : decode cX1_setBounds 1 = .ok (.getfield 44, 3) := by decide +kernel
theorem dX1_setBounds_4 : decode cX1_setBounds 4 = .ok (.iload_n 1, 1) := by decide +kernel
theorem dX1_setBounds_5 : decode cX1_setBounds 5 = .ok (.aload_n 0, 1) := by decide +kernel
theorem dX1_setBounds_6 : decode cX1_setBounds 6 = .ok (.getfield 24, 3) := by decide +kernel
theorem dX1_setBounds_9 : decode cX1_setBounds 9 = .ok (.aload_n 0, 1) := by decide +kernel
theorem dX1_setBounds_10 : decode cX1_setBounds 10 = .ok (.getfield 28, 3) := by decide +kernel
theorem dX1_setBounds_13 : decode cX1_setBounds 13 = .ok (.aload_n 0, 1) := by decide +kernel
theorem dX1_setBounds_14 : decode cX1_setBounds 14 = .ok (.getfield 32, 3) := by decide +kernel
theorem dX1_setBounds_17 : decode cX1_setBounds 17 = .ok (.iload_n 1, 1) := by decide +kernel
theorem dX1_setBounds_18 : decode cX1_setBounds 18 = .ok (.iaload, 1) := by decide +kernel
theorem dX1_setBounds_19 : decode cX1_setBounds 19 = .ok (.iaload, 1) := by decide +kernel
theorem dX1_setBounds_20 : decode cX1_setBounds 20 = .ok (.invokevirtual 161, 3) := by decide +kernel
theorem dX1_setBounds_23 : decode cX1_setBounds 23 = .ok (.aload_n 0, 1) := by decide +kernel
theorem dX1_setBounds_24 : decode cX1_setBounds 24 = .ok (.getfield 32, 3) := by decide +kernel
theorem dX1_setBounds_27 : decode cX1_setBounds 27 = .ok (.iload_n 1, 1) := by decide +kernel
theorem dX1_setBounds_28 : decode cX1_setBounds 28 = .ok (.iaload, 1) := by decide +kernel
theorem dX1_setBounds_29 : decode cX1_setBounds 29 = .ok (.iconst 1, 1) := by decide +kernel
theorem dX1_setBounds_30 : decode cX1_setBounds 30 = .ok (.iadd, 1) := by decide +kernel
theorem dX1_setBounds_31 : decode cX1_setBounds 31 = .ok (.istore_n 2, 1) := by decide +kernel
theorem dX1_setBounds_32 : decode cX1_setBounds 32 = .ok (.iload_n 2, 1) := by decide +kernel
theorem dX1_setBounds_33 : decode cX1_setBounds 33 = .ok (.aload_n 0, 1) := by decide +kernel
theorem dX1_setBounds_34 : decode cX1_setBounds 34 = .ok (.getfield 35, 3) := by decide +kernel
theorem dX1_setBounds_37 : decode cX1_setBounds 37 = .ok (.iload_n 1, 1) := by decide +kernel
theorem dX1_setBounds_38 : decode cX1_setBounds 38 = .ok (.iaload, 1) := by decide +kernel
theorem dX1_setBounds_39 : decode cX1_setBounds 39 = .ok (.if_icmp .ge 27, 3) := by decide +kernel
theorem dX1_setBounds_42 : decode cX1_setBounds 42 = .ok (.aload_n 0, 1) := by decide +kernel
theorem dX1_setBounds_43 : decode cX1_setBounds 43 = .ok (.getfield 44, 3) := by decide +kernel
theorem dX1_setBounds_46 : decode cX1_setBounds 46 = .ok (.iload_n 1, 1) := by decide +kernel
theorem dX1_setBounds_47 : decode cX1_setBounds 47 = .ok (.aload_n 0, 1) := by decide +kernel
theorem dX1_setBounds_48 : decode cX1_setBounds 48 = .ok (.getfield 24, 3) := by decide +kernel
theorem dX1_setBounds_51 : decode cX1_setBounds 51 = .ok (.aload_n 0, 1) := by decide +kernel
theorem dX1_setBounds_52 : decode cX1_setBounds 52 = .ok (.getfield 28, 3) := by decide +kernel
theorem dX1_setBounds_55 : decode cX1_setBounds 55 = .ok (.iload_n 2, 1) := by decide +kernel
theorem dX1_setBounds_56 : decode cX1_setBounds 56 = .ok (.iaload, 1) := by decide +kernel
theorem dX1_setBounds_57 : decode cX1_setBounds 57 = .ok (.invokevirtual 165, 3) := by decide +kernel
theorem dX1_setBounds_60 : decode cX1_setBounds 60 = .ok (.iinc 2 1, 3) := by decide +kernel
theorem dX1_setBounds_63 : decode cX1_setBounds 63 = .ok (.goto (-31), 3) := by decide +kernel
theorem dX1_setBounds_66 : decode cX1_setBounds 66 = .ok (.return_, 1) := by decide +kernel
set_option maxRecDepth 20000 in
theorem ggX1_widestAxis_X1_spread : GoodIn wsX1_widestAxis wsX1_spread := goodIn_r _ [6, 7, 8, 9, 10, 11, 12, 13, 14, 15, 16, 17, 18, 19, 20, 21, 22, 23, 24, 25, 26, 27, 28, 29, 30, 31, 32, 33, 34, 35, 36, 37, 38, 39, 40, 41, 42, 43] (by decide +kernel) (by decide +kernel)
set_option maxRecDepth 20000 in
theorem gX1_widestAxis_X1_spread : GoodIn wsX1_widestAxis (wsV RX1 168 RX1 yX1_spread wsX1_spread) := goodIn_app (goodIn_of _ (by decide +kernel)) ggX1_widestAxis_X1_spread
theorem dX1_widestAxis_0 : decode cX1_widestAxis 0 = .ok (.iconst 0, 1) := by decide +kernel
theorem dX1_widestAxis_1 : decode cX1_widestAxis 1 = .ok (.istore_n 3, 1) := by decide +kernel
theorem dX1_widestAxis_2 : decode cX1_widestAxis 2 = .ok (.iconst 1, 1) := by decide +kernel
theorem dX1_widestAxis_3 : decode cX1_widestAxis 3 = .ok (.istore 4, 2) := by decide +kernel
theorem dX1_widestAxis_5 : decode cX1_widestAxis 5 = .ok (.iload 4, 2) := by decide +kernel
theorem dX1_widestAxis_7 : decode cX1_widestAxis 7 = .ok (.aload_n 0, 1) := by decide +kernel
theorem dX1_widestAxis_8 : decode cX1_widestAxis 8 = .ok (.getfield 9, 3) := by decide +kernel
theorem dX1_widestAxis_11 : decode cX1_widestAxis 11 = .ok (.if_icmp .ge 30, 3) := by decide +kernel
theorem dX1_widestAxis_14 : decode cX1_widestAxis 14 = .ok (.aload_n 0, 1) := by decide +kernel
theorem dX1_widestAxis_15 : decode cX1_widestAxis 15 = .ok (.iload_n 1, 1) := by decide +kernel
theorem dX1_widestAxis_16 : decode cX1_widestAxis 16 = .ok (.iload_n 2, 1) := by decide +kernel
theorem dX1_widestAxis_17 : decode cX1_widestAxis 17 = .ok (.iload 4, 2) := by decide +kernel
theorem dX1_widestAxis_19 : decode cX1_widestAxis 19 = .ok (.invokevirtual 168, 3) := by decide +kernel
theorem dX1_widestAxis_22 : decode cX1_widestAxis 22 = .ok (.aload_n 0, 1) := by decide +kernel
theorem dX1_widestAxis_23 : decode cX1_widestAxis 23 = .ok (.iload_n 1, 1) := by decide +kernel
theorem dX1_widestAxis_24 : decode cX1_widestAxis 24 = .ok (.iload_n 2, 1) := by decide +kernel
theorem dX1_widestAxis_25 : decode cX1_widestAxis 25 = .ok (.iload_n 3, 1) := by decide +kernel
theorem dX1_widestAxis_26 : decode cX1_widestAxis 26 = .ok (.invokevirtual 168, 3) := by decide +kernel
theorem dX1_widestAxis_29 : decode cX1_widestAxis 29 = .ok (.if_icmp .le 6, 3) := by decide +kernel
theorem dX1_widestAxis_32 : decode cX1_widestAxis 32 = .ok (.iload 4, 2) := by decide +kernel
theorem dX1_widestAxis_34 : decode cX1_widestAxis 34 = .ok (.istore_n 3, 1) := by decide +kernel
theorem dX1_widestAxis_35 : decode cX1_widestAxis 35 = .ok (.iinc 4 1, 3) := by decide +kernel
theorem dX1_widestAxis_38 : decode cX1_widestAxis 38 = .ok (.goto (-33), 3) := by decide +kernel
theorem dX1_widestAxis_41 : decode cX1_widestAxis 41 = .ok (.iload_n 3, 1) := by decide +kernel
theorem dX1_widestAxis_42 : decode cX1_widestAxis 42 = .ok (.ireturn, 1) := by decide +kernel
set_option maxRecDepth 20000 in
theorem ggX1_spread_X0_sum : GoodIn wsX1_spread wsX0_sum := goodIn_r _ [13, 14, 15, 16, 11, 17, 18, 37] (by decide +kernel) (by decide +kernel)
set_option maxRecDepth 20000 in
theorem gX1_spread_X0_sum_n171 : GoodIn wsX1_spread (wsX0_sum) := ggX1_spread_X0_sum
theorem dX1_spread_0 : decode cX1_spread 0 = .ok (.aload_n 0, 1) := by decide +kernel
theorem dX1_spread_1 : decode cX1_spread 1 = .ok (.getfield 24, 3) := by decide +kernel
theorem dX1_spread_4 : decode cX1_spread 4 = .ok (.aload_n 0, 1) := by decide +kernel
theorem dX1_spread_5 : decode cX1_spread 5 = .ok (.getfield 28, 3) := by decide +kernel
theorem dX1_spread_8 : decode cX1_spread 8 = .ok (.iload_n 1, 1) := by decide +kernel
theorem dX1_spread_9 : decode cX1_spread 9 = .ok (.iaload, 1) := by decide +kernel
theorem dX1_spread_10 : decode cX1_spread 10 = .ok (.iload_n 3, 1) := by decide +kernel
theorem dX1_spread_11 : decode cX1_spread 11 = .ok (.invokevirtual 171, 3) := by decide +kernel
theorem dX1_spread_14 : decode cX1_spread 14 = .ok (.istore 4, 2) := by decide +kernel
theorem dX1_spread_16 : decode cX1_spread 16 = .ok (.iload 4, 2) := by decide +kernel
theorem dX1_spread_18 : decode cX1_spread 18 = .ok (.istore 5, 2) := by decide +kernel
theorem dX1_spread_20 : decode cX1_spread 20 = .ok (.iload_n 1, 1) := by decide +kernel
theorem dX1_spread_21 : decode cX1_spread 21 = .ok (.iconst 1, 1) := by decide +kernel
theorem dX1_spread_22 : decode cX1_spread 22 = .ok (.iadd, 1) := by decide +kernel
theorem dX1_spread_23 : decode cX1_spread 23 = .ok (.istore 6, 2) := by decide +kernel
theorem dX1_spread_25 : decode cX1_spread 25 = .ok (.iload 6, 2) := by decide +kernel
theorem dX1_spread_27 : decode cX1_spread 27 = .ok (.iload_n 2, 1) := by decide +kernel
theorem dX1_spread_28 : decode cX1_spread 28 = .ok (.if_icmp .ge 44, 3) := by decide +kernel
theorem dX1_spread_31 : decode cX1_spread 31 = .ok (.aload_n 0, 1) := by decide +kernel
theorem dX1_spread_32 : decode cX1_spread 32 = .ok (.getfield 24, 3) := by decide +kernel
theorem dX1_spread_35 : decode cX1_spread 35 = .ok (.aload_n 0, 1) := by decide +kernel
theorem dX1_spread_36 : decode cX1_spread 36 = .ok (.getfield 28, 3) := by decide +kernel
theorem dX1_spread_39 : decode cX1_spread 39 = .ok (.iload 6, 2) := by decide +kernel
theorem dX1_spread_41 : decode cX1_spread 41 = .ok (.iaload, 1) := by decide +kernel
theorem dX1_spread_42 : decode cX1_spread 42 = .ok (.iload_n 3, 1) := by decide +kernel
theorem dX1_spread_43 : decode cX1_spread 43 = .ok (.invokevirtual 171, 3) := by decide +kernel
theorem dX1_spread_46 : decode cX1_spread 46 = .ok (.istore 7, 2) := by decide +kernel
theorem dX1_spread_48 : decode cX1_spread 48 = .ok (.iload 4, 2) := by decide +kernel
theorem dX1_spread_50 : decode cX1_spread 50 = .ok (.iload 7, 2) := by decide +kernel
theorem dX1_spread_52 : decode cX1_spread 52 = .ok (.invokestatic 174, 3) := by decide +kernel
theorem dX1_spread_55 : decode cX1_spread 55 = .ok (.istore 4, 2) := by decide +kernel
theorem dX1_spread_57 : decode cX1_spread 57 = .ok (.iload 5, 2) := by decide +kernel
theorem dX1_spread_59 : decode cX1_spread 59 = .ok (.iload 7, 2) := by decide +kernel
theorem dX1_spread_61 : decode cX1_spread 61 = .ok (.invokestatic 177, 3) := by decide +kernel
theorem dX1_spread_64 : decode cX1_spread 64 = .ok (.istore 5, 2) := by decide +kernel
theorem dX1_spread_66 : decode cX1_spread 66 = .ok (.iinc 6 1, 3) := by decide +kernel
theorem dX1_spread_69 : decode cX1_spread 69 = .ok (.goto (-44), 3) := by decide +kernel
theorem dX1_spread_72 : decode cX1_spread 72 = .ok (.iload 5, 2) := by decide +kernel
theorem dX1_spread_74 : decode cX1_spread 74 = .ok (.iload 4, 2) := by decide +kernel
theorem dX1_spread_76 : decode cX1_spread 76 = .ok (.isub, 1) := by decide +kernel
theorem dX1_spread_77 : decode cX1_spread 77 = .ok (.ireturn, 1) := by decide +kernel
set_option maxRecDepth 20000 in
theorem ggX1_sortRun_X1_comesBefore : GoodIn wsX1_sortRun wsX1_comesBefore := goodIn_r _ [6, 7, 8, 9, 10, 11, 12, 13, 14, 15, 16, 17, 18, 19, 20, 21, 22, 23, 24, 25, 26, 27, 28, 29, 30, 31, 32, 33, 34, 35] (by decide +kernel) (by decide +kernel)
set_option maxRecDepth 20000 in
theorem gX1_sortRun_X1_comesBefore : GoodIn wsX1_sortRun (wsV RX1 180 RX1 yX1_comesBefore wsX1_comesBefore) := goodIn_app (goodIn_of _ (by decide +kernel)) ggX1_sortRun_X1_comesBefore
theorem dX1_sortRun_0 : decode cX1_sortRun 0 = .ok (.iload_n 1, 1) := by decide +kernel
theorem dX1_sortRun_1 : decode cX1_sortRun 1 = .ok (.iconst 1, 1) := by decide +kernel
theorem dX1_sortRun_2 : decode cX1_sortRun 2 = .ok (.iadd, 1) := by decide +kernel
theorem dX1_sortRun_3 : decode cX1_sortRun 3 = .ok (.istore 4, 2) := by decide +kernel
theorem dX1_sortRun_5 : decode cX1_sortRun 5 = .ok (.iload 4, 2) := by decide +kernel
theorem dX1_sortRun_7 : decode cX1_sortRun 7 = .ok (.iload_n 2, 1) := by decide +kernel
theorem dX1_sortRun_8 : decode cX1_sortRun 8 = .ok (.if_icmp .ge 85, 3) := by decide +kernel
theorem dX1_sortRun_11 : decode cX1_sortRun 11 = .ok (.iload 4, 2) := by decide +kernel
theorem dX1_sortRun_13 : decode cX1_sortRun 13 = .ok (.istore 5, 2) := by decide +kernel
theorem dX1_sortRun_15 : decode cX1_sortRun 15 = .ok (.iload 5, 2) := by decide +kernel
theorem dX1_sortRun_17 : decode cX1_sortRun 17 = .ok (.iload_n 1, 1) := by decide +kernel
theorem dX1_sortRun_18 : decode cX1_sortRun 18 = .ok (.if_icmp .le 69, 3) := by decide +kernel
theorem dX1_sortRun_21 : decode cX1_sortRun 21 = .ok (.aload_n 0, 1) := by decide +kernel
theorem dX1_sortRun_22 : decode cX1_sortRun 22 = .ok (.aload_n 0, 1) := by decide +kernel
theorem dX1_sortRun_23 : decode cX1_sortRun 23 = .ok (.getfield 28, 3) := by decide +kernel
theorem dX1_sortRun_26 : decode cX1_sortRun 26 = .ok (.iload 5, 2) := by decide +kernel
theorem dX1_sortRun_28 : decode cX1_sortRun 28 = .ok (.iaload, 1) := by decide +kernel
theorem dX1_sortRun_29 : decode cX1_sortRun 29 = .ok (.aload_n 0, 1) := by decide +kernel
theorem dX1_sortRun_30 : decode cX1_sortRun 30 = .ok (.getfield 28, 3) := by decide +kernel
theorem dX1_sortRun_33 : decode cX1_sortRun 33 = .ok (.iload 5, 2) := by decide +kernel
theorem dX1_sortRun_35 : decode cX1_sortRun 35 = .ok (.iconst 1, 1) := by decide +kernel
theorem dX1_sortRun_36 : decode cX1_sortRun 36 = .ok (.isub, 1) := by decide +kernel
theorem dX1_sortRun_37 : decode cX1_sortRun 37 = .ok (.iaload, 1) := by decide +kernel
theorem dX1_sortRun_38 : decode cX1_sortRun 38 = .ok (.iload_n 3, 1) := by decide +kernel
theorem dX1_sortRun_39 : decode cX1_sortRun 39 = .ok (.invokevirtual 180, 3) := by decide +kernel
theorem dX1_sortRun_42 : decode cX1_sortRun 42 = .ok (.ifCond .eq 45, 3) := by decide +kernel
theorem dX1_sortRun_45 : decode cX1_sortRun 45 = .ok (.aload_n 0, 1) := by decide +kernel
theorem dX1_sortRun_46 : decode cX1_sortRun 46 = .ok (.getfield 28, 3) := by decide +kernel
theorem dX1_sortRun_49 : decode cX1_sortRun 49 = .ok (.iload 5, 2) := by decide +kernel
theorem dX1_sortRun_51 : decode cX1_sortRun 51 = .ok (.iconst 1, 1) := by decide +kernel
theorem dX1_sortRun_52 : decode cX1_sortRun 52 = .ok (.isub, 1) := by decide +kernel
theorem dX1_sortRun_53 : decode cX1_sortRun 53 = .ok (.iaload, 1) := by decide +kernel
theorem dX1_sortRun_54 : decode cX1_sortRun 54 = .ok (.istore 6, 2) := by decide +kernel
theorem dX1_sortRun_56 : decode cX1_sortRun 56 = .ok (.aload_n 0, 1) := by decide +kernel
theorem dX1_sortRun_57 : decode cX1_sortRun 57 = .ok (.getfield 28, 3) := by decide +kernel
theorem dX1_sortRun_60 : decode cX1_sortRun 60 = .ok (.iload 5, 2) := by decide +kernel
theorem dX1_sortRun_62 : decode cX1_sortRun 62 = .ok (.iconst 1, 1) := by decide +kernel
theorem dX1_sortRun_63 : decode cX1_sortRun 63 = .ok (.isub, 1) := by decide +kernel
theorem dX1_sortRun_64 : decode cX1_sortRun 64 = .ok (.aload_n 0, 1) := by decide +kernel
theorem dX1_sortRun_65 : decode cX1_sortRun 65 = .ok (.getfield 28, 3) := by decide +kernel
theorem dX1_sortRun_68 : decode cX1_sortRun 68 = .ok (.iload 5, 2) := by decide +kernel
theorem dX1_sortRun_70 : decode cX1_sortRun 70 = .ok (.iaload, 1) := by decide +kernel
theorem dX1_sortRun_71 : decode cX1_sortRun 71 = .ok (.iastore, 1) := by decide +kernel
theorem dX1_sortRun_72 : decode cX1_sortRun 72 = .ok (.aload_n 0, 1) := by decide +kernel
theorem dX1_sortRun_73 : decode cX1_sortRun 73 = .ok (.getfield 28, 3) := by decide +kernel
theorem dX1_sortRun_76 : decode cX1_sortRun 76 = .ok (.iload 5, 2) := by decide +kernel
theorem dX1_sortRun_78 : decode cX1_sortRun 78 = .ok (.iload 6, 2) := by decide +kernel
theorem dX1_sortRun_80 : decode cX1_sortRun 80 = .ok (.iastore, 1) := by decide +kernel
theorem dX1_sortRun_81 : decode cX1_sortRun 81 = .ok (.iinc 5 (-1), 3) := by decide +kernel
theorem dX1_sortRun_84 : decode cX1_sortRun 84 = .ok (.goto (-69), 3) := by decide +kernel
theorem dX1_sortRun_87 : decode cX1_sortRun 87 = .ok (.iinc 4 1, 3) := by decide +kernel
theorem dX1_sortRun_90 : decode cX1_sortRun 90 = .ok (.goto (-85), 3) := by decide +kernel
theorem dX1_sortRun_93 : decode cX1_sortRun 93 = .ok (.return_, 1) := by decide +kernel
set_option maxRecDepth 20000 in
theorem ggX1_comesBefore_X0_sum : GoodIn wsX1_comesBefore wsX0_sum := goodIn_r _ [5, 6, 7, 8, 3, 9, 10, 29] (by decide +kernel) (by decide +kernel)
set_option maxRecDepth 20000 in
theorem gX1_comesBefore_X0_sum_n171 : GoodIn wsX1_comesBefore (wsX0_sum) := ggX1_comesBefore_X0_sum
theorem dX1_comesBefore_0 : decode cX1_comesBefore 0 = .ok (.aload_n 0, 1) := by decide +kernel
theorem dX1_comesBefore_1 : decode cX1_comesBefore 1 = .ok (.getfield 24, 3) := by decide +kernel
theorem dX1_comesBefore_4 : decode cX1_comesBefore 4 = .ok (.iload_n 1, 1) := by decide +kernel
theorem dX1_comesBefore_5 : decode cX1_comesBefore 5 = .ok (.iload_n 3, 1) := by decide +kernel
theorem dX1_comesBefore_6 : decode cX1_comesBefore 6 = .ok (.invokevirtual 171, 3) := by decide +kernel
theorem dX1_comesBefore_9 : decode cX1_comesBefore 9 = .ok (.istore 4, 2) := by decide +kernel
theorem dX1_comesBefore_11 : decode cX1_comesBefore 11 = .ok (.aload_n 0, 1) := by decide +kernel
theorem dX1_comesBefore_12 : decode cX1_comesBefore 12 = .ok (.getfield 24, 3) := by decide +kernel
theorem dX1_comesBefore_15 : decode cX1_comesBefore 15 = .ok (.iload_n 2, 1) := by decide +kernel
theorem dX1_comesBefore_16 : decode cX1_comesBefore 16 = .ok (.iload_n 3, 1) := by decide +kernel
theorem dX1_comesBefore_17 : decode cX1_comesBefore 17 = .ok (.invokevirtual 171, 3) := by decide +kernel
theorem dX1_comesBefore_20 : decode cX1_comesBefore 20 = .ok (.istore 5, 2) := by decide +kernel
theorem dX1_comesBefore_22 : decode cX1_comesBefore 22 = .ok (.iload 4, 2) := by decide +kernel
theorem dX1_comesBefore_24 : decode cX1_comesBefore 24 = .ok (.iload 5, 2) := by decide +kernel
theorem dX1_comesBefore_26 : decode cX1_comesBefore 26 = .ok (.if_icmp .lt 15, 3) := by decide +kernel
theorem dX1_comesBefore_29 : decode cX1_comesBefore 29 = .ok (.iload 4, 2) := by decide +kernel
theorem dX1_comesBefore_31 : decode cX1_comesBefore 31 = .ok (.iload 5, 2) := by decide +kernel
theorem dX1_comesBefore_33 : decode cX1_comesBefore 33 = .ok (.if_icmp .ne 12, 3) := by decide +kernel
theorem dX1_comesBefore_36 : decode cX1_comesBefore 36 = .ok (.iload_n 1, 1) := by decide +kernel
theorem dX1_comesBefore_37 : decode cX1_comesBefore 37 = .ok (.iload_n 2, 1) := by decide +kernel
theorem dX1_comesBefore_38 : decode cX1_comesBefore 38 = .ok (.if_icmp .ge 7, 3) := by decide +kernel
theorem dX1_comesBefore_41 : decode cX1_comesBefore 41 = .ok (.iconst 1, 1) := by decide +kernel
theorem dX1_comesBefore_42 : decode cX1_comesBefore 42 = .ok (.goto 4, 3) := by decide +kernel
theorem dX1_comesBefore_45 : decode cX1_comesBefore 45 = .ok (.iconst 0, 1) := by decide +kernel
theorem dX1_comesBefore_46 : decode cX1_comesBefore 46 = .ok (.ireturn, 1) := by decide +kernel
theorem dX1_forgetAsked_0 : decode cX1_forgetAsked 0 = .ok (.iconst 0, 1) := by decide +kernel
theorem dX1_forgetAsked_1 : decode cX1_forgetAsked 1 = .ok (.istore_n 1, 1) := by decide +kernel
theorem dX1_forgetAsked_2 : decode cX1_forgetAsked 2 = .ok (.iload_n 1, 1) := by decide +kernel
theorem dX1_forgetAsked_3 : decode cX1_forgetAsked 3 = .ok (.bipush 64, 2) := by decide +kernel
theorem dX1_forgetAsked_5 : decode cX1_forgetAsked 5 = .ok (.if_icmp .ge 16, 3) := by decide +kernel
theorem dX1_forgetAsked_8 : decode cX1_forgetAsked 8 = .ok (.aload_n 0, 1) := by decide +kernel
theorem dX1_forgetAsked_9 : decode cX1_forgetAsked 9 = .ok (.getfield 50, 3) := by decide +kernel
theorem dX1_forgetAsked_12 : decode cX1_forgetAsked 12 = .ok (.iload_n 1, 1) := by decide +kernel
theorem dX1_forgetAsked_13 : decode cX1_forgetAsked 13 = .ok (.iconst 0, 1) := by decide +kernel
theorem dX1_forgetAsked_14 : decode cX1_forgetAsked 14 = .ok (.bastore, 1) := by decide +kernel
theorem dX1_forgetAsked_15 : decode cX1_forgetAsked 15 = .ok (.iinc 1 1, 3) := by decide +kernel
theorem dX1_forgetAsked_18 : decode cX1_forgetAsked 18 = .ok (.goto (-16), 3) := by decide +kernel
theorem dX1_forgetAsked_21 : decode cX1_forgetAsked 21 = .ok (.aload_n 0, 1) := by decide +kernel
theorem dX1_forgetAsked_22 : decode cX1_forgetAsked 22 = .ok (.iconst 0, 1) := by decide +kernel
theorem dX1_forgetAsked_23 : decode cX1_forgetAsked 23 = .ok (.putfield 114, 3) := by decide +kernel
theorem dX1_forgetAsked_26 : decode cX1_forgetAsked 26 = .ok (.iconst 0, 1) := by decide +kernel
theorem dX1_forgetAsked_27 : decode cX1_forgetAsked 27 = .ok (.istore_n 1, 1) := by decide +kernel
theorem dX1_forgetAsked_28 : decode cX1_forgetAsked 28 = .ok (.iload_n 1, 1) := by decide +kernel
theorem dX1_forgetAsked_29 : decode cX1_forgetAsked 29 = .ok (.iconst 3, 1) := by decide +kernel
theorem dX1_forgetAsked_30 : decode cX1_forgetAsked 30 = .ok (.if_icmp .ge 16, 3) := by decide +kernel
theorem dX1_forgetAsked_33 : decode cX1_forgetAsked 33 = .ok (.aload_n 0, 1) := by decide +kernel
theorem dX1_forgetAsked_34 : decode cX1_forgetAsked 34 = .ok (.getfield 53, 3) := by decide +kernel
theorem dX1_forgetAsked_37 : decode cX1_forgetAsked 37 = .ok (.iload_n 1, 1) := by decide +kernel
theorem dX1_forgetAsked_38 : decode cX1_forgetAsked 38 = .ok (.iconst 0, 1) := by decide +kernel
theorem dX1_forgetAsked_39 : decode cX1_forgetAsked 39 = .ok (.iastore, 1) := by decide +kernel
theorem dX1_forgetAsked_40 : decode cX1_forgetAsked 40 = .ok (.iinc 1 1, 3) := by decide +kernel
theorem dX1_forgetAsked_43 : decode cX1_forgetAsked 43 = .ok (.goto (-15), 3) := by decide +kernel
theorem dX1_forgetAsked_46 : decode cX1_forgetAsked 46 = .ok (.return_, 1) := by decide +kernel
set_option maxRecDepth 20000 in
theorem ggX1_askBlocks_X1_verdictOn : GoodIn wsX1_askBlocks wsX1_verdictOn := goodIn_r _ [8, 9, 10, 11, 12, 13, 14, 15, 16, 17, 18, 19, 20, 21, 53, 54, 55, 56, 57, 58, 59, 60, 61, 62, 63, 64, 65, 66, 67, 68, 69, 70, 71] (by decide +kernel) (by decide +kernel)
set_option maxRecDepth 20000 in
theorem gX1_askBlocks_X1_verdictOn : GoodIn wsX1_askBlocks (wsV RX1 183 RX1 yX1_verdictOn wsX1_verdictOn) := goodIn_app (goodIn_of _ (by decide +kernel)) ggX1_askBlocks_X1_verdictOn
set_option maxRecDepth 20000 in
theorem ggX1_askBlocks_X1_findAllOf : GoodIn wsX1_askBlocks wsX1_findAllOf := goodIn_r _ [25, 26, 2, 27, 28, 3, 29, 30, 31, 7, 32, 33, 34, 53, 54, 55, 56, 57, 58, 59, 60, 61, 62, 63, 64, 65, 66, 67, 68, 69, 70] (by decide +kernel) (by decide +kernel)
set_option maxRecDepth 20000 in
theorem gX1_askBlocks_X1_findAllOf : GoodIn wsX1_askBlocks (wsV RX1 186 RX1 yX1_findAllOf wsX1_findAllOf) := goodIn_app (goodIn_of _ (by decide +kernel)) ggX1_askBlocks_X1_findAllOf
set_option maxRecDepth 20000 in
theorem ggX1_askBlocks_X1_isParted : GoodIn wsX1_askBlocks wsX1_isParted := goodIn_r _ [38, 39, 53, 54, 55, 56, 57, 58, 59, 60, 61, 62, 63, 64, 65, 66, 67, 68, 69, 70] (by decide +kernel) (by decide +kernel)
set_option maxRecDepth 20000 in
theorem gX1_askBlocks_X1_isParted : GoodIn wsX1_askBlocks (wsV RX1 104 RX1 yX1_isParted wsX1_isParted) := goodIn_app (goodIn_of _ (by decide +kernel)) ggX1_askBlocks_X1_isParted
set_option maxRecDepth 20000 in
theorem ggX1_askBlocks_X1_askThingsOf : GoodIn wsX1_askBlocks wsX1_askThingsOf := goodIn_r _ [43, 26, 2, 28, 44, 45, 46, 7, 47, 27, 48, 49, 50, 51, 52, 9, 11, 20, 13, 21, 15, 16, 17, 18, 19, 12, 14, 29, 30, 31, 32, 33, 34, 53, 54, 55, 56, 57, 58, 59, 60, 61, 62, 63, 64, 65, 66, 67, 68, 69, 70, 71] (by decide +kernel) (by decide +kernel)
set_option maxRecDepth 20000 in
theorem gX1_askBlocks_X1_askThingsOf : GoodIn wsX1_askBlocks (wsV RX1 189 RX1 yX1_askThingsOf wsX1_askThingsOf) := goodIn_app (goodIn_of _ (by decide +kernel)) ggX1_askBlocks_X1_askThingsOf
theorem dX1_askBlocks_0 : decode cX1_askBlocks 0 = .ok (.iconst 0, 1) := by decide +kernel
theorem dX1_askBlocks_1 : decode cX1_askBlocks 1 = .ok (.istore_n 2, 1) := by decide +kernel
theorem dX1_askBlocks_2 : decode cX1_askBlocks 2 = .ok (.iconst 0, 1) := by decide +kernel
theorem dX1_askBlocks_3 : decode cX1_askBlocks 3 = .ok (.istore_n 3, 1) := by decide +kernel
theorem dX1_askBlocks_4 : decode cX1_askBlocks 4 = .ok (.iload_n 3, 1) := by decide +kernel
theorem dX1_askBlocks_5 : decode cX1_askBlocks 5 = .ok (.aload_n 0, 1) := by decide +kernel
theorem dX1_askBlocks_6 : decode cX1_askBlocks 6 = .ok (.getfield 66, 3) := by decide +kernel
theorem dX1_askBlocks_9 : decode cX1_askBlocks 9 = .ok (.if_icmp .ge 98, 3) := by decide +kernel
theorem dX1_askBlocks_12 : decode cX1_askBlocks 12 = .ok (.aload_n 0, 1) := by decide +kernel
theorem dX1_askBlocks_13 : decode cX1_askBlocks 13 = .ok (.getfield 35, 3) := by decide +kernel
theorem dX1_askBlocks_16 : decode cX1_askBlocks 16 = .ok (.iload_n 3, 1) := by decide +kernel
theorem dX1_askBlocks_17 : decode cX1_askBlocks 17 = .ok (.iaload, 1) := by decide +kernel
theorem dX1_askBlocks_18 : decode cX1_askBlocks 18 = .ok (.iload_n 2, 1) := by decide +kernel
theorem dX1_askBlocks_19 : decode cX1_askBlocks 19 = .ok (.if_icmp .gt 6, 3) := by decide +kernel
theorem dX1_askBlocks_22 : decode cX1_askBlocks 22 = .ok (.goto 79, 3) := by decide +kernel
theorem dX1_askBlocks_25 : decode cX1_askBlocks 25 = .ok (.aload_n 0, 1) := by decide +kernel
theorem dX1_askBlocks_26 : decode cX1_askBlocks 26 = .ok (.iload_n 3, 1) := by decide +kernel
theorem dX1_askBlocks_27 : decode cX1_askBlocks 27 = .ok (.iload_n 1, 1) := by decide +kernel
theorem dX1_askBlocks_28 : decode cX1_askBlocks 28 = .ok (.invokevirtual 183, 3) := by decide +kernel
theorem dX1_askBlocks_31 : decode cX1_askBlocks 31 = .ok (.istore 4, 2) := by decide +kernel
theorem dX1_askBlocks_33 : decode cX1_askBlocks 33 = .ok (.iload 4, 2) := by decide +kernel
theorem dX1_askBlocks_35 : decode cX1_askBlocks 35 = .ok (.iconst 2, 1) := by decide +kernel
theorem dX1_askBlocks_36 : decode cX1_askBlocks 36 = .ok (.if_icmp .eq 34, 3) := by decide +kernel
theorem dX1_askBlocks_39 : decode cX1_askBlocks 39 = .ok (.aload_n 0, 1) := by decide +kernel
theorem dX1_askBlocks_40 : decode cX1_askBlocks 40 = .ok (.getfield 53, 3) := by decide +kernel
theorem dX1_askBlocks_43 : decode cX1_askBlocks 43 = .ok (.iconst 1, 1) := by decide +kernel
theorem dX1_askBlocks_44 : decode cX1_askBlocks 44 = .ok (.dup2, 1) := by decide +kernel
theorem dX1_askBlocks_45 : decode cX1_askBlocks 45 = .ok (.iaload, 1) := by decide +kernel
theorem dX1_askBlocks_46 : decode cX1_askBlocks 46 = .ok (.iconst 1, 1) := by decide +kernel
theorem dX1_askBlocks_47 : decode cX1_askBlocks 47 = .ok (.iadd, 1) := by decide +kernel
theorem dX1_askBlocks_48 : decode cX1_askBlocks 48 = .ok (.iastore, 1) := by decide +kernel
theorem dX1_askBlocks_49 : decode cX1_askBlocks 49 = .ok (.iload 4, 2) := by decide +kernel
theorem dX1_askBlocks_51 : decode cX1_askBlocks 51 = .ok (.iconst 1, 1) := by decide +kernel
theorem dX1_askBlocks_52 : decode cX1_askBlocks 52 = .ok (.if_icmp .ne 8, 3) := by decide +kernel
theorem dX1_askBlocks_55 : decode cX1_askBlocks 55 = .ok (.aload_n 0, 1) := by decide +kernel
theorem dX1_askBlocks_56 : decode cX1_askBlocks 56 = .ok (.iload_n 3, 1) := by decide +kernel
theorem dX1_askBlocks_57 : decode cX1_askBlocks 57 = .ok (.invokevirtual 186, 3) := by decide +kernel
theorem dX1_askBlocks_60 : decode cX1_askBlocks 60 = .ok (.aload_n 0, 1) := by decide +kernel
theorem dX1_askBlocks_61 : decode cX1_askBlocks 61 = .ok (.getfield 35, 3) := by decide +kernel
theorem dX1_askBlocks_64 : decode cX1_askBlocks 64 = .ok (.iload_n 3, 1) := by decide +kernel
theorem dX1_askBlocks_65 : decode cX1_askBlocks 65 = .ok (.iaload, 1) := by decide +kernel
theorem dX1_askBlocks_66 : decode cX1_askBlocks 66 = .ok (.istore_n 2, 1) := by decide +kernel
theorem dX1_askBlocks_67 : decode cX1_askBlocks 67 = .ok (.goto 34, 3) := by decide +kernel
theorem dX1_askBlocks_70 : decode cX1_askBlocks 70 = .ok (.aload_n 0, 1) := by decide +kernel
theorem dX1_askBlocks_71 : decode cX1_askBlocks 71 = .ok (.getfield 53, 3) := by decide +kernel
theorem dX1_askBlocks_74 : decode cX1_askBlocks 74 = .ok (.iconst 0, 1) := by decide +kernel
theorem dX1_askBlocks_75 : decode cX1_askBlocks 75 = .ok (.dup2, 1) := by decide +kernel
theorem dX1_askBlocks_76 : decode cX1_askBlocks 76 = .ok (.iaload, 1) := by decide +kernel
theorem dX1_askBlocks_77 : decode cX1_askBlocks 77 = .ok (.iconst 1, 1) := by decide +kernel
theorem dX1_askBlocks_78 : decode cX1_askBlocks 78 = .ok (.iadd, 1) := by decide +kernel
theorem dX1_askBlocks_79 : decode cX1_askBlocks 79 = .ok (.iastore, 1) := by decide +kernel
theorem dX1_askBlocks_80 : decode cX1_askBlocks 80 = .ok (.aload_n 0, 1) := by decide +kernel
theorem dX1_askBlocks_81 : decode cX1_askBlocks 81 = .ok (.iload_n 3, 1) := by decide +kernel
theorem dX1_askBlocks_82 : decode cX1_askBlocks 82 = .ok (.invokevirtual 104, 3) := by decide +kernel
theorem dX1_askBlocks_85 : decode cX1_askBlocks 85 = .ok (.ifCond .ne 16, 3) := by decide +kernel
theorem dX1_askBlocks_88 : decode cX1_askBlocks 88 = .ok (.aload_n 0, 1) := by decide +kernel
theorem dX1_askBlocks_89 : decode cX1_askBlocks 89 = .ok (.iload_n 3, 1) := by decide +kernel
theorem dX1_askBlocks_90 : decode cX1_askBlocks 90 = .ok (.iload_n 1, 1) := by decide +kernel
theorem dX1_askBlocks_91 : decode cX1_askBlocks 91 = .ok (.invokevirtual 189, 3) := by decide +kernel
theorem dX1_askBlocks_94 : decode cX1_askBlocks 94 = .ok (.aload_n 0, 1) := by decide +kernel
theorem dX1_askBlocks_95 : decode cX1_askBlocks 95 = .ok (.getfield 35, 3) := by decide +kernel
theorem dX1_askBlocks_98 : decode cX1_askBlocks 98 = .ok (.iload_n 3, 1) := by decide +kernel
theorem dX1_askBlocks_99 : decode cX1_askBlocks 99 = .ok (.iaload, 1) := by decide +kernel
theorem dX1_askBlocks_100 : decode cX1_askBlocks 100 = .ok (.istore_n 2, 1) := by decide +kernel
theorem dX1_askBlocks_101 : decode cX1_askBlocks 101 = .ok (.iinc 3 1, 3) := by decide +kernel
theorem dX1_askBlocks_104 : decode cX1_askBlocks 104 = .ok (.goto (-100), 3) := by decide +kernel
theorem dX1_askBlocks_107 : decode cX1_askBlocks 107 = .ok (.return_, 1) := by decide +kernel
set_option maxRecDepth 20000 in
theorem ggX1_verdictOn_X0_within : GoodIn wsX1_verdictOn wsX0_within := goodIn_r _ [6, 7, 8, 9, 5, 10, 11, 32] (by decide +kernel) (by decide +kernel)
set_option maxRecDepth 20000 in
theorem gX1_verdictOn_X0_within_n192 : GoodIn wsX1_verdictOn (wsX0_within) := ggX1_verdictOn_X0_within
set_option maxRecDepth 20000 in
theorem ggX1_verdictOn_X0_meet : GoodIn wsX1_verdictOn wsX0_meet := goodIn_r _ [13, 7, 8, 9, 5, 10, 11, 32] (by decide +kernel) (by decide +kernel)
set_option maxRecDepth 20000 in
theorem gX1_verdictOn_X0_meet_n129 : GoodIn wsX1_verdictOn (wsX0_meet) := ggX1_verdictOn_X0_meet
theorem dX1_verdictOn_0 : decode cX1_verdictOn 0 = .ok (.iload_n 2, 1) := by decide +kernel
theorem dX1_verdictOn_1 : decode cX1_verdictOn 1 = .ok (.iconst 2, 1) := by decide +kernel
theorem dX1_verdictOn_2 : decode cX1_verdictOn 2 = .ok (.if_icmp .ne 29, 3) := by decide +kernel
theorem dX1_verdictOn_5 : decode cX1_verdictOn 5 = .ok (.aload_n 0, 1) := by decide +kernel
theorem dX1_verdictOn_6 : decode cX1_verdictOn 6 = .ok (.getfield 47, 3) := by decide +kernel
theorem dX1_verdictOn_9 : decode cX1_verdictOn 9 = .ok (.iconst 0, 1) := by decide +kernel
theorem dX1_verdictOn_10 : decode cX1_verdictOn 10 = .ok (.aload_n 0, 1) := by decide +kernel
theorem dX1_verdictOn_11 : decode cX1_verdictOn 11 = .ok (.getfield 44, 3) := by decide +kernel
theorem dX1_verdictOn_14 : decode cX1_verdictOn 14 = .ok (.iload_n 1, 1) := by decide +kernel
theorem dX1_verdictOn_15 : decode cX1_verdictOn 15 = .ok (.aload_n 0, 1) := by decide +kernel
theorem dX1_verdictOn_16 : decode cX1_verdictOn 16 = .ok (.getfield 9, 3) := by decide +kernel
theorem dX1_verdictOn_19 : decode cX1_verdictOn 19 = .ok (.invokestatic 192, 3) := by decide +kernel
theorem dX1_verdictOn_22 : decode cX1_verdictOn 22 = .ok (.ifCond .eq 7, 3) := by decide +kernel
theorem dX1_verdictOn_25 : decode cX1_verdictOn 25 = .ok (.iconst 2, 1) := by decide +kernel
theorem dX1_verdictOn_26 : decode cX1_verdictOn 26 = .ok (.goto 4, 3) := by decide +kernel
theorem dX1_verdictOn_29 : decode cX1_verdictOn 29 = .ok (.iconst 0, 1) := by decide +kernel
theorem dX1_verdictOn_30 : decode cX1_verdictOn 30 = .ok (.ireturn, 1) := by decide +kernel
theorem dX1_verdictOn_31 : decode cX1_verdictOn 31 = .ok (.aload_n 0, 1) := by decide +kernel
theorem dX1_verdictOn_32 : decode cX1_verdictOn 32 = .ok (.getfield 44, 3) := by decide +kernel
theorem dX1_verdictOn_35 : decode cX1_verdictOn 35 = .ok (.iload_n 1, 1) := by decide +kernel
theorem dX1_verdictOn_36 : decode cX1_verdictOn 36 = .ok (.aload_n 0, 1) := by decide +kernel
theorem dX1_verdictOn_37 : decode cX1_verdictOn 37 = .ok (.getfield 47, 3) := by decide +kernel
theorem dX1_verdictOn_40 : decode cX1_verdictOn 40 = .ok (.iconst 0, 1) := by decide +kernel
theorem dX1_verdictOn_41 : decode cX1_verdictOn 41 = .ok (.aload_n 0, 1) := by decide +kernel
theorem dX1_verdictOn_42 : decode cX1_verdictOn 42 = .ok (.getfield 9, 3) := by decide +kernel
theorem dX1_verdictOn_45 : decode cX1_verdictOn 45 = .ok (.invokestatic 129, 3) := by decide +kernel
theorem dX1_verdictOn_48 : decode cX1_verdictOn 48 = .ok (.ifCond .ne 14, 3) := by decide +kernel
theorem dX1_verdictOn_51 : decode cX1_verdictOn 51 = .ok (.iload_n 2, 1) := by decide +kernel
theorem dX1_verdictOn_52 : decode cX1_verdictOn 52 = .ok (.iconst 3, 1) := by decide +kernel
theorem dX1_verdictOn_53 : decode cX1_verdictOn 53 = .ok (.if_icmp .ne 7, 3) := by decide +kernel
theorem dX1_verdictOn_56 : decode cX1_verdictOn 56 = .ok (.iconst 1, 1) := by decide +kernel
theorem dX1_verdictOn_57 : decode cX1_verdictOn 57 = .ok (.goto 4, 3) := by decide +kernel
theorem dX1_verdictOn_60 : decode cX1_verdictOn 60 = .ok (.iconst 0, 1) := by decide +kernel
theorem dX1_verdictOn_61 : decode cX1_verdictOn 61 = .ok (.ireturn, 1) := by decide +kernel
theorem dX1_verdictOn_62 : decode cX1_verdictOn 62 = .ok (.aload_n 0, 1) := by decide +kernel
theorem dX1_verdictOn_63 : decode cX1_verdictOn 63 = .ok (.getfield 44, 3) := by decide +kernel
theorem dX1_verdictOn_66 : decode cX1_verdictOn 66 = .ok (.iload_n 1, 1) := by decide +kernel
theorem dX1_verdictOn_67 : decode cX1_verdictOn 67 = .ok (.aload_n 0, 1) := by decide +kernel
theorem dX1_verdictOn_68 : decode cX1_verdictOn 68 = .ok (.getfield 47, 3) := by decide +kernel
theorem dX1_verdictOn_71 : decode cX1_verdictOn 71 = .ok (.iconst 0, 1) := by decide +kernel
theorem dX1_verdictOn_72 : decode cX1_verdictOn 72 = .ok (.aload_n 0, 1) := by decide +kernel
theorem dX1_verdictOn_73 : decode cX1_verdictOn 73 = .ok (.getfield 9, 3) := by decide +kernel
theorem dX1_verdictOn_76 : decode cX1_verdictOn 76 = .ok (.invokestatic 192, 3) := by decide +kernel
theorem dX1_verdictOn_79 : decode cX1_verdictOn 79 = .ok (.ifCond .eq 14, 3) := by decide +kernel
theorem dX1_verdictOn_82 : decode cX1_verdictOn 82 = .ok (.iload_n 2, 1) := by decide +kernel
theorem dX1_verdictOn_83 : decode cX1_verdictOn 83 = .ok (.iconst 3, 1) := by decide +kernel
theorem dX1_verdictOn_84 : decode cX1_verdictOn 84 = .ok (.if_icmp .ne 7, 3) := by decide +kernel
theorem dX1_verdictOn_87 : decode cX1_verdictOn 87 = .ok (.iconst 0, 1) := by decide +kernel
theorem dX1_verdictOn_88 : decode cX1_verdictOn 88 = .ok (.goto 4, 3) := by decide +kernel
theorem dX1_verdictOn_91 : decode cX1_verdictOn 91 = .ok (.iconst 1, 1) := by decide +kernel
theorem dX1_verdictOn_92 : decode cX1_verdictOn 92 = .ok (.ireturn, 1) := by decide +kernel
theorem dX1_verdictOn_93 : decode cX1_verdictOn 93 = .ok (.iconst 2, 1) := by decide +kernel
theorem dX1_verdictOn_94 : decode cX1_verdictOn 94 = .ok (.ireturn, 1) := by decide +kernel
set_option maxRecDepth 20000 in
theorem ggX1_findAllOf_X1_markFound : GoodIn wsX1_findAllOf wsX1_markFound := goodIn_r _ [10, 11, 12, 13, 14, 15, 16, 17, 18, 19, 20, 21, 22, 23, 24, 25, 26, 27, 28, 29, 30] (by decide +kernel) (by decide +kernel)
set_option maxRecDepth 20000 in
theorem gX1_findAllOf_X1_markFound : GoodIn wsX1_findAllOf (wsV RX1 195 RX1 yX1_markFound wsX1_markFound) := goodIn_app (goodIn_of _ (by decide +kernel)) ggX1_findAllOf_X1_markFound
theorem dX1_findAllOf_0 : decode cX1_findAllOf 0 = .ok (.aload_n 0, 1) := by decide +kernel
theorem dX1_findAllOf_1 : decode cX1_findAllOf 1 = .ok (.getfield 32, 3) := by decide +kernel
theorem dX1_findAllOf_4 : decode cX1_findAllOf 4 = .ok (.iload_n 1, 1) := by decide +kernel
theorem dX1_findAllOf_5 : decode cX1_findAllOf 5 = .ok (.iaload, 1) := by decide +kernel
theorem dX1_findAllOf_6 : decode cX1_findAllOf 6 = .ok (.istore_n 2, 1) := by decide +kernel
theorem dX1_findAllOf_7 : decode cX1_findAllOf 7 = .ok (.iload_n 2, 1) := by decide +kernel
theorem dX1_findAllOf_8 : decode cX1_findAllOf 8 = .ok (.aload_n 0, 1) := by decide +kernel
theorem dX1_findAllOf_9 : decode cX1_findAllOf 9 = .ok (.getfield 35, 3) := by decide +kernel
theorem dX1_findAllOf_12 : decode cX1_findAllOf 12 = .ok (.iload_n 1, 1) := by decide +kernel
theorem dX1_findAllOf_13 : decode cX1_findAllOf 13 = .ok (.iaload, 1) := by decide +kernel
theorem dX1_findAllOf_14 : decode cX1_findAllOf 14 = .ok (.if_icmp .ge 43, 3) := by decide +kernel
theorem dX1_findAllOf_17 : decode cX1_findAllOf 17 = .ok (.aload_n 0, 1) := by decide +kernel
theorem dX1_findAllOf_18 : decode cX1_findAllOf 18 = .ok (.getfield 15, 3) := by decide +kernel
theorem dX1_findAllOf_21 : decode cX1_findAllOf 21 = .ok (.aload_n 0, 1) := by decide +kernel
theorem dX1_findAllOf_22 : decode cX1_findAllOf 22 = .ok (.getfield 28, 3) := by decide +kernel
theorem dX1_findAllOf_25 : decode cX1_findAllOf 25 = .ok (.iload_n 2, 1) := by decide +kernel
theorem dX1_findAllOf_26 : decode cX1_findAllOf 26 = .ok (.iaload, 1) := by decide +kernel
theorem dX1_findAllOf_27 : decode cX1_findAllOf 27 = .ok (.baload, 1) := by decide +kernel
theorem dX1_findAllOf_28 : decode cX1_findAllOf 28 = .ok (.ifCond .eq 23, 3) := by decide +kernel
theorem dX1_findAllOf_31 : decode cX1_findAllOf 31 = .ok (.aload_n 0, 1) := by decide +kernel
theorem dX1_findAllOf_32 : decode cX1_findAllOf 32 = .ok (.aload_n 0, 1) := by decide +kernel
theorem dX1_findAllOf_33 : decode cX1_findAllOf 33 = .ok (.getfield 28, 3) := by decide +kernel
theorem dX1_findAllOf_36 : decode cX1_findAllOf 36 = .ok (.iload_n 2, 1) := by decide +kernel
theorem dX1_findAllOf_37 : decode cX1_findAllOf 37 = .ok (.iaload, 1) := by decide +kernel
theorem dX1_findAllOf_38 : decode cX1_findAllOf 38 = .ok (.invokevirtual 195, 3) := by decide +kernel
theorem dX1_findAllOf_41 : decode cX1_findAllOf 41 = .ok (.aload_n 0, 1) := by decide +kernel
theorem dX1_findAllOf_42 : decode cX1_findAllOf 42 = .ok (.getfield 53, 3) := by decide +kernel
theorem dX1_findAllOf_45 : decode cX1_findAllOf 45 = .ok (.iconst 2, 1) := by decide +kernel
theorem dX1_findAllOf_46 : decode cX1_findAllOf 46 = .ok (.dup2, 1) := by decide +kernel
theorem dX1_findAllOf_47 : decode cX1_findAllOf 47 = .ok (.iaload, 1) := by decide +kernel
theorem dX1_findAllOf_48 : decode cX1_findAllOf 48 = .ok (.iconst 1, 1) := by decide +kernel
theorem dX1_findAllOf_49 : decode cX1_findAllOf 49 = .ok (.iadd, 1) := by decide +kernel
theorem dX1_findAllOf_50 : decode cX1_findAllOf 50 = .ok (.iastore, 1) := by decide +kernel
theorem dX1_findAllOf_51 : decode cX1_findAllOf 51 = .ok (.iinc 2 1, 3) := by decide +kernel
theorem dX1_findAllOf_54 : decode cX1_findAllOf 54 = .ok (.goto (-47), 3) := by decide +kernel
theorem dX1_findAllOf_57 : decode cX1_findAllOf 57 = .ok (.return_, 1) := by decide +kernel
set_option maxRecDepth 20000 in
theorem ggX1_askThingsOf_X1_askThing : GoodIn wsX1_askThingsOf wsX1_askThing := goodIn_r _ [8, 9, 10, 11, 12, 7, 13, 14, 15, 16, 17, 18, 19, 20, 21, 22, 23, 24, 25, 26, 27, 28, 29, 30, 31, 32, 33, 34, 35, 36, 37, 38, 39, 40, 41, 42, 43, 44, 45, 46, 47, 48, 49, 50, 51] (by decide +kernel) (by decide +kernel)
set_option maxRecDepth 20000 in
theorem gX1_askThingsOf_X1_askThing : GoodIn wsX1_askThingsOf (wsV RX1 110 RX1 yX1_askThing wsX1_askThing) := goodIn_app (goodIn_of _ (by decide +kernel)) ggX1_askThingsOf_X1_askThing
theorem dX1_askThingsOf_0 : decode cX1_askThingsOf 0 = .ok (.aload_n 0, 1) := by decide +kernel
theorem dX1_askThingsOf_1 : decode cX1_askThingsOf 1 = .ok (.getfield 32, 3) := by decide +kernel
theorem dX1_askThingsOf_4 : decode cX1_askThingsOf 4 = .ok (.iload_n 1, 1) := by decide +kernel
theorem dX1_askThingsOf_5 : decode cX1_askThingsOf 5 = .ok (.iaload, 1) := by decide +kernel
theorem dX1_askThingsOf_6 : decode cX1_askThingsOf 6 = .ok (.istore_n 3, 1) := by decide +kernel
theorem dX1_askThingsOf_7 : decode cX1_askThingsOf 7 = .ok (.iload_n 3, 1) := by decide +kernel
theorem dX1_askThingsOf_8 : decode cX1_askThingsOf 8 = .ok (.aload_n 0, 1) := by decide +kernel
theorem dX1_askThingsOf_9 : decode cX1_askThingsOf 9 = .ok (.getfield 35, 3) := by decide +kernel
theorem dX1_askThingsOf_12 : decode cX1_askThingsOf 12 = .ok (.iload_n 1, 1) := by decide +kernel
theorem dX1_askThingsOf_13 : decode cX1_askThingsOf 13 = .ok (.iaload, 1) := by decide +kernel
theorem dX1_askThingsOf_14 : decode cX1_askThingsOf 14 = .ok (.if_icmp .ge 20, 3) := by decide +kernel
theorem dX1_askThingsOf_17 : decode cX1_askThingsOf 17 = .ok (.aload_n 0, 1) := by decide +kernel
theorem dX1_askThingsOf_18 : decode cX1_askThingsOf 18 = .ok (.aload_n 0, 1) := by decide +kernel
theorem dX1_askThingsOf_19 : decode cX1_askThingsOf 19 = .ok (.getfield 28, 3) := by decide +kernel
theorem dX1_askThingsOf_22 : decode cX1_askThingsOf 22 = .ok (.iload_n 3, 1) := by decide +kernel
theorem dX1_askThingsOf_23 : decode cX1_askThingsOf 23 = .ok (.iaload, 1) := by decide +kernel
theorem dX1_askThingsOf_24 : decode cX1_askThingsOf 24 = .ok (.iload_n 2, 1) := by decide +kernel
theorem dX1_askThingsOf_25 : decode cX1_askThingsOf 25 = .ok (.invokevirtual 110, 3) := by decide +kernel
theorem dX1_askThingsOf_28 : decode cX1_askThingsOf 28 = .ok (.iinc 3 1, 3) := by decide +kernel
theorem dX1_askThingsOf_31 : decode cX1_askThingsOf 31 = .ok (.goto (-24), 3) := by decide +kernel
theorem dX1_askThingsOf_34 : decode cX1_askThingsOf 34 = .ok (.return_, 1) := by decide +kernel
set_option maxRecDepth 20000 in
theorem ggX1_askThing_X1_isSo : GoodIn wsX1_askThing wsX1_isSo := goodIn_r _ [6, 7, 8, 9, 10, 11, 12, 13, 14, 15, 16, 17, 18, 19, 26, 27, 28, 29, 30, 31, 32, 33, 34, 35, 36, 37, 38, 39, 40, 41, 42, 43, 44] (by decide +kernel) (by decide +kernel)
set_option maxRecDepth 20000 in
theorem gX1_askThing_X1_isSo : GoodIn wsX1_askThing (wsV RX1 198 RX1 yX1_isSo wsX1_isSo) := goodIn_app (goodIn_of _ (by decide +kernel)) ggX1_askThing_X1_isSo
set_option maxRecDepth 20000 in
theorem ggX1_askThing_X1_markFound : GoodIn wsX1_askThing wsX1_markFound := goodIn_r _ [23, 24, 25, 26, 27, 28, 29, 30, 31, 32, 33, 34, 35, 36, 37, 38, 39, 40, 41, 42, 43] (by decide +kernel) (by decide +kernel)
set_option maxRecDepth 20000 in
theorem gX1_askThing_X1_markFound : GoodIn wsX1_askThing (wsV RX1 195 RX1 yX1_markFound wsX1_markFound) := goodIn_app (goodIn_of _ (by decide +kernel)) ggX1_askThing_X1_markFound
theorem dX1_askThing_0 : decode cX1_askThing 0 = .ok (.aload_n 0, 1) := by decide +kernel
theorem dX1_askThing_1 : decode cX1_askThing 1 = .ok (.getfield 15, 3) := by decide +kernel
theorem dX1_askThing_4 : decode cX1_askThing 4 = .ok (.iload_n 1, 1) := by decide +kernel
theorem dX1_askThing_5 : decode cX1_askThing 5 = .ok (.baload, 1) := by decide +kernel
theorem dX1_askThing_6 : decode cX1_askThing 6 = .ok (.ifCond .eq 17, 3) := by decide +kernel
theorem dX1_askThing_9 : decode cX1_askThing 9 = .ok (.aload_n 0, 1) := by decide +kernel
theorem dX1_askThing_10 : decode cX1_askThing 10 = .ok (.iload_n 1, 1) := by decide +kernel
theorem dX1_askThing_11 : decode cX1_askThing 11 = .ok (.iload_n 2, 1) := by decide +kernel
theorem dX1_askThing_12 : decode cX1_askThing 12 = .ok (.invokevirtual 198, 3) := by decide +kernel
theorem dX1_askThing_15 : decode cX1_askThing 15 = .ok (.ifCond .eq 8, 3) := by decide +kernel
theorem dX1_askThing_18 : decode cX1_askThing 18 = .ok (.aload_n 0, 1) := by decide +kernel
theorem dX1_askThing_19 : decode cX1_askThing 19 = .ok (.iload_n 1, 1) := by decide +kernel
theorem dX1_askThing_20 : decode cX1_askThing 20 = .ok (.invokevirtual 195, 3) := by decide +kernel
theorem dX1_askThing_23 : decode cX1_askThing 23 = .ok (.return_, 1) := by decide +kernel
theorem dX1_markFound_0 : decode cX1_markFound 0 = .ok (.aload_n 0, 1) := by decide +kernel
theorem dX1_markFound_1 : decode cX1_markFound 1 = .ok (.getfield 50, 3) := by decide +kernel
theorem dX1_markFound_4 : decode cX1_markFound 4 = .ok (.iload_n 1, 1) := by decide +kernel
theorem dX1_markFound_5 : decode cX1_markFound 5 = .ok (.iconst 1, 1) := by decide +kernel
theorem dX1_markFound_6 : decode cX1_markFound 6 = .ok (.bastore, 1) := by decide +kernel
theorem dX1_markFound_7 : decode cX1_markFound 7 = .ok (.aload_n 0, 1) := by decide +kernel
theorem dX1_markFound_8 : decode cX1_markFound 8 = .ok (.dup, 1) := by decide +kernel
theorem dX1_markFound_9 : decode cX1_markFound 9 = .ok (.getfield 114, 3) := by decide +kernel
theorem dX1_markFound_12 : decode cX1_markFound 12 = .ok (.iconst 1, 1) := by decide +kernel
theorem dX1_markFound_13 : decode cX1_markFound 13 = .ok (.iadd, 1) := by decide +kernel
theorem dX1_markFound_14 : decode cX1_markFound 14 = .ok (.putfield 114, 3) := by decide +kernel
theorem dX1_markFound_17 : decode cX1_markFound 17 = .ok (.return_, 1) := by decide +kernel
set_option maxRecDepth 20000 in
theorem ggX1_isSo_X0_meet : GoodIn wsX1_isSo wsX0_meet := goodIn_r _ [6, 7, 8, 9, 5, 10, 11, 32] (by decide +kernel) (by decide +kernel)
set_option maxRecDepth 20000 in
theorem gX1_isSo_X0_meet_n129 : GoodIn wsX1_isSo (wsX0_meet) := ggX1_isSo_X0_meet
set_option maxRecDepth 20000 in
theorem ggX1_isSo_X0_within : GoodIn wsX1_isSo wsX0_within := goodIn_r _ [13, 7, 8, 9, 5, 10, 11, 32] (by decide +kernel) (by decide +kernel)
set_option maxRecDepth 20000 in
theorem gX1_isSo_X0_within_n192 : GoodIn wsX1_isSo (wsX0_within) := ggX1_isSo_X0_within
theorem dX1_isSo_0 : decode cX1_isSo 0 = .ok (.iload_n 2, 1) := by decide +kernel
theorem dX1_isSo_1 : decode cX1_isSo 1 = .ok (.tableswitch 81 0 2 #[27, 45, 63], 27) := by decide +kernel
theorem dX1_isSo_28 : decode cX1_isSo 28 = .ok (.aload_n 0, 1) := by decide +kernel
theorem dX1_isSo_29 : decode cX1_isSo 29 = .ok (.getfield 24, 3) := by decide +kernel
theorem dX1_isSo_32 : decode cX1_isSo 32 = .ok (.iload_n 1, 1) := by decide +kernel
theorem dX1_isSo_33 : decode cX1_isSo 33 = .ok (.aload_n 0, 1) := by decide +kernel
theorem dX1_isSo_34 : decode cX1_isSo 34 = .ok (.getfield 47, 3) := by decide +kernel
theorem dX1_isSo_37 : decode cX1_isSo 37 = .ok (.iconst 0, 1) := by decide +kernel
theorem dX1_isSo_38 : decode cX1_isSo 38 = .ok (.aload_n 0, 1) := by decide +kernel
theorem dX1_isSo_39 : decode cX1_isSo 39 = .ok (.getfield 9, 3) := by decide +kernel
theorem dX1_isSo_42 : decode cX1_isSo 42 = .ok (.invokestatic 129, 3) := by decide +kernel
theorem dX1_isSo_45 : decode cX1_isSo 45 = .ok (.ireturn, 1) := by decide +kernel
theorem dX1_isSo_46 : decode cX1_isSo 46 = .ok (.aload_n 0, 1) := by decide +kernel
theorem dX1_isSo_47 : decode cX1_isSo 47 = .ok (.getfield 24, 3) := by decide +kernel
theorem dX1_isSo_50 : decode cX1_isSo 50 = .ok (.iload_n 1, 1) := by decide +kernel
theorem dX1_isSo_51 : decode cX1_isSo 51 = .ok (.aload_n 0, 1) := by decide +kernel
theorem dX1_isSo_52 : decode cX1_isSo 52 = .ok (.getfield 47, 3) := by decide +kernel
theorem dX1_isSo_55 : decode cX1_isSo 55 = .ok (.iconst 0, 1) := by decide +kernel
theorem dX1_isSo_56 : decode cX1_isSo 56 = .ok (.aload_n 0, 1) := by decide +kernel
theorem dX1_isSo_57 : decode cX1_isSo 57 = .ok (.getfield 9, 3) := by decide +kernel
theorem dX1_isSo_60 : decode cX1_isSo 60 = .ok (.invokestatic 192, 3) := by decide +kernel
theorem dX1_isSo_63 : decode cX1_isSo 63 = .ok (.ireturn, 1) := by decide +kernel
theorem dX1_isSo_64 : decode cX1_isSo 64 = .ok (.aload_n 0, 1) := by decide +kernel
theorem dX1_isSo_65 : decode cX1_isSo 65 = .ok (.getfield 47, 3) := by decide +kernel
theorem dX1_isSo_68 : decode cX1_isSo 68 = .ok (.iconst 0, 1) := by decide +kernel
theorem dX1_isSo_69 : decode cX1_isSo 69 = .ok (.aload_n 0, 1) := by decide +kernel
theorem dX1_isSo_70 : decode cX1_isSo 70 = .ok (.getfield 24, 3) := by decide +kernel
theorem dX1_isSo_73 : decode cX1_isSo 73 = .ok (.iload_n 1, 1) := by decide +kernel
theorem dX1_isSo_74 : decode cX1_isSo 74 = .ok (.aload_n 0, 1) := by decide +kernel
theorem dX1_isSo_75 : decode cX1_isSo 75 = .ok (.getfield 9, 3) := by decide +kernel
theorem dX1_isSo_78 : decode cX1_isSo 78 = .ok (.invokestatic 192, 3) := by decide +kernel
theorem dX1_isSo_81 : decode cX1_isSo 81 = .ok (.ireturn, 1) := by decide +kernel
theorem dX1_isSo_82 : decode cX1_isSo 82 = .ok (.aload_n 0, 1) := by decide +kernel
theorem dX1_isSo_83 : decode cX1_isSo 83 = .ok (.getfield 24, 3) := by decide +kernel
theorem dX1_isSo_86 : decode cX1_isSo 86 = .ok (.iload_n 1, 1) := by decide +kernel
theorem dX1_isSo_87 : decode cX1_isSo 87 = .ok (.aload_n 0, 1) := by decide +kernel
theorem dX1_isSo_88 : decode cX1_isSo 88 = .ok (.getfield 47, 3) := by decide +kernel
theorem dX1_isSo_91 : decode cX1_isSo 91 = .ok (.iconst 0, 1) := by decide +kernel
theorem dX1_isSo_92 : decode cX1_isSo 92 = .ok (.aload_n 0, 1) := by decide +kernel
theorem dX1_isSo_93 : decode cX1_isSo 93 = .ok (.getfield 9, 3) := by decide +kernel
theorem dX1_isSo_96 : decode cX1_isSo 96 = .ok (.invokestatic 129, 3) := by decide +kernel
theorem dX1_isSo_99 : decode cX1_isSo 99 = .ok (.ifCond .ne 7, 3) := by decide +kernel
theorem dX1_isSo_102 : decode cX1_isSo 102 = .ok (.iconst 1, 1) := by decide +kernel
theorem dX1_isSo_103 : decode cX1_isSo 103 = .ok (.goto 4, 3) := by decide +kernel
theorem dX1_isSo_106 : decode cX1_isSo 106 = .ok (.iconst 0, 1) := by decide +kernel
theorem dX1_isSo_107 : decode cX1_isSo 107 = .ok (.ireturn, 1) := by decide +kernel
set_option maxRecDepth 20000 in
theorem ggX1_nearerThan_X1_isNearer : GoodIn wsX1_nearerThan wsX1_isNearer := goodIn_r _ [7, 8, 9, 10, 11, 12, 13, 14, 15, 16, 17, 18, 19, 20, 21, 22, 23, 24, 25, 26] (by decide +kernel) (by decide +kernel)
set_option maxRecDepth 20000 in
theorem gX1_nearerThan_X1_isNearer : GoodIn wsX1_nearerThan (wsV RX1 201 RX1 yX1_isNearer wsX1_isNearer) := goodIn_app (goodIn_of _ (by decide +kernel)) ggX1_nearerThan_X1_isNearer
theorem dX1_nearerThan_0 : decode cX1_nearerThan 0 = .ok (.iconst 0, 1) := by decide +kernel
theorem dX1_nearerThan_1 : decode cX1_nearerThan 1 = .ok (.istore_n 2, 1) := by decide +kernel
theorem dX1_nearerThan_2 : decode cX1_nearerThan 2 = .ok (.iconst 0, 1) := by decide +kernel
theorem dX1_nearerThan_3 : decode cX1_nearerThan 3 = .ok (.istore_n 3, 1) := by decide +kernel
theorem dX1_nearerThan_4 : decode cX1_nearerThan 4 = .ok (.iload_n 3, 1) := by decide +kernel
theorem dX1_nearerThan_5 : decode cX1_nearerThan 5 = .ok (.aload_n 0, 1) := by decide +kernel
theorem dX1_nearerThan_6 : decode cX1_nearerThan 6 = .ok (.getfield 60, 3) := by decide +kernel
theorem dX1_nearerThan_9 : decode cX1_nearerThan 9 = .ok (.if_icmp .ge 30, 3) := by decide +kernel
theorem dX1_nearerThan_12 : decode cX1_nearerThan 12 = .ok (.aload_n 0, 1) := by decide +kernel
theorem dX1_nearerThan_13 : decode cX1_nearerThan 13 = .ok (.getfield 15, 3) := by decide +kernel
theorem dX1_nearerThan_16 : decode cX1_nearerThan 16 = .ok (.iload_n 3, 1) := by decide +kernel
theorem dX1_nearerThan_17 : decode cX1_nearerThan 17 = .ok (.baload, 1) := by decide +kernel
theorem dX1_nearerThan_18 : decode cX1_nearerThan 18 = .ok (.ifCond .eq 15, 3) := by decide +kernel
theorem dX1_nearerThan_21 : decode cX1_nearerThan 21 = .ok (.aload_n 0, 1) := by decide +kernel
theorem dX1_nearerThan_22 : decode cX1_nearerThan 22 = .ok (.iload_n 3, 1) := by decide +kernel
theorem dX1_nearerThan_23 : decode cX1_nearerThan 23 = .ok (.iload_n 1, 1) := by decide +kernel
theorem dX1_nearerThan_24 : decode cX1_nearerThan 24 = .ok (.invokevirtual 201, 3) := by decide +kernel
theorem dX1_nearerThan_27 : decode cX1_nearerThan 27 = .ok (.ifCond .eq 6, 3) := by decide +kernel
theorem dX1_nearerThan_30 : decode cX1_nearerThan 30 = .ok (.iinc 2 1, 3) := by decide +kernel
theorem dX1_nearerThan_33 : decode cX1_nearerThan 33 = .ok (.iinc 3 1, 3) := by decide +kernel
theorem dX1_nearerThan_36 : decode cX1_nearerThan 36 = .ok (.goto (-32), 3) := by decide +kernel
theorem dX1_nearerThan_39 : decode cX1_nearerThan 39 = .ok (.iload_n 2, 1) := by decide +kernel
theorem dX1_nearerThan_40 : decode cX1_nearerThan 40 = .ok (.ireturn, 1) := by decide +kernel
theorem dX1_isNearer_0 : decode cX1_isNearer 0 = .ok (.aload_n 0, 1) := by decide +kernel
theorem dX1_isNearer_1 : decode cX1_isNearer 1 = .ok (.getfield 56, 3) := by decide +kernel
theorem dX1_isNearer_4 : decode cX1_isNearer 4 = .ok (.iload_n 1, 1) := by decide +kernel
theorem dX1_isNearer_5 : decode cX1_isNearer 5 = .ok (.laload, 1) := by decide +kernel
theorem dX1_isNearer_6 : decode cX1_isNearer 6 = .ok (.aload_n 0, 1) := by decide +kernel
theorem dX1_isNearer_7 : decode cX1_isNearer 7 = .ok (.getfield 56, 3) := by decide +kernel
theorem dX1_isNearer_10 : decode cX1_isNearer 10 = .ok (.iload_n 2, 1) := by decide +kernel
theorem dX1_isNearer_11 : decode cX1_isNearer 11 = .ok (.laload, 1) := by decide +kernel
theorem dX1_isNearer_12 : decode cX1_isNearer 12 = .ok (.lcmp, 1) := by decide +kernel
theorem dX1_isNearer_13 : decode cX1_isNearer 13 = .ok (.ifCond .lt 24, 3) := by decide +kernel
theorem dX1_isNearer_16 : decode cX1_isNearer 16 = .ok (.aload_n 0, 1) := by decide +kernel
theorem dX1_isNearer_17 : decode cX1_isNearer 17 = .ok (.getfield 56, 3) := by decide +kernel
theorem dX1_isNearer_20 : decode cX1_isNearer 20 = .ok (.iload_n 1, 1) := by decide +kernel
theorem dX1_isNearer_21 : decode cX1_isNearer 21 = .ok (.laload, 1) := by decide +kernel
theorem dX1_isNearer_22 : decode cX1_isNearer 22 = .ok (.aload_n 0, 1) := by decide +kernel
theorem dX1_isNearer_23 : decode cX1_isNearer 23 = .ok (.getfield 56, 3) := by decide +kernel
theorem dX1_isNearer_26 : decode cX1_isNearer 26 = .ok (.iload_n 2, 1) := by decide +kernel
theorem dX1_isNearer_27 : decode cX1_isNearer 27 = .ok (.laload, 1) := by decide +kernel
theorem dX1_isNearer_28 : decode cX1_isNearer 28 = .ok (.lcmp, 1) := by decide +kernel
theorem dX1_isNearer_29 : decode cX1_isNearer 29 = .ok (.ifCond .ne 12, 3) := by decide +kernel
theorem dX1_isNearer_32 : decode cX1_isNearer 32 = .ok (.iload_n 1, 1) := by decide +kernel
theorem dX1_isNearer_33 : decode cX1_isNearer 33 = .ok (.iload_n 2, 1) := by decide +kernel
theorem dX1_isNearer_34 : decode cX1_isNearer 34 = .ok (.if_icmp .ge 7, 3) := by decide +kernel
theorem dX1_isNearer_37 : decode cX1_isNearer 37 = .ok (.iconst 1, 1) := by decide +kernel
theorem dX1_isNearer_38 : decode cX1_isNearer 38 = .ok (.goto 4, 3) := by decide +kernel
theorem dX1_isNearer_41 : decode cX1_isNearer 41 = .ok (.iconst 0, 1) := by decide +kernel
theorem dX1_isNearer_42 : decode cX1_isNearer 42 = .ok (.ireturn, 1) := by decide +kernel
theorem dX2_init_0 : decode cX2_init 0 = .ok (.aload_n 0, 1) := by decide +kernel
theorem dX2_init_1 : decode cX2_init 1 = .ok (.invokespecial 1, 3) := by decide +kernel
theorem dX2_init_4 : decode cX2_init 4 = .ok (.aload_n 0, 1) := by decide +kernel
theorem dX2_init_5 : decode cX2_init 5 = .ok (.iconst 1, 1) := by decide +kernel
theorem dX2_init_6 : decode cX2_init 6 = .ok (.putfield 7, 3) := by decide +kernel
theorem dX2_init_9 : decode cX2_init 9 = .ok (.aload_n 0, 1) := by decide +kernel
theorem dX2_init_10 : decode cX2_init 10 = .ok (.bipush 64, 2) := by decide +kernel
theorem dX2_init_12 : decode cX2_init 12 = .ok (.newarray .boolean, 2) := by decide +kernel
theorem dX2_init_14 : decode cX2_init 14 = .ok (.putfield 13, 3) := by decide +kernel
theorem dX2_init_17 : decode cX2_init 17 = .ok (.aload_n 0, 1) := by decide +kernel
theorem dX2_init_18 : decode cX2_init 18 = .ok (.sipush 192, 3) := by decide +kernel
theorem dX2_init_21 : decode cX2_init 21 = .ok (.newarray .int, 2) := by decide +kernel
theorem dX2_init_23 : decode cX2_init 23 = .ok (.putfield 17, 3) := by decide +kernel
theorem dX2_init_26 : decode cX2_init 26 = .ok (.aload_n 0, 1) := by decide +kernel
theorem dX2_init_27 : decode cX2_init 27 = .ok (.sipush 192, 3) := by decide +kernel
theorem dX2_init_30 : decode cX2_init 30 = .ok (.newarray .int, 2) := by decide +kernel
theorem dX2_init_32 : decode cX2_init 32 = .ok (.putfield 21, 3) := by decide +kernel
theorem dX2_init_35 : decode cX2_init 35 = .ok (.aload_n 0, 1) := by decide +kernel
theorem dX2_init_36 : decode cX2_init 36 = .ok (.bipush 64, 2) := by decide +kernel
theorem dX2_init_38 : decode cX2_init 38 = .ok (.newarray .boolean, 2) := by decide +kernel
theorem dX2_init_40 : decode cX2_init 40 = .ok (.putfield 24, 3) := by decide +kernel
theorem dX2_init_43 : decode cX2_init 43 = .ok (.aload_n 0, 1) := by decide +kernel
theorem dX2_init_44 : decode cX2_init 44 = .ok (.bipush 64, 2) := by decide +kernel
theorem dX2_init_46 : decode cX2_init 46 = .ok (.newarray .int, 2) := by decide +kernel
theorem dX2_init_48 : decode cX2_init 48 = .ok (.putfield 27, 3) := by decide +kernel
theorem dX2_init_51 : decode cX2_init 51 = .ok (.aload_n 0, 1) := by decide +kernel
theorem dX2_init_52 : decode cX2_init 52 = .ok (.bipush 64, 2) := by decide +kernel
theorem dX2_init_54 : decode cX2_init 54 = .ok (.newarray .int, 2) := by decide +kernel
theorem dX2_init_56 : decode cX2_init 56 = .ok (.putfield 30, 3) := by decide +kernel
theorem dX2_init_59 : decode cX2_init 59 = .ok (.aload_n 0, 1) := by decide +kernel
theorem dX2_init_60 : decode cX2_init 60 = .ok (.bipush 64, 2) := by decide +kernel
theorem dX2_init_62 : decode cX2_init 62 = .ok (.newarray .int, 2) := by decide +kernel
theorem dX2_init_64 : decode cX2_init 64 = .ok (.putfield 33, 3) := by decide +kernel
theorem dX2_init_67 : decode cX2_init 67 = .ok (.aload_n 0, 1) := by decide +kernel
theorem dX2_init_68 : decode cX2_init 68 = .ok (.bipush 64, 2) := by decide +kernel
theorem dX2_init_70 : decode cX2_init 70 = .ok (.newarray .int, 2) := by decide +kernel
theorem dX2_init_72 : decode cX2_init 72 = .ok (.putfield 36, 3) := by decide +kernel
theorem dX2_init_75 : decode cX2_init 75 = .ok (.aload_n 0, 1) := by decide +kernel
theorem dX2_init_76 : decode cX2_init 76 = .ok (.bipush 64, 2) := by decide +kernel
theorem dX2_init_78 : decode cX2_init 78 = .ok (.newarray .int, 2) := by decide +kernel
theorem dX2_init_80 : decode cX2_init 80 = .ok (.putfield 39, 3) := by decide +kernel
theorem dX2_init_83 : decode cX2_init 83 = .ok (.aload_n 0, 1) := by decide +kernel
theorem dX2_init_84 : decode cX2_init 84 = .ok (.sipush 192, 3) := by decide +kernel
theorem dX2_init_87 : decode cX2_init 87 = .ok (.newarray .int, 2) := by decide +kernel
theorem dX2_init_89 : decode cX2_init 89 = .ok (.putfield 42, 3) := by decide +kernel
theorem dX2_init_92 : decode cX2_init 92 = .ok (.aload_n 0, 1) := by decide +kernel
theorem dX2_init_93 : decode cX2_init 93 = .ok (.sipush 192, 3) := by decide +kernel
theorem dX2_init_96 : decode cX2_init 96 = .ok (.newarray .int, 2) := by decide +kernel
theorem dX2_init_98 : decode cX2_init 98 = .ok (.putfield 45, 3) := by decide +kernel
theorem dX2_init_101 : decode cX2_init 101 = .ok (.aload_n 0, 1) := by decide +kernel
theorem dX2_init_102 : decode cX2_init 102 = .ok (.bipush 64, 2) := by decide +kernel
theorem dX2_init_104 : decode cX2_init 104 = .ok (.newarray .int, 2) := by decide +kernel
theorem dX2_init_106 : decode cX2_init 106 = .ok (.putfield 48, 3) := by decide +kernel
theorem dX2_init_109 : decode cX2_init 109 = .ok (.aload_n 0, 1) := by decide +kernel
theorem dX2_init_110 : decode cX2_init 110 = .ok (.bipush 64, 2) := by decide +kernel
theorem dX2_init_112 : decode cX2_init 112 = .ok (.newarray .int, 2) := by decide +kernel
theorem dX2_init_114 : decode cX2_init 114 = .ok (.putfield 51, 3) := by decide +kernel
theorem dX2_init_117 : decode cX2_init 117 = .ok (.aload_n 0, 1) := by decide +kernel
theorem dX2_init_118 : decode cX2_init 118 = .ok (.bipush 64, 2) := by decide +kernel
theorem dX2_init_120 : decode cX2_init 120 = .ok (.newarray .int, 2) := by decide +kernel
theorem dX2_init_122 : decode cX2_init 122 = .ok (.putfield 54, 3) := by decide +kernel
theorem dX2_init_125 : decode cX2_init 125 = .ok (.aload_n 0, 1) := by decide +kernel
theorem dX2_init_126 : decode cX2_init 126 = .ok (.bipush 64, 2) := by decide +kernel
theorem dX2_init_128 : decode cX2_init 128 = .ok (.newarray .int, 2) := by decide +kernel
theorem dX2_init_130 : decode cX2_init 130 = .ok (.putfield 57, 3) := by decide +kernel
theorem dX2_init_133 : decode cX2_init 133 = .ok (.aload_n 0, 1) := by decide +kernel
theorem dX2_init_134 : decode cX2_init 134 = .ok (.iconst 3, 1) := by decide +kernel
theorem dX2_init_135 : decode cX2_init 135 = .ok (.newarray .int, 2) := by decide +kernel
theorem dX2_init_137 : decode cX2_init 137 = .ok (.putfield 60, 3) := by decide +kernel
theorem dX2_init_140 : decode cX2_init 140 = .ok (.aload_n 0, 1) := by decide +kernel
theorem dX2_init_141 : decode cX2_init 141 = .ok (.iconst 3, 1) := by decide +kernel
theorem dX2_init_142 : decode cX2_init 142 = .ok (.newarray .int, 2) := by decide +kernel
theorem dX2_init_144 : decode cX2_init 144 = .ok (.putfield 63, 3) := by decide +kernel
theorem dX2_init_147 : decode cX2_init 147 = .ok (.aload_n 0, 1) := by decide +kernel
theorem dX2_init_148 : decode cX2_init 148 = .ok (.bipush 64, 2) := by decide +kernel
theorem dX2_init_150 : decode cX2_init 150 = .ok (.newarray .boolean, 2) := by decide +kernel
theorem dX2_init_152 : decode cX2_init 152 = .ok (.putfield 66, 3) := by decide +kernel
theorem dX2_init_155 : decode cX2_init 155 = .ok (.return_, 1) := by decide +kernel
theorem dX2_thrown_0 : decode cX2_thrown 0 = .ok (.aload_n 0, 1) := by decide +kernel
theorem dX2_thrown_1 : decode cX2_thrown 1 = .ok (.getfield 69, 3) := by decide +kernel
theorem dX2_thrown_4 : decode cX2_thrown 4 = .ok (.ireturn, 1) := by decide +kernel
theorem dX2_isThing_0 : decode cX2_isThing 0 = .ok (.iload_n 1, 1) := by decide +kernel
theorem dX2_isThing_1 : decode cX2_isThing 1 = .ok (.ifCond .lt 24, 3) := by decide +kernel
theorem dX2_isThing_4 : decode cX2_isThing 4 = .ok (.iload_n 1, 1) := by decide +kernel
theorem dX2_isThing_5 : decode cX2_isThing 5 = .ok (.aload_n 0, 1) := by decide +kernel
theorem dX2_isThing_6 : decode cX2_isThing 6 = .ok (.getfield 72, 3) := by decide +kernel
theorem dX2_isThing_9 : decode cX2_isThing 9 = .ok (.if_icmp .ge 16, 3) := by decide +kernel
theorem dX2_isThing_12 : decode cX2_isThing 12 = .ok (.aload_n 0, 1) := by decide +kernel
theorem dX2_isThing_13 : decode cX2_isThing 13 = .ok (.getfield 13, 3) := by decide +kernel
theorem dX2_isThing_16 : decode cX2_isThing 16 = .ok (.iload_n 1, 1) := by decide +kernel
theorem dX2_isThing_17 : decode cX2_isThing 17 = .ok (.baload, 1) := by decide +kernel
theorem dX2_isThing_18 : decode cX2_isThing 18 = .ok (.ifCond .eq 7, 3) := by decide +kernel
theorem dX2_isThing_21 : decode cX2_isThing 21 = .ok (.iconst 1, 1) := by decide +kernel
theorem dX2_isThing_22 : decode cX2_isThing 22 = .ok (.goto 4, 3) := by decide +kernel
theorem dX2_isThing_25 : decode cX2_isThing 25 = .ok (.iconst 0, 1) := by decide +kernel
theorem dX2_isThing_26 : decode cX2_isThing 26 = .ok (.ireturn, 1) := by decide +kernel
theorem dX2_isPlace_0 : decode cX2_isPlace 0 = .ok (.iload_n 0, 1) := by decide +kernel
theorem dX2_isPlace_1 : decode cX2_isPlace 1 = .ok (.ldc 75, 2) := by decide +kernel
theorem dX2_isPlace_3 : decode cX2_isPlace 3 = .ok (.if_icmp .lt 13, 3) := by decide +kernel
theorem dX2_isPlace_6 : decode cX2_isPlace 6 = .ok (.iload_n 0, 1) := by decide +kernel
theorem dX2_isPlace_7 : decode cX2_isPlace 7 = .ok (.ldc 76, 2) := by decide +kernel
theorem dX2_isPlace_9 : decode cX2_isPlace 9 = .ok (.if_icmp .gt 7, 3) := by decide +kernel
theorem dX2_isPlace_12 : decode cX2_isPlace 12 = .ok (.iconst 1, 1) := by decide +kernel
theorem dX2_isPlace_13 : decode cX2_isPlace 13 = .ok (.goto 4, 3) := by decide +kernel
theorem dX2_isPlace_16 : decode cX2_isPlace 16 = .ok (.iconst 0, 1) := by decide +kernel
theorem dX2_isPlace_17 : decode cX2_isPlace 17 = .ok (.ireturn, 1) := by decide +kernel
theorem dX2_dimensions_0 : decode cX2_dimensions 0 = .ok (.aload_n 0, 1) := by decide +kernel
theorem dX2_dimensions_1 : decode cX2_dimensions 1 = .ok (.iconst 0, 1) := by decide +kernel
theorem dX2_dimensions_2 : decode cX2_dimensions 2 = .ok (.putfield 69, 3) := by decide +kernel
theorem dX2_dimensions_5 : decode cX2_dimensions 5 = .ok (.iload_n 1, 1) := by decide +kernel
theorem dX2_dimensions_6 : decode cX2_dimensions 6 = .ok (.iconst 1, 1) := by decide +kernel
theorem dX2_dimensions_7 : decode cX2_dimensions 7 = .ok (.if_icmp .lt 8, 3) := by decide +kernel
theorem dX2_dimensions_10 : decode cX2_dimensions 10 = .ok (.iload_n 1, 1) := by decide +kernel
theorem dX2_dimensions_11 : decode cX2_dimensions 11 = .ok (.iconst 3, 1) := by decide +kernel
theorem dX2_dimensions_12 : decode cX2_dimensions 12 = .ok (.if_icmp .le 6, 3) := by decide +kernel
theorem dX2_dimensions_15 : decode cX2_dimensions 15 = .ok (.bipush (-2), 2) := by decide +kernel
theorem dX2_dimensions_17 : decode cX2_dimensions 17 = .ok (.ireturn, 1) := by decide +kernel
theorem dX2_dimensions_18 : decode cX2_dimensions 18 = .ok (.aload_n 0, 1) := by decide +kernel
theorem dX2_dimensions_19 : decode cX2_dimensions 19 = .ok (.getfield 7, 3) := by decide +kernel
theorem dX2_dimensions_22 : decode cX2_dimensions 22 = .ok (.istore_n 2, 1) := by decide +kernel
theorem dX2_dimensions_23 : decode cX2_dimensions 23 = .ok (.aload_n 0, 1) := by decide +kernel
theorem dX2_dimensions_24 : decode cX2_dimensions 24 = .ok (.iload_n 1, 1) := by decide +kernel
theorem dX2_dimensions_25 : decode cX2_dimensions 25 = .ok (.putfield 7, 3) := by decide +kernel
theorem dX2_dimensions_28 : decode cX2_dimensions 28 = .ok (.aload_n 0, 1) := by decide +kernel
theorem dX2_dimensions_29 : decode cX2_dimensions 29 = .ok (.iconst 0, 1) := by decide +kernel
theorem dX2_dimensions_30 : decode cX2_dimensions 30 = .ok (.putfield 72, 3) := by decide +kernel
theorem dX2_dimensions_33 : decode cX2_dimensions 33 = .ok (.aload_n 0, 1) := by decide +kernel
theorem dX2_dimensions_34 : decode cX2_dimensions 34 = .ok (.iconst 0, 1) := by decide +kernel
theorem dX2_dimensions_35 : decode cX2_dimensions 35 = .ok (.putfield 77, 3) := by decide +kernel
theorem dX2_dimensions_38 : decode cX2_dimensions 38 = .ok (.aload_n 0, 1) := by decide +kernel
theorem dX2_dimensions_39 : decode cX2_dimensions 39 = .ok (.iconst 0, 1) := by decide +kernel
theorem dX2_dimensions_40 : decode cX2_dimensions 40 = .ok (.putfield 80, 3) := by decide +kernel
theorem dX2_dimensions_43 : decode cX2_dimensions 43 = .ok (.aload_n 0, 1) := by decide +kernel
theorem dX2_dimensions_44 : decode cX2_dimensions 44 = .ok (.iconst 0, 1) := by decide +kernel
theorem dX2_dimensions_45 : decode cX2_dimensions 45 = .ok (.putfield 83, 3) := by decide +kernel
theorem dX2_dimensions_48 : decode cX2_dimensions 48 = .ok (.aload_n 0, 1) := by decide +kernel
theorem dX2_dimensions_49 : decode cX2_dimensions 49 = .ok (.iconst 0, 1) := by decide +kernel
theorem dX2_dimensions_50 : decode cX2_dimensions 50 = .ok (.putfield 86, 3) := by decide +kernel
theorem dX2_dimensions_53 : decode cX2_dimensions 53 = .ok (.aload_n 0, 1) := by decide +kernel
theorem dX2_dimensions_54 : decode cX2_dimensions 54 = .ok (.iconst 0, 1) := by decide +kernel
theorem dX2_dimensions_55 : decode cX2_dimensions 55 = .ok (.putfield 89, 3) := by decide +kernel
theorem dX2_dimensions_58 : decode cX2_dimensions 58 = .ok (.iconst 0, 1) := by decide +kernel
theorem dX2_dimensions_59 : decode cX2_dimensions 59 = .ok (.istore_n 3, 1) := by decide +kernel
theorem dX2_dimensions_60 : decode cX2_dimensions 60 = .ok (.iload_n 3, 1) := by decide +kernel
theorem dX2_dimensions_61 : decode cX2_dimensions 61 = .ok (.bipush 64, 2) := by decide +kernel
theorem dX2_dimensions_63 : decode cX2_dimensions 63 = .ok (.if_icmp .ge 30, 3) := by decide +kernel
theorem dX2_dimensions_66 : decode cX2_dimensions 66 = .ok (.aload_n 0, 1) := by decide +kernel
theorem dX2_dimensions_67 : decode cX2_dimensions 67 = .ok (.getfield 66, 3) := by decide +kernel
theorem dX2_dimensions_70 : decode cX2_dimensions 70 = .ok (.iload_n 3, 1) := by decide +kernel
theorem dX2_dimensions_71 : decode cX2_dimensions 71 = .ok (.iconst 0, 1) := by decide +kernel
theorem dX2_dimensions_72 : decode cX2_dimensions 72 = .ok (.bastore, 1) := by decide +kernel
theorem dX2_dimensions_73 : decode cX2_dimensions 73 = .ok (.aload_n 0, 1) := by decide +kernel
theorem dX2_dimensions_74 : decode cX2_dimensions 74 = .ok (.getfield 24, 3) := by decide +kernel
theorem dX2_dimensions_77 : decode cX2_dimensions 77 = .ok (.iload_n 3, 1) := by decide +kernel
theorem dX2_dimensions_78 : decode cX2_dimensions 78 = .ok (.iconst 0, 1) := by decide +kernel
theorem dX2_dimensions_79 : decode cX2_dimensions 79 = .ok (.bastore, 1) := by decide +kernel
theorem dX2_dimensions_80 : decode cX2_dimensions 80 = .ok (.aload_n 0, 1) := by decide +kernel
theorem dX2_dimensions_81 : decode cX2_dimensions 81 = .ok (.getfield 13, 3) := by decide +kernel
theorem dX2_dimensions_84 : decode cX2_dimensions 84 = .ok (.iload_n 3, 1) := by decide +kernel
theorem dX2_dimensions_85 : decode cX2_dimensions 85 = .ok (.iconst 0, 1) := by decide +kernel
theorem dX2_dimensions_86 : decode cX2_dimensions 86 = .ok (.bastore, 1) := by decide +kernel
theorem dX2_dimensions_87 : decode cX2_dimensions 87 = .ok (.iinc 3 1, 3) := by decide +kernel
theorem dX2_dimensions_90 : decode cX2_dimensions 90 = .ok (.goto (-30), 3) := by decide +kernel
theorem dX2_dimensions_93 : decode cX2_dimensions 93 = .ok (.iload_n 2, 1) := by decide +kernel
theorem dX2_dimensions_94 : decode cX2_dimensions 94 = .ok (.ireturn, 1) := by decide +kernel
set_option maxRecDepth 20000 in
theorem ggX2_tells_X2_isPlace : GoodIn wsX2_tells wsX2_isPlace := goodIn_r _ [7, 8, 9] (by decide +kernel) (by decide +kernel)
set_option maxRecDepth 20000 in
theorem gX2_tells_X2_isPlace : GoodIn wsX2_tells (va_wsS RX2 92 yX2_isPlace wsX2_isPlace) := goodIn_app (goodIn_of _ (by decide +kernel)) ggX2_tells_X2_isPlace
theorem dX2_tells_0 : decode cX2_tells 0 = .ok (.iconst 1, 1) := by decide +kernel
theorem dX2_tells_1 : decode cX2_tells 1 = .ok (.istore 7, 2) := by decide +kernel
theorem dX2_tells_3 : decode cX2_tells 3 = .ok (.iconst 0, 1) := by decide +kernel
theorem dX2_tells_4 : decode cX2_tells 4 = .ok (.istore 8, 2) := by decide +kernel
theorem dX2_tells_6 : decode cX2_tells 6 = .ok (.iload 8, 2) := by decide +kernel
theorem dX2_tells_8 : decode cX2_tells 8 = .ok (.aload_n 0, 1) := by decide +kernel
theorem dX2_tells_9 : decode cX2_tells 9 = .ok (.getfield 7, 3) := by decide +kernel
theorem dX2_tells_12 : decode cX2_tells 12 = .ok (.if_icmp .ge 91, 3) := by decide +kernel
theorem dX2_tells_15 : decode cX2_tells 15 = .ok (.iload 8, 2) := by decide +kernel
theorem dX2_tells_17 : decode cX2_tells 17 = .ok (.ifCond .ne 7, 3) := by decide +kernel
theorem dX2_tells_20 : decode cX2_tells 20 = .ok (.iload_n 1, 1) := by decide +kernel
theorem dX2_tells_21 : decode cX2_tells 21 = .ok (.goto 15, 3) := by decide +kernel
theorem dX2_tells_24 : decode cX2_tells 24 = .ok (.iload 8, 2) := by decide +kernel
theorem dX2_tells_26 : decode cX2_tells 26 = .ok (.iconst 1, 1) := by decide +kernel
theorem dX2_tells_27 : decode cX2_tells 27 = .ok (.if_icmp .ne 7, 3) := by decide +kernel
theorem dX2_tells_30 : decode cX2_tells 30 = .ok (.iload_n 3, 1) := by decide +kernel
theorem dX2_tells_31 : decode cX2_tells 31 = .ok (.goto 5, 3) := by decide +kernel
theorem dX2_tells_34 : decode cX2_tells 34 = .ok (.iload 5, 2) := by decide +kernel
theorem dX2_tells_36 : decode cX2_tells 36 = .ok (.istore 9, 2) := by decide +kernel
theorem dX2_tells_38 : decode cX2_tells 38 = .ok (.iload 8, 2) := by decide +kernel
theorem dX2_tells_40 : decode cX2_tells 40 = .ok (.ifCond .ne 7, 3) := by decide +kernel
theorem dX2_tells_43 : decode cX2_tells 43 = .ok (.iload_n 2, 1) := by decide +kernel
theorem dX2_tells_44 : decode cX2_tells 44 = .ok (.goto 16, 3) := by decide +kernel
theorem dX2_tells_47 : decode cX2_tells 47 = .ok (.iload 8, 2) := by decide +kernel
theorem dX2_tells_49 : decode cX2_tells 49 = .ok (.iconst 1, 1) := by decide +kernel
theorem dX2_tells_50 : decode cX2_tells 50 = .ok (.if_icmp .ne 8, 3) := by decide +kernel
theorem dX2_tells_53 : decode cX2_tells 53 = .ok (.iload 4, 2) := by decide +kernel
theorem dX2_tells_55 : decode cX2_tells 55 = .ok (.goto 5, 3) := by decide +kernel
theorem dX2_tells_58 : decode cX2_tells 58 = .ok (.iload 6, 2) := by decide +kernel
theorem dX2_tells_60 : decode cX2_tells 60 = .ok (.istore 10, 2) := by decide +kernel
theorem dX2_tells_62 : decode cX2_tells 62 = .ok (.iload 7, 2) := by decide +kernel
theorem dX2_tells_64 : decode cX2_tells 64 = .ok (.ifCond .eq 30, 3) := by decide +kernel
theorem dX2_tells_67 : decode cX2_tells 67 = .ok (.iload 9, 2) := by decide +kernel
theorem dX2_tells_69 : decode cX2_tells 69 = .ok (.invokestatic 92, 3) := by decide +kernel
theorem dX2_tells_72 : decode cX2_tells 72 = .ok (.ifCond .eq 22, 3) := by decide +kernel
theorem dX2_tells_75 : decode cX2_tells 75 = .ok (.iload 10, 2) := by decide +kernel
theorem dX2_tells_77 : decode cX2_tells 77 = .ok (.invokestatic 92, 3) := by decide +kernel
theorem dX2_tells_80 : decode cX2_tells 80 = .ok (.ifCond .eq 14, 3) := by decide +kernel
theorem dX2_tells_83 : decode cX2_tells 83 = .ok (.iload 9, 2) := by decide +kernel
theorem dX2_tells_85 : decode cX2_tells 85 = .ok (.iload 10, 2) := by decide +kernel
theorem dX2_tells_87 : decode cX2_tells 87 = .ok (.if_icmp .gt 7, 3) := by decide +kernel
theorem dX2_tells_90 : decode cX2_tells 90 = .ok (.iconst 1, 1) := by decide +kernel
theorem dX2_tells_91 : decode cX2_tells 91 = .ok (.goto 4, 3) := by decide +kernel
theorem dX2_tells_94 : decode cX2_tells 94 = .ok (.iconst 0, 1) := by decide +kernel
theorem dX2_tells_95 : decode cX2_tells 95 = .ok (.istore 7, 2) := by decide +kernel
theorem dX2_tells_97 : decode cX2_tells 97 = .ok (.iinc 8 1, 3) := by decide +kernel
theorem dX2_tells_100 : decode cX2_tells 100 = .ok (.goto (-94), 3) := by decide +kernel
theorem dX2_tells_103 : decode cX2_tells 103 = .ok (.iconst 0, 1) := by decide +kernel
theorem dX2_tells_104 : decode cX2_tells 104 = .ok (.istore 8, 2) := by decide +kernel
theorem dX2_tells_106 : decode cX2_tells 106 = .ok (.iload 8, 2) := by decide +kernel
theorem dX2_tells_108 : decode cX2_tells 108 = .ok (.aload_n 0, 1) := by decide +kernel
theorem dX2_tells_109 : decode cX2_tells 109 = .ok (.getfield 7, 3) := by decide +kernel
theorem dX2_tells_112 : decode cX2_tells 112 = .ok (.if_icmp .ge 71, 3) := by decide +kernel
theorem dX2_tells_115 : decode cX2_tells 115 = .ok (.iload 7, 2) := by decide +kernel
theorem dX2_tells_117 : decode cX2_tells 117 = .ok (.ifCond .eq 66, 3) := by decide +kernel
theorem dX2_tells_120 : decode cX2_tells 120 = .ok (.aload_n 0, 1) := by decide +kernel
theorem dX2_tells_121 : decode cX2_tells 121 = .ok (.getfield 60, 3) := by decide +kernel
theorem dX2_tells_124 : decode cX2_tells 124 = .ok (.iload 8, 2) := by decide +kernel
theorem dX2_tells_126 : decode cX2_tells 126 = .ok (.iload 8, 2) := by decide +kernel
theorem dX2_tells_128 : decode cX2_tells 128 = .ok (.ifCond .ne 7, 3) := by decide +kernel
theorem dX2_tells_131 : decode cX2_tells 131 = .ok (.iload_n 1, 1) := by decide +kernel
theorem dX2_tells_132 : decode cX2_tells 132 = .ok (.goto 15, 3) := by decide +kernel
theorem dX2_tells_135 : decode cX2_tells 135 = .ok (.iload 8, 2) := by decide +kernel
theorem dX2_tells_137 : decode cX2_tells 137 = .ok (.iconst 1, 1) := by decide +kernel
theorem dX2_tells_138 : decode cX2_tells 138 = .ok (.if_icmp .ne 7, 3) := by decide +kernel
theorem dX2_tells_141 : decode cX2_tells 141 = .ok (.iload_n 3, 1) := by decide +kernel
theorem dX2_tells_142 : decode cX2_tells 142 = .ok (.goto 5, 3) := by decide +kernel
theorem dX2_tells_145 : decode cX2_tells 145 = .ok (.iload 5, 2) := by decide +kernel
theorem dX2_tells_147 : decode cX2_tells 147 = .ok (.iastore, 1) := by decide +kernel
theorem dX2_tells_148 : decode cX2_tells 148 = .ok (.aload_n 0, 1) := by decide +kernel
theorem dX2_tells_149 : decode cX2_tells 149 = .ok (.getfield 63, 3) := by decide +kernel
theorem dX2_tells_152 : decode cX2_tells 152 = .ok (.iload 8, 2) := by decide +kernel
theorem dX2_tells_154 : decode cX2_tells 154 = .ok (.iload 8, 2) := by decide +kernel
theorem dX2_tells_156 : decode cX2_tells 156 = .ok (.ifCond .ne 7, 3) := by decide +kernel
theorem dX2_tells_159 : decode cX2_tells 159 = .ok (.iload_n 2, 1) := by decide +kernel
theorem dX2_tells_160 : decode cX2_tells 160 = .ok (.goto 16, 3) := by decide +kernel
theorem dX2_tells_163 : decode cX2_tells 163 = .ok (.iload 8, 2) := by decide +kernel
theorem dX2_tells_165 : decode cX2_tells 165 = .ok (.iconst 1, 1) := by decide +kernel
theorem dX2_tells_166 : decode cX2_tells 166 = .ok (.if_icmp .ne 8, 3) := by decide +kernel
theorem dX2_tells_169 : decode cX2_tells 169 = .ok (.iload 4, 2) := by decide +kernel
theorem dX2_tells_171 : decode cX2_tells 171 = .ok (.goto 5, 3) := by decide +kernel
theorem dX2_tells_174 : decode cX2_tells 174 = .ok (.iload 6, 2) := by decide +kernel
theorem dX2_tells_176 : decode cX2_tells 176 = .ok (.iastore, 1) := by decide +kernel
theorem dX2_tells_177 : decode cX2_tells 177 = .ok (.iinc 8 1, 3) := by decide +kernel
theorem dX2_tells_180 : decode cX2_tells 180 = .ok (.goto (-74), 3) := by decide +kernel
theorem dX2_tells_183 : decode cX2_tells 183 = .ok (.iload 7, 2) := by decide +kernel
theorem dX2_tells_185 : decode cX2_tells 185 = .ok (.ireturn, 1) := by decide +kernel
set_option maxRecDepth 20000 in
theorem ggX2_thing_X2_tells : GoodIn wsX2_thing wsX2_tells := goodIn_r _ [14, 3, 5, 7, 15, 16, 13, 17, 18, 19, 20, 21, 22, 23, 24, 25, 26, 27, 28, 29, 30, 31, 32, 33, 34, 35, 36, 37, 38, 39, 40, 41, 42, 43, 44, 45, 46] (by decide +kernel) (by decide +kernel)
set_option maxRecDepth 20000 in
theorem gX2_thing_X2_tells : GoodIn wsX2_thing (wsV RX2 96 RX2 yX2_tells wsX2_tells) := goodIn_app (goodIn_of _ (by decide +kernel)) ggX2_thing_X2_tells
theorem dX2_thing_0 : decode cX2_thing 0 = .ok (.aload_n 0, 1) := by decide +kernel
theorem dX2_thing_1 : decode cX2_thing 1 = .ok (.iconst 0, 1) := by decide +kernel
theorem dX2_thing_2 : decode cX2_thing 2 = .ok (.putfield 69, 3) := by decide +kernel
theorem dX2_thing_5 : decode cX2_thing 5 = .ok (.aload_n 0, 1) := by decide +kernel
theorem dX2_thing_6 : decode cX2_thing 6 = .ok (.iload_n 1, 1) := by decide +kernel
theorem dX2_thing_7 : decode cX2_thing 7 = .ok (.iload_n 2, 1) := by decide +kernel
theorem dX2_thing_8 : decode cX2_thing 8 = .ok (.iload_n 3, 1) := by decide +kernel
theorem dX2_thing_9 : decode cX2_thing 9 = .ok (.iload 4, 2) := by decide +kernel
theorem dX2_thing_11 : decode cX2_thing 11 = .ok (.iload 5, 2) := by decide +kernel
theorem dX2_thing_13 : decode cX2_thing 13 = .ok (.iload 6, 2) := by decide +kernel
theorem dX2_thing_15 : decode cX2_thing 15 = .ok (.invokevirtual 96, 3) := by decide +kernel
theorem dX2_thing_18 : decode cX2_thing 18 = .ok (.ifCond .ne 6, 3) := by decide +kernel
theorem dX2_thing_21 : decode cX2_thing 21 = .ok (.bipush (-2), 2) := by decide +kernel
theorem dX2_thing_23 : decode cX2_thing 23 = .ok (.ireturn, 1) := by decide +kernel
theorem dX2_thing_24 : decode cX2_thing 24 = .ok (.aload_n 0, 1) := by decide +kernel
theorem dX2_thing_25 : decode cX2_thing 25 = .ok (.getfield 72, 3) := by decide +kernel
theorem dX2_thing_28 : decode cX2_thing 28 = .ok (.bipush 64, 2) := by decide +kernel
theorem dX2_thing_30 : decode cX2_thing 30 = .ok (.if_icmp .ne 6, 3) := by decide +kernel
theorem dX2_thing_33 : decode cX2_thing 33 = .ok (.bipush (-4), 2) := by decide +kernel
theorem dX2_thing_35 : decode cX2_thing 35 = .ok (.ireturn, 1) := by decide +kernel
theorem dX2_thing_36 : decode cX2_thing 36 = .ok (.iconst 0, 1) := by decide +kernel
theorem dX2_thing_37 : decode cX2_thing 37 = .ok (.istore 7, 2) := by decide +kernel
theorem dX2_thing_39 : decode cX2_thing 39 = .ok (.iload 7, 2) := by decide +kernel
theorem dX2_thing_41 : decode cX2_thing 41 = .ok (.aload_n 0, 1) := by decide +kernel
theorem dX2_thing_42 : decode cX2_thing 42 = .ok (.getfield 7, 3) := by decide +kernel
theorem dX2_thing_45 : decode cX2_thing 45 = .ok (.if_icmp .ge 51, 3) := by decide +kernel
theorem dX2_thing_48 : decode cX2_thing 48 = .ok (.aload_n 0, 1) := by decide +kernel
theorem dX2_thing_49 : decode cX2_thing 49 = .ok (.getfield 17, 3) := by decide +kernel
theorem dX2_thing_52 : decode cX2_thing 52 = .ok (.iconst 3, 1) := by decide +kernel
theorem dX2_thing_53 : decode cX2_thing 53 = .ok (.aload_n 0, 1) := by decide +kernel
theorem dX2_thing_54 : decode cX2_thing 54 = .ok (.getfield 72, 3) := by decide +kernel
theorem dX2_thing_57 : decode cX2_thing 57 = .ok (.imul, 1) := by decide +kernel
theorem dX2_thing_58 : decode cX2_thing 58 = .ok (.iload 7, 2) := by decide +kernel
theorem dX2_thing_60 : decode cX2_thing 60 = .ok (.iadd, 1) := by decide +kernel
theorem dX2_thing_61 : decode cX2_thing 61 = .ok (.aload_n 0, 1) := by decide +kernel
theorem dX2_thing_62 : decode cX2_thing 62 = .ok (.getfield 60, 3) := by decide +kernel
theorem dX2_thing_65 : decode cX2_thing 65 = .ok (.iload 7, 2) := by decide +kernel
theorem dX2_thing_67 : decode cX2_thing 67 = .ok (.iaload, 1) := by decide +kernel
theorem dX2_thing_68 : decode cX2_thing 68 = .ok (.iastore, 1) := by decide +kernel
theorem dX2_thing_69 : decode cX2_thing 69 = .ok (.aload_n 0, 1) := by decide +kernel
theorem dX2_thing_70 : decode cX2_thing 70 = .ok (.getfield 21, 3) := by decide +kernel
theorem dX2_thing_73 : decode cX2_thing 73 = .ok (.iconst 3, 1) := by decide +kernel
theorem dX2_thing_74 : decode cX2_thing 74 = .ok (.aload_n 0, 1) := by decide +kernel
theorem dX2_thing_75 : decode cX2_thing 75 = .ok (.getfield 72, 3) := by decide +kernel
theorem dX2_thing_78 : decode cX2_thing 78 = .ok (.imul, 1) := by decide +kernel
theorem dX2_thing_79 : decode cX2_thing 79 = .ok (.iload 7, 2) := by decide +kernel
theorem dX2_thing_81 : decode cX2_thing 81 = .ok (.iadd, 1) := by decide +kernel
theorem dX2_thing_82 : decode cX2_thing 82 = .ok (.aload_n 0, 1) := by decide +kernel
theorem dX2_thing_83 : decode cX2_thing 83 = .ok (.getfield 63, 3) := by decide +kernel
theorem dX2_thing_86 : decode cX2_thing 86 = .ok (.iload 7, 2) := by decide +kernel
theorem dX2_thing_88 : decode cX2_thing 88 = .ok (.iaload, 1) := by decide +kernel
theorem dX2_thing_89 : decode cX2_thing 89 = .ok (.iastore, 1) := by decide +kernel
theorem dX2_thing_90 : decode cX2_thing 90 = .ok (.iinc 7 1, 3) := by decide +kernel
theorem dX2_thing_93 : decode cX2_thing 93 = .ok (.goto (-54), 3) := by decide +kernel
theorem dX2_thing_96 : decode cX2_thing 96 = .ok (.aload_n 0, 1) := by decide +kernel
theorem dX2_thing_97 : decode cX2_thing 97 = .ok (.getfield 13, 3) := by decide +kernel
theorem dX2_thing_100 : decode cX2_thing 100 = .ok (.aload_n 0, 1) := by decide +kernel
theorem dX2_thing_101 : decode cX2_thing 101 = .ok (.getfield 72, 3) := by decide +kernel
theorem dX2_thing_104 : decode cX2_thing 104 = .ok (.iconst 1, 1) := by decide +kernel
theorem dX2_thing_105 : decode cX2_thing 105 = .ok (.bastore, 1) := by decide +kernel
theorem dX2_thing_106 : decode cX2_thing 106 = .ok (.aload_n 0, 1) := by decide +kernel
theorem dX2_thing_107 : decode cX2_thing 107 = .ok (.getfield 24, 3) := by decide +kernel
theorem dX2_thing_110 : decode cX2_thing 110 = .ok (.aload_n 0, 1) := by decide +kernel
theorem dX2_thing_111 : decode cX2_thing 111 = .ok (.getfield 72, 3) := by decide +kernel
theorem dX2_thing_114 : decode cX2_thing 114 = .ok (.iconst 0, 1) := by decide +kernel
theorem dX2_thing_115 : decode cX2_thing 115 = .ok (.bastore, 1) := by decide +kernel
theorem dX2_thing_116 : decode cX2_thing 116 = .ok (.aload_n 0, 1) := by decide +kernel
theorem dX2_thing_117 : decode cX2_thing 117 = .ok (.dup, 1) := by decide +kernel
theorem dX2_thing_118 : decode cX2_thing 118 = .ok (.getfield 72, 3) := by decide +kernel
theorem dX2_thing_121 : decode cX2_thing 121 = .ok (.iconst 1, 1) := by decide +kernel
theorem dX2_thing_122 : decode cX2_thing 122 = .ok (.iadd, 1) := by decide +kernel
theorem dX2_thing_123 : decode cX2_thing 123 = .ok (.putfield 72, 3) := by decide +kernel
theorem dX2_thing_126 : decode cX2_thing 126 = .ok (.aload_n 0, 1) := by decide +kernel
theorem dX2_thing_127 : decode cX2_thing 127 = .ok (.getfield 72, 3) := by decide +kernel
theorem dX2_thing_130 : decode cX2_thing 130 = .ok (.iconst 1, 1) := by decide +kernel
theorem dX2_thing_131 : decode cX2_thing 131 = .ok (.isub, 1) := by decide +kernel
theorem dX2_thing_132 : decode cX2_thing 132 = .ok (.ireturn, 1) := by decide +kernel
theorem dX2_count_0 : decode cX2_count 0 = .ok (.aload_n 0, 1) := by decide +kernel
theorem dX2_count_1 : decode cX2_count 1 = .ok (.iconst 0, 1) := by decide +kernel
theorem dX2_count_2 : decode cX2_count 2 = .ok (.putfield 69, 3) := by decide +kernel
theorem dX2_count_5 : decode cX2_count 5 = .ok (.iconst 0, 1) := by decide +kernel
theorem dX2_count_6 : decode cX2_count 6 = .ok (.istore_n 1, 1) := by decide +kernel
theorem dX2_count_7 : decode cX2_count 7 = .ok (.iconst 0, 1) := by decide +kernel
theorem dX2_count_8 : decode cX2_count 8 = .ok (.istore_n 2, 1) := by decide +kernel
theorem dX2_count_9 : decode cX2_count 9 = .ok (.iload_n 2, 1) := by decide +kernel
theorem dX2_count_10 : decode cX2_count 10 = .ok (.aload_n 0, 1) := by decide +kernel
theorem dX2_count_11 : decode cX2_count 11 = .ok (.getfield 72, 3) := by decide +kernel
theorem dX2_count_14 : decode cX2_count 14 = .ok (.if_icmp .ge 26, 3) := by decide +kernel
theorem dX2_count_17 : decode cX2_count 17 = .ok (.iload_n 1, 1) := by decide +kernel
theorem dX2_count_18 : decode cX2_count 18 = .ok (.aload_n 0, 1) := by decide +kernel
theorem dX2_count_19 : decode cX2_count 19 = .ok (.getfield 13, 3) := by decide +kernel
theorem dX2_count_22 : decode cX2_count 22 = .ok (.iload_n 2, 1) := by decide +kernel
theorem dX2_count_23 : decode cX2_count 23 = .ok (.baload, 1) := by decide +kernel
theorem dX2_count_24 : decode cX2_count 24 = .ok (.ifCond .eq 7, 3) := by decide +kernel
theorem dX2_count_27 : decode cX2_count 27 = .ok (.iconst 1, 1) := by decide +kernel
theorem dX2_count_28 : decode cX2_count 28 = .ok (.goto 4, 3) := by decide +kernel
theorem dX2_count_31 : decode cX2_count 31 = .ok (.iconst 0, 1) := by decide +kernel
theorem dX2_count_32 : decode cX2_count 32 = .ok (.iadd, 1) := by decide +kernel
theorem dX2_count_33 : decode cX2_count 33 = .ok (.istore_n 1, 1) := by decide +kernel
theorem dX2_count_34 : decode cX2_count 34 = .ok (.iinc 2 1, 3) := by decide +kernel
theorem dX2_count_37 : decode cX2_count 37 = .ok (.goto (-28), 3) := by decide +kernel
theorem dX2_count_40 : decode cX2_count 40 = .ok (.iload_n 1, 1) := by decide +kernel
theorem dX2_count_41 : decode cX2_count 41 = .ok (.ireturn, 1) := by decide +kernel
set_option maxRecDepth 20000 in
theorem ggX2_drop_X2_isThing : GoodIn wsX2_drop wsX2_isThing := goodIn_r _ [7, 8, 2, 13, 14, 15, 16, 17, 18, 19, 20, 21, 22, 23, 24, 25, 26, 27, 28, 29, 30, 31, 32, 33, 34, 35, 36, 37, 38, 39] (by decide +kernel) (by decide +kernel)
set_option maxRecDepth 20000 in
theorem gX2_drop_X2_isThing : GoodIn wsX2_drop (wsV RX2 100 RX2 yX2_isThing wsX2_isThing) := goodIn_app (goodIn_of _ (by decide +kernel)) ggX2_drop_X2_isThing
set_option maxRecDepth 20000 in
theorem ggX2_drop_X2_count : GoodIn wsX2_drop wsX2_count := goodIn_r _ [12, 1, 8, 2, 13, 14, 15, 16, 17, 18, 19, 20, 21, 22, 23, 24, 25, 26, 27, 28, 29, 30, 31, 32, 33, 34, 35, 36, 37, 38, 39] (by decide +kernel) (by decide +kernel)
set_option maxRecDepth 20000 in
theorem gX2_drop_X2_count : GoodIn wsX2_drop (wsV RX2 103 RX2 yX2_count wsX2_count) := goodIn_app (goodIn_of _ (by decide +kernel)) ggX2_drop_X2_count
theorem dX2_drop_0 : decode cX2_drop 0 = .ok (.aload_n 0, 1) := by decide +kernel
theorem dX2_drop_1 : decode cX2_drop 1 = .ok (.iconst 0, 1) := by decide +kernel
theorem dX2_drop_2 : decode cX2_drop 2 = .ok (.putfield 69, 3) := by decide +kernel
theorem dX2_drop_5 : decode cX2_drop 5 = .ok (.aload_n 0, 1) := by decide +kernel
theorem dX2_drop_6 : decode cX2_drop 6 = .ok (.iload_n 1, 1) := by decide +kernel
theorem dX2_drop_7 : decode cX2_drop 7 = .ok (.invokevirtual 100, 3) := by decide +kernel
theorem dX2_drop_10 : decode cX2_drop 10 = .ok (.ifCond .ne 5, 3) := by decide +kernel
theorem dX2_drop_13 : decode cX2_drop 13 = .ok (.iconst (-1), 1) := by decide +kernel
theorem dX2_drop_14 : decode cX2_drop 14 = .ok (.ireturn, 1) := by decide +kernel
theorem dX2_drop_15 : decode cX2_drop 15 = .ok (.aload_n 0, 1) := by decide +kernel
theorem dX2_drop_16 : decode cX2_drop 16 = .ok (.getfield 13, 3) := by decide +kernel
theorem dX2_drop_19 : decode cX2_drop 19 = .ok (.iload_n 1, 1) := by decide +kernel
theorem dX2_drop_20 : decode cX2_drop 20 = .ok (.iconst 0, 1) := by decide +kernel
theorem dX2_drop_21 : decode cX2_drop 21 = .ok (.bastore, 1) := by decide +kernel
theorem dX2_drop_22 : decode cX2_drop 22 = .ok (.aload_n 0, 1) := by decide +kernel
theorem dX2_drop_23 : decode cX2_drop 23 = .ok (.invokevirtual 103, 3) := by decide +kernel
theorem dX2_drop_26 : decode cX2_drop 26 = .ok (.ireturn, 1) := by decide +kernel
set_option maxRecDepth 20000 in
theorem ggX2_end_X2_isThing : GoodIn wsX2_end wsX2_isThing := goodIn_r _ [10, 11, 12, 13, 14, 15, 16, 17, 18, 19, 20, 21, 22, 23, 24, 25, 26, 27, 28, 29, 30, 31, 32, 33, 34, 35, 36, 37, 38, 39] (by decide +kernel) (by decide +kernel)
set_option maxRecDepth 20000 in
theorem gX2_end_X2_isThing : GoodIn wsX2_end (wsV RX2 100 RX2 yX2_isThing wsX2_isThing) := goodIn_app (goodIn_of _ (by decide +kernel)) ggX2_end_X2_isThing
theorem dX2_end_0 : decode cX2_end 0 = .ok (.aload_n 0, 1) := by decide +kernel
theorem dX2_end_1 : decode cX2_end 1 = .ok (.iconst 0, 1) := by decide +kernel
theorem dX2_end_2 : decode cX2_end 2 = .ok (.putfield 69, 3) := by decide +kernel
theorem dX2_end_5 : decode cX2_end 5 = .ok (.aload_n 0, 1) := by decide +kernel
theorem dX2_end_6 : decode cX2_end 6 = .ok (.iload_n 1, 1) := by decide +kernel
theorem dX2_end_7 : decode cX2_end 7 = .ok (.invokevirtual 100, 3) := by decide +kernel
theorem dX2_end_10 : decode cX2_end 10 = .ok (.ifCond .eq 24, 3) := by decide +kernel
theorem dX2_end_13 : decode cX2_end 13 = .ok (.iload_n 2, 1) := by decide +kernel
theorem dX2_end_14 : decode cX2_end 14 = .ok (.ifCond .lt 20, 3) := by decide +kernel
theorem dX2_end_17 : decode cX2_end 17 = .ok (.iload_n 2, 1) := by decide +kernel
theorem dX2_end_18 : decode cX2_end 18 = .ok (.aload_n 0, 1) := by decide +kernel
theorem dX2_end_19 : decode cX2_end 19 = .ok (.getfield 7, 3) := by decide +kernel
theorem dX2_end_22 : decode cX2_end 22 = .ok (.if_icmp .ge 12, 3) := by decide +kernel
theorem dX2_end_25 : decode cX2_end 25 = .ok (.iload_n 3, 1) := by decide +kernel
theorem dX2_end_26 : decode cX2_end 26 = .ok (.ifCond .lt 8, 3) := by decide +kernel
theorem dX2_end_29 : decode cX2_end 29 = .ok (.iload_n 3, 1) := by decide +kernel
theorem dX2_end_30 : decode cX2_end 30 = .ok (.iconst 1, 1) := by decide +kernel
theorem dX2_end_31 : decode cX2_end 31 = .ok (.if_icmp .le 7, 3) := by decide +kernel
theorem dX2_end_34 : decode cX2_end 34 = .ok (.ldc2_w 107, 3) := by decide +kernel
theorem dX2_end_37 : decode cX2_end 37 = .ok (.lreturn, 1) := by decide +kernel
theorem dX2_end_38 : decode cX2_end 38 = .ok (.iload_n 3, 1) := by decide +kernel
theorem dX2_end_39 : decode cX2_end 39 = .ok (.ifCond .ne 17, 3) := by decide +kernel
theorem dX2_end_42 : decode cX2_end 42 = .ok (.aload_n 0, 1) := by decide +kernel
theorem dX2_end_43 : decode cX2_end 43 = .ok (.getfield 17, 3) := by decide +kernel
theorem dX2_end_46 : decode cX2_end 46 = .ok (.iconst 3, 1) := by decide +kernel
theorem dX2_end_47 : decode cX2_end 47 = .ok (.iload_n 1, 1) := by decide +kernel
theorem dX2_end_48 : decode cX2_end 48 = .ok (.imul, 1) := by decide +kernel
theorem dX2_end_49 : decode cX2_end 49 = .ok (.iload_n 2, 1) := by decide +kernel
theorem dX2_end_50 : decode cX2_end 50 = .ok (.iadd, 1) := by decide +kernel
theorem dX2_end_51 : decode cX2_end 51 = .ok (.iaload, 1) := by decide +kernel
theorem dX2_end_52 : decode cX2_end 52 = .ok (.i2l, 1) := by decide +kernel
theorem dX2_end_53 : decode cX2_end 53 = .ok (.goto 14, 3) := by decide +kernel
theorem dX2_end_56 : decode cX2_end 56 = .ok (.aload_n 0, 1) := by decide +kernel
theorem dX2_end_57 : decode cX2_end 57 = .ok (.getfield 21, 3) := by decide +kernel
theorem dX2_end_60 : decode cX2_end 60 = .ok (.iconst 3, 1) := by decide +kernel
theorem dX2_end_61 : decode cX2_end 61 = .ok (.iload_n 1, 1) := by decide +kernel
theorem dX2_end_62 : decode cX2_end 62 = .ok (.imul, 1) := by decide +kernel
theorem dX2_end_63 : decode cX2_end 63 = .ok (.iload_n 2, 1) := by decide +kernel
theorem dX2_end_64 : decode cX2_end 64 = .ok (.iadd, 1) := by decide +kernel
theorem dX2_end_65 : decode cX2_end 65 = .ok (.iaload, 1) := by decide +kernel
theorem dX2_end_66 : decode cX2_end 66 = .ok (.i2l, 1) := by decide +kernel
theorem dX2_end_67 : decode cX2_end 67 = .ok (.lreturn, 1) := by decide +kernel
theorem dX2_sum_0 : decode cX2_sum 0 = .ok (.aload_n 0, 1) := by decide +kernel
theorem dX2_sum_1 : decode cX2_sum 1 = .ok (.getfield 17, 3) := by decide +kernel
theorem dX2_sum_4 : decode cX2_sum 4 = .ok (.iconst 3, 1) := by decide +kernel
theorem dX2_sum_5 : decode cX2_sum 5 = .ok (.iload_n 1, 1) := by decide +kernel
theorem dX2_sum_6 : decode cX2_sum 6 = .ok (.imul, 1) := by decide +kernel
theorem dX2_sum_7 : decode cX2_sum 7 = .ok (.iload_n 2, 1) := by decide +kernel
theorem dX2_sum_8 : decode cX2_sum 8 = .ok (.iadd, 1) := by decide +kernel
theorem dX2_sum_9 : decode cX2_sum 9 = .ok (.iaload, 1) := by decide +kernel
theorem dX2_sum_10 : decode cX2_sum 10 = .ok (.aload_n 0, 1) := by decide +kernel
theorem dX2_sum_11 : decode cX2_sum 11 = .ok (.getfield 21, 3) := by decide +kernel
theorem dX2_sum_14 : decode cX2_sum 14 = .ok (.iconst 3, 1) := by decide +kernel
theorem dX2_sum_15 : decode cX2_sum 15 = .ok (.iload_n 1, 1) := by decide +kernel
theorem dX2_sum_16 : decode cX2_sum 16 = .ok (.imul, 1) := by decide +kernel
theorem dX2_sum_17 : decode cX2_sum 17 = .ok (.iload_n 2, 1) := by decide +kernel
theorem dX2_sum_18 : decode cX2_sum 18 = .ok (.iadd, 1) := by decide +kernel
theorem dX2_sum_19 : decode cX2_sum 19 = .ok (.iaload, 1) := by decide +kernel
theorem dX2_sum_20 : decode cX2_sum 20 = .ok (.iadd, 1) := by decide +kernel
theorem dX2_sum_21 : decode cX2_sum 21 = .ok (.ireturn, 1) := by decide +kernel
theorem dX2_await_0 : decode cX2_await 0 = .ok (.aload_n 0, 1) := by decide +kernel
theorem dX2_await_1 : decode cX2_await 1 = .ok (.getfield 48, 3) := by decide +kernel
theorem dX2_await_4 : decode cX2_await 4 = .ok (.aload_n 0, 1) := by decide +kernel
theorem dX2_await_5 : decode cX2_await 5 = .ok (.getfield 109, 3) := by decide +kernel
theorem dX2_await_8 : decode cX2_await 8 = .ok (.iload_n 1, 1) := by decide +kernel
theorem dX2_await_9 : decode cX2_await 9 = .ok (.iastore, 1) := by decide +kernel
theorem dX2_await_10 : decode cX2_await 10 = .ok (.aload_n 0, 1) := by decide +kernel
theorem dX2_await_11 : decode cX2_await 11 = .ok (.getfield 51, 3) := by decide +kernel
theorem dX2_await_14 : decode cX2_await 14 = .ok (.aload_n 0, 1) := by decide +kernel
theorem dX2_await_15 : decode cX2_await 15 = .ok (.getfield 109, 3) := by decide +kernel
theorem dX2_await_18 : decode cX2_await 18 = .ok (.iload_n 2, 1) := by decide +kernel
theorem dX2_await_19 : decode cX2_await 19 = .ok (.iastore, 1) := by decide +kernel
theorem dX2_await_20 : decode cX2_await 20 = .ok (.aload_n 0, 1) := by decide +kernel
theorem dX2_await_21 : decode cX2_await 21 = .ok (.getfield 54, 3) := by decide +kernel
theorem dX2_await_24 : decode cX2_await 24 = .ok (.aload_n 0, 1) := by decide +kernel
theorem dX2_await_25 : decode cX2_await 25 = .ok (.getfield 109, 3) := by decide +kernel
theorem dX2_await_28 : decode cX2_await 28 = .ok (.iload_n 3, 1) := by decide +kernel
theorem dX2_await_29 : decode cX2_await 29 = .ok (.iastore, 1) := by decide +kernel
theorem dX2_await_30 : decode cX2_await 30 = .ok (.aload_n 0, 1) := by decide +kernel
theorem dX2_await_31 : decode cX2_await 31 = .ok (.getfield 57, 3) := by decide +kernel
theorem dX2_await_34 : decode cX2_await 34 = .ok (.aload_n 0, 1) := by decide +kernel
theorem dX2_await_35 : decode cX2_await 35 = .ok (.getfield 109, 3) := by decide +kernel
theorem dX2_await_38 : decode cX2_await 38 = .ok (.iload 4, 2) := by decide +kernel
theorem dX2_await_40 : decode cX2_await 40 = .ok (.iastore, 1) := by decide +kernel
theorem dX2_await_41 : decode cX2_await 41 = .ok (.aload_n 0, 1) := by decide +kernel
theorem dX2_await_42 : decode cX2_await 42 = .ok (.dup, 1) := by decide +kernel
theorem dX2_await_43 : decode cX2_await 43 = .ok (.getfield 109, 3) := by decide +kernel
theorem dX2_await_46 : decode cX2_await 46 = .ok (.iconst 1, 1) := by decide +kernel
theorem dX2_await_47 : decode cX2_await 47 = .ok (.iadd, 1) := by decide +kernel
theorem dX2_await_48 : decode cX2_await 48 = .ok (.putfield 109, 3) := by decide +kernel
theorem dX2_await_51 : decode cX2_await 51 = .ok (.return_, 1) := by decide +kernel
set_option maxRecDepth 20000 in
theorem ggX2_look_X2_sum : GoodIn wsX2_look wsX2_sum := goodIn_r _ [17, 9, 10, 18, 19, 20, 21, 22, 23, 24, 25, 26, 27, 28, 29, 30, 31, 32, 33, 34, 35, 36, 37, 38, 39, 40, 41, 42, 43, 44] (by decide +kernel) (by decide +kernel)
set_option maxRecDepth 20000 in
theorem gX2_look_X2_sum : GoodIn wsX2_look (wsV RX2 114 RX2 yX2_sum wsX2_sum) := goodIn_app (goodIn_of _ (by decide +kernel)) ggX2_look_X2_sum
theorem dX2_look_0 : decode cX2_look 0 = .ok (.iconst 0, 1) := by decide +kernel
theorem dX2_look_1 : decode cX2_look 1 = .ok (.istore_n 2, 1) := by decide +kernel
theorem dX2_look_2 : decode cX2_look 2 = .ok (.iconst (-1), 1) := by decide +kernel
theorem dX2_look_3 : decode cX2_look 3 = .ok (.istore_n 3, 1) := by decide +kernel
theorem dX2_look_4 : decode cX2_look 4 = .ok (.iconst 0, 1) := by decide +kernel
theorem dX2_look_5 : decode cX2_look 5 = .ok (.istore 4, 2) := by decide +kernel
theorem dX2_look_7 : decode cX2_look 7 = .ok (.iload 4, 2) := by decide +kernel
theorem dX2_look_9 : decode cX2_look 9 = .ok (.aload_n 0, 1) := by decide +kernel
theorem dX2_look_10 : decode cX2_look 10 = .ok (.getfield 7, 3) := by decide +kernel
theorem dX2_look_13 : decode cX2_look 13 = .ok (.if_icmp .ge 255, 3) := by decide +kernel
theorem dX2_look_16 : decode cX2_look 16 = .ok (.ldc 76, 2) := by decide +kernel
theorem dX2_look_18 : decode cX2_look 18 = .ok (.istore 5, 2) := by decide +kernel
theorem dX2_look_20 : decode cX2_look 20 = .ok (.ldc 75, 2) := by decide +kernel
end
section
theorem dX2_look_22 : decode cX2_look 22 = .ok (.istore 6, 2) := by decide +kernel
theorem dX2_look_24 : decode cX2_look 24 = .ok (.ldc 112, 2) := by decide +kernel
theorem dX2_look_26 : decode cX2_look 26 = .ok (.istore 7, 2) := by decide +kernel
theorem dX2_look_28 : decode cX2_look 28 = .ok (.ldc 113, 2) := by decide +kernel
theorem dX2_look_30 : decode cX2_look 30 = .ok (.istore 8, 2) := by decide +kernel
theorem dX2_look_32 : decode cX2_look 32 = .ok (.aload_n 0, 1) := by decide +kernel
theorem dX2_look_33 : decode cX2_look 33 = .ok (.getfield 30, 3) := by decide +kernel
theorem dX2_look_36 : decode cX2_look 36 = .ok (.iload_n 1, 1) := by decide +kernel
theorem dX2_look_37 : decode cX2_look 37 = .ok (.iaload, 1) := by decide +kernel
theorem dX2_look_38 : decode cX2_look 38 = .ok (.istore 9, 2) := by decide +kernel
theorem dX2_look_40 : decode cX2_look 40 = .ok (.iload 9, 2) := by decide +kernel
theorem dX2_look_42 : decode cX2_look 42 = .ok (.aload_n 0, 1) := by decide +kernel
theorem dX2_look_43 : decode cX2_look 43 = .ok (.getfield 30, 3) := by decide +kernel
theorem dX2_look_46 : decode cX2_look 46 = .ok (.iload_n 1, 1) := by decide +kernel
theorem dX2_look_47 : decode cX2_look 47 = .ok (.iaload, 1) := by decide +kernel
theorem dX2_look_48 : decode cX2_look 48 = .ok (.aload_n 0, 1) := by decide +kernel
theorem dX2_look_49 : decode cX2_look 49 = .ok (.getfield 33, 3) := by decide +kernel
theorem dX2_look_52 : decode cX2_look 52 = .ok (.iload_n 1, 1) := by decide +kernel
theorem dX2_look_53 : decode cX2_look 53 = .ok (.iaload, 1) := by decide +kernel
theorem dX2_look_54 : decode cX2_look 54 = .ok (.iadd, 1) := by decide +kernel
theorem dX2_look_55 : decode cX2_look 55 = .ok (.if_icmp .ge 146, 3) := by decide +kernel
theorem dX2_look_58 : decode cX2_look 58 = .ok (.aload_n 0, 1) := by decide +kernel
theorem dX2_look_59 : decode cX2_look 59 = .ok (.getfield 27, 3) := by decide +kernel
theorem dX2_look_62 : decode cX2_look 62 = .ok (.iload 9, 2) := by decide +kernel
theorem dX2_look_64 : decode cX2_look 64 = .ok (.iaload, 1) := by decide +kernel
theorem dX2_look_65 : decode cX2_look 65 = .ok (.istore 10, 2) := by decide +kernel
theorem dX2_look_67 : decode cX2_look 67 = .ok (.aload_n 0, 1) := by decide +kernel
theorem dX2_look_68 : decode cX2_look 68 = .ok (.getfield 17, 3) := by decide +kernel
theorem dX2_look_71 : decode cX2_look 71 = .ok (.iconst 3, 1) := by decide +kernel
theorem dX2_look_72 : decode cX2_look 72 = .ok (.iload 10, 2) := by decide +kernel
theorem dX2_look_74 : decode cX2_look 74 = .ok (.imul, 1) := by decide +kernel
theorem dX2_look_75 : decode cX2_look 75 = .ok (.iload 4, 2) := by decide +kernel
theorem dX2_look_77 : decode cX2_look 77 = .ok (.iadd, 1) := by decide +kernel
theorem dX2_look_78 : decode cX2_look 78 = .ok (.iaload, 1) := by decide +kernel
theorem dX2_look_79 : decode cX2_look 79 = .ok (.iload 5, 2) := by decide +kernel
theorem dX2_look_81 : decode cX2_look 81 = .ok (.if_icmp .ge 18, 3) := by decide +kernel
theorem dX2_look_84 : decode cX2_look 84 = .ok (.aload_n 0, 1) := by decide +kernel
theorem dX2_look_85 : decode cX2_look 85 = .ok (.getfield 17, 3) := by decide +kernel
theorem dX2_look_88 : decode cX2_look 88 = .ok (.iconst 3, 1) := by decide +kernel
theorem dX2_look_89 : decode cX2_look 89 = .ok (.iload 10, 2) := by decide +kernel
theorem dX2_look_91 : decode cX2_look 91 = .ok (.imul, 1) := by decide +kernel
theorem dX2_look_92 : decode cX2_look 92 = .ok (.iload 4, 2) := by decide +kernel
theorem dX2_look_94 : decode cX2_look 94 = .ok (.iadd, 1) := by decide +kernel
theorem dX2_look_95 : decode cX2_look 95 = .ok (.iaload, 1) := by decide +kernel
theorem dX2_look_96 : decode cX2_look 96 = .ok (.goto 5, 3) := by decide +kernel
theorem dX2_look_99 : decode cX2_look 99 = .ok (.iload 5, 2) := by decide +kernel
theorem dX2_look_101 : decode cX2_look 101 = .ok (.istore 5, 2) := by decide +kernel
theorem dX2_look_103 : decode cX2_look 103 = .ok (.aload_n 0, 1) := by decide +kernel
theorem dX2_look_104 : decode cX2_look 104 = .ok (.getfield 21, 3) := by decide +kernel
theorem dX2_look_107 : decode cX2_look 107 = .ok (.iconst 3, 1) := by decide +kernel
theorem dX2_look_108 : decode cX2_look 108 = .ok (.iload 10, 2) := by decide +kernel
theorem dX2_look_110 : decode cX2_look 110 = .ok (.imul, 1) := by decide +kernel
theorem dX2_look_111 : decode cX2_look 111 = .ok (.iload 4, 2) := by decide +kernel
theorem dX2_look_113 : decode cX2_look 113 = .ok (.iadd, 1) := by decide +kernel
theorem dX2_look_114 : decode cX2_look 114 = .ok (.iaload, 1) := by decide +kernel
theorem dX2_look_115 : decode cX2_look 115 = .ok (.iload 6, 2) := by decide +kernel
theorem dX2_look_117 : decode cX2_look 117 = .ok (.if_icmp .le 18, 3) := by decide +kernel
theorem dX2_look_120 : decode cX2_look 120 = .ok (.aload_n 0, 1) := by decide +kernel
theorem dX2_look_121 : decode cX2_look 121 = .ok (.getfield 21, 3) := by decide +kernel
theorem dX2_look_124 : decode cX2_look 124 = .ok (.iconst 3, 1) := by decide +kernel
theorem dX2_look_125 : decode cX2_look 125 = .ok (.iload 10, 2) := by decide +kernel
theorem dX2_look_127 : decode cX2_look 127 = .ok (.imul, 1) := by decide +kernel
theorem dX2_look_128 : decode cX2_look 128 = .ok (.iload 4, 2) := by decide +kernel
theorem dX2_look_130 : decode cX2_look 130 = .ok (.iadd, 1) := by decide +kernel
theorem dX2_look_131 : decode cX2_look 131 = .ok (.iaload, 1) := by decide +kernel
theorem dX2_look_132 : decode cX2_look 132 = .ok (.goto 5, 3) := by decide +kernel
theorem dX2_look_135 : decode cX2_look 135 = .ok (.iload 6, 2) := by decide +kernel
theorem dX2_look_137 : decode cX2_look 137 = .ok (.istore 6, 2) := by decide +kernel
theorem dX2_look_139 : decode cX2_look 139 = .ok (.aload_n 0, 1) := by decide +kernel
theorem dX2_look_140 : decode cX2_look 140 = .ok (.iload 10, 2) := by decide +kernel
theorem dX2_look_142 : decode cX2_look 142 = .ok (.iload 4, 2) := by decide +kernel
theorem dX2_look_144 : decode cX2_look 144 = .ok (.invokevirtual 114, 3) := by decide +kernel
theorem dX2_look_147 : decode cX2_look 147 = .ok (.iload 7, 2) := by decide +kernel
theorem dX2_look_149 : decode cX2_look 149 = .ok (.if_icmp .ge 14, 3) := by decide +kernel
theorem dX2_look_152 : decode cX2_look 152 = .ok (.aload_n 0, 1) := by decide +kernel
theorem dX2_look_153 : decode cX2_look 153 = .ok (.iload 10, 2) := by decide +kernel
theorem dX2_look_155 : decode cX2_look 155 = .ok (.iload 4, 2) := by decide +kernel
theorem dX2_look_157 : decode cX2_look 157 = .ok (.invokevirtual 114, 3) := by decide +kernel
theorem dX2_look_160 : decode cX2_look 160 = .ok (.goto 5, 3) := by decide +kernel
theorem dX2_look_163 : decode cX2_look 163 = .ok (.iload 7, 2) := by decide +kernel
theorem dX2_look_165 : decode cX2_look 165 = .ok (.istore 7, 2) := by decide +kernel
theorem dX2_look_167 : decode cX2_look 167 = .ok (.aload_n 0, 1) := by decide +kernel
theorem dX2_look_168 : decode cX2_look 168 = .ok (.iload 10, 2) := by decide +kernel
theorem dX2_look_170 : decode cX2_look 170 = .ok (.iload 4, 2) := by decide +kernel
theorem dX2_look_172 : decode cX2_look 172 = .ok (.invokevirtual 114, 3) := by decide +kernel
theorem dX2_look_175 : decode cX2_look 175 = .ok (.iload 8, 2) := by decide +kernel
theorem dX2_look_177 : decode cX2_look 177 = .ok (.if_icmp .le 14, 3) := by decide +kernel
theorem dX2_look_180 : decode cX2_look 180 = .ok (.aload_n 0, 1) := by decide +kernel
theorem dX2_look_181 : decode cX2_look 181 = .ok (.iload 10, 2) := by decide +kernel
theorem dX2_look_183 : decode cX2_look 183 = .ok (.iload 4, 2) := by decide +kernel
theorem dX2_look_185 : decode cX2_look 185 = .ok (.invokevirtual 114, 3) := by decide +kernel
theorem dX2_look_188 : decode cX2_look 188 = .ok (.goto 5, 3) := by decide +kernel
theorem dX2_look_191 : decode cX2_look 191 = .ok (.iload 8, 2) := by decide +kernel
theorem dX2_look_193 : decode cX2_look 193 = .ok (.istore 8, 2) := by decide +kernel
theorem dX2_look_195 : decode cX2_look 195 = .ok (.iinc 9 1, 3) := by decide +kernel
theorem dX2_look_198 : decode cX2_look 198 = .ok (.goto (-158), 3) := by decide +kernel
theorem dX2_look_201 : decode cX2_look 201 = .ok (.aload_n 0, 1) := by decide +kernel
theorem dX2_look_202 : decode cX2_look 202 = .ok (.getfield 42, 3) := by decide +kernel
theorem dX2_look_205 : decode cX2_look 205 = .ok (.iconst 3, 1) := by decide +kernel
theorem dX2_look_206 : decode cX2_look 206 = .ok (.iload_n 1, 1) := by decide +kernel
theorem dX2_look_207 : decode cX2_look 207 = .ok (.imul, 1) := by decide +kernel
theorem dX2_look_208 : decode cX2_look 208 = .ok (.iload 4, 2) := by decide +kernel
theorem dX2_look_210 : decode cX2_look 210 = .ok (.iadd, 1) := by decide +kernel
theorem dX2_look_211 : decode cX2_look 211 = .ok (.iload 5, 2) := by decide +kernel
theorem dX2_look_213 : decode cX2_look 213 = .ok (.iastore, 1) := by decide +kernel
theorem dX2_look_214 : decode cX2_look 214 = .ok (.aload_n 0, 1) := by decide +kernel
theorem dX2_look_215 : decode cX2_look 215 = .ok (.getfield 45, 3) := by decide +kernel
theorem dX2_look_218 : decode cX2_look 218 = .ok (.iconst 3, 1) := by decide +kernel
theorem dX2_look_219 : decode cX2_look 219 = .ok (.iload_n 1, 1) := by decide +kernel
theorem dX2_look_220 : decode cX2_look 220 = .ok (.imul, 1) := by decide +kernel
theorem dX2_look_221 : decode cX2_look 221 = .ok (.iload 4, 2) := by decide +kernel
theorem dX2_look_223 : decode cX2_look 223 = .ok (.iadd, 1) := by decide +kernel
theorem dX2_look_224 : decode cX2_look 224 = .ok (.iload 6, 2) := by decide +kernel
theorem dX2_look_226 : decode cX2_look 226 = .ok (.iastore, 1) := by decide +kernel
theorem dX2_look_227 : decode cX2_look 227 = .ok (.iload 8, 2) := by decide +kernel
theorem dX2_look_229 : decode cX2_look 229 = .ok (.iload 7, 2) := by decide +kernel
theorem dX2_look_231 : decode cX2_look 231 = .ok (.isub, 1) := by decide +kernel
theorem dX2_look_232 : decode cX2_look 232 = .ok (.iload_n 3, 1) := by decide +kernel
theorem dX2_look_233 : decode cX2_look 233 = .ok (.if_icmp .le 8, 3) := by decide +kernel
theorem dX2_look_236 : decode cX2_look 236 = .ok (.iload 4, 2) := by decide +kernel
theorem dX2_look_238 : decode cX2_look 238 = .ok (.goto 4, 3) := by decide +kernel
theorem dX2_look_241 : decode cX2_look 241 = .ok (.iload_n 2, 1) := by decide +kernel
theorem dX2_look_242 : decode cX2_look 242 = .ok (.istore_n 2, 1) := by decide +kernel
theorem dX2_look_243 : decode cX2_look 243 = .ok (.iload 8, 2) := by decide +kernel
theorem dX2_look_245 : decode cX2_look 245 = .ok (.iload 7, 2) := by decide +kernel
theorem dX2_look_247 : decode cX2_look 247 = .ok (.isub, 1) := by decide +kernel
theorem dX2_look_248 : decode cX2_look 248 = .ok (.iload_n 3, 1) := by decide +kernel
theorem dX2_look_249 : decode cX2_look 249 = .ok (.if_icmp .le 11, 3) := by decide +kernel
theorem dX2_look_252 : decode cX2_look 252 = .ok (.iload 8, 2) := by decide +kernel
theorem dX2_look_254 : decode cX2_look 254 = .ok (.iload 7, 2) := by decide +kernel
theorem dX2_look_256 : decode cX2_look 256 = .ok (.isub, 1) := by decide +kernel
theorem dX2_look_257 : decode cX2_look 257 = .ok (.goto 4, 3) := by decide +kernel
theorem dX2_look_260 : decode cX2_look 260 = .ok (.iload_n 3, 1) := by decide +kernel
theorem dX2_look_261 : decode cX2_look 261 = .ok (.istore_n 3, 1) := by decide +kernel
theorem dX2_look_262 : decode cX2_look 262 = .ok (.iinc 4 1, 3) := by decide +kernel
theorem dX2_look_265 : decode cX2_look 265 = .ok (.goto (-258), 3) := by decide +kernel
theorem dX2_look_268 : decode cX2_look 268 = .ok (.iload_n 2, 1) := by decide +kernel
theorem dX2_look_269 : decode cX2_look 269 = .ok (.ireturn, 1) := by decide +kernel
set_option maxRecDepth 20000 in
theorem ggX2_sort_X2_sum : GoodIn wsX2_sort wsX2_sum := goodIn_r _ [6, 7, 8, 9, 10, 11, 12, 13, 14, 15, 16, 17, 18, 19, 20, 21, 22, 23, 24, 25, 26, 27, 28, 29, 30, 31, 32, 33, 34, 35] (by decide +kernel) (by decide +kernel)
set_option maxRecDepth 20000 in
theorem gX2_sort_X2_sum : GoodIn wsX2_sort (wsV RX2 114 RX2 yX2_sum wsX2_sum) := goodIn_app (goodIn_of _ (by decide +kernel)) ggX2_sort_X2_sum
theorem dX2_sort_0 : decode cX2_sort 0 = .ok (.iload_n 1, 1) := by decide +kernel
theorem dX2_sort_1 : decode cX2_sort 1 = .ok (.iconst 1, 1) := by decide +kernel
theorem dX2_sort_2 : decode cX2_sort 2 = .ok (.iadd, 1) := by decide +kernel
theorem dX2_sort_3 : decode cX2_sort 3 = .ok (.istore 4, 2) := by decide +kernel
theorem dX2_sort_5 : decode cX2_sort 5 = .ok (.iload 4, 2) := by decide +kernel
theorem dX2_sort_7 : decode cX2_sort 7 = .ok (.iload_n 1, 1) := by decide +kernel
theorem dX2_sort_8 : decode cX2_sort 8 = .ok (.iload_n 2, 1) := by decide +kernel
theorem dX2_sort_9 : decode cX2_sort 9 = .ok (.iadd, 1) := by decide +kernel
theorem dX2_sort_10 : decode cX2_sort 10 = .ok (.if_icmp .ge 121, 3) := by decide +kernel
theorem dX2_sort_13 : decode cX2_sort 13 = .ok (.aload_n 0, 1) := by decide +kernel
theorem dX2_sort_14 : decode cX2_sort 14 = .ok (.getfield 27, 3) := by decide +kernel
theorem dX2_sort_17 : decode cX2_sort 17 = .ok (.iload 4, 2) := by decide +kernel
theorem dX2_sort_19 : decode cX2_sort 19 = .ok (.iaload, 1) := by decide +kernel
theorem dX2_sort_20 : decode cX2_sort 20 = .ok (.istore 5, 2) := by decide +kernel
theorem dX2_sort_22 : decode cX2_sort 22 = .ok (.iload 4, 2) := by decide +kernel
theorem dX2_sort_24 : decode cX2_sort 24 = .ok (.istore 6, 2) := by decide +kernel
theorem dX2_sort_26 : decode cX2_sort 26 = .ok (.iload 6, 2) := by decide +kernel
theorem dX2_sort_28 : decode cX2_sort 28 = .ok (.iload_n 1, 1) := by decide +kernel
theorem dX2_sort_29 : decode cX2_sort 29 = .ok (.if_icmp .le 87, 3) := by decide +kernel
theorem dX2_sort_32 : decode cX2_sort 32 = .ok (.aload_n 0, 1) := by decide +kernel
theorem dX2_sort_33 : decode cX2_sort 33 = .ok (.aload_n 0, 1) := by decide +kernel
theorem dX2_sort_34 : decode cX2_sort 34 = .ok (.getfield 27, 3) := by decide +kernel
theorem dX2_sort_37 : decode cX2_sort 37 = .ok (.iload 6, 2) := by decide +kernel
theorem dX2_sort_39 : decode cX2_sort 39 = .ok (.iconst 1, 1) := by decide +kernel
theorem dX2_sort_40 : decode cX2_sort 40 = .ok (.isub, 1) := by decide +kernel
theorem dX2_sort_41 : decode cX2_sort 41 = .ok (.iaload, 1) := by decide +kernel
theorem dX2_sort_42 : decode cX2_sort 42 = .ok (.iload_n 3, 1) := by decide +kernel
theorem dX2_sort_43 : decode cX2_sort 43 = .ok (.invokevirtual 114, 3) := by decide +kernel
theorem dX2_sort_46 : decode cX2_sort 46 = .ok (.aload_n 0, 1) := by decide +kernel
theorem dX2_sort_47 : decode cX2_sort 47 = .ok (.iload 5, 2) := by decide +kernel
theorem dX2_sort_49 : decode cX2_sort 49 = .ok (.iload_n 3, 1) := by decide +kernel
theorem dX2_sort_50 : decode cX2_sort 50 = .ok (.invokevirtual 114, 3) := by decide +kernel
theorem dX2_sort_53 : decode cX2_sort 53 = .ok (.if_icmp .gt 41, 3) := by decide +kernel
theorem dX2_sort_56 : decode cX2_sort 56 = .ok (.aload_n 0, 1) := by decide +kernel
theorem dX2_sort_57 : decode cX2_sort 57 = .ok (.aload_n 0, 1) := by decide +kernel
theorem dX2_sort_58 : decode cX2_sort 58 = .ok (.getfield 27, 3) := by decide +kernel
theorem dX2_sort_61 : decode cX2_sort 61 = .ok (.iload 6, 2) := by decide +kernel
theorem dX2_sort_63 : decode cX2_sort 63 = .ok (.iconst 1, 1) := by decide +kernel
theorem dX2_sort_64 : decode cX2_sort 64 = .ok (.isub, 1) := by decide +kernel
theorem dX2_sort_65 : decode cX2_sort 65 = .ok (.iaload, 1) := by decide +kernel
theorem dX2_sort_66 : decode cX2_sort 66 = .ok (.iload_n 3, 1) := by decide +kernel
theorem dX2_sort_67 : decode cX2_sort 67 = .ok (.invokevirtual 114, 3) := by decide +kernel
theorem dX2_sort_70 : decode cX2_sort 70 = .ok (.aload_n 0, 1) := by decide +kernel
theorem dX2_sort_71 : decode cX2_sort 71 = .ok (.iload 5, 2) := by decide +kernel
theorem dX2_sort_73 : decode cX2_sort 73 = .ok (.iload_n 3, 1) := by decide +kernel
theorem dX2_sort_74 : decode cX2_sort 74 = .ok (.invokevirtual 114, 3) := by decide +kernel
theorem dX2_sort_77 : decode cX2_sort 77 = .ok (.if_icmp .ne 39, 3) := by decide +kernel
theorem dX2_sort_80 : decode cX2_sort 80 = .ok (.aload_n 0, 1) := by decide +kernel
theorem dX2_sort_81 : decode cX2_sort 81 = .ok (.getfield 27, 3) := by decide +kernel
theorem dX2_sort_84 : decode cX2_sort 84 = .ok (.iload 6, 2) := by decide +kernel
theorem dX2_sort_86 : decode cX2_sort 86 = .ok (.iconst 1, 1) := by decide +kernel
theorem dX2_sort_87 : decode cX2_sort 87 = .ok (.isub, 1) := by decide +kernel
theorem dX2_sort_88 : decode cX2_sort 88 = .ok (.iaload, 1) := by decide +kernel
theorem dX2_sort_89 : decode cX2_sort 89 = .ok (.iload 5, 2) := by decide +kernel
theorem dX2_sort_91 : decode cX2_sort 91 = .ok (.if_icmp .le 25, 3) := by decide +kernel
theorem dX2_sort_94 : decode cX2_sort 94 = .ok (.aload_n 0, 1) := by decide +kernel
theorem dX2_sort_95 : decode cX2_sort 95 = .ok (.getfield 27, 3) := by decide +kernel
theorem dX2_sort_98 : decode cX2_sort 98 = .ok (.iload 6, 2) := by decide +kernel
theorem dX2_sort_100 : decode cX2_sort 100 = .ok (.aload_n 0, 1) := by decide +kernel
theorem dX2_sort_101 : decode cX2_sort 101 = .ok (.getfield 27, 3) := by decide +kernel
theorem dX2_sort_104 : decode cX2_sort 104 = .ok (.iload 6, 2) := by decide +kernel
theorem dX2_sort_106 : decode cX2_sort 106 = .ok (.iconst 1, 1) := by decide +kernel
theorem dX2_sort_107 : decode cX2_sort 107 = .ok (.isub, 1) := by decide +kernel
theorem dX2_sort_108 : decode cX2_sort 108 = .ok (.iaload, 1) := by decide +kernel
theorem dX2_sort_109 : decode cX2_sort 109 = .ok (.iastore, 1) := by decide +kernel
theorem dX2_sort_110 : decode cX2_sort 110 = .ok (.iinc 6 (-1), 3) := by decide +kernel
theorem dX2_sort_113 : decode cX2_sort 113 = .ok (.goto (-87), 3) := by decide +kernel
theorem dX2_sort_116 : decode cX2_sort 116 = .ok (.aload_n 0, 1) := by decide +kernel
theorem dX2_sort_117 : decode cX2_sort 117 = .ok (.getfield 27, 3) := by decide +kernel
theorem dX2_sort_120 : decode cX2_sort 120 = .ok (.iload 6, 2) := by decide +kernel
theorem dX2_sort_122 : decode cX2_sort 122 = .ok (.iload 5, 2) := by decide +kernel
theorem dX2_sort_124 : decode cX2_sort 124 = .ok (.iastore, 1) := by decide +kernel
theorem dX2_sort_125 : decode cX2_sort 125 = .ok (.iinc 4 1, 3) := by decide +kernel
theorem dX2_sort_128 : decode cX2_sort 128 = .ok (.goto (-123), 3) := by decide +kernel
theorem dX2_sort_131 : decode cX2_sort 131 = .ok (.return_, 1) := by decide +kernel
set_option maxRecDepth 20000 in
theorem ggX2_build_X2_await : GoodIn wsX2_build wsX2_await := goodIn_r _ [20, 9, 7, 11, 13, 15, 42, 43, 44, 45, 46, 47, 48, 49, 50, 51, 52, 53, 54, 55, 56, 57, 58, 59, 60, 61, 62, 63, 64, 65, 66, 67, 68] (by decide +kernel) (by decide +kernel)
set_option maxRecDepth 20000 in
theorem gX2_build_X2_await : GoodIn wsX2_build (wsV RX2 118 RX2 yX2_await wsX2_await) := goodIn_app (goodIn_of _ (by decide +kernel)) ggX2_build_X2_await
set_option maxRecDepth 20000 in
theorem ggX2_build_X2_look : GoodIn wsX2_build wsX2_look := goodIn_r _ [24, 25, 26, 27, 28, 29, 8, 10, 5, 30, 31, 32, 33, 34, 35, 36, 19, 37, 42, 43, 44, 45, 46, 47, 48, 49, 50, 51, 52, 53, 54, 55, 56, 57, 58, 59, 60, 61, 62, 63, 64, 65, 66, 67, 68] (by decide +kernel) (by decide +kernel)
set_option maxRecDepth 20000 in
theorem gX2_build_X2_look : GoodIn wsX2_build (wsV RX2 122 RX2 yX2_look wsX2_look) := goodIn_app (goodIn_of _ (by decide +kernel)) ggX2_build_X2_look
set_option maxRecDepth 20000 in
theorem ggX2_build_X2_sort : GoodIn wsX2_build wsX2_sort := goodIn_r _ [41, 5, 34, 35, 36, 19, 37, 30, 31, 42, 43, 44, 45, 46, 47, 48, 49, 50, 51, 52, 53, 54, 55, 56, 57, 58, 59, 60, 61, 62, 63, 64, 65, 66, 67, 68] (by decide +kernel) (by decide +kernel)
set_option maxRecDepth 20000 in
theorem gX2_build_X2_sort : GoodIn wsX2_build (wsV RX2 126 RX2 yX2_sort wsX2_sort) := goodIn_app (goodIn_of _ (by decide +kernel)) ggX2_build_X2_sort
theorem dX2_build_0 : decode cX2_build 0 = .ok (.aload_n 0, 1) := by decide +kernel
theorem dX2_build_1 : decode cX2_build 1 = .ok (.iconst 0, 1) := by decide +kernel
theorem dX2_build_2 : decode cX2_build 2 = .ok (.putfield 69, 3) := by decide +kernel
theorem dX2_build_5 : decode cX2_build 5 = .ok (.iconst 0, 1) := by decide +kernel
theorem dX2_build_6 : decode cX2_build 6 = .ok (.istore_n 1, 1) := by decide +kernel
theorem dX2_build_7 : decode cX2_build 7 = .ok (.iconst 0, 1) := by decide +kernel
theorem dX2_build_8 : decode cX2_build 8 = .ok (.istore_n 2, 1) := by decide +kernel
theorem dX2_build_9 : decode cX2_build 9 = .ok (.iload_n 2, 1) := by decide +kernel
theorem dX2_build_10 : decode cX2_build 10 = .ok (.aload_n 0, 1) := by decide +kernel
theorem dX2_build_11 : decode cX2_build 11 = .ok (.getfield 72, 3) := by decide +kernel
theorem dX2_build_14 : decode cX2_build 14 = .ok (.if_icmp .ge 40, 3) := by decide +kernel
theorem dX2_build_17 : decode cX2_build 17 = .ok (.aload_n 0, 1) := by decide +kernel
theorem dX2_build_18 : decode cX2_build 18 = .ok (.getfield 24, 3) := by decide +kernel
theorem dX2_build_21 : decode cX2_build 21 = .ok (.iload_n 2, 1) := by decide +kernel
theorem dX2_build_22 : decode cX2_build 22 = .ok (.aload_n 0, 1) := by decide +kernel
theorem dX2_build_23 : decode cX2_build 23 = .ok (.getfield 13, 3) := by decide +kernel
theorem dX2_build_26 : decode cX2_build 26 = .ok (.iload_n 2, 1) := by decide +kernel
theorem dX2_build_27 : decode cX2_build 27 = .ok (.baload, 1) := by decide +kernel
theorem dX2_build_28 : decode cX2_build 28 = .ok (.bastore, 1) := by decide +kernel
theorem dX2_build_29 : decode cX2_build 29 = .ok (.aload_n 0, 1) := by decide +kernel
theorem dX2_build_30 : decode cX2_build 30 = .ok (.getfield 13, 3) := by decide +kernel
theorem dX2_build_33 : decode cX2_build 33 = .ok (.iload_n 2, 1) := by decide +kernel
theorem dX2_build_34 : decode cX2_build 34 = .ok (.baload, 1) := by decide +kernel
theorem dX2_build_35 : decode cX2_build 35 = .ok (.ifCond .eq 13, 3) := by decide +kernel
theorem dX2_build_38 : decode cX2_build 38 = .ok (.aload_n 0, 1) := by decide +kernel
theorem dX2_build_39 : decode cX2_build 39 = .ok (.getfield 27, 3) := by decide +kernel
theorem dX2_build_42 : decode cX2_build 42 = .ok (.iload_n 1, 1) := by decide +kernel
theorem dX2_build_43 : decode cX2_build 43 = .ok (.iload_n 2, 1) := by decide +kernel
theorem dX2_build_44 : decode cX2_build 44 = .ok (.iastore, 1) := by decide +kernel
theorem dX2_build_45 : decode cX2_build 45 = .ok (.iinc 1 1, 3) := by decide +kernel
theorem dX2_build_48 : decode cX2_build 48 = .ok (.iinc 2 1, 3) := by decide +kernel
theorem dX2_build_51 : decode cX2_build 51 = .ok (.goto (-42), 3) := by decide +kernel
theorem dX2_build_54 : decode cX2_build 54 = .ok (.aload_n 0, 1) := by decide +kernel
theorem dX2_build_55 : decode cX2_build 55 = .ok (.iconst 0, 1) := by decide +kernel
theorem dX2_build_56 : decode cX2_build 56 = .ok (.putfield 77, 3) := by decide +kernel
theorem dX2_build_59 : decode cX2_build 59 = .ok (.aload_n 0, 1) := by decide +kernel
theorem dX2_build_60 : decode cX2_build 60 = .ok (.iconst 0, 1) := by decide +kernel
theorem dX2_build_61 : decode cX2_build 61 = .ok (.putfield 109, 3) := by decide +kernel
theorem dX2_build_64 : decode cX2_build 64 = .ok (.iload_n 1, 1) := by decide +kernel
theorem dX2_build_65 : decode cX2_build 65 = .ok (.ifCond .le 11, 3) := by decide +kernel
theorem dX2_build_68 : decode cX2_build 68 = .ok (.aload_n 0, 1) := by decide +kernel
theorem dX2_build_69 : decode cX2_build 69 = .ok (.iconst 0, 1) := by decide +kernel
theorem dX2_build_70 : decode cX2_build 70 = .ok (.iload_n 1, 1) := by decide +kernel
theorem dX2_build_71 : decode cX2_build 71 = .ok (.iconst 0, 1) := by decide +kernel
theorem dX2_build_72 : decode cX2_build 72 = .ok (.iconst (-1), 1) := by decide +kernel
theorem dX2_build_73 : decode cX2_build 73 = .ok (.invokevirtual 118, 3) := by decide +kernel
theorem dX2_build_76 : decode cX2_build 76 = .ok (.aload_n 0, 1) := by decide +kernel
theorem dX2_build_77 : decode cX2_build 77 = .ok (.getfield 109, 3) := by decide +kernel
theorem dX2_build_80 : decode cX2_build 80 = .ok (.ifCond .le 207, 3) := by decide +kernel
theorem dX2_build_83 : decode cX2_build 83 = .ok (.aload_n 0, 1) := by decide +kernel
theorem dX2_build_84 : decode cX2_build 84 = .ok (.dup, 1) := by decide +kernel
theorem dX2_build_85 : decode cX2_build 85 = .ok (.getfield 109, 3) := by decide +kernel
theorem dX2_build_88 : decode cX2_build 88 = .ok (.iconst 1, 1) := by decide +kernel
theorem dX2_build_89 : decode cX2_build 89 = .ok (.isub, 1) := by decide +kernel
theorem dX2_build_90 : decode cX2_build 90 = .ok (.putfield 109, 3) := by decide +kernel
theorem dX2_build_93 : decode cX2_build 93 = .ok (.aload_n 0, 1) := by decide +kernel
theorem dX2_build_94 : decode cX2_build 94 = .ok (.getfield 77, 3) := by decide +kernel
theorem dX2_build_97 : decode cX2_build 97 = .ok (.istore_n 2, 1) := by decide +kernel
theorem dX2_build_98 : decode cX2_build 98 = .ok (.aload_n 0, 1) := by decide +kernel
theorem dX2_build_99 : decode cX2_build 99 = .ok (.dup, 1) := by decide +kernel
theorem dX2_build_100 : decode cX2_build 100 = .ok (.getfield 77, 3) := by decide +kernel
theorem dX2_build_103 : decode cX2_build 103 = .ok (.iconst 1, 1) := by decide +kernel
theorem dX2_build_104 : decode cX2_build 104 = .ok (.iadd, 1) := by decide +kernel
theorem dX2_build_105 : decode cX2_build 105 = .ok (.putfield 77, 3) := by decide +kernel
theorem dX2_build_108 : decode cX2_build 108 = .ok (.aload_n 0, 1) := by decide +kernel
theorem dX2_build_109 : decode cX2_build 109 = .ok (.getfield 30, 3) := by decide +kernel
theorem dX2_build_112 : decode cX2_build 112 = .ok (.iload_n 2, 1) := by decide +kernel
theorem dX2_build_113 : decode cX2_build 113 = .ok (.aload_n 0, 1) := by decide +kernel
theorem dX2_build_114 : decode cX2_build 114 = .ok (.getfield 48, 3) := by decide +kernel
theorem dX2_build_117 : decode cX2_build 117 = .ok (.aload_n 0, 1) := by decide +kernel
theorem dX2_build_118 : decode cX2_build 118 = .ok (.getfield 109, 3) := by decide +kernel
theorem dX2_build_121 : decode cX2_build 121 = .ok (.iaload, 1) := by decide +kernel
theorem dX2_build_122 : decode cX2_build 122 = .ok (.iastore, 1) := by decide +kernel
theorem dX2_build_123 : decode cX2_build 123 = .ok (.aload_n 0, 1) := by decide +kernel
theorem dX2_build_124 : decode cX2_build 124 = .ok (.getfield 33, 3) := by decide +kernel
theorem dX2_build_127 : decode cX2_build 127 = .ok (.iload_n 2, 1) := by decide +kernel
theorem dX2_build_128 : decode cX2_build 128 = .ok (.aload_n 0, 1) := by decide +kernel
theorem dX2_build_129 : decode cX2_build 129 = .ok (.getfield 51, 3) := by decide +kernel
theorem dX2_build_132 : decode cX2_build 132 = .ok (.aload_n 0, 1) := by decide +kernel
theorem dX2_build_133 : decode cX2_build 133 = .ok (.getfield 109, 3) := by decide +kernel
theorem dX2_build_136 : decode cX2_build 136 = .ok (.iaload, 1) := by decide +kernel
theorem dX2_build_137 : decode cX2_build 137 = .ok (.iastore, 1) := by decide +kernel
theorem dX2_build_138 : decode cX2_build 138 = .ok (.aload_n 0, 1) := by decide +kernel
theorem dX2_build_139 : decode cX2_build 139 = .ok (.getfield 39, 3) := by decide +kernel
theorem dX2_build_142 : decode cX2_build 142 = .ok (.iload_n 2, 1) := by decide +kernel
theorem dX2_build_143 : decode cX2_build 143 = .ok (.aload_n 0, 1) := by decide +kernel
theorem dX2_build_144 : decode cX2_build 144 = .ok (.getfield 54, 3) := by decide +kernel
theorem dX2_build_147 : decode cX2_build 147 = .ok (.aload_n 0, 1) := by decide +kernel
theorem dX2_build_148 : decode cX2_build 148 = .ok (.getfield 109, 3) := by decide +kernel
theorem dX2_build_151 : decode cX2_build 151 = .ok (.iaload, 1) := by decide +kernel
theorem dX2_build_152 : decode cX2_build 152 = .ok (.iastore, 1) := by decide +kernel
theorem dX2_build_153 : decode cX2_build 153 = .ok (.aload_n 0, 1) := by decide +kernel
theorem dX2_build_154 : decode cX2_build 154 = .ok (.getfield 36, 3) := by decide +kernel
theorem dX2_build_157 : decode cX2_build 157 = .ok (.iload_n 2, 1) := by decide +kernel
theorem dX2_build_158 : decode cX2_build 158 = .ok (.iconst 0, 1) := by decide +kernel
theorem dX2_build_159 : decode cX2_build 159 = .ok (.iastore, 1) := by decide +kernel
theorem dX2_build_160 : decode cX2_build 160 = .ok (.aload_n 0, 1) := by decide +kernel
theorem dX2_build_161 : decode cX2_build 161 = .ok (.getfield 57, 3) := by decide +kernel
theorem dX2_build_164 : decode cX2_build 164 = .ok (.aload_n 0, 1) := by decide +kernel
theorem dX2_build_165 : decode cX2_build 165 = .ok (.getfield 109, 3) := by decide +kernel
theorem dX2_build_168 : decode cX2_build 168 = .ok (.iaload, 1) := by decide +kernel
theorem dX2_build_169 : decode cX2_build 169 = .ok (.ifCond .lt 18, 3) := by decide +kernel
theorem dX2_build_172 : decode cX2_build 172 = .ok (.aload_n 0, 1) := by decide +kernel
theorem dX2_build_173 : decode cX2_build 173 = .ok (.getfield 36, 3) := by decide +kernel
theorem dX2_build_176 : decode cX2_build 176 = .ok (.aload_n 0, 1) := by decide +kernel
theorem dX2_build_177 : decode cX2_build 177 = .ok (.getfield 57, 3) := by decide +kernel
theorem dX2_build_180 : decode cX2_build 180 = .ok (.aload_n 0, 1) := by decide +kernel
theorem dX2_build_181 : decode cX2_build 181 = .ok (.getfield 109, 3) := by decide +kernel
theorem dX2_build_184 : decode cX2_build 184 = .ok (.iaload, 1) := by decide +kernel
theorem dX2_build_185 : decode cX2_build 185 = .ok (.iload_n 2, 1) := by decide +kernel
theorem dX2_build_186 : decode cX2_build 186 = .ok (.iastore, 1) := by decide +kernel
theorem dX2_build_187 : decode cX2_build 187 = .ok (.aload_n 0, 1) := by decide +kernel
theorem dX2_build_188 : decode cX2_build 188 = .ok (.iload_n 2, 1) := by decide +kernel
theorem dX2_build_189 : decode cX2_build 189 = .ok (.invokevirtual 122, 3) := by decide +kernel
theorem dX2_build_192 : decode cX2_build 192 = .ok (.istore_n 3, 1) := by decide +kernel
theorem dX2_build_193 : decode cX2_build 193 = .ok (.aload_n 0, 1) := by decide +kernel
theorem dX2_build_194 : decode cX2_build 194 = .ok (.getfield 33, 3) := by decide +kernel
theorem dX2_build_197 : decode cX2_build 197 = .ok (.iload_n 2, 1) := by decide +kernel
theorem dX2_build_198 : decode cX2_build 198 = .ok (.iaload, 1) := by decide +kernel
theorem dX2_build_199 : decode cX2_build 199 = .ok (.iconst 4, 1) := by decide +kernel
theorem dX2_build_200 : decode cX2_build 200 = .ok (.if_icmp .le 84, 3) := by decide +kernel
theorem dX2_build_203 : decode cX2_build 203 = .ok (.aload_n 0, 1) := by decide +kernel
theorem dX2_build_204 : decode cX2_build 204 = .ok (.aload_n 0, 1) := by decide +kernel
theorem dX2_build_205 : decode cX2_build 205 = .ok (.getfield 30, 3) := by decide +kernel
theorem dX2_build_208 : decode cX2_build 208 = .ok (.iload_n 2, 1) := by decide +kernel
theorem dX2_build_209 : decode cX2_build 209 = .ok (.iaload, 1) := by decide +kernel
theorem dX2_build_210 : decode cX2_build 210 = .ok (.aload_n 0, 1) := by decide +kernel
theorem dX2_build_211 : decode cX2_build 211 = .ok (.getfield 33, 3) := by decide +kernel
theorem dX2_build_214 : decode cX2_build 214 = .ok (.iload_n 2, 1) := by decide +kernel
theorem dX2_build_215 : decode cX2_build 215 = .ok (.iaload, 1) := by decide +kernel
theorem dX2_build_216 : decode cX2_build 216 = .ok (.iload_n 3, 1) := by decide +kernel
theorem dX2_build_217 : decode cX2_build 217 = .ok (.invokevirtual 126, 3) := by decide +kernel
theorem dX2_build_220 : decode cX2_build 220 = .ok (.aload_n 0, 1) := by decide +kernel
theorem dX2_build_221 : decode cX2_build 221 = .ok (.getfield 33, 3) := by decide +kernel
theorem dX2_build_224 : decode cX2_build 224 = .ok (.iload_n 2, 1) := by decide +kernel
theorem dX2_build_225 : decode cX2_build 225 = .ok (.iaload, 1) := by decide +kernel
theorem dX2_build_226 : decode cX2_build 226 = .ok (.iconst 1, 1) := by decide +kernel
theorem dX2_build_227 : decode cX2_build 227 = .ok (.iadd, 1) := by decide +kernel
theorem dX2_build_228 : decode cX2_build 228 = .ok (.iconst 2, 1) := by decide +kernel
theorem dX2_build_229 : decode cX2_build 229 = .ok (.idiv, 1) := by decide +kernel
theorem dX2_build_230 : decode cX2_build 230 = .ok (.istore 4, 2) := by decide +kernel
theorem dX2_build_232 : decode cX2_build 232 = .ok (.aload_n 0, 1) := by decide +kernel
theorem dX2_build_233 : decode cX2_build 233 = .ok (.aload_n 0, 1) := by decide +kernel
theorem dX2_build_234 : decode cX2_build 234 = .ok (.getfield 30, 3) := by decide +kernel
theorem dX2_build_237 : decode cX2_build 237 = .ok (.iload_n 2, 1) := by decide +kernel
theorem dX2_build_238 : decode cX2_build 238 = .ok (.iaload, 1) := by decide +kernel
theorem dX2_build_239 : decode cX2_build 239 = .ok (.iload 4, 2) := by decide +kernel
theorem dX2_build_241 : decode cX2_build 241 = .ok (.iadd, 1) := by decide +kernel
theorem dX2_build_242 : decode cX2_build 242 = .ok (.aload_n 0, 1) := by decide +kernel
theorem dX2_build_243 : decode cX2_build 243 = .ok (.getfield 33, 3) := by decide +kernel
theorem dX2_build_246 : decode cX2_build 246 = .ok (.iload_n 2, 1) := by decide +kernel
theorem dX2_build_247 : decode cX2_build 247 = .ok (.iaload, 1) := by decide +kernel
theorem dX2_build_248 : decode cX2_build 248 = .ok (.iload 4, 2) := by decide +kernel
theorem dX2_build_250 : decode cX2_build 250 = .ok (.isub, 1) := by decide +kernel
theorem dX2_build_251 : decode cX2_build 251 = .ok (.aload_n 0, 1) := by decide +kernel
theorem dX2_build_252 : decode cX2_build 252 = .ok (.getfield 39, 3) := by decide +kernel
theorem dX2_build_255 : decode cX2_build 255 = .ok (.iload_n 2, 1) := by decide +kernel
theorem dX2_build_256 : decode cX2_build 256 = .ok (.iaload, 1) := by decide +kernel
theorem dX2_build_257 : decode cX2_build 257 = .ok (.iconst 1, 1) := by decide +kernel
theorem dX2_build_258 : decode cX2_build 258 = .ok (.iadd, 1) := by decide +kernel
theorem dX2_build_259 : decode cX2_build 259 = .ok (.iload_n 2, 1) := by decide +kernel
theorem dX2_build_260 : decode cX2_build 260 = .ok (.invokevirtual 118, 3) := by decide +kernel
theorem dX2_build_263 : decode cX2_build 263 = .ok (.aload_n 0, 1) := by decide +kernel
theorem dX2_build_264 : decode cX2_build 264 = .ok (.aload_n 0, 1) := by decide +kernel
theorem dX2_build_265 : decode cX2_build 265 = .ok (.getfield 30, 3) := by decide +kernel
theorem dX2_build_268 : decode cX2_build 268 = .ok (.iload_n 2, 1) := by decide +kernel
theorem dX2_build_269 : decode cX2_build 269 = .ok (.iaload, 1) := by decide +kernel
theorem dX2_build_270 : decode cX2_build 270 = .ok (.iload 4, 2) := by decide +kernel
theorem dX2_build_272 : decode cX2_build 272 = .ok (.aload_n 0, 1) := by decide +kernel
theorem dX2_build_273 : decode cX2_build 273 = .ok (.getfield 39, 3) := by decide +kernel
theorem dX2_build_276 : decode cX2_build 276 = .ok (.iload_n 2, 1) := by decide +kernel
theorem dX2_build_277 : decode cX2_build 277 = .ok (.iaload, 1) := by decide +kernel
theorem dX2_build_278 : decode cX2_build 278 = .ok (.iconst 1, 1) := by decide +kernel
theorem dX2_build_279 : decode cX2_build 279 = .ok (.iadd, 1) := by decide +kernel
theorem dX2_build_280 : decode cX2_build 280 = .ok (.iconst (-1), 1) := by decide +kernel
theorem dX2_build_281 : decode cX2_build 281 = .ok (.invokevirtual 118, 3) := by decide +kernel
theorem dX2_build_284 : decode cX2_build 284 = .ok (.goto (-208), 3) := by decide +kernel
theorem dX2_build_287 : decode cX2_build 287 = .ok (.aload_n 0, 1) := by decide +kernel
theorem dX2_build_288 : decode cX2_build 288 = .ok (.getfield 77, 3) := by decide +kernel
theorem dX2_build_291 : decode cX2_build 291 = .ok (.ireturn, 1) := by decide +kernel
theorem dX2_isBlock_0 : decode cX2_isBlock 0 = .ok (.iload_n 1, 1) := by decide +kernel
theorem dX2_isBlock_1 : decode cX2_isBlock 1 = .ok (.ifCond .lt 15, 3) := by decide +kernel
theorem dX2_isBlock_4 : decode cX2_isBlock 4 = .ok (.iload_n 1, 1) := by decide +kernel
theorem dX2_isBlock_5 : decode cX2_isBlock 5 = .ok (.aload_n 0, 1) := by decide +kernel
theorem dX2_isBlock_6 : decode cX2_isBlock 6 = .ok (.getfield 77, 3) := by decide +kernel
theorem dX2_isBlock_9 : decode cX2_isBlock 9 = .ok (.if_icmp .ge 7, 3) := by decide +kernel
theorem dX2_isBlock_12 : decode cX2_isBlock 12 = .ok (.iconst 1, 1) := by decide +kernel
theorem dX2_isBlock_13 : decode cX2_isBlock 13 = .ok (.goto 4, 3) := by decide +kernel
theorem dX2_isBlock_16 : decode cX2_isBlock 16 = .ok (.iconst 0, 1) := by decide +kernel
theorem dX2_isBlock_17 : decode cX2_isBlock 17 = .ok (.ireturn, 1) := by decide +kernel
set_option maxRecDepth 20000 in
theorem ggX2_block_X2_isBlock : GoodIn wsX2_block wsX2_isBlock := goodIn_r _ [9, 10, 11, 12, 13, 14, 15, 16, 17, 18, 19, 20, 21, 22, 23, 24, 25, 26, 27, 28, 29, 30, 31, 32, 33, 34, 35, 36, 37] (by decide +kernel) (by decide +kernel)
set_option maxRecDepth 20000 in
theorem gX2_block_X2_isBlock : GoodIn wsX2_block (wsV RX2 130 RX2 yX2_isBlock wsX2_isBlock) := goodIn_app (goodIn_of _ (by decide +kernel)) ggX2_block_X2_isBlock
theorem dX2_block_0 : decode cX2_block 0 = .ok (.aload_n 0, 1) := by decide +kernel
theorem dX2_block_1 : decode cX2_block 1 = .ok (.iconst 0, 1) := by decide +kernel
theorem dX2_block_2 : decode cX2_block 2 = .ok (.putfield 69, 3) := by decide +kernel
theorem dX2_block_5 : decode cX2_block 5 = .ok (.aload_n 0, 1) := by decide +kernel
theorem dX2_block_6 : decode cX2_block 6 = .ok (.iload_n 1, 1) := by decide +kernel
theorem dX2_block_7 : decode cX2_block 7 = .ok (.invokevirtual 130, 3) := by decide +kernel
theorem dX2_block_10 : decode cX2_block 10 = .ok (.ifCond .ne 5, 3) := by decide +kernel
theorem dX2_block_13 : decode cX2_block 13 = .ok (.iconst (-1), 1) := by decide +kernel
theorem dX2_block_14 : decode cX2_block 14 = .ok (.ireturn, 1) := by decide +kernel
theorem dX2_block_15 : decode cX2_block 15 = .ok (.iload_n 2, 1) := by decide +kernel
theorem dX2_block_16 : decode cX2_block 16 = .ok (.tableswitch 69 0 3 #[32, 48, 55, 62], 32) := by decide +kernel
theorem dX2_block_48 : decode cX2_block 48 = .ok (.aload_n 0, 1) := by decide +kernel
theorem dX2_block_49 : decode cX2_block 49 = .ok (.getfield 33, 3) := by decide +kernel
theorem dX2_block_52 : decode cX2_block 52 = .ok (.iload_n 1, 1) := by decide +kernel
theorem dX2_block_53 : decode cX2_block 53 = .ok (.iaload, 1) := by decide +kernel
theorem dX2_block_54 : decode cX2_block 54 = .ok (.iconst 4, 1) := by decide +kernel
theorem dX2_block_55 : decode cX2_block 55 = .ok (.if_icmp .le 7, 3) := by decide +kernel
theorem dX2_block_58 : decode cX2_block 58 = .ok (.iconst 1, 1) := by decide +kernel
theorem dX2_block_59 : decode cX2_block 59 = .ok (.goto 4, 3) := by decide +kernel
theorem dX2_block_62 : decode cX2_block 62 = .ok (.iconst 0, 1) := by decide +kernel
theorem dX2_block_63 : decode cX2_block 63 = .ok (.ireturn, 1) := by decide +kernel
theorem dX2_block_64 : decode cX2_block 64 = .ok (.aload_n 0, 1) := by decide +kernel
theorem dX2_block_65 : decode cX2_block 65 = .ok (.getfield 33, 3) := by decide +kernel
theorem dX2_block_68 : decode cX2_block 68 = .ok (.iload_n 1, 1) := by decide +kernel
theorem dX2_block_69 : decode cX2_block 69 = .ok (.iaload, 1) := by decide +kernel
theorem dX2_block_70 : decode cX2_block 70 = .ok (.ireturn, 1) := by decide +kernel
theorem dX2_block_71 : decode cX2_block 71 = .ok (.aload_n 0, 1) := by decide +kernel
theorem dX2_block_72 : decode cX2_block 72 = .ok (.getfield 36, 3) := by decide +kernel
theorem dX2_block_75 : decode cX2_block 75 = .ok (.iload_n 1, 1) := by decide +kernel
theorem dX2_block_76 : decode cX2_block 76 = .ok (.iaload, 1) := by decide +kernel
theorem dX2_block_77 : decode cX2_block 77 = .ok (.ireturn, 1) := by decide +kernel
theorem dX2_block_78 : decode cX2_block 78 = .ok (.aload_n 0, 1) := by decide +kernel
theorem dX2_block_79 : decode cX2_block 79 = .ok (.getfield 39, 3) := by decide +kernel
theorem dX2_block_82 : decode cX2_block 82 = .ok (.iload_n 1, 1) := by decide +kernel
theorem dX2_block_83 : decode cX2_block 83 = .ok (.iaload, 1) := by decide +kernel
theorem dX2_block_84 : decode cX2_block 84 = .ok (.ireturn, 1) := by decide +kernel
theorem dX2_block_85 : decode cX2_block 85 = .ok (.bipush (-2), 2) := by decide +kernel
theorem dX2_block_87 : decode cX2_block 87 = .ok (.ireturn, 1) := by decide +kernel
set_option maxRecDepth 20000 in
theorem ggX2_bound_X2_isBlock : GoodIn wsX2_bound wsX2_isBlock := goodIn_r _ [10, 11, 12, 13, 14, 15, 16, 17, 18, 19, 20, 21, 22, 23, 24, 25, 26, 27, 28, 29, 30, 31, 32, 33, 34, 35, 36, 37, 38] (by decide +kernel) (by decide +kernel)
set_option maxRecDepth 20000 in
theorem gX2_bound_X2_isBlock : GoodIn wsX2_bound (wsV RX2 130 RX2 yX2_isBlock wsX2_isBlock) := goodIn_app (goodIn_of _ (by decide +kernel)) ggX2_bound_X2_isBlock
theorem dX2_bound_0 : decode cX2_bound 0 = .ok (.aload_n 0, 1) := by decide +kernel
theorem dX2_bound_1 : decode cX2_bound 1 = .ok (.iconst 0, 1) := by decide +kernel
theorem dX2_bound_2 : decode cX2_bound 2 = .ok (.putfield 69, 3) := by decide +kernel
theorem dX2_bound_5 : decode cX2_bound 5 = .ok (.aload_n 0, 1) := by decide +kernel
theorem dX2_bound_6 : decode cX2_bound 6 = .ok (.iload_n 1, 1) := by decide +kernel
theorem dX2_bound_7 : decode cX2_bound 7 = .ok (.invokevirtual 130, 3) := by decide +kernel
theorem dX2_bound_10 : decode cX2_bound 10 = .ok (.ifCond .eq 24, 3) := by decide +kernel
theorem dX2_bound_13 : decode cX2_bound 13 = .ok (.iload_n 2, 1) := by decide +kernel
theorem dX2_bound_14 : decode cX2_bound 14 = .ok (.ifCond .lt 20, 3) := by decide +kernel
theorem dX2_bound_17 : decode cX2_bound 17 = .ok (.iload_n 2, 1) := by decide +kernel
theorem dX2_bound_18 : decode cX2_bound 18 = .ok (.aload_n 0, 1) := by decide +kernel
theorem dX2_bound_19 : decode cX2_bound 19 = .ok (.getfield 7, 3) := by decide +kernel
theorem dX2_bound_22 : decode cX2_bound 22 = .ok (.if_icmp .ge 12, 3) := by decide +kernel
theorem dX2_bound_25 : decode cX2_bound 25 = .ok (.iload_n 3, 1) := by decide +kernel
theorem dX2_bound_26 : decode cX2_bound 26 = .ok (.ifCond .lt 8, 3) := by decide +kernel
theorem dX2_bound_29 : decode cX2_bound 29 = .ok (.iload_n 3, 1) := by decide +kernel
theorem dX2_bound_30 : decode cX2_bound 30 = .ok (.iconst 1, 1) := by decide +kernel
theorem dX2_bound_31 : decode cX2_bound 31 = .ok (.if_icmp .le 7, 3) := by decide +kernel
theorem dX2_bound_34 : decode cX2_bound 34 = .ok (.ldc2_w 107, 3) := by decide +kernel
theorem dX2_bound_37 : decode cX2_bound 37 = .ok (.lreturn, 1) := by decide +kernel
theorem dX2_bound_38 : decode cX2_bound 38 = .ok (.iload_n 3, 1) := by decide +kernel
theorem dX2_bound_39 : decode cX2_bound 39 = .ok (.ifCond .ne 17, 3) := by decide +kernel
theorem dX2_bound_42 : decode cX2_bound 42 = .ok (.aload_n 0, 1) := by decide +kernel
theorem dX2_bound_43 : decode cX2_bound 43 = .ok (.getfield 42, 3) := by decide +kernel
theorem dX2_bound_46 : decode cX2_bound 46 = .ok (.iconst 3, 1) := by decide +kernel
theorem dX2_bound_47 : decode cX2_bound 47 = .ok (.iload_n 1, 1) := by decide +kernel
theorem dX2_bound_48 : decode cX2_bound 48 = .ok (.imul, 1) := by decide +kernel
theorem dX2_bound_49 : decode cX2_bound 49 = .ok (.iload_n 2, 1) := by decide +kernel
theorem dX2_bound_50 : decode cX2_bound 50 = .ok (.iadd, 1) := by decide +kernel
theorem dX2_bound_51 : decode cX2_bound 51 = .ok (.iaload, 1) := by decide +kernel
theorem dX2_bound_52 : decode cX2_bound 52 = .ok (.i2l, 1) := by decide +kernel
theorem dX2_bound_53 : decode cX2_bound 53 = .ok (.goto 14, 3) := by decide +kernel
theorem dX2_bound_56 : decode cX2_bound 56 = .ok (.aload_n 0, 1) := by decide +kernel
theorem dX2_bound_57 : decode cX2_bound 57 = .ok (.getfield 45, 3) := by decide +kernel
theorem dX2_bound_60 : decode cX2_bound 60 = .ok (.iconst 3, 1) := by decide +kernel
theorem dX2_bound_61 : decode cX2_bound 61 = .ok (.iload_n 1, 1) := by decide +kernel
theorem dX2_bound_62 : decode cX2_bound 62 = .ok (.imul, 1) := by decide +kernel
theorem dX2_bound_63 : decode cX2_bound 63 = .ok (.iload_n 2, 1) := by decide +kernel
theorem dX2_bound_64 : decode cX2_bound 64 = .ok (.iadd, 1) := by decide +kernel
theorem dX2_bound_65 : decode cX2_bound 65 = .ok (.iaload, 1) := by decide +kernel
theorem dX2_bound_66 : decode cX2_bound 66 = .ok (.i2l, 1) := by decide +kernel
theorem dX2_bound_67 : decode cX2_bound 67 = .ok (.lreturn, 1) := by decide +kernel
theorem dX2_isSo_0 : decode cX2_isSo 0 = .ok (.iconst 1, 1) := by decide +kernel
theorem dX2_isSo_1 : decode cX2_isSo 1 = .ok (.istore 5, 2) := by decide +kernel
theorem dX2_isSo_3 : decode cX2_isSo 3 = .ok (.iconst 1, 1) := by decide +kernel
theorem dX2_isSo_4 : decode cX2_isSo 4 = .ok (.istore 6, 2) := by decide +kernel
theorem dX2_isSo_6 : decode cX2_isSo 6 = .ok (.iconst 1, 1) := by decide +kernel
theorem dX2_isSo_7 : decode cX2_isSo 7 = .ok (.istore 7, 2) := by decide +kernel
theorem dX2_isSo_9 : decode cX2_isSo 9 = .ok (.iconst 0, 1) := by decide +kernel
theorem dX2_isSo_10 : decode cX2_isSo 10 = .ok (.istore 8, 2) := by decide +kernel
theorem dX2_isSo_12 : decode cX2_isSo 12 = .ok (.iload 8, 2) := by decide +kernel
theorem dX2_isSo_14 : decode cX2_isSo 14 = .ok (.aload_n 0, 1) := by decide +kernel
theorem dX2_isSo_15 : decode cX2_isSo 15 = .ok (.getfield 7, 3) := by decide +kernel
theorem dX2_isSo_18 : decode cX2_isSo 18 = .ok (.if_icmp .ge 147, 3) := by decide +kernel
theorem dX2_isSo_21 : decode cX2_isSo 21 = .ok (.iload 5, 2) := by decide +kernel
theorem dX2_isSo_23 : decode cX2_isSo 23 = .ok (.ifCond .eq 41, 3) := by decide +kernel
theorem dX2_isSo_26 : decode cX2_isSo 26 = .ok (.aload_n 2, 1) := by decide +kernel
theorem dX2_isSo_27 : decode cX2_isSo 27 = .ok (.iload 4, 2) := by decide +kernel
theorem dX2_isSo_29 : decode cX2_isSo 29 = .ok (.iload 8, 2) := by decide +kernel
theorem dX2_isSo_31 : decode cX2_isSo 31 = .ok (.iadd, 1) := by decide +kernel
theorem dX2_isSo_32 : decode cX2_isSo 32 = .ok (.iaload, 1) := by decide +kernel
theorem dX2_isSo_33 : decode cX2_isSo 33 = .ok (.aload_n 0, 1) := by decide +kernel
theorem dX2_isSo_34 : decode cX2_isSo 34 = .ok (.getfield 63, 3) := by decide +kernel
theorem dX2_isSo_37 : decode cX2_isSo 37 = .ok (.iload 8, 2) := by decide +kernel
theorem dX2_isSo_39 : decode cX2_isSo 39 = .ok (.iaload, 1) := by decide +kernel
theorem dX2_isSo_40 : decode cX2_isSo 40 = .ok (.if_icmp .gt 24, 3) := by decide +kernel
theorem dX2_isSo_43 : decode cX2_isSo 43 = .ok (.aload_n 3, 1) := by decide +kernel
theorem dX2_isSo_44 : decode cX2_isSo 44 = .ok (.iload 4, 2) := by decide +kernel
theorem dX2_isSo_46 : decode cX2_isSo 46 = .ok (.iload 8, 2) := by decide +kernel
theorem dX2_isSo_48 : decode cX2_isSo 48 = .ok (.iadd, 1) := by decide +kernel
theorem dX2_isSo_49 : decode cX2_isSo 49 = .ok (.iaload, 1) := by decide +kernel
theorem dX2_isSo_50 : decode cX2_isSo 50 = .ok (.aload_n 0, 1) := by decide +kernel
theorem dX2_isSo_51 : decode cX2_isSo 51 = .ok (.getfield 60, 3) := by decide +kernel
theorem dX2_isSo_54 : decode cX2_isSo 54 = .ok (.iload 8, 2) := by decide +kernel
theorem dX2_isSo_56 : decode cX2_isSo 56 = .ok (.iaload, 1) := by decide +kernel
theorem dX2_isSo_57 : decode cX2_isSo 57 = .ok (.if_icmp .lt 7, 3) := by decide +kernel
theorem dX2_isSo_60 : decode cX2_isSo 60 = .ok (.iconst 1, 1) := by decide +kernel
theorem dX2_isSo_61 : decode cX2_isSo 61 = .ok (.goto 4, 3) := by decide +kernel
theorem dX2_isSo_64 : decode cX2_isSo 64 = .ok (.iconst 0, 1) := by decide +kernel
theorem dX2_isSo_65 : decode cX2_isSo 65 = .ok (.istore 5, 2) := by decide +kernel
theorem dX2_isSo_67 : decode cX2_isSo 67 = .ok (.iload 6, 2) := by decide +kernel
theorem dX2_isSo_69 : decode cX2_isSo 69 = .ok (.ifCond .eq 41, 3) := by decide +kernel
theorem dX2_isSo_72 : decode cX2_isSo 72 = .ok (.aload_n 2, 1) := by decide +kernel
theorem dX2_isSo_73 : decode cX2_isSo 73 = .ok (.iload 4, 2) := by decide +kernel
theorem dX2_isSo_75 : decode cX2_isSo 75 = .ok (.iload 8, 2) := by decide +kernel
theorem dX2_isSo_77 : decode cX2_isSo 77 = .ok (.iadd, 1) := by decide +kernel
theorem dX2_isSo_78 : decode cX2_isSo 78 = .ok (.iaload, 1) := by decide +kernel
theorem dX2_isSo_79 : decode cX2_isSo 79 = .ok (.aload_n 0, 1) := by decide +kernel
theorem dX2_isSo_80 : decode cX2_isSo 80 = .ok (.getfield 60, 3) := by decide +kernel
theorem dX2_isSo_83 : decode cX2_isSo 83 = .ok (.iload 8, 2) := by decide +kernel
theorem dX2_isSo_85 : decode cX2_isSo 85 = .ok (.iaload, 1) := by decide +kernel
theorem dX2_isSo_86 : decode cX2_isSo 86 = .ok (.if_icmp .lt 24, 3) := by decide +kernel
theorem dX2_isSo_89 : decode cX2_isSo 89 = .ok (.aload_n 3, 1) := by decide +kernel
theorem dX2_isSo_90 : decode cX2_isSo 90 = .ok (.iload 4, 2) := by decide +kernel
theorem dX2_isSo_92 : decode cX2_isSo 92 = .ok (.iload 8, 2) := by decide +kernel
theorem dX2_isSo_94 : decode cX2_isSo 94 = .ok (.iadd, 1) := by decide +kernel
theorem dX2_isSo_95 : decode cX2_isSo 95 = .ok (.iaload, 1) := by decide +kernel
theorem dX2_isSo_96 : decode cX2_isSo 96 = .ok (.aload_n 0, 1) := by decide +kernel
theorem dX2_isSo_97 : decode cX2_isSo 97 = .ok (.getfield 63, 3) := by decide +kernel
theorem dX2_isSo_100 : decode cX2_isSo 100 = .ok (.iload 8, 2) := by decide +kernel
theorem dX2_isSo_102 : decode cX2_isSo 102 = .ok (.iaload, 1) := by decide +kernel
theorem dX2_isSo_103 : decode cX2_isSo 103 = .ok (.if_icmp .gt 7, 3) := by decide +kernel
theorem dX2_isSo_106 : decode cX2_isSo 106 = .ok (.iconst 1, 1) := by decide +kernel
theorem dX2_isSo_107 : decode cX2_isSo 107 = .ok (.goto 4, 3) := by decide +kernel
theorem dX2_isSo_110 : decode cX2_isSo 110 = .ok (.iconst 0, 1) := by decide +kernel
theorem dX2_isSo_111 : decode cX2_isSo 111 = .ok (.istore 6, 2) := by decide +kernel
theorem dX2_isSo_113 : decode cX2_isSo 113 = .ok (.iload 7, 2) := by decide +kernel
theorem dX2_isSo_115 : decode cX2_isSo 115 = .ok (.ifCond .eq 41, 3) := by decide +kernel
theorem dX2_isSo_118 : decode cX2_isSo 118 = .ok (.aload_n 2, 1) := by decide +kernel
theorem dX2_isSo_119 : decode cX2_isSo 119 = .ok (.iload 4, 2) := by decide +kernel
theorem dX2_isSo_121 : decode cX2_isSo 121 = .ok (.iload 8, 2) := by decide +kernel
theorem dX2_isSo_123 : decode cX2_isSo 123 = .ok (.iadd, 1) := by decide +kernel
theorem dX2_isSo_124 : decode cX2_isSo 124 = .ok (.iaload, 1) := by decide +kernel
theorem dX2_isSo_125 : decode cX2_isSo 125 = .ok (.aload_n 0, 1) := by decide +kernel
theorem dX2_isSo_126 : decode cX2_isSo 126 = .ok (.getfield 60, 3) := by decide +kernel
theorem dX2_isSo_129 : decode cX2_isSo 129 = .ok (.iload 8, 2) := by decide +kernel
theorem dX2_isSo_131 : decode cX2_isSo 131 = .ok (.iaload, 1) := by decide +kernel
theorem dX2_isSo_132 : decode cX2_isSo 132 = .ok (.if_icmp .gt 24, 3) := by decide +kernel
theorem dX2_isSo_135 : decode cX2_isSo 135 = .ok (.aload_n 3, 1) := by decide +kernel
theorem dX2_isSo_136 : decode cX2_isSo 136 = .ok (.iload 4, 2) := by decide +kernel
theorem dX2_isSo_138 : decode cX2_isSo 138 = .ok (.iload 8, 2) := by decide +kernel
theorem dX2_isSo_140 : decode cX2_isSo 140 = .ok (.iadd, 1) := by decide +kernel
theorem dX2_isSo_141 : decode cX2_isSo 141 = .ok (.iaload, 1) := by decide +kernel
theorem dX2_isSo_142 : decode cX2_isSo 142 = .ok (.aload_n 0, 1) := by decide +kernel
theorem dX2_isSo_143 : decode cX2_isSo 143 = .ok (.getfield 63, 3) := by decide +kernel
theorem dX2_isSo_146 : decode cX2_isSo 146 = .ok (.iload 8, 2) := by decide +kernel
theorem dX2_isSo_148 : decode cX2_isSo 148 = .ok (.iaload, 1) := by decide +kernel
theorem dX2_isSo_149 : decode cX2_isSo 149 = .ok (.if_icmp .lt 7, 3) := by decide +kernel
theorem dX2_isSo_152 : decode cX2_isSo 152 = .ok (.iconst 1, 1) := by decide +kernel
theorem dX2_isSo_153 : decode cX2_isSo 153 = .ok (.goto 4, 3) := by decide +kernel
theorem dX2_isSo_156 : decode cX2_isSo 156 = .ok (.iconst 0, 1) := by decide +kernel
theorem dX2_isSo_157 : decode cX2_isSo 157 = .ok (.istore 7, 2) := by decide +kernel
theorem dX2_isSo_159 : decode cX2_isSo 159 = .ok (.iinc 8 1, 3) := by decide +kernel
theorem dX2_isSo_162 : decode cX2_isSo 162 = .ok (.goto (-150), 3) := by decide +kernel
theorem dX2_isSo_165 : decode cX2_isSo 165 = .ok (.iload_n 1, 1) := by decide +kernel
theorem dX2_isSo_166 : decode cX2_isSo 166 = .ok (.ifCond .ne 8, 3) := by decide +kernel
theorem dX2_isSo_169 : decode cX2_isSo 169 = .ok (.iload 5, 2) := by decide +kernel
theorem dX2_isSo_171 : decode cX2_isSo 171 = .ok (.goto 33, 3) := by decide +kernel
theorem dX2_isSo_174 : decode cX2_isSo 174 = .ok (.iload_n 1, 1) := by decide +kernel
theorem dX2_isSo_175 : decode cX2_isSo 175 = .ok (.iconst 1, 1) := by decide +kernel
theorem dX2_isSo_176 : decode cX2_isSo 176 = .ok (.if_icmp .ne 8, 3) := by decide +kernel
theorem dX2_isSo_179 : decode cX2_isSo 179 = .ok (.iload 6, 2) := by decide +kernel
theorem dX2_isSo_181 : decode cX2_isSo 181 = .ok (.goto 23, 3) := by decide +kernel
theorem dX2_isSo_184 : decode cX2_isSo 184 = .ok (.iload_n 1, 1) := by decide +kernel
theorem dX2_isSo_185 : decode cX2_isSo 185 = .ok (.iconst 2, 1) := by decide +kernel
theorem dX2_isSo_186 : decode cX2_isSo 186 = .ok (.if_icmp .ne 8, 3) := by decide +kernel
theorem dX2_isSo_189 : decode cX2_isSo 189 = .ok (.iload 7, 2) := by decide +kernel
theorem dX2_isSo_191 : decode cX2_isSo 191 = .ok (.goto 13, 3) := by decide +kernel
theorem dX2_isSo_194 : decode cX2_isSo 194 = .ok (.iload 5, 2) := by decide +kernel
theorem dX2_isSo_196 : decode cX2_isSo 196 = .ok (.ifCond .ne 7, 3) := by decide +kernel
theorem dX2_isSo_199 : decode cX2_isSo 199 = .ok (.iconst 1, 1) := by decide +kernel
theorem dX2_isSo_200 : decode cX2_isSo 200 = .ok (.goto 4, 3) := by decide +kernel
theorem dX2_isSo_203 : decode cX2_isSo 203 = .ok (.iconst 0, 1) := by decide +kernel
theorem dX2_isSo_204 : decode cX2_isSo 204 = .ok (.ireturn, 1) := by decide +kernel
set_option maxRecDepth 20000 in
theorem ggX2_tellsOf_X2_isSo : GoodIn wsX2_tellsOf wsX2_isSo := goodIn_r _ [7, 8, 9, 10, 11, 12, 13, 14, 15, 16, 17, 18, 19, 20, 21, 22, 23, 24, 25, 26, 27, 28, 29, 30, 31, 32, 33, 34, 35, 36, 37] (by decide +kernel) (by decide +kernel)
set_option maxRecDepth 20000 in
theorem gX2_tellsOf_X2_isSo : GoodIn wsX2_tellsOf (wsV RX2 133 RX2 yX2_isSo wsX2_isSo) := goodIn_app (goodIn_of _ (by decide +kernel)) ggX2_tellsOf_X2_isSo
theorem dX2_tellsOf_0 : decode cX2_tellsOf 0 = .ok (.iload_n 1, 1) := by decide +kernel
theorem dX2_tellsOf_1 : decode cX2_tellsOf 1 = .ok (.iconst 2, 1) := by decide +kernel
theorem dX2_tellsOf_2 : decode cX2_tellsOf 2 = .ok (.if_icmp .ne 28, 3) := by decide +kernel
theorem dX2_tellsOf_5 : decode cX2_tellsOf 5 = .ok (.aload_n 0, 1) := by decide +kernel
theorem dX2_tellsOf_6 : decode cX2_tellsOf 6 = .ok (.iconst 2, 1) := by decide +kernel
theorem dX2_tellsOf_7 : decode cX2_tellsOf 7 = .ok (.aload_n 0, 1) := by decide +kernel
theorem dX2_tellsOf_8 : decode cX2_tellsOf 8 = .ok (.getfield 42, 3) := by decide +kernel
theorem dX2_tellsOf_11 : decode cX2_tellsOf 11 = .ok (.aload_n 0, 1) := by decide +kernel
theorem dX2_tellsOf_12 : decode cX2_tellsOf 12 = .ok (.getfield 45, 3) := by decide +kernel
theorem dX2_tellsOf_15 : decode cX2_tellsOf 15 = .ok (.iconst 3, 1) := by decide +kernel
theorem dX2_tellsOf_16 : decode cX2_tellsOf 16 = .ok (.iload_n 2, 1) := by decide +kernel
theorem dX2_tellsOf_17 : decode cX2_tellsOf 17 = .ok (.imul, 1) := by decide +kernel
theorem dX2_tellsOf_18 : decode cX2_tellsOf 18 = .ok (.invokevirtual 133, 3) := by decide +kernel
theorem dX2_tellsOf_21 : decode cX2_tellsOf 21 = .ok (.ifCond .eq 7, 3) := by decide +kernel
theorem dX2_tellsOf_24 : decode cX2_tellsOf 24 = .ok (.iconst (-1), 1) := by decide +kernel
theorem dX2_tellsOf_25 : decode cX2_tellsOf 25 = .ok (.goto 4, 3) := by decide +kernel
theorem dX2_tellsOf_28 : decode cX2_tellsOf 28 = .ok (.iconst 0, 1) := by decide +kernel
theorem dX2_tellsOf_29 : decode cX2_tellsOf 29 = .ok (.ireturn, 1) := by decide +kernel
theorem dX2_tellsOf_30 : decode cX2_tellsOf 30 = .ok (.aload_n 0, 1) := by decide +kernel
theorem dX2_tellsOf_31 : decode cX2_tellsOf 31 = .ok (.iconst 3, 1) := by decide +kernel
theorem dX2_tellsOf_32 : decode cX2_tellsOf 32 = .ok (.aload_n 0, 1) := by decide +kernel
theorem dX2_tellsOf_33 : decode cX2_tellsOf 33 = .ok (.getfield 42, 3) := by decide +kernel
theorem dX2_tellsOf_36 : decode cX2_tellsOf 36 = .ok (.aload_n 0, 1) := by decide +kernel
theorem dX2_tellsOf_37 : decode cX2_tellsOf 37 = .ok (.getfield 45, 3) := by decide +kernel
theorem dX2_tellsOf_40 : decode cX2_tellsOf 40 = .ok (.iconst 3, 1) := by decide +kernel
theorem dX2_tellsOf_41 : decode cX2_tellsOf 41 = .ok (.iload_n 2, 1) := by decide +kernel
theorem dX2_tellsOf_42 : decode cX2_tellsOf 42 = .ok (.imul, 1) := by decide +kernel
theorem dX2_tellsOf_43 : decode cX2_tellsOf 43 = .ok (.invokevirtual 133, 3) := by decide +kernel
theorem dX2_tellsOf_46 : decode cX2_tellsOf 46 = .ok (.istore_n 3, 1) := by decide +kernel
theorem dX2_tellsOf_47 : decode cX2_tellsOf 47 = .ok (.aload_n 0, 1) := by decide +kernel
theorem dX2_tellsOf_48 : decode cX2_tellsOf 48 = .ok (.iconst 1, 1) := by decide +kernel
theorem dX2_tellsOf_49 : decode cX2_tellsOf 49 = .ok (.aload_n 0, 1) := by decide +kernel
theorem dX2_tellsOf_50 : decode cX2_tellsOf 50 = .ok (.getfield 42, 3) := by decide +kernel
theorem dX2_tellsOf_53 : decode cX2_tellsOf 53 = .ok (.aload_n 0, 1) := by decide +kernel
theorem dX2_tellsOf_54 : decode cX2_tellsOf 54 = .ok (.getfield 45, 3) := by decide +kernel
theorem dX2_tellsOf_57 : decode cX2_tellsOf 57 = .ok (.iconst 3, 1) := by decide +kernel
theorem dX2_tellsOf_58 : decode cX2_tellsOf 58 = .ok (.iload_n 2, 1) := by decide +kernel
theorem dX2_tellsOf_59 : decode cX2_tellsOf 59 = .ok (.imul, 1) := by decide +kernel
theorem dX2_tellsOf_60 : decode cX2_tellsOf 60 = .ok (.invokevirtual 133, 3) := by decide +kernel
theorem dX2_tellsOf_63 : decode cX2_tellsOf 63 = .ok (.istore 4, 2) := by decide +kernel
theorem dX2_tellsOf_65 : decode cX2_tellsOf 65 = .ok (.iload_n 1, 1) := by decide +kernel
theorem dX2_tellsOf_66 : decode cX2_tellsOf 66 = .ok (.iconst 3, 1) := by decide +kernel
theorem dX2_tellsOf_67 : decode cX2_tellsOf 67 = .ok (.if_icmp .ne 22, 3) := by decide +kernel
theorem dX2_tellsOf_70 : decode cX2_tellsOf 70 = .ok (.iload_n 3, 1) := by decide +kernel
theorem dX2_tellsOf_71 : decode cX2_tellsOf 71 = .ok (.ifCond .eq 7, 3) := by decide +kernel
theorem dX2_tellsOf_74 : decode cX2_tellsOf 74 = .ok (.iconst 1, 1) := by decide +kernel
theorem dX2_tellsOf_75 : decode cX2_tellsOf 75 = .ok (.goto 13, 3) := by decide +kernel
theorem dX2_tellsOf_78 : decode cX2_tellsOf 78 = .ok (.iload 4, 2) := by decide +kernel
theorem dX2_tellsOf_80 : decode cX2_tellsOf 80 = .ok (.ifCond .eq 7, 3) := by decide +kernel
theorem dX2_tellsOf_83 : decode cX2_tellsOf 83 = .ok (.iconst 0, 1) := by decide +kernel
theorem dX2_tellsOf_84 : decode cX2_tellsOf 84 = .ok (.goto 4, 3) := by decide +kernel
theorem dX2_tellsOf_87 : decode cX2_tellsOf 87 = .ok (.iconst (-1), 1) := by decide +kernel
theorem dX2_tellsOf_88 : decode cX2_tellsOf 88 = .ok (.ireturn, 1) := by decide +kernel
theorem dX2_tellsOf_89 : decode cX2_tellsOf 89 = .ok (.iload_n 3, 1) := by decide +kernel
theorem dX2_tellsOf_90 : decode cX2_tellsOf 90 = .ok (.ifCond .eq 7, 3) := by decide +kernel
theorem dX2_tellsOf_93 : decode cX2_tellsOf 93 = .ok (.iconst 0, 1) := by decide +kernel
theorem dX2_tellsOf_94 : decode cX2_tellsOf 94 = .ok (.goto 13, 3) := by decide +kernel
theorem dX2_tellsOf_97 : decode cX2_tellsOf 97 = .ok (.iload 4, 2) := by decide +kernel
theorem dX2_tellsOf_99 : decode cX2_tellsOf 99 = .ok (.ifCond .eq 7, 3) := by decide +kernel
theorem dX2_tellsOf_102 : decode cX2_tellsOf 102 = .ok (.iconst 1, 1) := by decide +kernel
theorem dX2_tellsOf_103 : decode cX2_tellsOf 103 = .ok (.goto 4, 3) := by decide +kernel
theorem dX2_tellsOf_106 : decode cX2_tellsOf 106 = .ok (.iconst (-1), 1) := by decide +kernel
theorem dX2_tellsOf_107 : decode cX2_tellsOf 107 = .ok (.ireturn, 1) := by decide +kernel
theorem dX2_find_0 : decode cX2_find 0 = .ok (.aload_n 0, 1) := by decide +kernel
theorem dX2_find_1 : decode cX2_find 1 = .ok (.getfield 66, 3) := by decide +kernel
theorem dX2_find_4 : decode cX2_find 4 = .ok (.iload_n 1, 1) := by decide +kernel
theorem dX2_find_5 : decode cX2_find 5 = .ok (.iconst 1, 1) := by decide +kernel
theorem dX2_find_6 : decode cX2_find 6 = .ok (.bastore, 1) := by decide +kernel
theorem dX2_find_7 : decode cX2_find 7 = .ok (.aload_n 0, 1) := by decide +kernel
theorem dX2_find_8 : decode cX2_find 8 = .ok (.dup, 1) := by decide +kernel
theorem dX2_find_9 : decode cX2_find 9 = .ok (.getfield 80, 3) := by decide +kernel
theorem dX2_find_12 : decode cX2_find 12 = .ok (.iconst 1, 1) := by decide +kernel
theorem dX2_find_13 : decode cX2_find 13 = .ok (.iadd, 1) := by decide +kernel
theorem dX2_find_14 : decode cX2_find 14 = .ok (.putfield 80, 3) := by decide +kernel
theorem dX2_find_17 : decode cX2_find 17 = .ok (.return_, 1) := by decide +kernel
set_option maxRecDepth 20000 in
theorem ggX2_range_X2_tells : GoodIn wsX2_range wsX2_tells := goodIn_r _ [21, 22, 23, 24, 25, 26, 20, 27, 28, 29, 44, 45, 46, 47, 48, 49, 50, 51, 52, 53, 54, 55, 56, 57, 58, 59, 60, 61, 62, 63, 64, 65, 66, 67, 68, 69, 70] (by decide +kernel) (by decide +kernel)
set_option maxRecDepth 20000 in
theorem gX2_range_X2_tells : GoodIn wsX2_range (wsV RX2 96 RX2 yX2_tells wsX2_tells) := goodIn_app (goodIn_of _ (by decide +kernel)) ggX2_range_X2_tells
set_option maxRecDepth 20000 in
theorem ggX2_range_X2_tellsOf : GoodIn wsX2_range wsX2_tellsOf := goodIn_r _ [33, 34, 35, 36, 37, 38, 20, 39, 22, 24, 23, 44, 45, 46, 47, 48, 49, 50, 51, 52, 53, 54, 55, 56, 57, 58, 59, 60, 61, 62, 63, 64, 65, 66, 67, 68, 69, 70] (by decide +kernel) (by decide +kernel)
set_option maxRecDepth 20000 in
theorem gX2_range_X2_tellsOf : GoodIn wsX2_range (wsV RX2 137 RX2 yX2_tellsOf wsX2_tellsOf) := goodIn_app (goodIn_of _ (by decide +kernel)) ggX2_range_X2_tellsOf
set_option maxRecDepth 20000 in
theorem ggX2_range_X2_find : GoodIn wsX2_range wsX2_find := goodIn_r _ [43, 6, 2, 44, 45, 46, 47, 48, 49, 50, 51, 52, 53, 54, 55, 56, 57, 58, 59, 60, 61, 62, 63, 64, 65, 66, 67, 68, 69, 70] (by decide +kernel) (by decide +kernel)
set_option maxRecDepth 20000 in
theorem gX2_range_X2_find : GoodIn wsX2_range (wsV RX2 140 RX2 yX2_find wsX2_find) := goodIn_app (goodIn_of _ (by decide +kernel)) ggX2_range_X2_find
set_option maxRecDepth 20000 in
theorem ggX2_range_X2_isSo : GoodIn wsX2_range wsX2_isSo := goodIn_r _ [39, 22, 24, 23, 44, 45, 46, 47, 48, 49, 50, 51, 52, 53, 54, 55, 56, 57, 58, 59, 60, 61, 62, 63, 64, 65, 66, 67, 68, 69, 70] (by decide +kernel) (by decide +kernel)
set_option maxRecDepth 20000 in
theorem gX2_range_X2_isSo : GoodIn wsX2_range (wsV RX2 133 RX2 yX2_isSo wsX2_isSo) := goodIn_app (goodIn_of _ (by decide +kernel)) ggX2_range_X2_isSo
theorem dX2_range_0 : decode cX2_range 0 = .ok (.aload_n 0, 1) := by decide +kernel
theorem dX2_range_1 : decode cX2_range 1 = .ok (.iconst 0, 1) := by decide +kernel
theorem dX2_range_2 : decode cX2_range 2 = .ok (.putfield 69, 3) := by decide +kernel
theorem dX2_range_5 : decode cX2_range 5 = .ok (.iload_n 1, 1) := by decide +kernel
theorem dX2_range_6 : decode cX2_range 6 = .ok (.ifCond .lt 25, 3) := by decide +kernel
theorem dX2_range_9 : decode cX2_range 9 = .ok (.iload_n 1, 1) := by decide +kernel
theorem dX2_range_10 : decode cX2_range 10 = .ok (.iconst 3, 1) := by decide +kernel
theorem dX2_range_11 : decode cX2_range 11 = .ok (.if_icmp .gt 20, 3) := by decide +kernel
theorem dX2_range_14 : decode cX2_range 14 = .ok (.aload_n 0, 1) := by decide +kernel
theorem dX2_range_15 : decode cX2_range 15 = .ok (.iload_n 2, 1) := by decide +kernel
theorem dX2_range_16 : decode cX2_range 16 = .ok (.iload_n 3, 1) := by decide +kernel
theorem dX2_range_17 : decode cX2_range 17 = .ok (.iload 4, 2) := by decide +kernel
theorem dX2_range_19 : decode cX2_range 19 = .ok (.iload 5, 2) := by decide +kernel
theorem dX2_range_21 : decode cX2_range 21 = .ok (.iload 6, 2) := by decide +kernel
theorem dX2_range_23 : decode cX2_range 23 = .ok (.iload 7, 2) := by decide +kernel
theorem dX2_range_25 : decode cX2_range 25 = .ok (.invokevirtual 96, 3) := by decide +kernel
theorem dX2_range_28 : decode cX2_range 28 = .ok (.ifCond .ne 6, 3) := by decide +kernel
theorem dX2_range_31 : decode cX2_range 31 = .ok (.bipush (-2), 2) := by decide +kernel
theorem dX2_range_33 : decode cX2_range 33 = .ok (.ireturn, 1) := by decide +kernel
theorem dX2_range_34 : decode cX2_range 34 = .ok (.aload_n 0, 1) := by decide +kernel
theorem dX2_range_35 : decode cX2_range 35 = .ok (.iconst 0, 1) := by decide +kernel
theorem dX2_range_36 : decode cX2_range 36 = .ok (.putfield 80, 3) := by decide +kernel
theorem dX2_range_39 : decode cX2_range 39 = .ok (.aload_n 0, 1) := by decide +kernel
theorem dX2_range_40 : decode cX2_range 40 = .ok (.iconst 0, 1) := by decide +kernel
theorem dX2_range_41 : decode cX2_range 41 = .ok (.putfield 83, 3) := by decide +kernel
theorem dX2_range_44 : decode cX2_range 44 = .ok (.aload_n 0, 1) := by decide +kernel
theorem dX2_range_45 : decode cX2_range 45 = .ok (.iconst 0, 1) := by decide +kernel
theorem dX2_range_46 : decode cX2_range 46 = .ok (.putfield 86, 3) := by decide +kernel
theorem dX2_range_49 : decode cX2_range 49 = .ok (.aload_n 0, 1) := by decide +kernel
theorem dX2_range_50 : decode cX2_range 50 = .ok (.iconst 0, 1) := by decide +kernel
theorem dX2_range_51 : decode cX2_range 51 = .ok (.putfield 89, 3) := by decide +kernel
theorem dX2_range_54 : decode cX2_range 54 = .ok (.iconst 0, 1) := by decide +kernel
theorem dX2_range_55 : decode cX2_range 55 = .ok (.istore 8, 2) := by decide +kernel
theorem dX2_range_57 : decode cX2_range 57 = .ok (.iload 8, 2) := by decide +kernel
theorem dX2_range_59 : decode cX2_range 59 = .ok (.bipush 64, 2) := by decide +kernel
theorem dX2_range_61 : decode cX2_range 61 = .ok (.if_icmp .ge 17, 3) := by decide +kernel
theorem dX2_range_64 : decode cX2_range 64 = .ok (.aload_n 0, 1) := by decide +kernel
theorem dX2_range_65 : decode cX2_range 65 = .ok (.getfield 66, 3) := by decide +kernel
theorem dX2_range_68 : decode cX2_range 68 = .ok (.iload 8, 2) := by decide +kernel
theorem dX2_range_70 : decode cX2_range 70 = .ok (.iconst 0, 1) := by decide +kernel
theorem dX2_range_71 : decode cX2_range 71 = .ok (.bastore, 1) := by decide +kernel
theorem dX2_range_72 : decode cX2_range 72 = .ok (.iinc 8 1, 3) := by decide +kernel
theorem dX2_range_75 : decode cX2_range 75 = .ok (.goto (-18), 3) := by decide +kernel
theorem dX2_range_78 : decode cX2_range 78 = .ok (.iconst 0, 1) := by decide +kernel
theorem dX2_range_79 : decode cX2_range 79 = .ok (.istore 8, 2) := by decide +kernel
theorem dX2_range_81 : decode cX2_range 81 = .ok (.iload 8, 2) := by decide +kernel
theorem dX2_range_83 : decode cX2_range 83 = .ok (.aload_n 0, 1) := by decide +kernel
theorem dX2_range_84 : decode cX2_range 84 = .ok (.getfield 77, 3) := by decide +kernel
theorem dX2_range_87 : decode cX2_range 87 = .ok (.if_icmp .ge 210, 3) := by decide +kernel
theorem dX2_range_90 : decode cX2_range 90 = .ok (.aload_n 0, 1) := by decide +kernel
theorem dX2_range_91 : decode cX2_range 91 = .ok (.iload_n 1, 1) := by decide +kernel
theorem dX2_range_92 : decode cX2_range 92 = .ok (.iload 8, 2) := by decide +kernel
theorem dX2_range_94 : decode cX2_range 94 = .ok (.invokevirtual 137, 3) := by decide +kernel
theorem dX2_range_97 : decode cX2_range 97 = .ok (.istore 9, 2) := by decide +kernel
theorem dX2_range_99 : decode cX2_range 99 = .ok (.iload 8, 2) := by decide +kernel
theorem dX2_range_101 : decode cX2_range 101 = .ok (.iconst 1, 1) := by decide +kernel
theorem dX2_range_102 : decode cX2_range 102 = .ok (.iadd, 1) := by decide +kernel
theorem dX2_range_103 : decode cX2_range 103 = .ok (.istore 10, 2) := by decide +kernel
theorem dX2_range_105 : decode cX2_range 105 = .ok (.iload 9, 2) := by decide +kernel
theorem dX2_range_107 : decode cX2_range 107 = .ok (.ifCond .lt 45, 3) := by decide +kernel
theorem dX2_range_110 : decode cX2_range 110 = .ok (.aload_n 0, 1) := by decide +kernel
theorem dX2_range_111 : decode cX2_range 111 = .ok (.dup, 1) := by decide +kernel
theorem dX2_range_112 : decode cX2_range 112 = .ok (.getfield 86, 3) := by decide +kernel
theorem dX2_range_115 : decode cX2_range 115 = .ok (.iconst 1, 1) := by decide +kernel
theorem dX2_range_116 : decode cX2_range 116 = .ok (.iadd, 1) := by decide +kernel
theorem dX2_range_117 : decode cX2_range 117 = .ok (.putfield 86, 3) := by decide +kernel
theorem dX2_range_120 : decode cX2_range 120 = .ok (.iload 10, 2) := by decide +kernel
theorem dX2_range_122 : decode cX2_range 122 = .ok (.aload_n 0, 1) := by decide +kernel
theorem dX2_range_123 : decode cX2_range 123 = .ok (.getfield 77, 3) := by decide +kernel
theorem dX2_range_126 : decode cX2_range 126 = .ok (.if_icmp .ge 36, 3) := by decide +kernel
theorem dX2_range_129 : decode cX2_range 129 = .ok (.aload_n 0, 1) := by decide +kernel
theorem dX2_range_130 : decode cX2_range 130 = .ok (.getfield 39, 3) := by decide +kernel
theorem dX2_range_133 : decode cX2_range 133 = .ok (.iload 10, 2) := by decide +kernel
theorem dX2_range_135 : decode cX2_range 135 = .ok (.iaload, 1) := by decide +kernel
theorem dX2_range_136 : decode cX2_range 136 = .ok (.aload_n 0, 1) := by decide +kernel
theorem dX2_range_137 : decode cX2_range 137 = .ok (.getfield 39, 3) := by decide +kernel
theorem dX2_range_140 : decode cX2_range 140 = .ok (.iload 8, 2) := by decide +kernel
theorem dX2_range_142 : decode cX2_range 142 = .ok (.iaload, 1) := by decide +kernel
theorem dX2_range_143 : decode cX2_range 143 = .ok (.if_icmp .le 19, 3) := by decide +kernel
theorem dX2_range_146 : decode cX2_range 146 = .ok (.iinc 10 1, 3) := by decide +kernel
theorem dX2_range_149 : decode cX2_range 149 = .ok (.goto (-29), 3) := by decide +kernel
theorem dX2_range_152 : decode cX2_range 152 = .ok (.aload_n 0, 1) := by decide +kernel
theorem dX2_range_153 : decode cX2_range 153 = .ok (.dup, 1) := by decide +kernel
theorem dX2_range_154 : decode cX2_range 154 = .ok (.getfield 83, 3) := by decide +kernel
theorem dX2_range_157 : decode cX2_range 157 = .ok (.iconst 1, 1) := by decide +kernel
theorem dX2_range_158 : decode cX2_range 158 = .ok (.iadd, 1) := by decide +kernel
theorem dX2_range_159 : decode cX2_range 159 = .ok (.putfield 83, 3) := by decide +kernel
theorem dX2_range_162 : decode cX2_range 162 = .ok (.aload_n 0, 1) := by decide +kernel
theorem dX2_range_163 : decode cX2_range 163 = .ok (.getfield 30, 3) := by decide +kernel
theorem dX2_range_166 : decode cX2_range 166 = .ok (.iload 8, 2) := by decide +kernel
theorem dX2_range_168 : decode cX2_range 168 = .ok (.iaload, 1) := by decide +kernel
theorem dX2_range_169 : decode cX2_range 169 = .ok (.istore 11, 2) := by decide +kernel
theorem dX2_range_171 : decode cX2_range 171 = .ok (.iload 11, 2) := by decide +kernel
theorem dX2_range_173 : decode cX2_range 173 = .ok (.aload_n 0, 1) := by decide +kernel
theorem dX2_range_174 : decode cX2_range 174 = .ok (.getfield 30, 3) := by decide +kernel
theorem dX2_range_177 : decode cX2_range 177 = .ok (.iload 8, 2) := by decide +kernel
theorem dX2_range_179 : decode cX2_range 179 = .ok (.iaload, 1) := by decide +kernel
theorem dX2_range_180 : decode cX2_range 180 = .ok (.aload_n 0, 1) := by decide +kernel
theorem dX2_range_181 : decode cX2_range 181 = .ok (.getfield 33, 3) := by decide +kernel
theorem dX2_range_184 : decode cX2_range 184 = .ok (.iload 8, 2) := by decide +kernel
theorem dX2_range_186 : decode cX2_range 186 = .ok (.iaload, 1) := by decide +kernel
theorem dX2_range_187 : decode cX2_range 187 = .ok (.iadd, 1) := by decide +kernel
theorem dX2_range_188 : decode cX2_range 188 = .ok (.if_icmp .ge 102, 3) := by decide +kernel
theorem dX2_range_191 : decode cX2_range 191 = .ok (.aload_n 0, 1) := by decide +kernel
theorem dX2_range_192 : decode cX2_range 192 = .ok (.getfield 27, 3) := by decide +kernel
theorem dX2_range_195 : decode cX2_range 195 = .ok (.iload 11, 2) := by decide +kernel
theorem dX2_range_197 : decode cX2_range 197 = .ok (.iaload, 1) := by decide +kernel
theorem dX2_range_198 : decode cX2_range 198 = .ok (.istore 12, 2) := by decide +kernel
theorem dX2_range_200 : decode cX2_range 200 = .ok (.aload_n 0, 1) := by decide +kernel
theorem dX2_range_201 : decode cX2_range 201 = .ok (.getfield 13, 3) := by decide +kernel
theorem dX2_range_204 : decode cX2_range 204 = .ok (.iload 12, 2) := by decide +kernel
theorem dX2_range_206 : decode cX2_range 206 = .ok (.baload, 1) := by decide +kernel
theorem dX2_range_207 : decode cX2_range 207 = .ok (.ifCond .eq 25, 3) := by decide +kernel
theorem dX2_range_210 : decode cX2_range 210 = .ok (.iload 9, 2) := by decide +kernel
theorem dX2_range_212 : decode cX2_range 212 = .ok (.iconst 1, 1) := by decide +kernel
theorem dX2_range_213 : decode cX2_range 213 = .ok (.if_icmp .ne 19, 3) := by decide +kernel
theorem dX2_range_216 : decode cX2_range 216 = .ok (.aload_n 0, 1) := by decide +kernel
theorem dX2_range_217 : decode cX2_range 217 = .ok (.iload 12, 2) := by decide +kernel
theorem dX2_range_219 : decode cX2_range 219 = .ok (.invokevirtual 140, 3) := by decide +kernel
theorem dX2_range_222 : decode cX2_range 222 = .ok (.aload_n 0, 1) := by decide +kernel
theorem dX2_range_223 : decode cX2_range 223 = .ok (.dup, 1) := by decide +kernel
theorem dX2_range_224 : decode cX2_range 224 = .ok (.getfield 89, 3) := by decide +kernel
theorem dX2_range_227 : decode cX2_range 227 = .ok (.iconst 1, 1) := by decide +kernel
theorem dX2_range_228 : decode cX2_range 228 = .ok (.iadd, 1) := by decide +kernel
theorem dX2_range_229 : decode cX2_range 229 = .ok (.putfield 89, 3) := by decide +kernel
theorem dX2_range_232 : decode cX2_range 232 = .ok (.aload_n 0, 1) := by decide +kernel
theorem dX2_range_233 : decode cX2_range 233 = .ok (.getfield 13, 3) := by decide +kernel
theorem dX2_range_236 : decode cX2_range 236 = .ok (.iload 12, 2) := by decide +kernel
theorem dX2_range_238 : decode cX2_range 238 = .ok (.baload, 1) := by decide +kernel
theorem dX2_range_239 : decode cX2_range 239 = .ok (.ifCond .eq 45, 3) := by decide +kernel
theorem dX2_range_242 : decode cX2_range 242 = .ok (.iload 9, 2) := by decide +kernel
theorem dX2_range_244 : decode cX2_range 244 = .ok (.ifCond .ge 40, 3) := by decide +kernel
theorem dX2_range_247 : decode cX2_range 247 = .ok (.aload_n 0, 1) := by decide +kernel
theorem dX2_range_248 : decode cX2_range 248 = .ok (.getfield 33, 3) := by decide +kernel
theorem dX2_range_251 : decode cX2_range 251 = .ok (.iload 8, 2) := by decide +kernel
theorem dX2_range_253 : decode cX2_range 253 = .ok (.iaload, 1) := by decide +kernel
theorem dX2_range_254 : decode cX2_range 254 = .ok (.iconst 5, 1) := by decide +kernel
theorem dX2_range_255 : decode cX2_range 255 = .ok (.if_icmp .ge 29, 3) := by decide +kernel
theorem dX2_range_258 : decode cX2_range 258 = .ok (.aload_n 0, 1) := by decide +kernel
theorem dX2_range_259 : decode cX2_range 259 = .ok (.iload_n 1, 1) := by decide +kernel
theorem dX2_range_260 : decode cX2_range 260 = .ok (.aload_n 0, 1) := by decide +kernel
theorem dX2_range_261 : decode cX2_range 261 = .ok (.getfield 17, 3) := by decide +kernel
theorem dX2_range_264 : decode cX2_range 264 = .ok (.aload_n 0, 1) := by decide +kernel
theorem dX2_range_265 : decode cX2_range 265 = .ok (.getfield 21, 3) := by decide +kernel
theorem dX2_range_268 : decode cX2_range 268 = .ok (.iconst 3, 1) := by decide +kernel
theorem dX2_range_269 : decode cX2_range 269 = .ok (.iload 12, 2) := by decide +kernel
theorem dX2_range_271 : decode cX2_range 271 = .ok (.imul, 1) := by decide +kernel
theorem dX2_range_272 : decode cX2_range 272 = .ok (.invokevirtual 133, 3) := by decide +kernel
theorem dX2_range_275 : decode cX2_range 275 = .ok (.ifCond .eq 9, 3) := by decide +kernel
theorem dX2_range_278 : decode cX2_range 278 = .ok (.aload_n 0, 1) := by decide +kernel
theorem dX2_range_279 : decode cX2_range 279 = .ok (.iload 12, 2) := by decide +kernel
theorem dX2_range_281 : decode cX2_range 281 = .ok (.invokevirtual 140, 3) := by decide +kernel
theorem dX2_range_284 : decode cX2_range 284 = .ok (.iinc 11 1, 3) := by decide +kernel
theorem dX2_range_287 : decode cX2_range 287 = .ok (.goto (-116), 3) := by decide +kernel
theorem dX2_range_290 : decode cX2_range 290 = .ok (.iload 10, 2) := by decide +kernel
theorem dX2_range_292 : decode cX2_range 292 = .ok (.istore 8, 2) := by decide +kernel
theorem dX2_range_294 : decode cX2_range 294 = .ok (.goto (-213), 3) := by decide +kernel
theorem dX2_range_297 : decode cX2_range 297 = .ok (.iconst 0, 1) := by decide +kernel
theorem dX2_range_298 : decode cX2_range 298 = .ok (.istore 9, 2) := by decide +kernel
theorem dX2_range_300 : decode cX2_range 300 = .ok (.iload 9, 2) := by decide +kernel
theorem dX2_range_302 : decode cX2_range 302 = .ok (.aload_n 0, 1) := by decide +kernel
theorem dX2_range_303 : decode cX2_range 303 = .ok (.getfield 72, 3) := by decide +kernel
theorem dX2_range_306 : decode cX2_range 306 = .ok (.if_icmp .ge 55, 3) := by decide +kernel
theorem dX2_range_309 : decode cX2_range 309 = .ok (.aload_n 0, 1) := by decide +kernel
theorem dX2_range_310 : decode cX2_range 310 = .ok (.getfield 13, 3) := by decide +kernel
theorem dX2_range_313 : decode cX2_range 313 = .ok (.iload 9, 2) := by decide +kernel
theorem dX2_range_315 : decode cX2_range 315 = .ok (.baload, 1) := by decide +kernel
theorem dX2_range_316 : decode cX2_range 316 = .ok (.ifCond .eq 39, 3) := by decide +kernel
theorem dX2_range_319 : decode cX2_range 319 = .ok (.aload_n 0, 1) := by decide +kernel
theorem dX2_range_320 : decode cX2_range 320 = .ok (.getfield 24, 3) := by decide +kernel
theorem dX2_range_323 : decode cX2_range 323 = .ok (.iload 9, 2) := by decide +kernel
theorem dX2_range_325 : decode cX2_range 325 = .ok (.baload, 1) := by decide +kernel
theorem dX2_range_326 : decode cX2_range 326 = .ok (.ifCond .ne 29, 3) := by decide +kernel
theorem dX2_range_329 : decode cX2_range 329 = .ok (.aload_n 0, 1) := by decide +kernel
theorem dX2_range_330 : decode cX2_range 330 = .ok (.iload_n 1, 1) := by decide +kernel
theorem dX2_range_331 : decode cX2_range 331 = .ok (.aload_n 0, 1) := by decide +kernel
theorem dX2_range_332 : decode cX2_range 332 = .ok (.getfield 17, 3) := by decide +kernel
theorem dX2_range_335 : decode cX2_range 335 = .ok (.aload_n 0, 1) := by decide +kernel
theorem dX2_range_336 : decode cX2_range 336 = .ok (.getfield 21, 3) := by decide +kernel
theorem dX2_range_339 : decode cX2_range 339 = .ok (.iconst 3, 1) := by decide +kernel
theorem dX2_range_340 : decode cX2_range 340 = .ok (.iload 9, 2) := by decide +kernel
theorem dX2_range_342 : decode cX2_range 342 = .ok (.imul, 1) := by decide +kernel
theorem dX2_range_343 : decode cX2_range 343 = .ok (.invokevirtual 133, 3) := by decide +kernel
theorem dX2_range_346 : decode cX2_range 346 = .ok (.ifCond .eq 9, 3) := by decide +kernel
theorem dX2_range_349 : decode cX2_range 349 = .ok (.aload_n 0, 1) := by decide +kernel
theorem dX2_range_350 : decode cX2_range 350 = .ok (.iload 9, 2) := by decide +kernel
theorem dX2_range_352 : decode cX2_range 352 = .ok (.invokevirtual 140, 3) := by decide +kernel
theorem dX2_range_355 : decode cX2_range 355 = .ok (.iinc 9 1, 3) := by decide +kernel
theorem dX2_range_358 : decode cX2_range 358 = .ok (.goto (-58), 3) := by decide +kernel
theorem dX2_range_361 : decode cX2_range 361 = .ok (.aload_n 0, 1) := by decide +kernel
theorem dX2_range_362 : decode cX2_range 362 = .ok (.getfield 80, 3) := by decide +kernel
theorem dX2_range_365 : decode cX2_range 365 = .ok (.ireturn, 1) := by decide +kernel
theorem dX2_found_0 : decode cX2_found 0 = .ok (.aload_n 0, 1) := by decide +kernel
theorem dX2_found_1 : decode cX2_found 1 = .ok (.iconst 0, 1) := by decide +kernel
theorem dX2_found_2 : decode cX2_found 2 = .ok (.putfield 69, 3) := by decide +kernel
theorem dX2_found_5 : decode cX2_found 5 = .ok (.iload_n 1, 1) := by decide +kernel
theorem dX2_found_6 : decode cX2_found 6 = .ok (.istore_n 2, 1) := by decide +kernel
theorem dX2_found_7 : decode cX2_found 7 = .ok (.iconst 0, 1) := by decide +kernel
theorem dX2_found_8 : decode cX2_found 8 = .ok (.istore_n 3, 1) := by decide +kernel
theorem dX2_found_9 : decode cX2_found 9 = .ok (.iload_n 3, 1) := by decide +kernel
theorem dX2_found_10 : decode cX2_found 10 = .ok (.bipush 64, 2) := by decide +kernel
theorem dX2_found_12 : decode cX2_found 12 = .ok (.if_icmp .ge 31, 3) := by decide +kernel
theorem dX2_found_15 : decode cX2_found 15 = .ok (.iload_n 1, 1) := by decide +kernel
theorem dX2_found_16 : decode cX2_found 16 = .ok (.ifCond .lt 27, 3) := by decide +kernel
theorem dX2_found_19 : decode cX2_found 19 = .ok (.aload_n 0, 1) := by decide +kernel
theorem dX2_found_20 : decode cX2_found 20 = .ok (.getfield 66, 3) := by decide +kernel
theorem dX2_found_23 : decode cX2_found 23 = .ok (.iload_n 3, 1) := by decide +kernel
theorem dX2_found_24 : decode cX2_found 24 = .ok (.baload, 1) := by decide +kernel
theorem dX2_found_25 : decode cX2_found 25 = .ok (.ifCond .eq 12, 3) := by decide +kernel
theorem dX2_found_28 : decode cX2_found 28 = .ok (.iload_n 2, 1) := by decide +kernel
theorem dX2_found_29 : decode cX2_found 29 = .ok (.ifCond .ne 5, 3) := by decide +kernel
theorem dX2_found_32 : decode cX2_found 32 = .ok (.iload_n 3, 1) := by decide +kernel
theorem dX2_found_33 : decode cX2_found 33 = .ok (.ireturn, 1) := by decide +kernel
theorem dX2_found_34 : decode cX2_found 34 = .ok (.iinc 2 (-1), 3) := by decide +kernel
theorem dX2_found_37 : decode cX2_found 37 = .ok (.iinc 3 1, 3) := by decide +kernel
theorem dX2_found_40 : decode cX2_found 40 = .ok (.goto (-31), 3) := by decide +kernel
theorem dX2_found_43 : decode cX2_found 43 = .ok (.iconst (-1), 1) := by decide +kernel
theorem dX2_found_44 : decode cX2_found 44 = .ok (.ireturn, 1) := by decide +kernel
theorem dX2_told_0 : decode cX2_told 0 = .ok (.aload_n 0, 1) := by decide +kernel
theorem dX2_told_1 : decode cX2_told 1 = .ok (.iconst 0, 1) := by decide +kernel
theorem dX2_told_2 : decode cX2_told 2 = .ok (.putfield 69, 3) := by decide +kernel
theorem dX2_told_5 : decode cX2_told 5 = .ok (.iload_n 1, 1) := by decide +kernel
theorem dX2_told_6 : decode cX2_told 6 = .ok (.ifCond .ne 10, 3) := by decide +kernel
theorem dX2_told_9 : decode cX2_told 9 = .ok (.aload_n 0, 1) := by decide +kernel
theorem dX2_told_10 : decode cX2_told 10 = .ok (.getfield 83, 3) := by decide +kernel
theorem dX2_told_13 : decode cX2_told 13 = .ok (.goto 29, 3) := by decide +kernel
theorem dX2_told_16 : decode cX2_told 16 = .ok (.iload_n 1, 1) := by decide +kernel
theorem dX2_told_17 : decode cX2_told 17 = .ok (.iconst 1, 1) := by decide +kernel
theorem dX2_told_18 : decode cX2_told 18 = .ok (.if_icmp .ne 10, 3) := by decide +kernel
theorem dX2_told_21 : decode cX2_told 21 = .ok (.aload_n 0, 1) := by decide +kernel
theorem dX2_told_22 : decode cX2_told 22 = .ok (.getfield 86, 3) := by decide +kernel
theorem dX2_told_25 : decode cX2_told 25 = .ok (.goto 17, 3) := by decide +kernel
theorem dX2_told_28 : decode cX2_told 28 = .ok (.iload_n 1, 1) := by decide +kernel
theorem dX2_told_29 : decode cX2_told 29 = .ok (.iconst 2, 1) := by decide +kernel
theorem dX2_told_30 : decode cX2_told 30 = .ok (.if_icmp .ne 10, 3) := by decide +kernel
theorem dX2_told_33 : decode cX2_told 33 = .ok (.aload_n 0, 1) := by decide +kernel
theorem dX2_told_34 : decode cX2_told 34 = .ok (.getfield 89, 3) := by decide +kernel
theorem dX2_told_37 : decode cX2_told 37 = .ok (.goto 5, 3) := by decide +kernel
theorem dX2_told_40 : decode cX2_told 40 = .ok (.bipush (-2), 2) := by decide +kernel
theorem dX2_told_42 : decode cX2_told 42 = .ok (.ireturn, 1) := by decide +kernel
set_option maxRecDepth 20000 in
theorem ggX2_isAt_X2_isPlace : GoodIn wsX2_isAt wsX2_isPlace := goodIn_r _ [5, 6, 7] (by decide +kernel) (by decide +kernel)
set_option maxRecDepth 20000 in
theorem gX2_isAt_X2_isPlace : GoodIn wsX2_isAt (va_wsS RX2 92 yX2_isPlace wsX2_isPlace) := goodIn_app (goodIn_of _ (by decide +kernel)) ggX2_isAt_X2_isPlace
theorem dX2_isAt_0 : decode cX2_isAt 0 = .ok (.iload_n 1, 1) := by decide +kernel
theorem dX2_isAt_1 : decode cX2_isAt 1 = .ok (.invokestatic 92, 3) := by decide +kernel
theorem dX2_isAt_4 : decode cX2_isAt 4 = .ok (.ifCond .eq 37, 3) := by decide +kernel
theorem dX2_isAt_7 : decode cX2_isAt 7 = .ok (.aload_n 0, 1) := by decide +kernel
theorem dX2_isAt_8 : decode cX2_isAt 8 = .ok (.getfield 7, 3) := by decide +kernel
theorem dX2_isAt_11 : decode cX2_isAt 11 = .ok (.iconst 2, 1) := by decide +kernel
theorem dX2_isAt_12 : decode cX2_isAt 12 = .ok (.if_icmp .lt 10, 3) := by decide +kernel
theorem dX2_isAt_15 : decode cX2_isAt 15 = .ok (.iload_n 2, 1) := by decide +kernel
theorem dX2_isAt_16 : decode cX2_isAt 16 = .ok (.invokestatic 92, 3) := by decide +kernel
theorem dX2_isAt_19 : decode cX2_isAt 19 = .ok (.ifCond .eq 22, 3) := by decide +kernel
theorem dX2_isAt_22 : decode cX2_isAt 22 = .ok (.aload_n 0, 1) := by decide +kernel
theorem dX2_isAt_23 : decode cX2_isAt 23 = .ok (.getfield 7, 3) := by decide +kernel
theorem dX2_isAt_26 : decode cX2_isAt 26 = .ok (.iconst 3, 1) := by decide +kernel
theorem dX2_isAt_27 : decode cX2_isAt 27 = .ok (.if_icmp .lt 10, 3) := by decide +kernel
theorem dX2_isAt_30 : decode cX2_isAt 30 = .ok (.iload_n 3, 1) := by decide +kernel
theorem dX2_isAt_31 : decode cX2_isAt 31 = .ok (.invokestatic 92, 3) := by decide +kernel
theorem dX2_isAt_34 : decode cX2_isAt 34 = .ok (.ifCond .eq 7, 3) := by decide +kernel
theorem dX2_isAt_37 : decode cX2_isAt 37 = .ok (.iconst 1, 1) := by decide +kernel
theorem dX2_isAt_38 : decode cX2_isAt 38 = .ok (.goto 4, 3) := by decide +kernel
theorem dX2_isAt_41 : decode cX2_isAt 41 = .ok (.iconst 0, 1) := by decide +kernel
theorem dX2_isAt_42 : decode cX2_isAt 42 = .ok (.ireturn, 1) := by decide +kernel
theorem dX2_square_0 : decode cX2_square 0 = .ok (.lconst 0, 1) := by decide +kernel
theorem dX2_square_1 : decode cX2_square 1 = .ok (.lstore 5, 2) := by decide +kernel
theorem dX2_square_3 : decode cX2_square 3 = .ok (.iconst 0, 1) := by decide +kernel
theorem dX2_square_4 : decode cX2_square 4 = .ok (.istore 7, 2) := by decide +kernel
theorem dX2_square_6 : decode cX2_square 6 = .ok (.iload 7, 2) := by decide +kernel
theorem dX2_square_8 : decode cX2_square 8 = .ok (.aload_n 0, 1) := by decide +kernel
theorem dX2_square_9 : decode cX2_square 9 = .ok (.getfield 7, 3) := by decide +kernel
theorem dX2_square_12 : decode cX2_square 12 = .ok (.if_icmp .ge 120, 3) := by decide +kernel
theorem dX2_square_15 : decode cX2_square 15 = .ok (.iload 7, 2) := by decide +kernel
theorem dX2_square_17 : decode cX2_square 17 = .ok (.ifCond .ne 8, 3) := by decide +kernel
theorem dX2_square_20 : decode cX2_square 20 = .ok (.iload_n 2, 1) := by decide +kernel
theorem dX2_square_21 : decode cX2_square 21 = .ok (.i2l, 1) := by decide +kernel
theorem dX2_square_22 : decode cX2_square 22 = .ok (.goto 17, 3) := by decide +kernel
theorem dX2_square_25 : decode cX2_square 25 = .ok (.iload 7, 2) := by decide +kernel
theorem dX2_square_27 : decode cX2_square 27 = .ok (.iconst 1, 1) := by decide +kernel
theorem dX2_square_28 : decode cX2_square 28 = .ok (.if_icmp .ne 8, 3) := by decide +kernel
theorem dX2_square_31 : decode cX2_square 31 = .ok (.iload_n 3, 1) := by decide +kernel
theorem dX2_square_32 : decode cX2_square 32 = .ok (.i2l, 1) := by decide +kernel
theorem dX2_square_33 : decode cX2_square 33 = .ok (.goto 6, 3) := by decide +kernel
theorem dX2_square_36 : decode cX2_square 36 = .ok (.iload 4, 2) := by decide +kernel
theorem dX2_square_38 : decode cX2_square 38 = .ok (.i2l, 1) := by decide +kernel
theorem dX2_square_39 : decode cX2_square 39 = .ok (.lstore 8, 2) := by decide +kernel
theorem dX2_square_41 : decode cX2_square 41 = .ok (.lload 8, 2) := by decide +kernel
theorem dX2_square_43 : decode cX2_square 43 = .ok (.aload_n 0, 1) := by decide +kernel
theorem dX2_square_44 : decode cX2_square 44 = .ok (.getfield 17, 3) := by decide +kernel
theorem dX2_square_47 : decode cX2_square 47 = .ok (.iconst 3, 1) := by decide +kernel
theorem dX2_square_48 : decode cX2_square 48 = .ok (.iload_n 1, 1) := by decide +kernel
theorem dX2_square_49 : decode cX2_square 49 = .ok (.imul, 1) := by decide +kernel
theorem dX2_square_50 : decode cX2_square 50 = .ok (.iload 7, 2) := by decide +kernel
theorem dX2_square_52 : decode cX2_square 52 = .ok (.iadd, 1) := by decide +kernel
theorem dX2_square_53 : decode cX2_square 53 = .ok (.iaload, 1) := by decide +kernel
theorem dX2_square_54 : decode cX2_square 54 = .ok (.i2l, 1) := by decide +kernel
theorem dX2_square_55 : decode cX2_square 55 = .ok (.lcmp, 1) := by decide +kernel
theorem dX2_square_56 : decode cX2_square 56 = .ok (.ifCond .ge 21, 3) := by decide +kernel
theorem dX2_square_59 : decode cX2_square 59 = .ok (.aload_n 0, 1) := by decide +kernel
theorem dX2_square_60 : decode cX2_square 60 = .ok (.getfield 17, 3) := by decide +kernel
theorem dX2_square_63 : decode cX2_square 63 = .ok (.iconst 3, 1) := by decide +kernel
theorem dX2_square_64 : decode cX2_square 64 = .ok (.iload_n 1, 1) := by decide +kernel
theorem dX2_square_65 : decode cX2_square 65 = .ok (.imul, 1) := by decide +kernel
theorem dX2_square_66 : decode cX2_square 66 = .ok (.iload 7, 2) := by decide +kernel
theorem dX2_square_68 : decode cX2_square 68 = .ok (.iadd, 1) := by decide +kernel
theorem dX2_square_69 : decode cX2_square 69 = .ok (.iaload, 1) := by decide +kernel
theorem dX2_square_70 : decode cX2_square 70 = .ok (.i2l, 1) := by decide +kernel
theorem dX2_square_71 : decode cX2_square 71 = .ok (.lload 8, 2) := by decide +kernel
theorem dX2_square_73 : decode cX2_square 73 = .ok (.lsub, 1) := by decide +kernel
theorem dX2_square_74 : decode cX2_square 74 = .ok (.goto 40, 3) := by decide +kernel
theorem dX2_square_77 : decode cX2_square 77 = .ok (.lload 8, 2) := by decide +kernel
theorem dX2_square_79 : decode cX2_square 79 = .ok (.aload_n 0, 1) := by decide +kernel
theorem dX2_square_80 : decode cX2_square 80 = .ok (.getfield 21, 3) := by decide +kernel
theorem dX2_square_83 : decode cX2_square 83 = .ok (.iconst 3, 1) := by decide +kernel
theorem dX2_square_84 : decode cX2_square 84 = .ok (.iload_n 1, 1) := by decide +kernel
theorem dX2_square_85 : decode cX2_square 85 = .ok (.imul, 1) := by decide +kernel
theorem dX2_square_86 : decode cX2_square 86 = .ok (.iload 7, 2) := by decide +kernel
theorem dX2_square_88 : decode cX2_square 88 = .ok (.iadd, 1) := by decide +kernel
theorem dX2_square_89 : decode cX2_square 89 = .ok (.iaload, 1) := by decide +kernel
theorem dX2_square_90 : decode cX2_square 90 = .ok (.i2l, 1) := by decide +kernel
theorem dX2_square_91 : decode cX2_square 91 = .ok (.lcmp, 1) := by decide +kernel
theorem dX2_square_92 : decode cX2_square 92 = .ok (.ifCond .le 21, 3) := by decide +kernel
theorem dX2_square_95 : decode cX2_square 95 = .ok (.lload 8, 2) := by decide +kernel
theorem dX2_square_97 : decode cX2_square 97 = .ok (.aload_n 0, 1) := by decide +kernel
theorem dX2_square_98 : decode cX2_square 98 = .ok (.getfield 21, 3) := by decide +kernel
theorem dX2_square_101 : decode cX2_square 101 = .ok (.iconst 3, 1) := by decide +kernel
theorem dX2_square_102 : decode cX2_square 102 = .ok (.iload_n 1, 1) := by decide +kernel
theorem dX2_square_103 : decode cX2_square 103 = .ok (.imul, 1) := by decide +kernel
theorem dX2_square_104 : decode cX2_square 104 = .ok (.iload 7, 2) := by decide +kernel
theorem dX2_square_106 : decode cX2_square 106 = .ok (.iadd, 1) := by decide +kernel
theorem dX2_square_107 : decode cX2_square 107 = .ok (.iaload, 1) := by decide +kernel
theorem dX2_square_108 : decode cX2_square 108 = .ok (.i2l, 1) := by decide +kernel
theorem dX2_square_109 : decode cX2_square 109 = .ok (.lsub, 1) := by decide +kernel
theorem dX2_square_110 : decode cX2_square 110 = .ok (.goto 4, 3) := by decide +kernel
theorem dX2_square_113 : decode cX2_square 113 = .ok (.lconst 0, 1) := by decide +kernel
theorem dX2_square_114 : decode cX2_square 114 = .ok (.lstore 10, 2) := by decide +kernel
theorem dX2_square_116 : decode cX2_square 116 = .ok (.lload 5, 2) := by decide +kernel
theorem dX2_square_118 : decode cX2_square 118 = .ok (.lload 10, 2) := by decide +kernel
theorem dX2_square_120 : decode cX2_square 120 = .ok (.lload 10, 2) := by decide +kernel
theorem dX2_square_122 : decode cX2_square 122 = .ok (.lmul, 1) := by decide +kernel
theorem dX2_square_123 : decode cX2_square 123 = .ok (.ladd, 1) := by decide +kernel
theorem dX2_square_124 : decode cX2_square 124 = .ok (.lstore 5, 2) := by decide +kernel
theorem dX2_square_126 : decode cX2_square 126 = .ok (.iinc 7 1, 3) := by decide +kernel
theorem dX2_square_129 : decode cX2_square 129 = .ok (.goto (-123), 3) := by decide +kernel
theorem dX2_square_132 : decode cX2_square 132 = .ok (.lload 5, 2) := by decide +kernel
theorem dX2_square_134 : decode cX2_square 134 = .ok (.lreturn, 1) := by decide +kernel
set_option maxRecDepth 20000 in
theorem ggX2_nearest_X2_count : GoodIn wsX2_nearest wsX2_count := goodIn_r _ [8, 1, 2, 3, 25, 26, 27, 28, 29, 30, 31, 32, 33, 34, 35, 36, 37, 38, 39, 40, 41, 42, 43, 44, 45, 46, 47, 48, 49, 50, 51] (by decide +kernel) (by decide +kernel)
set_option maxRecDepth 20000 in
theorem gX2_nearest_X2_count : GoodIn wsX2_nearest (wsV RX2 103 RX2 yX2_count wsX2_count) := goodIn_app (goodIn_of _ (by decide +kernel)) ggX2_nearest_X2_count
set_option maxRecDepth 20000 in
theorem ggX2_nearest_X2_isAt : GoodIn wsX2_nearest wsX2_isAt := goodIn_r _ [12, 13, 14, 15, 7, 16, 17, 18, 25, 26, 27, 28, 29, 30, 31, 32, 33, 34, 35, 36, 37, 38, 39, 40, 41, 42, 43, 44, 45, 46, 47, 48, 49, 50, 51] (by decide +kernel) (by decide +kernel)
set_option maxRecDepth 20000 in
theorem gX2_nearest_X2_isAt : GoodIn wsX2_nearest (wsV RX2 144 RX2 yX2_isAt wsX2_isAt) := goodIn_app (goodIn_of _ (by decide +kernel)) ggX2_nearest_X2_isAt
set_option maxRecDepth 20000 in
theorem ggX2_nearest_X2_square : GoodIn wsX2_nearest wsX2_square := goodIn_r _ [22, 13, 23, 24, 25, 26, 27, 28, 29, 30, 31, 32, 33, 34, 35, 36, 37, 38, 39, 40, 41, 42, 43, 44, 45, 46, 47, 48, 49, 50, 51] (by decide +kernel) (by decide +kernel)
set_option maxRecDepth 20000 in
theorem gX2_nearest_X2_square : GoodIn wsX2_nearest (wsV RX2 148 RX2 yX2_square wsX2_square) := goodIn_app (goodIn_of _ (by decide +kernel)) ggX2_nearest_X2_square
theorem dX2_nearest_0 : decode cX2_nearest 0 = .ok (.aload_n 0, 1) := by decide +kernel
theorem dX2_nearest_1 : decode cX2_nearest 1 = .ok (.iconst 0, 1) := by decide +kernel
theorem dX2_nearest_2 : decode cX2_nearest 2 = .ok (.putfield 69, 3) := by decide +kernel
theorem dX2_nearest_5 : decode cX2_nearest 5 = .ok (.iload 4, 2) := by decide +kernel
theorem dX2_nearest_7 : decode cX2_nearest 7 = .ok (.ifCond .lt 12, 3) := by decide +kernel
theorem dX2_nearest_10 : decode cX2_nearest 10 = .ok (.iload 4, 2) := by decide +kernel
theorem dX2_nearest_12 : decode cX2_nearest 12 = .ok (.aload_n 0, 1) := by decide +kernel
theorem dX2_nearest_13 : decode cX2_nearest 13 = .ok (.invokevirtual 103, 3) := by decide +kernel
theorem dX2_nearest_16 : decode cX2_nearest 16 = .ok (.if_icmp .lt 5, 3) := by decide +kernel
theorem dX2_nearest_19 : decode cX2_nearest 19 = .ok (.iconst (-1), 1) := by decide +kernel
theorem dX2_nearest_20 : decode cX2_nearest 20 = .ok (.ireturn, 1) := by decide +kernel
theorem dX2_nearest_21 : decode cX2_nearest 21 = .ok (.aload_n 0, 1) := by decide +kernel
theorem dX2_nearest_22 : decode cX2_nearest 22 = .ok (.iload_n 1, 1) := by decide +kernel
theorem dX2_nearest_23 : decode cX2_nearest 23 = .ok (.iload_n 2, 1) := by decide +kernel
theorem dX2_nearest_24 : decode cX2_nearest 24 = .ok (.iload_n 3, 1) := by decide +kernel
theorem dX2_nearest_25 : decode cX2_nearest 25 = .ok (.invokevirtual 144, 3) := by decide +kernel
theorem dX2_nearest_28 : decode cX2_nearest 28 = .ok (.ifCond .ne 6, 3) := by decide +kernel
theorem dX2_nearest_31 : decode cX2_nearest 31 = .ok (.bipush (-2), 2) := by decide +kernel
theorem dX2_nearest_33 : decode cX2_nearest 33 = .ok (.ireturn, 1) := by decide +kernel
theorem dX2_nearest_34 : decode cX2_nearest 34 = .ok (.iconst 0, 1) := by decide +kernel
theorem dX2_nearest_35 : decode cX2_nearest 35 = .ok (.istore 5, 2) := by decide +kernel
theorem dX2_nearest_37 : decode cX2_nearest 37 = .ok (.iload 5, 2) := by decide +kernel
theorem dX2_nearest_39 : decode cX2_nearest 39 = .ok (.aload_n 0, 1) := by decide +kernel
theorem dX2_nearest_40 : decode cX2_nearest 40 = .ok (.getfield 72, 3) := by decide +kernel
theorem dX2_nearest_43 : decode cX2_nearest 43 = .ok (.if_icmp .ge 143, 3) := by decide +kernel
theorem dX2_nearest_46 : decode cX2_nearest 46 = .ok (.iconst 0, 1) := by decide +kernel
theorem dX2_nearest_47 : decode cX2_nearest 47 = .ok (.istore 6, 2) := by decide +kernel
theorem dX2_nearest_49 : decode cX2_nearest 49 = .ok (.iconst 0, 1) := by decide +kernel
theorem dX2_nearest_50 : decode cX2_nearest 50 = .ok (.istore 7, 2) := by decide +kernel
theorem dX2_nearest_52 : decode cX2_nearest 52 = .ok (.iload 7, 2) := by decide +kernel
theorem dX2_nearest_54 : decode cX2_nearest 54 = .ok (.aload_n 0, 1) := by decide +kernel
theorem dX2_nearest_55 : decode cX2_nearest 55 = .ok (.getfield 72, 3) := by decide +kernel
theorem dX2_nearest_58 : decode cX2_nearest 58 = .ok (.if_icmp .ge 102, 3) := by decide +kernel
theorem dX2_nearest_61 : decode cX2_nearest 61 = .ok (.aload_n 0, 1) := by decide +kernel
theorem dX2_nearest_62 : decode cX2_nearest 62 = .ok (.getfield 13, 3) := by decide +kernel
theorem dX2_nearest_65 : decode cX2_nearest 65 = .ok (.iload 5, 2) := by decide +kernel
theorem dX2_nearest_67 : decode cX2_nearest 67 = .ok (.baload, 1) := by decide +kernel
theorem dX2_nearest_68 : decode cX2_nearest 68 = .ok (.ifCond .eq 92, 3) := by decide +kernel
theorem dX2_nearest_71 : decode cX2_nearest 71 = .ok (.aload_n 0, 1) := by decide +kernel
theorem dX2_nearest_72 : decode cX2_nearest 72 = .ok (.getfield 13, 3) := by decide +kernel
theorem dX2_nearest_75 : decode cX2_nearest 75 = .ok (.iload 7, 2) := by decide +kernel
theorem dX2_nearest_77 : decode cX2_nearest 77 = .ok (.baload, 1) := by decide +kernel
theorem dX2_nearest_78 : decode cX2_nearest 78 = .ok (.ifCond .eq 58, 3) := by decide +kernel
theorem dX2_nearest_81 : decode cX2_nearest 81 = .ok (.aload_n 0, 1) := by decide +kernel
theorem dX2_nearest_82 : decode cX2_nearest 82 = .ok (.iload 7, 2) := by decide +kernel
theorem dX2_nearest_84 : decode cX2_nearest 84 = .ok (.iload_n 1, 1) := by decide +kernel
theorem dX2_nearest_85 : decode cX2_nearest 85 = .ok (.iload_n 2, 1) := by decide +kernel
theorem dX2_nearest_86 : decode cX2_nearest 86 = .ok (.iload_n 3, 1) := by decide +kernel
theorem dX2_nearest_87 : decode cX2_nearest 87 = .ok (.invokevirtual 148, 3) := by decide +kernel
theorem dX2_nearest_90 : decode cX2_nearest 90 = .ok (.aload_n 0, 1) := by decide +kernel
theorem dX2_nearest_91 : decode cX2_nearest 91 = .ok (.iload 5, 2) := by decide +kernel
theorem dX2_nearest_93 : decode cX2_nearest 93 = .ok (.iload_n 1, 1) := by decide +kernel
theorem dX2_nearest_94 : decode cX2_nearest 94 = .ok (.iload_n 2, 1) := by decide +kernel
theorem dX2_nearest_95 : decode cX2_nearest 95 = .ok (.iload_n 3, 1) := by decide +kernel
theorem dX2_nearest_96 : decode cX2_nearest 96 = .ok (.invokevirtual 148, 3) := by decide +kernel
theorem dX2_nearest_99 : decode cX2_nearest 99 = .ok (.lcmp, 1) := by decide +kernel
theorem dX2_nearest_100 : decode cX2_nearest 100 = .ok (.ifCond .lt 32, 3) := by decide +kernel
theorem dX2_nearest_103 : decode cX2_nearest 103 = .ok (.aload_n 0, 1) := by decide +kernel
theorem dX2_nearest_104 : decode cX2_nearest 104 = .ok (.iload 7, 2) := by decide +kernel
theorem dX2_nearest_106 : decode cX2_nearest 106 = .ok (.iload_n 1, 1) := by decide +kernel
theorem dX2_nearest_107 : decode cX2_nearest 107 = .ok (.iload_n 2, 1) := by decide +kernel
theorem dX2_nearest_108 : decode cX2_nearest 108 = .ok (.iload_n 3, 1) := by decide +kernel
theorem dX2_nearest_109 : decode cX2_nearest 109 = .ok (.invokevirtual 148, 3) := by decide +kernel
theorem dX2_nearest_112 : decode cX2_nearest 112 = .ok (.aload_n 0, 1) := by decide +kernel
theorem dX2_nearest_113 : decode cX2_nearest 113 = .ok (.iload 5, 2) := by decide +kernel
theorem dX2_nearest_115 : decode cX2_nearest 115 = .ok (.iload_n 1, 1) := by decide +kernel
theorem dX2_nearest_116 : decode cX2_nearest 116 = .ok (.iload_n 2, 1) := by decide +kernel
theorem dX2_nearest_117 : decode cX2_nearest 117 = .ok (.iload_n 3, 1) := by decide +kernel
theorem dX2_nearest_118 : decode cX2_nearest 118 = .ok (.invokevirtual 148, 3) := by decide +kernel
theorem dX2_nearest_121 : decode cX2_nearest 121 = .ok (.lcmp, 1) := by decide +kernel
theorem dX2_nearest_122 : decode cX2_nearest 122 = .ok (.ifCond .ne 14, 3) := by decide +kernel
theorem dX2_nearest_125 : decode cX2_nearest 125 = .ok (.iload 7, 2) := by decide +kernel
theorem dX2_nearest_127 : decode cX2_nearest 127 = .ok (.iload 5, 2) := by decide +kernel
theorem dX2_nearest_129 : decode cX2_nearest 129 = .ok (.if_icmp .ge 7, 3) := by decide +kernel
theorem dX2_nearest_132 : decode cX2_nearest 132 = .ok (.iconst 1, 1) := by decide +kernel
theorem dX2_nearest_133 : decode cX2_nearest 133 = .ok (.goto 4, 3) := by decide +kernel
theorem dX2_nearest_136 : decode cX2_nearest 136 = .ok (.iconst 0, 1) := by decide +kernel
theorem dX2_nearest_137 : decode cX2_nearest 137 = .ok (.istore 8, 2) := by decide +kernel
theorem dX2_nearest_139 : decode cX2_nearest 139 = .ok (.iload 6, 2) := by decide +kernel
theorem dX2_nearest_141 : decode cX2_nearest 141 = .ok (.iload 8, 2) := by decide +kernel
theorem dX2_nearest_143 : decode cX2_nearest 143 = .ok (.ifCond .eq 7, 3) := by decide +kernel
theorem dX2_nearest_146 : decode cX2_nearest 146 = .ok (.iconst 1, 1) := by decide +kernel
theorem dX2_nearest_147 : decode cX2_nearest 147 = .ok (.goto 4, 3) := by decide +kernel
theorem dX2_nearest_150 : decode cX2_nearest 150 = .ok (.iconst 0, 1) := by decide +kernel
theorem dX2_nearest_151 : decode cX2_nearest 151 = .ok (.iadd, 1) := by decide +kernel
theorem dX2_nearest_152 : decode cX2_nearest 152 = .ok (.istore 6, 2) := by decide +kernel
theorem dX2_nearest_154 : decode cX2_nearest 154 = .ok (.iinc 7 1, 3) := by decide +kernel
theorem dX2_nearest_157 : decode cX2_nearest 157 = .ok (.goto (-105), 3) := by decide +kernel
theorem dX2_nearest_160 : decode cX2_nearest 160 = .ok (.aload_n 0, 1) := by decide +kernel
theorem dX2_nearest_161 : decode cX2_nearest 161 = .ok (.getfield 13, 3) := by decide +kernel
theorem dX2_nearest_164 : decode cX2_nearest 164 = .ok (.iload 5, 2) := by decide +kernel
theorem dX2_nearest_166 : decode cX2_nearest 166 = .ok (.baload, 1) := by decide +kernel
theorem dX2_nearest_167 : decode cX2_nearest 167 = .ok (.ifCond .eq 13, 3) := by decide +kernel
theorem dX2_nearest_170 : decode cX2_nearest 170 = .ok (.iload 6, 2) := by decide +kernel
theorem dX2_nearest_172 : decode cX2_nearest 172 = .ok (.iload 4, 2) := by decide +kernel
theorem dX2_nearest_174 : decode cX2_nearest 174 = .ok (.if_icmp .ne 6, 3) := by decide +kernel
theorem dX2_nearest_177 : decode cX2_nearest 177 = .ok (.iload 5, 2) := by decide +kernel
theorem dX2_nearest_179 : decode cX2_nearest 179 = .ok (.ireturn, 1) := by decide +kernel
theorem dX2_nearest_180 : decode cX2_nearest 180 = .ok (.iinc 5 1, 3) := by decide +kernel
theorem dX2_nearest_183 : decode cX2_nearest 183 = .ok (.goto (-146), 3) := by decide +kernel
theorem dX2_nearest_186 : decode cX2_nearest 186 = .ok (.iconst (-1), 1) := by decide +kernel
theorem dX2_nearest_187 : decode cX2_nearest 187 = .ok (.ireturn, 1) := by decide +kernel
set_option maxRecDepth 20000 in
theorem ggX2_distance_X2_isThing : GoodIn wsX2_distance wsX2_isThing := goodIn_r _ [7, 8, 9, 26, 27, 28, 29, 30, 31, 32, 33, 34, 35, 36, 37, 38, 39, 40, 41, 42, 43, 44, 45, 46, 47, 48, 49, 50, 51, 52] (by decide +kernel) (by decide +kernel)
set_option maxRecDepth 20000 in
theorem gX2_distance_X2_isThing : GoodIn wsX2_distance (wsV RX2 100 RX2 yX2_isThing wsX2_isThing) := goodIn_app (goodIn_of _ (by decide +kernel)) ggX2_distance_X2_isThing
set_option maxRecDepth 20000 in
theorem ggX2_distance_X2_isAt : GoodIn wsX2_distance wsX2_isAt := goodIn_r _ [13, 14, 15, 16, 6, 17, 18, 19, 26, 27, 28, 29, 30, 31, 32, 33, 34, 35, 36, 37, 38, 39, 40, 41, 42, 43, 44, 45, 46, 47, 48, 49, 50, 51, 52] (by decide +kernel) (by decide +kernel)
set_option maxRecDepth 20000 in
theorem gX2_distance_X2_isAt : GoodIn wsX2_distance (wsV RX2 144 RX2 yX2_isAt wsX2_isAt) := goodIn_app (goodIn_of _ (by decide +kernel)) ggX2_distance_X2_isAt
set_option maxRecDepth 20000 in
theorem ggX2_distance_X2_square : GoodIn wsX2_distance wsX2_square := goodIn_r _ [23, 14, 24, 25, 26, 27, 28, 29, 30, 31, 32, 33, 34, 35, 36, 37, 38, 39, 40, 41, 42, 43, 44, 45, 46, 47, 48, 49, 50, 51, 52] (by decide +kernel) (by decide +kernel)
set_option maxRecDepth 20000 in
theorem gX2_distance_X2_square : GoodIn wsX2_distance (wsV RX2 148 RX2 yX2_square wsX2_square) := goodIn_app (goodIn_of _ (by decide +kernel)) ggX2_distance_X2_square
theorem dX2_distance_0 : decode cX2_distance 0 = .ok (.aload_n 0, 1) := by decide +kernel
theorem dX2_distance_1 : decode cX2_distance 1 = .ok (.iconst 0, 1) := by decide +kernel
theorem dX2_distance_2 : decode cX2_distance 2 = .ok (.putfield 69, 3) := by decide +kernel
theorem dX2_distance_5 : decode cX2_distance 5 = .ok (.aload_n 0, 1) := by decide +kernel
theorem dX2_distance_6 : decode cX2_distance 6 = .ok (.iload_n 1, 1) := by decide +kernel
theorem dX2_distance_7 : decode cX2_distance 7 = .ok (.invokevirtual 100, 3) := by decide +kernel
theorem dX2_distance_10 : decode cX2_distance 10 = .ok (.ifCond .eq 26, 3) := by decide +kernel
theorem dX2_distance_13 : decode cX2_distance 13 = .ok (.aload_n 0, 1) := by decide +kernel
theorem dX2_distance_14 : decode cX2_distance 14 = .ok (.iload_n 2, 1) := by decide +kernel
theorem dX2_distance_15 : decode cX2_distance 15 = .ok (.iload_n 3, 1) := by decide +kernel
theorem dX2_distance_16 : decode cX2_distance 16 = .ok (.iload 4, 2) := by decide +kernel
theorem dX2_distance_18 : decode cX2_distance 18 = .ok (.invokevirtual 144, 3) := by decide +kernel
theorem dX2_distance_21 : decode cX2_distance 21 = .ok (.ifCond .eq 15, 3) := by decide +kernel
theorem dX2_distance_24 : decode cX2_distance 24 = .ok (.aload_n 0, 1) := by decide +kernel
theorem dX2_distance_25 : decode cX2_distance 25 = .ok (.iload_n 1, 1) := by decide +kernel
theorem dX2_distance_26 : decode cX2_distance 26 = .ok (.iload_n 2, 1) := by decide +kernel
theorem dX2_distance_27 : decode cX2_distance 27 = .ok (.iload_n 3, 1) := by decide +kernel
theorem dX2_distance_28 : decode cX2_distance 28 = .ok (.iload 4, 2) := by decide +kernel
theorem dX2_distance_30 : decode cX2_distance 30 = .ok (.invokevirtual 148, 3) := by decide +kernel
theorem dX2_distance_33 : decode cX2_distance 33 = .ok (.goto 6, 3) := by decide +kernel
theorem dX2_distance_36 : decode cX2_distance 36 = .ok (.ldc2_w 107, 3) := by decide +kernel
theorem dX2_distance_39 : decode cX2_distance 39 = .ok (.lreturn, 1) := by decide +kernel
theorem dX2_pairs_0 : decode cX2_pairs 0 = .ok (.aload_n 0, 1) := by decide +kernel
theorem dX2_pairs_1 : decode cX2_pairs 1 = .ok (.iconst 0, 1) := by decide +kernel
theorem dX2_pairs_2 : decode cX2_pairs 2 = .ok (.putfield 69, 3) := by decide +kernel
theorem dX2_pairs_5 : decode cX2_pairs 5 = .ok (.iconst 0, 1) := by decide +kernel
theorem dX2_pairs_6 : decode cX2_pairs 6 = .ok (.istore_n 1, 1) := by decide +kernel
theorem dX2_pairs_7 : decode cX2_pairs 7 = .ok (.iconst 0, 1) := by decide +kernel
theorem dX2_pairs_8 : decode cX2_pairs 8 = .ok (.istore_n 2, 1) := by decide +kernel
theorem dX2_pairs_9 : decode cX2_pairs 9 = .ok (.iload_n 2, 1) := by decide +kernel
theorem dX2_pairs_10 : decode cX2_pairs 10 = .ok (.aload_n 0, 1) := by decide +kernel
theorem dX2_pairs_11 : decode cX2_pairs 11 = .ok (.getfield 72, 3) := by decide +kernel
theorem dX2_pairs_14 : decode cX2_pairs 14 = .ok (.if_icmp .ge 140, 3) := by decide +kernel
theorem dX2_pairs_17 : decode cX2_pairs 17 = .ok (.iconst 0, 1) := by decide +kernel
theorem dX2_pairs_18 : decode cX2_pairs 18 = .ok (.istore_n 3, 1) := by decide +kernel
theorem dX2_pairs_19 : decode cX2_pairs 19 = .ok (.iload_n 3, 1) := by decide +kernel
theorem dX2_pairs_20 : decode cX2_pairs 20 = .ok (.iload_n 2, 1) := by decide +kernel
theorem dX2_pairs_21 : decode cX2_pairs 21 = .ok (.if_icmp .ge 127, 3) := by decide +kernel
theorem dX2_pairs_24 : decode cX2_pairs 24 = .ok (.aload_n 0, 1) := by decide +kernel
theorem dX2_pairs_25 : decode cX2_pairs 25 = .ok (.getfield 13, 3) := by decide +kernel
theorem dX2_pairs_28 : decode cX2_pairs 28 = .ok (.iload_n 2, 1) := by decide +kernel
theorem dX2_pairs_29 : decode cX2_pairs 29 = .ok (.baload, 1) := by decide +kernel
theorem dX2_pairs_30 : decode cX2_pairs 30 = .ok (.ifCond .eq 16, 3) := by decide +kernel
theorem dX2_pairs_33 : decode cX2_pairs 33 = .ok (.aload_n 0, 1) := by decide +kernel
theorem dX2_pairs_34 : decode cX2_pairs 34 = .ok (.getfield 13, 3) := by decide +kernel
theorem dX2_pairs_37 : decode cX2_pairs 37 = .ok (.iload_n 3, 1) := by decide +kernel
theorem dX2_pairs_38 : decode cX2_pairs 38 = .ok (.baload, 1) := by decide +kernel
theorem dX2_pairs_39 : decode cX2_pairs 39 = .ok (.ifCond .eq 7, 3) := by decide +kernel
theorem dX2_pairs_42 : decode cX2_pairs 42 = .ok (.iconst 1, 1) := by decide +kernel
end
section
theorem dX2_pairs_43 : decode cX2_pairs 43 = .ok (.goto 4, 3) := by decide +kernel
theorem dX2_pairs_46 : decode cX2_pairs 46 = .ok (.iconst 0, 1) := by decide +kernel
theorem dX2_pairs_47 : decode cX2_pairs 47 = .ok (.istore 4, 2) := by decide +kernel
theorem dX2_pairs_49 : decode cX2_pairs 49 = .ok (.iconst 0, 1) := by decide +kernel
theorem dX2_pairs_50 : decode cX2_pairs 50 = .ok (.istore 5, 2) := by decide +kernel
theorem dX2_pairs_52 : decode cX2_pairs 52 = .ok (.iload 5, 2) := by decide +kernel
theorem dX2_pairs_54 : decode cX2_pairs 54 = .ok (.aload_n 0, 1) := by decide +kernel
theorem dX2_pairs_55 : decode cX2_pairs 55 = .ok (.getfield 7, 3) := by decide +kernel
theorem dX2_pairs_58 : decode cX2_pairs 58 = .ok (.if_icmp .ge 71, 3) := by decide +kernel
theorem dX2_pairs_61 : decode cX2_pairs 61 = .ok (.iload 4, 2) := by decide +kernel
theorem dX2_pairs_63 : decode cX2_pairs 63 = .ok (.ifCond .eq 57, 3) := by decide +kernel
theorem dX2_pairs_66 : decode cX2_pairs 66 = .ok (.aload_n 0, 1) := by decide +kernel
theorem dX2_pairs_67 : decode cX2_pairs 67 = .ok (.getfield 17, 3) := by decide +kernel
theorem dX2_pairs_70 : decode cX2_pairs 70 = .ok (.iconst 3, 1) := by decide +kernel
theorem dX2_pairs_71 : decode cX2_pairs 71 = .ok (.iload_n 2, 1) := by decide +kernel
theorem dX2_pairs_72 : decode cX2_pairs 72 = .ok (.imul, 1) := by decide +kernel
theorem dX2_pairs_73 : decode cX2_pairs 73 = .ok (.iload 5, 2) := by decide +kernel
theorem dX2_pairs_75 : decode cX2_pairs 75 = .ok (.iadd, 1) := by decide +kernel
theorem dX2_pairs_76 : decode cX2_pairs 76 = .ok (.iaload, 1) := by decide +kernel
theorem dX2_pairs_77 : decode cX2_pairs 77 = .ok (.aload_n 0, 1) := by decide +kernel
theorem dX2_pairs_78 : decode cX2_pairs 78 = .ok (.getfield 21, 3) := by decide +kernel
theorem dX2_pairs_81 : decode cX2_pairs 81 = .ok (.iconst 3, 1) := by decide +kernel
theorem dX2_pairs_82 : decode cX2_pairs 82 = .ok (.iload_n 3, 1) := by decide +kernel
theorem dX2_pairs_83 : decode cX2_pairs 83 = .ok (.imul, 1) := by decide +kernel
theorem dX2_pairs_84 : decode cX2_pairs 84 = .ok (.iload 5, 2) := by decide +kernel
theorem dX2_pairs_86 : decode cX2_pairs 86 = .ok (.iadd, 1) := by decide +kernel
theorem dX2_pairs_87 : decode cX2_pairs 87 = .ok (.iaload, 1) := by decide +kernel
theorem dX2_pairs_88 : decode cX2_pairs 88 = .ok (.if_icmp .gt 32, 3) := by decide +kernel
theorem dX2_pairs_91 : decode cX2_pairs 91 = .ok (.aload_n 0, 1) := by decide +kernel
theorem dX2_pairs_92 : decode cX2_pairs 92 = .ok (.getfield 17, 3) := by decide +kernel
theorem dX2_pairs_95 : decode cX2_pairs 95 = .ok (.iconst 3, 1) := by decide +kernel
theorem dX2_pairs_96 : decode cX2_pairs 96 = .ok (.iload_n 3, 1) := by decide +kernel
theorem dX2_pairs_97 : decode cX2_pairs 97 = .ok (.imul, 1) := by decide +kernel
theorem dX2_pairs_98 : decode cX2_pairs 98 = .ok (.iload 5, 2) := by decide +kernel
theorem dX2_pairs_100 : decode cX2_pairs 100 = .ok (.iadd, 1) := by decide +kernel
theorem dX2_pairs_101 : decode cX2_pairs 101 = .ok (.iaload, 1) := by decide +kernel
theorem dX2_pairs_102 : decode cX2_pairs 102 = .ok (.aload_n 0, 1) := by decide +kernel
theorem dX2_pairs_103 : decode cX2_pairs 103 = .ok (.getfield 21, 3) := by decide +kernel
theorem dX2_pairs_106 : decode cX2_pairs 106 = .ok (.iconst 3, 1) := by decide +kernel
theorem dX2_pairs_107 : decode cX2_pairs 107 = .ok (.iload_n 2, 1) := by decide +kernel
theorem dX2_pairs_108 : decode cX2_pairs 108 = .ok (.imul, 1) := by decide +kernel
theorem dX2_pairs_109 : decode cX2_pairs 109 = .ok (.iload 5, 2) := by decide +kernel
theorem dX2_pairs_111 : decode cX2_pairs 111 = .ok (.iadd, 1) := by decide +kernel
theorem dX2_pairs_112 : decode cX2_pairs 112 = .ok (.iaload, 1) := by decide +kernel
theorem dX2_pairs_113 : decode cX2_pairs 113 = .ok (.if_icmp .gt 7, 3) := by decide +kernel
theorem dX2_pairs_116 : decode cX2_pairs 116 = .ok (.iconst 1, 1) := by decide +kernel
theorem dX2_pairs_117 : decode cX2_pairs 117 = .ok (.goto 4, 3) := by decide +kernel
theorem dX2_pairs_120 : decode cX2_pairs 120 = .ok (.iconst 0, 1) := by decide +kernel
theorem dX2_pairs_121 : decode cX2_pairs 121 = .ok (.istore 4, 2) := by decide +kernel
theorem dX2_pairs_123 : decode cX2_pairs 123 = .ok (.iinc 5 1, 3) := by decide +kernel
theorem dX2_pairs_126 : decode cX2_pairs 126 = .ok (.goto (-74), 3) := by decide +kernel
theorem dX2_pairs_129 : decode cX2_pairs 129 = .ok (.iload_n 1, 1) := by decide +kernel
theorem dX2_pairs_130 : decode cX2_pairs 130 = .ok (.iload 4, 2) := by decide +kernel
theorem dX2_pairs_132 : decode cX2_pairs 132 = .ok (.ifCond .eq 7, 3) := by decide +kernel
theorem dX2_pairs_135 : decode cX2_pairs 135 = .ok (.iconst 1, 1) := by decide +kernel
theorem dX2_pairs_136 : decode cX2_pairs 136 = .ok (.goto 4, 3) := by decide +kernel
theorem dX2_pairs_139 : decode cX2_pairs 139 = .ok (.iconst 0, 1) := by decide +kernel
theorem dX2_pairs_140 : decode cX2_pairs 140 = .ok (.iadd, 1) := by decide +kernel
theorem dX2_pairs_141 : decode cX2_pairs 141 = .ok (.istore_n 1, 1) := by decide +kernel
theorem dX2_pairs_142 : decode cX2_pairs 142 = .ok (.iinc 3 1, 3) := by decide +kernel
theorem dX2_pairs_145 : decode cX2_pairs 145 = .ok (.goto (-126), 3) := by decide +kernel
theorem dX2_pairs_148 : decode cX2_pairs 148 = .ok (.iinc 2 1, 3) := by decide +kernel
theorem dX2_pairs_151 : decode cX2_pairs 151 = .ok (.goto (-142), 3) := by decide +kernel
theorem dX2_pairs_154 : decode cX2_pairs 154 = .ok (.iload_n 1, 1) := by decide +kernel
theorem dX2_pairs_155 : decode cX2_pairs 155 = .ok (.ireturn, 1) := by decide +kernel
theorem dX2_day_0 : decode cX2_day 0 = .ok (.aload_n 0, 1) := by decide +kernel
theorem dX2_day_1 : decode cX2_day 1 = .ok (.lload_n 3, 1) := by decide +kernel
theorem dX2_day_2 : decode cX2_day 2 = .ok (.lconst 0, 1) := by decide +kernel
theorem dX2_day_3 : decode cX2_day 3 = .ok (.lcmp, 1) := by decide +kernel
theorem dX2_day_4 : decode cX2_day 4 = .ok (.ifCond .ne 7, 3) := by decide +kernel
theorem dX2_day_7 : decode cX2_day 7 = .ok (.iconst 1, 1) := by decide +kernel
theorem dX2_day_8 : decode cX2_day 8 = .ok (.goto 4, 3) := by decide +kernel
theorem dX2_day_11 : decode cX2_day 11 = .ok (.iconst 0, 1) := by decide +kernel
theorem dX2_day_12 : decode cX2_day 12 = .ok (.putfield 69, 3) := by decide +kernel
theorem dX2_day_15 : decode cX2_day 15 = .ok (.lload_n 3, 1) := by decide +kernel
theorem dX2_day_16 : decode cX2_day 16 = .ok (.lconst 0, 1) := by decide +kernel
theorem dX2_day_17 : decode cX2_day 17 = .ok (.lcmp, 1) := by decide +kernel
theorem dX2_day_18 : decode cX2_day 18 = .ok (.ifCond .gt 18, 3) := by decide +kernel
theorem dX2_day_21 : decode cX2_day 21 = .ok (.aload_n 0, 1) := by decide +kernel
theorem dX2_day_22 : decode cX2_day 22 = .ok (.getfield 69, 3) := by decide +kernel
theorem dX2_day_25 : decode cX2_day 25 = .ok (.ifCond .le 7, 3) := by decide +kernel
theorem dX2_day_28 : decode cX2_day 28 = .ok (.lconst 0, 1) := by decide +kernel
theorem dX2_day_29 : decode cX2_day 29 = .ok (.goto 6, 3) := by decide +kernel
theorem dX2_day_32 : decode cX2_day 32 = .ok (.ldc2_w 107, 3) := by decide +kernel
theorem dX2_day_35 : decode cX2_day 35 = .ok (.lreturn, 1) := by decide +kernel
theorem dX2_day_36 : decode cX2_day 36 = .ok (.lload_n 1, 1) := by decide +kernel
theorem dX2_day_37 : decode cX2_day 37 = .ok (.lload_n 3, 1) := by decide +kernel
theorem dX2_day_38 : decode cX2_day 38 = .ok (.ldiv, 1) := by decide +kernel
theorem dX2_day_39 : decode cX2_day 39 = .ok (.lstore 5, 2) := by decide +kernel
theorem dX2_day_41 : decode cX2_day 41 = .ok (.lload_n 1, 1) := by decide +kernel
theorem dX2_day_42 : decode cX2_day 42 = .ok (.lload_n 3, 1) := by decide +kernel
theorem dX2_day_43 : decode cX2_day 43 = .ok (.lrem, 1) := by decide +kernel
theorem dX2_day_44 : decode cX2_day 44 = .ok (.lconst 0, 1) := by decide +kernel
theorem dX2_day_45 : decode cX2_day 45 = .ok (.lcmp, 1) := by decide +kernel
theorem dX2_day_46 : decode cX2_day 46 = .ok (.ifCond .ge 10, 3) := by decide +kernel
theorem dX2_day_49 : decode cX2_day 49 = .ok (.lload 5, 2) := by decide +kernel
theorem dX2_day_51 : decode cX2_day 51 = .ok (.lconst 1, 1) := by decide +kernel
theorem dX2_day_52 : decode cX2_day 52 = .ok (.lsub, 1) := by decide +kernel
theorem dX2_day_53 : decode cX2_day 53 = .ok (.goto 5, 3) := by decide +kernel
theorem dX2_day_56 : decode cX2_day 56 = .ok (.lload 5, 2) := by decide +kernel
theorem dX2_day_58 : decode cX2_day 58 = .ok (.lreturn, 1) := by decide +kernel
theorem dJ9_floorDiv_f86c9_0 : decode cJ9_floorDiv_f86c9 0 = .ok (.lload_n 0, 1) := by decide +kernel
theorem dJ9_floorDiv_f86c9_1 : decode cJ9_floorDiv_f86c9 1 = .ok (.lload_n 2, 1) := by decide +kernel
theorem dJ9_floorDiv_f86c9_2 : decode cJ9_floorDiv_f86c9 2 = .ok (.ldiv, 1) := by decide +kernel
theorem dJ9_floorDiv_f86c9_3 : decode cJ9_floorDiv_f86c9 3 = .ok (.lstore 4, 2) := by decide +kernel
theorem dJ9_floorDiv_f86c9_5 : decode cJ9_floorDiv_f86c9 5 = .ok (.lload_n 0, 1) := by decide +kernel
theorem dJ9_floorDiv_f86c9_6 : decode cJ9_floorDiv_f86c9 6 = .ok (.lload_n 2, 1) := by decide +kernel
theorem dJ9_floorDiv_f86c9_7 : decode cJ9_floorDiv_f86c9 7 = .ok (.lxor, 1) := by decide +kernel
theorem dJ9_floorDiv_f86c9_8 : decode cJ9_floorDiv_f86c9 8 = .ok (.lconst 0, 1) := by decide +kernel
theorem dJ9_floorDiv_f86c9_9 : decode cJ9_floorDiv_f86c9 9 = .ok (.lcmp, 1) := by decide +kernel
theorem dJ9_floorDiv_f86c9_10 : decode cJ9_floorDiv_f86c9 10 = .ok (.ifCond .ge 17, 3) := by decide +kernel
theorem dJ9_floorDiv_f86c9_13 : decode cJ9_floorDiv_f86c9 13 = .ok (.lload 4, 2) := by decide +kernel
theorem dJ9_floorDiv_f86c9_15 : decode cJ9_floorDiv_f86c9 15 = .ok (.lload_n 2, 1) := by decide +kernel
theorem dJ9_floorDiv_f86c9_16 : decode cJ9_floorDiv_f86c9 16 = .ok (.lmul, 1) := by decide +kernel
theorem dJ9_floorDiv_f86c9_17 : decode cJ9_floorDiv_f86c9 17 = .ok (.lload_n 0, 1) := by decide +kernel
theorem dJ9_floorDiv_f86c9_18 : decode cJ9_floorDiv_f86c9 18 = .ok (.lcmp, 1) := by decide +kernel
theorem dJ9_floorDiv_f86c9_19 : decode cJ9_floorDiv_f86c9 19 = .ok (.ifCond .eq 8, 3) := by decide +kernel
theorem dJ9_floorDiv_f86c9_22 : decode cJ9_floorDiv_f86c9 22 = .ok (.lload 4, 2) := by decide +kernel
theorem dJ9_floorDiv_f86c9_24 : decode cJ9_floorDiv_f86c9 24 = .ok (.lconst 1, 1) := by decide +kernel
theorem dJ9_floorDiv_f86c9_25 : decode cJ9_floorDiv_f86c9 25 = .ok (.lsub, 1) := by decide +kernel
theorem dJ9_floorDiv_f86c9_26 : decode cJ9_floorDiv_f86c9 26 = .ok (.lreturn, 1) := by decide +kernel
theorem dJ9_floorDiv_f86c9_27 : decode cJ9_floorDiv_f86c9 27 = .ok (.lload 4, 2) := by decide +kernel
theorem dJ9_floorDiv_f86c9_29 : decode cJ9_floorDiv_f86c9 29 = .ok (.lreturn, 1) := by decide +kernel
theorem dJ9_max_7cf53_0 : decode cJ9_max_7cf53 0 = .ok (.iload_n 0, 1) := by decide +kernel
theorem dJ9_max_7cf53_1 : decode cJ9_max_7cf53 1 = .ok (.iload_n 1, 1) := by decide +kernel
theorem dJ9_max_7cf53_2 : decode cJ9_max_7cf53 2 = .ok (.if_icmp .lt 7, 3) := by decide +kernel
theorem dJ9_max_7cf53_5 : decode cJ9_max_7cf53 5 = .ok (.iload_n 0, 1) := by decide +kernel
theorem dJ9_max_7cf53_6 : decode cJ9_max_7cf53 6 = .ok (.goto 4, 3) := by decide +kernel
theorem dJ9_max_7cf53_9 : decode cJ9_max_7cf53 9 = .ok (.iload_n 1, 1) := by decide +kernel
theorem dJ9_max_7cf53_10 : decode cJ9_max_7cf53 10 = .ok (.ireturn, 1) := by decide +kernel
theorem dJ9_max_f86c9_0 : decode cJ9_max_f86c9 0 = .ok (.lload_n 0, 1) := by decide +kernel
theorem dJ9_max_f86c9_1 : decode cJ9_max_f86c9 1 = .ok (.lload_n 2, 1) := by decide +kernel
theorem dJ9_max_f86c9_2 : decode cJ9_max_f86c9 2 = .ok (.lcmp, 1) := by decide +kernel
theorem dJ9_max_f86c9_3 : decode cJ9_max_f86c9 3 = .ok (.ifCond .lt 7, 3) := by decide +kernel
theorem dJ9_max_f86c9_6 : decode cJ9_max_f86c9 6 = .ok (.lload_n 0, 1) := by decide +kernel
theorem dJ9_max_f86c9_7 : decode cJ9_max_f86c9 7 = .ok (.goto 4, 3) := by decide +kernel
theorem dJ9_max_f86c9_10 : decode cJ9_max_f86c9 10 = .ok (.lload_n 2, 1) := by decide +kernel
theorem dJ9_max_f86c9_11 : decode cJ9_max_f86c9 11 = .ok (.lreturn, 1) := by decide +kernel
theorem dJ9_min_7cf53_0 : decode cJ9_min_7cf53 0 = .ok (.iload_n 0, 1) := by decide +kernel
theorem dJ9_min_7cf53_1 : decode cJ9_min_7cf53 1 = .ok (.iload_n 1, 1) := by decide +kernel
theorem dJ9_min_7cf53_2 : decode cJ9_min_7cf53 2 = .ok (.if_icmp .gt 7, 3) := by decide +kernel
theorem dJ9_min_7cf53_5 : decode cJ9_min_7cf53 5 = .ok (.iload_n 0, 1) := by decide +kernel
theorem dJ9_min_7cf53_6 : decode cJ9_min_7cf53 6 = .ok (.goto 4, 3) := by decide +kernel
theorem dJ9_min_7cf53_9 : decode cJ9_min_7cf53 9 = .ok (.iload_n 1, 1) := by decide +kernel
theorem dJ9_min_7cf53_10 : decode cJ9_min_7cf53 10 = .ok (.ireturn, 1) := by decide +kernel
abbrev vwCl : List vw_C := [(RX0, TX0, 1), (RX1, TX1, 18), (RX2, TX2, 27)]
end
section
/-! My own rows over the kit: counts, truth values, contracts that only read, contracts that write one whole world, loops. -/
noncomputable def pt_cb (P : Prop) : Nat := @ite Nat P (Classical.propDecidable P) 1 0
theorem pt_cb_t {P : Prop} (h : P) : pt_cb P = 1 := by unfold pt_cb; exact if_pos h
theorem pt_cb_f {P : Prop} (h : ¬ P) : pt_cb P = 0 := by unfold pt_cb; exact if_neg h
theorem pt_cb_le (P : Prop) : pt_cb P ≤ 1 := by
  rcases Classical.em P with h | h
  · rw [pt_cb_t h]; exact Nat.le_refl 1
  · rw [pt_cb_f h]; exact Nat.zero_le 1
theorem pt_cb_c {P Q : Prop} (h : P ↔ Q) : pt_cb P = pt_cb Q := by
  rcases Classical.em P with a | a
  · rw [pt_cb_t a, pt_cb_t (h.mp a)]
  · rw [pt_cb_f a, pt_cb_f (fun q => a (h.mpr q))]
noncomputable def pt_cnt (p : Nat → Prop) : Nat → Nat
  | 0 => 0
  | n + 1 => pt_cnt p n + pt_cb (p n)
theorem pt_cnt_le (p : Nat → Prop) : ∀ n, pt_cnt p n ≤ n
  | 0 => Nat.le_refl 0
  | n + 1 => by
    have h1 := pt_cnt_le p n
    have h2 := pt_cb_le (p n)
    show pt_cnt p n + pt_cb (p n) ≤ n + 1
    omega
theorem pt_cnt_c {p q : Nat → Prop} : ∀ n, (∀ i, i < n → (p i ↔ q i)) → pt_cnt p n = pt_cnt q n
  | 0, _ => rfl
  | n + 1, h => by
    show pt_cnt p n + pt_cb (p n) = pt_cnt q n + pt_cb (q n)
    rw [pt_cnt_c n (fun i hi => h i (by omega)), pt_cb_c (h n (by omega))]
/-- an Int32 that tells whether P -/
def pt_B (r : Int32) (P : Prop) : Prop := (r = 1 ∧ P) ∨ (r = 0 ∧ ¬ P)
theorem pt_B.t {r : Int32} {P : Prop} (h : pt_B r P) (hr : ¬ r = 0) : P := by
  rcases h with ⟨_, h⟩ | ⟨h, _⟩
  · exact h
  · exact absurd h hr
theorem pt_B.f {r : Int32} {P : Prop} (h : pt_B r P) (hr : r = 0) : ¬ P := by
  rcases h with ⟨h1, _⟩ | ⟨_, h⟩
  · rw [h1] at hr; exact absurd hr (by decide)
  · exact h
theorem pt_B.one {P : Prop} (h : P) : pt_B 1 P := Or.inl ⟨rfl, h⟩
theorem pt_B.zero {P : Prop} (h : ¬ P) : pt_B 0 P := Or.inr ⟨rfl, h⟩
theorem pt_B.nar {r : Int32} {P : Prop} (h : pt_B r P) : narrow .boolean (.int r) = .int r := by
  rcases h with ⟨h, _⟩ | ⟨h, _⟩ <;> subst h <;> rfl
theorem pt_B.vnar {r : Int32} {P : Prop} (h : pt_B r P) : vp_nar .boolean r = r := by
  rcases h with ⟨h, _⟩ | ⟨h, _⟩ <;> subst h <;> rfl
theorem pt_B.c {r : Int32} {P Q : Prop} (h : pt_B r P) (e : P ↔ Q) : pt_B r Q := by
  rcases h with ⟨h, g⟩ | ⟨h, g⟩
  · exact Or.inl ⟨h, e.mp g⟩
  · exact Or.inr ⟨h, fun q => g (e.mpr q)⟩
theorem pt_B.val {r q : Int32} {P Q : Prop} (h : pt_B r P) (g : pt_B q Q) (e : P ↔ Q) : r = q := by
  rcases h with ⟨h, h2⟩ | ⟨h, h2⟩ <;> rcases g with ⟨g, g2⟩ | ⟨g, g2⟩
  · rw [h, g]
  · exact absurd (e.mp h2) g2
  · exact absurd (e.mpr g2) h2
  · rw [h, g]
/-! the nest's words: they stand beside the world -/
def pt_isN : Cond → Bool
  | .fieldLinkNest _ _ _ _ _ _ => true
  | .methodLinkNest _ _ _ _ => true
  | _ => false
def pt_NW (ws : List Cond) (U : State) : Prop := ws.all pt_isN = true ∧ ∀ w ∈ ws, va_Nw w U
theorem pt_NW.warm {ws : List Cond} {s U : State} (hW : s.WarmedH U.vm) (h : pt_NW ws s) : pt_NW ws U := by
  refine ⟨h.1, fun w hw => ?_⟩
  have h1 := List.all_eq_true.mp h.1 w hw
  have h2 := h.2 w hw
  cases w <;> first | exact va_Nw.warmF hW h2 | exact va_Nw.warmM hW h2 | (simp [pt_isN] at h1)
theorem pt_NW.same {ws : List Cond} {u U : State} (hv : u.vm = U.vm) (h : pt_NW ws u) : pt_NW ws U := by
  refine ⟨h.1, fun w hw => ?_⟩
  have h1 := List.all_eq_true.mp h.1 w hw
  have h2 := h.2 w hw
  refine va_Nw.same ?_ hv h2
  cases w <;> first | rfl | (simp [pt_isN] at h1)
/-! contracts that only read: the heap stays as it is -/
def pt_R (D : va_G) (cl : List vw_C) (tys : List (ClassId × FieldType)) (ws : va_W) (nw : List Cond) (av : List Value) : Array Value → State → Prop := va_Pc av (fun U => va_P D cl ws U.heap ∧ va_K D cl tys U ∧ pt_NW nw U)
theorem pt_R.blind {D : va_G} {cl : List vw_C} {tys : List (ClassId × FieldType)} {ws : va_W} {nw : List Cond} {av : List Value} : FrameBlind (pt_R D cl tys ws nw av) :=
  fun a U g mk q => ⟨q.1, q.2.1, va_K.moved (u := U) (U := U.calling g mk a) (Vm.Alike.refl U.vm) q.2.2.1, pt_NW.same (u := U) (U := U.calling g mk a) rfl q.2.2.2⟩
theorem pt_R.preS {D : va_G} {cl : List vw_C} {tys : List (ClassId × FieldType)} {ws : va_W} {nw : List Cond} {av : List Value} {s : State} {H : Heap} (hP : va_P D cl ws H) (hK : va_K D cl tys s) (hN : pt_NW nw s) : PreS s H (pt_R D cl tys ws nw av) av :=
  ⟨pt_R.blind, fun U hU hW => ⟨rfl, by rw [hU]; exact hP, va_K.moved hW.alike hK, hN.warm hW⟩⟩
theorem pt_R.preV {D : va_G} {cl : List vw_C} {tys : List (ClassId × FieldType)} {ws : va_W} {nw : List Cond} {As : List Value} {s : State} {H : Heap} {b ci q0 : Nat} {q : vw_C} {fs : List Value} (hP : va_P D cl ws H) (hK : va_K D cl tys s) (hN : pt_NW nw s) (hc : cl[ci]? = some q) (he : ws[q0]? = some (b, .inr (ci, fs))) : PreV s H q.1 b (pt_R D cl tys ws nw (.ref b :: As)) As :=
  ⟨pt_R.blind, va_recv hK hP hc he, (pt_R.preS hP hK hN).2⟩
/-! contracts that write: one world, whose addresses stay -/
def pt_W (D : va_G) (cl : List vw_C) (tys : List (ClassId × FieldType)) (ws : va_W) (nw : List Cond) (sz : Nat) (av : List Value) : Array Value → State → Prop := va_Pc av (fun U => U.heap.size = sz ∧ va_P D cl ws U.heap ∧ va_K D cl tys U ∧ pt_NW nw U ∧ va_D (fun _ => True) ws)
theorem pt_W.blind {D : va_G} {cl : List vw_C} {tys : List (ClassId × FieldType)} {ws : va_W} {nw : List Cond} {sz : Nat} {av : List Value} : FrameBlind (pt_W D cl tys ws nw sz av) :=
  fun a U g mk q => ⟨q.1, q.2.1, q.2.2.1, va_K.moved (u := U) (U := U.calling g mk a) (Vm.Alike.refl U.vm) q.2.2.2.1, pt_NW.same (u := U) (U := U.calling g mk a) rfl q.2.2.2.2.1, q.2.2.2.2.2⟩
theorem pt_W.preS {D : va_G} {cl : List vw_C} {tys : List (ClassId × FieldType)} {ws : va_W} {nw : List Cond} {av : List Value} {s : State} {H : Heap} {A : Nat → Prop} (hP : va_P D cl ws H) (hK : va_K D cl tys s) (hN : pt_NW nw s) (hD : va_D A ws) : PreS s H (pt_W D cl tys ws nw H.size av) av :=
  ⟨pt_W.blind, fun U hU hW => ⟨rfl, by rw [hU], by rw [hU]; exact hP, va_K.moved hW.alike hK, hN.warm hW, hD.weaken (fun _ _ _ _ => trivial)⟩⟩
theorem pt_W.preV {D : va_G} {cl : List vw_C} {tys : List (ClassId × FieldType)} {ws : va_W} {nw : List Cond} {As : List Value} {s : State} {H : Heap} {A : Nat → Prop} {b ci q0 : Nat} {q : vw_C} {fs : List Value} (hP : va_P D cl ws H) (hK : va_K D cl tys s) (hN : pt_NW nw s) (hD : va_D A ws) (hc : cl[ci]? = some q) (he : ws[q0]? = some (b, .inr (ci, fs))) : PreV s H q.1 b (pt_W D cl tys ws nw H.size (.ref b :: As)) As :=
  ⟨pt_W.blind, va_recv hK hP hc he, (pt_W.preS hP hK hN hD).2⟩
theorem pt_addr {w w' : va_W} (e : w'.map Prod.fst = w.map Prod.fst) {k : Nat} {q : Nat × va_E} (h : w'[k]? = some q) : ∃ q', w[k]? = some q' ∧ q'.1 = q.1 := by
  have h1 : (w'.map Prod.fst)[k]? = some q.1 := by rw [List.getElem?_map, h]; rfl
  rw [e, List.getElem?_map] at h1
  cases h2 : w[k]? with
  | none => rw [h2] at h1; cases h1
  | some q' => rw [h2] at h1; exact ⟨q', rfl, Option.some.inj h1⟩
theorem pt_Dsame {A : Nat → Prop} {w w' : va_W} (h : va_D A w) (e : w'.map Prod.fst = w.map Prod.fst) : va_D A w' := by
  refine ⟨fun i j x y hx hy hxy => ?_, fun k q hk => ?_⟩
  · obtain ⟨x', hx', ex⟩ := pt_addr e hx
    obtain ⟨y', hy', ey⟩ := pt_addr e hy
    exact h.1 i j x' y' hx' hy' (by rw [ex, ey, hxy])
  · obtain ⟨q', hq', eq⟩ := pt_addr e hk
    rw [← eq]
    exact h.2 k q' hq'
/-- what a callee may write lies in the caller's part, if its world does -/
theorem pt_free {A0 : Nat → Prop} {ws : va_W} {H0 H : Heap} {locs : List Loc} (hD : va_D A0 ws) (hS : va_S A0 H0 H locs) (hA : ∀ q, H0.size ≤ q → A0 q) : ∀ q, va_A ws H.size q → A0 q := by
  intro q h
  rcases h with ⟨k, e, h⟩ | h
  · exact hD.2 k (q, e) h
  · exact hA q (Nat.le_trans hS.1 h)
section PTC
variable {p : Program} {l : Launch} {e : Env} {R : Room} {s : State} {m : MethodId} {args : Array Value} {below : List Frame} {meth : Method} {c : Code} {H : Heap} {locs : List Loc} {cells slots : Nat} {Q : State → Prop}
variable {pc : Nat} {ls : Array Slot} {rest st0 : List Value} {a : Array Value} {A0 : Nat → Prop} {H0 : Heap} {D : va_G} {cl : List vw_C} {ws : va_W}
theorem pt_calli {S : Type} {post : Int32 → S → Prop} {wf : S → va_W} (hr : va_Run p l e R s m args below meth c H locs cells slots 0 0 (F0 m pc ls st0) rest (va_Qi post (fun u t => va_P D cl (wf u) t.heap) (va_A ws H.size) a) (va_A ws H.size)) (hD : va_D A0 ws) (hS : va_S A0 H0 H locs) (hA : ∀ q, H0.size ≤ q → A0 q) (he : ∀ u, (wf u).map Prod.fst = ws.map Prod.fst)
    (kk : ∀ (r : Int32) (u : S) (H1 : Heap) (locs1 : List Loc), post r u → va_P D cl (wf u) H1 → va_D A0 (wf u) → va_S A0 H0 H1 locs1 → W p l e R s m args below meth c H1 locs1 cells slots Q (F0 m (pc + 3) ls (.int r :: rest))) : W p l e R s m args below meth c H locs cells slots Q (F0 m pc ls st0) :=
  va_calli hr hS (fun q _ h => pt_free hD hS hA q h) (pt_free hD hS hA) (fun r u t H1 locs1 ht _ hp hB _ _ hS1 => kk r u H1 locs1 hp (by rw [← ht]; exact hB) (pt_Dsame hD (he u)) hS1)
theorem pt_calll {S : Type} {post : Int64 → S → Prop} {wf : S → va_W} (hr : va_Run p l e R s m args below meth c H locs cells slots 0 0 (F0 m pc ls st0) rest (va_Ql post (fun u t => va_P D cl (wf u) t.heap) (va_A ws H.size) a) (va_A ws H.size)) (hD : va_D A0 ws) (hS : va_S A0 H0 H locs) (hA : ∀ q, H0.size ≤ q → A0 q) (he : ∀ u, (wf u).map Prod.fst = ws.map Prod.fst)
    (kk : ∀ (r : Int64) (u : S) (H1 : Heap) (locs1 : List Loc), post r u → va_P D cl (wf u) H1 → va_D A0 (wf u) → va_S A0 H0 H1 locs1 → W p l e R s m args below meth c H1 locs1 cells slots Q (F0 m (pc + 3) ls (.long r :: rest))) : W p l e R s m args below meth c H locs cells slots Q (F0 m pc ls st0) :=
  va_calll hr hS (fun q _ h => pt_free hD hS hA q h) (pt_free hD hS hA) (fun r u t H1 locs1 ht _ hp hB _ _ hS1 => kk r u H1 locs1 hp (by rw [← ht]; exact hB) (pt_Dsame hD (he u)) hS1)
theorem pt_callv {S : Type} {post : S → Prop} {wf : S → va_W} (hr : va_Run p l e R s m args below meth c H locs cells slots 0 0 (F0 m pc ls st0) rest (va_Qv post (fun u t => va_P D cl (wf u) t.heap) (va_A ws H.size) a) (va_A ws H.size)) (hD : va_D A0 ws) (hS : va_S A0 H0 H locs) (hA : ∀ q, H0.size ≤ q → A0 q) (he : ∀ u, (wf u).map Prod.fst = ws.map Prod.fst)
    (kk : ∀ (u : S) (H1 : Heap) (locs1 : List Loc), post u → va_P D cl (wf u) H1 → va_D A0 (wf u) → va_S A0 H0 H1 locs1 → W p l e R s m args below meth c H1 locs1 cells slots Q (F0 m (pc + 3) ls rest)) : W p l e R s m args below meth c H locs cells slots Q (F0 m pc ls st0) :=
  va_callv hr hS (fun q _ h => pt_free hD hS hA q h) (pt_free hD hS hA) (fun u t H1 locs1 ht _ hp hB _ _ hS1 => kk u H1 locs1 hp (by rw [← ht]; exact hB) (pt_Dsame hD (he u)) hS1)
theorem pt_rdi {post : Int32 → Prop} (hr : va_Run p l e R s m args below meth c H locs cells slots 0 0 (F0 m pc ls st0) rest (vp_Si post a) (fun _ => False))
    (kk : ∀ r : Int32, post r → W p l e R s m args below meth c H locs cells slots Q (F0 m (pc + 3) ls (.int r :: rest))) : W p l e R s m args below meth c H locs cells slots Q (F0 m pc ls st0) := vp_callSi hr.run kk
theorem pt_rdl {post : Int64 → Prop} (hr : va_Run p l e R s m args below meth c H locs cells slots 0 0 (F0 m pc ls st0) rest (vp_Sl post a) (fun _ => False))
    (kk : ∀ r : Int64, post r → W p l e R s m args below meth c H locs cells slots Q (F0 m (pc + 3) ls (.long r :: rest))) : W p l e R s m args below meth c H locs cells slots Q (F0 m pc ls st0) := vp_callSl hr.run kk
/-- a loop that only reads -/
theorem pt_loopR {α : Type} (μ : α → Nat) (I : α → Array Slot → Prop) (hs : ∀ (x : α) (ls : Array Slot), I x ls → (∀ (y : α) (ls' : Array Slot), I y ls' → μ y < μ x → W p l e R s m args below meth c H locs cells slots Q (F0 m pc ls' rest)) → W p l e R s m args below meth c H locs cells slots Q (F0 m pc ls rest)) (x : α) (ls : Array Slot) (h : I x ls) : W p l e R s m args below meth c H locs cells slots Q (F0 m pc ls rest) := by
  have key : ∀ (n : Nat) (x : α) (ls : Array Slot), μ x < n → I x ls → W p l e R s m args below meth c H locs cells slots Q (F0 m pc ls rest) := by
    intro n
    induction n with
    | zero => intro x ls hn; exact absurd hn (Nat.not_lt_zero _)
    | succ n ih => intro x ls hn hI; exact hs x ls hI (fun y ls' hy hm => ih y ls' (by omega) hy)
  exact key (μ x + 1) x ls (Nat.lt_succ_self _) h
/-- a loop that writes -/
theorem pt_loopW {α : Type} (μ : α → Nat) (I : α → Array Slot → Heap → List Loc → Prop) (hs : ∀ (x : α) (ls : Array Slot) (H : Heap) (locs : List Loc), I x ls H locs → (∀ (y : α) (ls' : Array Slot) (H' : Heap) (locs' : List Loc), I y ls' H' locs' → μ y < μ x → W p l e R s m args below meth c H' locs' cells slots Q (F0 m pc ls' rest)) → W p l e R s m args below meth c H locs cells slots Q (F0 m pc ls rest)) (x : α) (ls : Array Slot) (H : Heap) (locs : List Loc) (h : I x ls H locs) : W p l e R s m args below meth c H locs cells slots Q (F0 m pc ls rest) := by
  have key : ∀ (n : Nat) (x : α) (ls : Array Slot) (H : Heap) (locs : List Loc), μ x < n → I x ls H locs → W p l e R s m args below meth c H locs cells slots Q (F0 m pc ls rest) := by
    intro n
    induction n with
    | zero => intro x ls H locs hn; exact absurd hn (Nat.not_lt_zero _)
    | succ n ih => intro x ls H locs hn hI; exact hs x ls H locs hI (fun y ls' H' locs' hy hm => ih y ls' H' locs' (by omega) hy)
  exact key (μ x + 1) x ls H locs (Nat.lt_succ_self _) h
end PTC
section PTA
variable {p : Program} {l : Launch} {e : Env} {R : Room} {s : State} {m : MethodId} {args : Array Value} {below : List Frame} {meth : Method} {c : Code} {H : Heap} {locs : List Loc} {cells slots : Nat} {Q : State → Prop}
variable {cc : ByteArray} {pc : Nat} {ls : Array Slot} {rest : List Value} {D : va_G} {cl : List vw_C} {A : Nat → Prop} {a : Nat} {tys : List (ClassId × FieldType)} {ws : va_W} {H0 : Heap}
theorem pt_iald (hexec : p.tables.exec = Jvm.exec) (hb : c.code = cc) (hK : va_K D cl tys s) (hP : va_P D cl ws H) (q0 t0 : Nat) {cA : ClassId} {n : Nat} {f : Nat → Int32} (ha : ws[q0]? = some (a, .inl (cA, n, .inl f))) (ht : tys[t0]? = some (cA, .int)) (k : Nat) {i : Int32} (hi : i = nI k) (hk : k < n) (hn : n < 2 ^ 31) (hdg : decode cc pc = .ok (.iaload, 1))
    (kk : W p l e R s m args below meth c H locs cells slots Q (F0 m (pc + 1) ls (.int (f k) :: rest))) : W p l e R s m args below meth c H locs cells slots Q (F0 m pc ls (.int i :: .ref a :: rest)) := by
  subst hi
  refine va_iald hexec hb hK hP q0 t0 ha ht (vp_in_nI hk hn) hdg ?_
  rw [nI_clamp (by omega)]
  exact kk
theorem pt_zald (hexec : p.tables.exec = Jvm.exec) (hb : c.code = cc) (hK : va_K D cl tys s) (hP : va_P D cl ws H) (q0 t0 : Nat) {cA : ClassId} {n : Nat} {f : Nat → Int32} (ha : ws[q0]? = some (a, .inl (cA, n, .inl f))) (ht : tys[t0]? = some (cA, .boolean)) (k : Nat) {i : Int32} (hi : i = nI k) (hk : k < n) (hn : n < 2 ^ 31) (hdg : decode cc pc = .ok (.baload, 1))
    (kk : W p l e R s m args below meth c H locs cells slots Q (F0 m (pc + 1) ls (.int (f k) :: rest))) : W p l e R s m args below meth c H locs cells slots Q (F0 m pc ls (.int i :: .ref a :: rest)) := by
  subst hi
  refine va_zald hexec hb hK hP q0 t0 ha ht (vp_in_nI hk hn) hdg ?_
  rw [nI_clamp (by omega)]
  exact kk
theorem pt_lald (hexec : p.tables.exec = Jvm.exec) (hb : c.code = cc) (hK : va_K D cl tys s) (hP : va_P D cl ws H) (q0 t0 : Nat) {cA : ClassId} {n : Nat} {f : Nat → Int64} (ha : ws[q0]? = some (a, .inl (cA, n, .inr (.inl f)))) (ht : tys[t0]? = some (cA, .long)) (k : Nat) {i : Int32} (hi : i = nI k) (hk : k < n) (hn : n < 2 ^ 31) (hdg : decode cc pc = .ok (.laload, 1))
    (kk : W p l e R s m args below meth c H locs cells slots Q (F0 m (pc + 1) ls (.long (f k) :: rest))) : W p l e R s m args below meth c H locs cells slots Q (F0 m pc ls (.int i :: .ref a :: rest)) := by
  subst hi
  refine va_lald hexec hb hK hP q0 t0 ha ht (vp_in_nI hk hn) hdg ?_
  rw [nI_clamp (by omega)]
  exact kk
theorem pt_iast (hexec : p.tables.exec = Jvm.exec) (hb : c.code = cc) (hK : va_K D cl tys s) (hP : va_P D cl ws H) (hD : va_D A ws) (hS : va_S A H0 H locs) (q0 t0 : Nat) {cA : ClassId} {n : Nat} {f : Nat → Int32} (ha : ws[q0]? = some (a, .inl (cA, n, .inl f))) (ht : tys[t0]? = some (cA, .int)) (k : Nat) {i : Int32} {x : Int32} (hi : i = nI k) (hk : k < n) (hn : n < 2 ^ 31) {ws' : va_W} (hw : ws.set q0 (a, .inl (cA, n, .inl (upd f k x))) = ws') (hdg : decode cc pc = .ok (.iastore, 1))
    (kk : ∀ (H1 : Heap) (locs1 : List Loc), va_P D cl ws' H1 → va_D A ws' → va_S A H0 H1 locs1 → W p l e R s m args below meth c H1 locs1 cells slots Q (F0 m (pc + 1) ls rest)) : W p l e R s m args below meth c H locs cells slots Q (F0 m pc ls (.int x :: .int i :: .ref a :: rest)) := by
  subst hi
  subst hw
  refine va_iast hexec hb hK hP hD hS q0 t0 ha ht (vp_in_nI hk hn) hdg ?_
  rw [nI_clamp (by omega)]
  exact kk
theorem pt_zast (hexec : p.tables.exec = Jvm.exec) (hb : c.code = cc) (hK : va_K D cl tys s) (hP : va_P D cl ws H) (hD : va_D A ws) (hS : va_S A H0 H locs) (q0 t0 : Nat) {cA : ClassId} {n : Nat} {f : Nat → Int32} (ha : ws[q0]? = some (a, .inl (cA, n, .inl f))) (ht : tys[t0]? = some (cA, .boolean)) (k : Nat) {i : Int32} {x : Int32} (hi : i = nI k) (hk : k < n) (hn : n < 2 ^ 31) (hv : vp_nar .boolean x = x) {ws' : va_W} (hw : ws.set q0 (a, .inl (cA, n, .inl (upd f k x))) = ws') (hdg : decode cc pc = .ok (.bastore, 1))
    (kk : ∀ (H1 : Heap) (locs1 : List Loc), va_P D cl ws' H1 → va_D A ws' → va_S A H0 H1 locs1 → W p l e R s m args below meth c H1 locs1 cells slots Q (F0 m (pc + 1) ls rest)) : W p l e R s m args below meth c H locs cells slots Q (F0 m pc ls (.int x :: .int i :: .ref a :: rest)) := by
  subst hi
  subst hw
  refine va_zast hexec hb hK hP hD hS q0 t0 ha ht (vp_in_nI hk hn) hdg ?_
  rw [nI_clamp (by omega), hv]
  exact kk
theorem pt_last (hexec : p.tables.exec = Jvm.exec) (hb : c.code = cc) (hK : va_K D cl tys s) (hP : va_P D cl ws H) (hD : va_D A ws) (hS : va_S A H0 H locs) (q0 t0 : Nat) {cA : ClassId} {n : Nat} {f : Nat → Int64} (ha : ws[q0]? = some (a, .inl (cA, n, .inr (.inl f)))) (ht : tys[t0]? = some (cA, .long)) (k : Nat) {i : Int32} {x : Int64} (hi : i = nI k) (hk : k < n) (hn : n < 2 ^ 31) {ws' : va_W} (hw : ws.set q0 (a, .inl (cA, n, .inr (.inl (vp_updL f k x)))) = ws') (hdg : decode cc pc = .ok (.lastore, 1))
    (kk : ∀ (H1 : Heap) (locs1 : List Loc), va_P D cl ws' H1 → va_D A ws' → va_S A H0 H1 locs1 → W p l e R s m args below meth c H1 locs1 cells slots Q (F0 m (pc + 1) ls rest)) : W p l e R s m args below meth c H locs cells slots Q (F0 m pc ls (.long x :: .int i :: .ref a :: rest)) := by
  subst hi
  subst hw
  refine va_last hexec hb hK hP hD hS q0 t0 ha ht (vp_in_nI hk hn) hdg ?_
  rw [nI_clamp (by omega)]
  exact kk
end PTA
section PTT
variable {p : Program} {l : Launch} {e : Env} {R : Room} {s : State} {m : MethodId} {args : Array Value} {below : List Frame} {meth : Method} {c : Code} {H : Heap} {locs : List Loc} {cells slots : Nat} {Q : State → Prop} {pc : Nat} {ls : Array Slot} {rest : List Value}
theorem pt_top {x y : Int32} (h : x = y) (k : W p l e R s m args below meth c H locs cells slots Q (F0 m pc ls (.int y :: rest))) : W p l e R s m args below meth c H locs cells slots Q (F0 m pc ls (.int x :: rest)) := h ▸ k
theorem pt_topl {x y : Int64} (h : x = y) (k : W p l e R s m args below meth c H locs cells slots Q (F0 m pc ls (.long y :: rest))) : W p l e R s m args below meth c H locs cells slots Q (F0 m pc ls (.long x :: rest)) := h ▸ k
end PTT
abbrev pt_rm (k : Nat) : Room := { frames := k, cells := 0, slots := 0, locals := 40 * k }
end
section
/-! The worlds: F k is the field of slot k, A k what the array of slot k holds (of a Boxes: its ends), a k where it lies (a Boxes of slot k: its ends at a (k + 20)), c k the array's class. -/
def pt_xw (a : Nat → Nat) (c : Nat → ClassId) (F : Nat → Int32) (A : Nat → Nat → Int32) (Q : Nat → Int64) : va_W := [(a 0, .inr (1, [.int (F 0), .int (F 1), .int (F 2), .ref (a 3), .ref (a 4), .int (F 5), .int (F 6), .ref (a 7), .ref (a 8), .ref (a 9), .ref (a 10), .ref (a 11), .ref (a 12), .ref (a 13), .ref (a 14), .int (F 15), .ref (a 16), .ref (a 17)])), (a 3, .inl (c 3, 64, .inl (A 3))), (a 4, .inr (0, [.ref (a 24)])), (a 24, .inl (c 4, 384, .inl (A 4))), (a 7, .inl (c 7, 64, .inl (A 7))), (a 8, .inl (c 8, 31, .inl (A 8))), (a 9, .inl (c 9, 31, .inl (A 9))), (a 10, .inl (c 10, 31, .inl (A 10))), (a 11, .inl (c 11, 31, .inl (A 11))), (a 12, .inr (0, [.ref (a 32)])), (a 32, .inl (c 12, 186, .inl (A 12))), (a 13, .inr (0, [.ref (a 33)])), (a 33, .inl (c 13, 6, .inl (A 13))), (a 14, .inl (c 14, 64, .inl (A 14))), (a 16, .inl (c 16, 3, .inl (A 16))), (a 17, .inl (c 17, 64, .inr (.inl Q)))]
def pt_xt (c : Nat → ClassId) : List (ClassId × FieldType) := [(c 3, .boolean), (c 4, .int), (c 7, .int), (c 8, .int), (c 9, .int), (c 10, .int), (c 11, .int), (c 12, .int), (c 13, .int), (c 14, .boolean), (c 16, .int), (c 17, .long)]
def pt_mw (a : Nat → Nat) (c : Nat → ClassId) (F : Nat → Int32) (A : Nat → Nat → Int32) : va_W := [(a 0, .inr (2, [.int (F 0), .int (F 1), .int (F 2), .ref (a 3), .ref (a 4), .ref (a 5), .ref (a 6), .ref (a 7), .int (F 8), .ref (a 9), .ref (a 10), .ref (a 11), .ref (a 12), .ref (a 13), .ref (a 14), .int (F 15), .ref (a 16), .ref (a 17), .ref (a 18), .ref (a 19), .ref (a 20), .ref (a 21), .ref (a 22), .int (F 23), .int (F 24), .int (F 25), .int (F 26)])), (a 3, .inl (c 3, 64, .inl (A 3))), (a 4, .inl (c 4, 192, .inl (A 4))), (a 5, .inl (c 5, 192, .inl (A 5))), (a 6, .inl (c 6, 64, .inl (A 6))), (a 7, .inl (c 7, 64, .inl (A 7))), (a 9, .inl (c 9, 64, .inl (A 9))), (a 10, .inl (c 10, 64, .inl (A 10))), (a 11, .inl (c 11, 64, .inl (A 11))), (a 12, .inl (c 12, 64, .inl (A 12))), (a 13, .inl (c 13, 192, .inl (A 13))), (a 14, .inl (c 14, 192, .inl (A 14))), (a 16, .inl (c 16, 64, .inl (A 16))), (a 17, .inl (c 17, 64, .inl (A 17))), (a 18, .inl (c 18, 64, .inl (A 18))), (a 19, .inl (c 19, 64, .inl (A 19))), (a 20, .inl (c 20, 3, .inl (A 20))), (a 21, .inl (c 21, 3, .inl (A 21))), (a 22, .inl (c 22, 64, .inl (A 22)))]
def pt_mt (c : Nat → ClassId) : List (ClassId × FieldType) := [(c 3, .boolean), (c 4, .int), (c 5, .int), (c 6, .boolean), (c 7, .int), (c 9, .int), (c 10, .int), (c 11, .int), (c 12, .int), (c 13, .int), (c 14, .int), (c 16, .int), (c 17, .int), (c 18, .int), (c 19, .int), (c 20, .int), (c 21, .int), (c 22, .boolean)]
abbrev pt_XS : Type := (Nat → Int32) × (Nat → Nat → Int32) × (Nat → Int64)
abbrev pt_MS : Type := (Nat → Int32) × (Nat → Nat → Int32)
def pt_nw : List Cond := [.methodLinkNest RX1 21 yX0_init "PointTrees", .methodLinkNest RX1 79 yX0_put "PointTrees", .methodLinkNest RX1 93 yX0_at "PointTrees", .methodLinkNest RX1 161 yX0_copyFrom "PointTrees", .methodLinkNest RX1 165 yX0_widen "PointTrees", .methodLinkNest RX1 171 yX0_sum "PointTrees", .methodLinkNest RX1 192 yX0_within "PointTrees", .methodLinkNest RX1 129 yX0_meet "PointTrees", .methodLinkNest RX1 121 yX0_squareTo "PointTrees"]
theorem pt_nest {U : State} (h : pt_NW pt_nw U) (i : Nat) {w : Cond} (e : pt_nw[i]? = some w) : va_Nw w U := h.2 w (List.mem_of_getElem? e)
theorem pt_pv0 {D : va_G} {tys : List (ClassId × FieldType)} {ws : va_W} {nw : List Cond} {As : List Value} {s : State} {H : Heap} {b q0 : Nat} {fs : List Value} (hP : va_P D vwCl ws H) (hK : va_K D vwCl tys s) (hN : pt_NW nw s) (he : ws[q0]? = some (b, .inr (0, fs))) : PreV s H RX0 b (pt_R D vwCl tys ws nw (.ref b :: As)) As := pt_R.preV hP hK hN (ci := 0) (q := (RX0, TX0, 1)) rfl he
theorem pt_wv0 {D : va_G} {tys : List (ClassId × FieldType)} {ws : va_W} {nw : List Cond} {As : List Value} {s : State} {H : Heap} {A : Nat → Prop} {b q0 : Nat} {fs : List Value} (hP : va_P D vwCl ws H) (hK : va_K D vwCl tys s) (hN : pt_NW nw s) (hD : va_D A ws) (he : ws[q0]? = some (b, .inr (0, fs))) : PreV s H RX0 b (pt_W D vwCl tys ws nw H.size (.ref b :: As)) As := pt_W.preV hP hK hN hD (ci := 0) (q := (RX0, TX0, 1)) rfl he
theorem pt_pv1 {D : va_G} {tys : List (ClassId × FieldType)} {ws : va_W} {nw : List Cond} {As : List Value} {s : State} {H : Heap} {b q0 : Nat} {fs : List Value} (hP : va_P D vwCl ws H) (hK : va_K D vwCl tys s) (hN : pt_NW nw s) (he : ws[q0]? = some (b, .inr (1, fs))) : PreV s H RX1 b (pt_R D vwCl tys ws nw (.ref b :: As)) As := pt_R.preV hP hK hN (ci := 1) (q := (RX1, TX1, 18)) rfl he
theorem pt_wv1 {D : va_G} {tys : List (ClassId × FieldType)} {ws : va_W} {nw : List Cond} {As : List Value} {s : State} {H : Heap} {A : Nat → Prop} {b q0 : Nat} {fs : List Value} (hP : va_P D vwCl ws H) (hK : va_K D vwCl tys s) (hN : pt_NW nw s) (hD : va_D A ws) (he : ws[q0]? = some (b, .inr (1, fs))) : PreV s H RX1 b (pt_W D vwCl tys ws nw H.size (.ref b :: As)) As := pt_W.preV hP hK hN hD (ci := 1) (q := (RX1, TX1, 18)) rfl he
theorem pt_pv2 {D : va_G} {tys : List (ClassId × FieldType)} {ws : va_W} {nw : List Cond} {As : List Value} {s : State} {H : Heap} {b q0 : Nat} {fs : List Value} (hP : va_P D vwCl ws H) (hK : va_K D vwCl tys s) (hN : pt_NW nw s) (he : ws[q0]? = some (b, .inr (2, fs))) : PreV s H RX2 b (pt_R D vwCl tys ws nw (.ref b :: As)) As := pt_R.preV hP hK hN (ci := 2) (q := (RX2, TX2, 27)) rfl he
theorem pt_wv2 {D : va_G} {tys : List (ClassId × FieldType)} {ws : va_W} {nw : List Cond} {As : List Value} {s : State} {H : Heap} {A : Nat → Prop} {b q0 : Nat} {fs : List Value} (hP : va_P D vwCl ws H) (hK : va_K D vwCl tys s) (hN : pt_NW nw s) (hD : va_D A ws) (he : ws[q0]? = some (b, .inr (2, fs))) : PreV s H RX2 b (pt_W D vwCl tys ws nw H.size (.ref b :: As)) As := pt_W.preV hP hK hN hD (ci := 2) (q := (RX2, TX2, 27)) rfl he
theorem pt_setaddr {ws : va_W} {q : Nat} {b : Nat} {x y : va_E} (h : ws[q]? = some (b, x)) : (ws.set q (b, y)).map Prod.fst = ws.map Prod.fst := by
  rw [List.map_set]
  refine List.ext_getElem? fun i => ?_
  rw [List.getElem?_set]
  by_cases hi : q = i
  · subst hi
    rw [if_pos rfl, List.getElem?_map, h]
    split
    · rfl
    · rename_i hn
      rw [List.length_map] at hn
      exact absurd (List.getElem?_eq_some_iff.mp h).1 hn
  · rw [if_neg hi]
theorem pt_up {α : Type} {f : Nat → α} {k : Nat} {v : α} : va_up f k v k = v := by simp [va_up]
theorem pt_up_ne {α : Type} {f : Nat → α} {k j : Nat} {v : α} (h : j ≠ k) : va_up f k v j = f j := by simp [va_up, h]
theorem pt_upd {f : Nat → Int32} {k : Nat} {v : Int32} : upd f k v k = v := by simp [upd]
theorem pt_upd_ne {f : Nat → Int32} {k j : Nat} {v : Int32} (h : j ≠ k) : upd f k v j = f j := by simp [upd, h]
end
section
theorem wd_c_X0_at_X0_at_0 : Cond.fieldLink RX0 11 "PointTrees$Boxes" "ends" "[I" ∈ wsX0_at := by decide +kernel
theorem iw_c_X0_at_wsX00 : ∀ w ∈ wsX00, w ∈ wsX0_at := fun _ h => List.mem_cons_of_mem _ (List.mem_append_right _ h)
set_option maxHeartbeats 4000000 in
set_option maxRecDepth 100000 in
/-- Boxes.at -/
theorem c_X0_at (l : Launch) (dC : Nat → ClassId) (dI : Nat → Nat → Nat) (tys : List (ClassId × FieldType)) (ws : va_W) (q0 q1 t0 h b : Nat) (cA : ClassId) (n : Nat) (f : Nat → Int32) (e0 : ws[q0]? = some (h, .inr (0, [.ref b]))) (e1 : ws[q1]? = some (b, .inl (cA, n, .inl f))) (et : tys[t0]? = some (cA, .int)) (hn : n < 2 ^ 31) (x y z : Nat) (hk : x * 6 + y * 2 + z < n) : Met l yX0_at wsX0_at (pt_rm 0) (pt_R (dC, dI) vwCl tys ws pt_nw [.ref h, .int (nI x), .int (nI y), .int (nI z)]) (vp_Si (fun r => r = f (x * 6 + y * 2 + z))) 0 0 (fun _ => False) := by
  refine Met.ofW (cc := cX0_at) (maxL := 4) (ret := (some .int)) (by decide) rfl ?_
  intro p e s m args below meth cd s₁ B hml hv
  obtain ⟨rfl, hP, hK, hN⟩ := hv
  have hx := B.exec
  have hb := B.bytes
  have hr := B.returns
  have hts := atoms_spec (ws := wsX0_at) B.pre
  have hown : s.vm.findClass RX0 = some m.cls := findClass_of_methodNamed B.named
  have hlocks := B.notSynchronized
  have hl := lv_entry ([.ref h, .int (nI x), .int (nI y), .int (nI z)]) (n := 4) (Nat.le_of_ble_eq_true rfl)
  rw [lg_entry_eq]
  generalize (lg_sl ([.ref h, .int (nI x), .int (nI y), .int (nI z)]) ++ List.replicate (4 - (lg_sl ([.ref h, .int (nI x), .int (nI y), .int (nI z)])).length) Slot.unset).toArray = ls at hl ⊢
  have hl : lv_has ls 4 [(0, .ref h), (1, .int (nI x)), (2, .int (nI y)), (3, .int (nI z))] := hl
  refine lv_aload_n hx hb dX0_at_0 rfl (lv_at hl 0 rfl) ?_
  refine va_get (D := (dC, dI)) (ci := 0) (v := .ref b) (C := RX0) (T := TX0) (N := 1) hx hb hts iw_c_X0_at_wsX00 hown hK hP q0 e0 rfl 0 (by decide) (hts _ wd_c_X0_at_X0_at_0) (fun _ h9 => h9) rfl dX0_at_1 ?_
  refine lv_iload_n hx hb dX0_at_4 rfl (lv_at hl 1 rfl) ?_
  refine lv_bipush (v := nI 6) hx hb dX0_at_5 (by decide) ?_
  refine lv_imul hx hb dX0_at_7 ?_
  refine pt_top (y := nI (x * 6)) (pk_mul _ _) ?_
  refine lv_iload_n hx hb dX0_at_8 rfl (lv_at hl 2 rfl) ?_
  refine lv_iconst (v := nI 2) hx hb dX0_at_9 (by decide) ?_
  refine lv_imul hx hb dX0_at_10 ?_
  refine pt_top (y := nI (y * 2)) (pk_mul _ _) ?_
  refine lv_iadd hx hb dX0_at_11 ?_
  refine pt_top (y := nI ((x * 6) + (y * 2))) (nI_add _ _) ?_
  refine lv_iload_n hx hb dX0_at_12 rfl (lv_at hl 3 rfl) ?_
  refine lv_iadd hx hb dX0_at_13 ?_
  refine pt_top (y := nI (((x * 6) + (y * 2)) + z)) (nI_add _ _) ?_
  refine pt_iald hx hb hK hP q1 t0 e1 et (x * 6 + y * 2 + z) rfl hk hn dX0_at_14 ?_
  exact W.iret (v := (f (x * 6 + y * 2 + z))) hx hb hr (fun zt zh zW => ⟨_, rfl, rfl, zh⟩) (fun q h => by cases h) dX0_at_15

theorem iw_c_X0_sum_wsX00 : ∀ w ∈ wsX00, w ∈ wsX0_sum := fun _ h => List.mem_cons_of_mem _ (List.mem_append_right _ h)
set_option maxHeartbeats 4000000 in
set_option maxRecDepth 100000 in
/-- Boxes.sum -/
theorem c_X0_sum (l : Launch) (dC : Nat → ClassId) (dI : Nat → Nat → Nat) (tys : List (ClassId × FieldType)) (ws : va_W) (q0 q1 t0 h b : Nat) (cA : ClassId) (n : Nat) (f : Nat → Int32) (e0 : ws[q0]? = some (h, .inr (0, [.ref b]))) (e1 : ws[q1]? = some (b, .inl (cA, n, .inl f))) (et : tys[t0]? = some (cA, .int)) (hn : n < 2 ^ 31) (x y : Nat) (hk : x * 6 + y * 2 + 1 < n) : Met l yX0_sum wsX0_sum (pt_rm 1) (pt_R (dC, dI) vwCl tys ws pt_nw [.ref h, .int (nI x), .int (nI y)]) (vp_Si (fun r => r = f (x * 6 + y * 2 + 0) + f (x * 6 + y * 2 + 1))) 0 0 (fun _ => False) := by
  refine Met.ofW (cc := cX0_sum) (maxL := 3) (ret := (some .int)) (by decide) rfl ?_
  intro p e s m args below meth cd s₁ B hml hv
  obtain ⟨rfl, hP, hK, hN⟩ := hv
  have hx := B.exec
  have hb := B.bytes
  have hr := B.returns
  have hts := atoms_spec (ws := wsX0_sum) B.pre
  have hown : s.vm.findClass RX0 = some m.cls := findClass_of_methodNamed B.named
  have hlocks := B.notSynchronized
  have hl := lv_entry ([.ref h, .int (nI x), .int (nI y)]) (n := 3) (Nat.le_of_ble_eq_true rfl)
  rw [lg_entry_eq]
  generalize (lg_sl ([.ref h, .int (nI x), .int (nI y)]) ++ List.replicate (3 - (lg_sl ([.ref h, .int (nI x), .int (nI y)])).length) Slot.unset).toArray = ls at hl ⊢
  have hl : lv_has ls 3 [(0, .ref h), (1, .int (nI x)), (2, .int (nI y))] := hl
  refine lv_aload_n hx hb dX0_sum_0 rfl (lv_at hl 0 rfl) ?_
  refine lv_iload_n hx hb dX0_sum_1 rfl (lv_at hl 1 rfl) ?_
  refine lv_iload_n hx hb dX0_sum_2 rfl (lv_at hl 2 rfl) ?_
  refine lv_iconst (v := nI 0) hx hb dX0_sum_3 (by decide) ?_
  refine pt_rdi (va_runV (As := [.int (nI x), .int (nI y), .int (nI 0)]) (rest := []) ⟨hx, hb, hml, hown, hts⟩ (c_X0_at l dC dI (tys) (ws) q0 q1 t0 h b cA n f e0 e1 et hn x y 0 (by omega)) (cwV 3 hts gX0_sum_X0_at rfl rfl rfl (by decide +kernel) ⟨Nat.le_of_ble_eq_true rfl, Nat.le_of_ble_eq_true rfl⟩) (pt_pv0 hP hK hN (q0 := q0) e0) rfl rfl hl.1 rfl (lv_room (Nat.le_of_ble_eq_true rfl)) dX0_sum_4 ⟨Nat.le_of_ble_eq_true rfl, Nat.le_of_ble_eq_true rfl⟩) (fun r4 hr4 => ?_)
  refine pt_top (y := (f (x * 6 + y * 2 + 0))) hr4 ?_
  refine lv_aload_n hx hb dX0_sum_7 rfl (lv_at hl 0 rfl) ?_
  refine lv_iload_n hx hb dX0_sum_8 rfl (lv_at hl 1 rfl) ?_
  refine lv_iload_n hx hb dX0_sum_9 rfl (lv_at hl 2 rfl) ?_
  refine lv_iconst (v := nI 1) hx hb dX0_sum_10 (by decide) ?_
  refine pt_rdi (va_runV (As := [.int (nI x), .int (nI y), .int (nI 1)]) (rest := [.int (f (x * 6 + y * 2 + 0))]) ⟨hx, hb, hml, hown, hts⟩ (c_X0_at l dC dI (tys) (ws) q0 q1 t0 h b cA n f e0 e1 et hn x y 1 (by omega)) (cwV 3 hts gX0_sum_X0_at rfl rfl rfl (by decide +kernel) ⟨Nat.le_of_ble_eq_true rfl, Nat.le_of_ble_eq_true rfl⟩) (pt_pv0 hP hK hN (q0 := q0) e0) rfl rfl hl.1 rfl (lv_room (Nat.le_of_ble_eq_true rfl)) dX0_sum_11 ⟨Nat.le_of_ble_eq_true rfl, Nat.le_of_ble_eq_true rfl⟩) (fun r11 hr11 => ?_)
  refine pt_top (y := (f (x * 6 + y * 2 + 1))) hr11 ?_
  refine lv_iadd hx hb dX0_sum_14 ?_
  exact W.iret (v := ((f (x * 6 + y * 2 + 0)) + (f (x * 6 + y * 2 + 1)))) hx hb hr (fun zt zh zW => ⟨_, rfl, rfl, zh⟩) (fun q h => by cases h) dX0_sum_15

theorem iw_c_X0_meet_wsX00 : ∀ w ∈ wsX00, w ∈ wsX0_meet := fun _ h => List.mem_cons_of_mem _ (List.mem_append_right _ h)
set_option maxHeartbeats 4000000 in
set_option maxRecDepth 100000 in
/-- Boxes.meet -/
theorem c_X0_meet (l : Launch) (dC : Nat → ClassId) (dI : Nat → Nat → Nat) (tys : List (ClassId × FieldType)) (ws : va_W) (q0 q1 t0 h b : Nat) (cA : ClassId) (n : Nat) (f : Nat → Int32) (e0 : ws[q0]? = some (h, .inr (0, [.ref b]))) (e1 : ws[q1]? = some (b, .inl (cA, n, .inl f))) (et : tys[t0]? = some (cA, .int)) (hn : n < 2 ^ 31) (q2 q3 t1 h2 b2 : Nat) (cB : ClassId) (n2 : Nat) (g : Nat → Int32) (e2 : ws[q2]? = some (h2, .inr (0, [.ref b2]))) (e3 : ws[q3]? = some (b2, .inl (cB, n2, .inl g))) (et2 : tys[t1]? = some (cB, .int)) (hn2 : n2 < 2 ^ 31) (x y ax : Nat) (hx1 : x * 6 + 5 < n) (hy1 : y * 6 + 5 < n2) (hax : ax ≤ 3) : Met l yX0_meet wsX0_meet (pt_rm 1) (pt_R (dC, dI) vwCl tys ws pt_nw [.ref h, .int (nI x), .ref h2, .int (nI y), .int (nI ax)]) (vp_Si (fun r => pt_B r (∀ a, a < ax → f (x * 6 + a * 2 + 0) ≤ g (y * 6 + a * 2 + 1) ∧ g (y * 6 + a * 2 + 0) ≤ f (x * 6 + a * 2 + 1)))) 0 0 (fun _ => False) := by
  refine Met.ofW (cc := cX0_meet) (maxL := 6) (ret := (some .boolean)) (by decide) rfl ?_
  intro p e s m args below meth cd s₁ B hml hv
  obtain ⟨rfl, hP, hK, hN⟩ := hv
  have hx := B.exec
  have hb := B.bytes
  have hr := B.returns
  have hts := atoms_spec (ws := wsX0_meet) B.pre
  have hown : s.vm.findClass RX0 = some m.cls := findClass_of_methodNamed B.named
  have hlocks := B.notSynchronized
  have hl := lv_entry ([.ref h, .int (nI x), .ref h2, .int (nI y), .int (nI ax)]) (n := 6) (Nat.le_of_ble_eq_true rfl)
  rw [lg_entry_eq]
  generalize (lg_sl ([.ref h, .int (nI x), .ref h2, .int (nI y), .int (nI ax)]) ++ List.replicate (6 - (lg_sl ([.ref h, .int (nI x), .ref h2, .int (nI y), .int (nI ax)])).length) Slot.unset).toArray = ls at hl ⊢
  have hl : lv_has ls 6 [(0, .ref h), (1, .int (nI x)), (2, .ref h2), (3, .int (nI y)), (4, .int (nI ax))] := hl
  refine lv_iconst (v := nI 0) hx hb dX0_meet_0 (by decide) ?_
  refine lv_istore (lv' := [(5, .int (nI 0)), (0, .ref h), (1, .int (nI x)), (2, .ref h2), (3, .int (nI y)), (4, .int (nI ax))]) hx hb dX0_meet_1 hl (by decide) rfl (fun ls hl => ?_)
  refine pt_loopR (fun i : Nat => ax - i) (fun i ls => i ≤ ax ∧ (∀ a, a < i → f (x * 6 + a * 2 + 0) ≤ g (y * 6 + a * 2 + 1) ∧ g (y * 6 + a * 2 + 0) ≤ f (x * 6 + a * 2 + 1)) ∧ lv_has ls 6 [(5, .int (nI i)), (0, .ref h), (1, .int (nI x)), (2, .ref h2), (3, .int (nI y)), (4, .int (nI ax))]) ?_ 0 _ ⟨by omega, fun a ha => absurd ha (Nat.not_lt_zero _), hl⟩
  intro i ls ⟨hi, hall, hl⟩ ih
  refine lv_iload hx hb dX0_meet_3 (lv_at hl 0 rfl) ?_
  refine lv_iload hx hb dX0_meet_5 (lv_at hl 5 rfl) ?_
  refine lv_icmp_ge (tgt := 56) hx hb dX0_meet_7 (by decide) (fun c7 => ?_) (fun c7 => ?_)
  · have hie : i = ax := by have := (nI_leI (by omega) (by omega)).mp c7; omega
    subst hie
    refine lv_iconst (v := 1) hx hb dX0_meet_56 (by decide) ?_
    exact W.zret (v := 1) hx hb hr rfl (fun zt zh zW => ⟨_, rfl, pt_B.one hall, zh⟩) (fun q h => by cases h) dX0_meet_57
  · have hlt : i < ax := Nat.not_le.mp (fun q => c7 ((nI_leI (by omega) (by omega)).mpr q))
    refine lv_aload_n hx hb dX0_meet_10 rfl (lv_at hl 1 rfl) ?_
    refine lv_iload_n hx hb dX0_meet_11 rfl (lv_at hl 2 rfl) ?_
    refine lv_iload hx hb dX0_meet_12 (lv_at hl 0 rfl) ?_
    refine lv_iconst (v := nI 0) hx hb dX0_meet_14 (by decide) ?_
    refine pt_rdi (va_runV (As := [.int (nI x), .int (nI i), .int (nI 0)]) (rest := []) ⟨hx, hb, hml, hown, hts⟩ (c_X0_at l dC dI (tys) (ws) q0 q1 t0 h b cA n f e0 e1 et hn x i 0 (by omega)) (cwV 3 hts gX0_meet_X0_at rfl rfl rfl (by decide +kernel) ⟨Nat.le_of_ble_eq_true rfl, Nat.le_of_ble_eq_true rfl⟩) (pt_pv0 hP hK hN (q0 := q0) e0) rfl rfl hl.1 rfl (lv_room (Nat.le_of_ble_eq_true rfl)) dX0_meet_15 ⟨Nat.le_of_ble_eq_true rfl, Nat.le_of_ble_eq_true rfl⟩) (fun r15 hr15 => ?_)
    refine pt_top (y := (f (x * 6 + i * 2 + 0))) hr15 ?_
    refine lv_aload_n hx hb dX0_meet_18 rfl (lv_at hl 3 rfl) ?_
    refine lv_iload_n hx hb dX0_meet_19 rfl (lv_at hl 4 rfl) ?_
    refine lv_iload hx hb dX0_meet_20 (lv_at hl 0 rfl) ?_
    refine lv_iconst (v := nI 1) hx hb dX0_meet_22 (by decide) ?_
    refine pt_rdi (va_runV (As := [.int (nI y), .int (nI i), .int (nI 1)]) (rest := [.int (f (x * 6 + i * 2 + 0))]) ⟨hx, hb, hml, hown, hts⟩ (c_X0_at l dC dI tys ws q2 q3 t1 h2 b2 cB n2 g e2 e3 et2 hn2 y i 1 (by omega)) (cwV 3 hts gX0_meet_X0_at rfl rfl rfl (by decide +kernel) ⟨Nat.le_of_ble_eq_true rfl, Nat.le_of_ble_eq_true rfl⟩) (pt_pv0 hP hK hN (q0 := q2) e2) rfl rfl hl.1 rfl (lv_room (Nat.le_of_ble_eq_true rfl)) dX0_meet_23 ⟨Nat.le_of_ble_eq_true rfl, Nat.le_of_ble_eq_true rfl⟩) (fun r23 hr23 => ?_)
    refine pt_top (y := (g (y * 6 + i * 2 + 1))) hr23 ?_
    refine lv_icmp_gt (tgt := 48) hx hb dX0_meet_26 (by decide) (fun c26 => ?_) (fun c26 => ?_)
    · refine lv_iconst (v := 0) hx hb dX0_meet_48 (by decide) ?_
      exact W.zret (v := 0) hx hb hr rfl (fun zt zh zW => ⟨_, rfl, (pt_B.zero (fun q => Int32.not_le.mpr c26 (q i hlt).1)), zh⟩) (fun q h => by cases h) dX0_meet_49
    · refine lv_aload_n hx hb dX0_meet_29 rfl (lv_at hl 3 rfl) ?_
      refine lv_iload_n hx hb dX0_meet_30 rfl (lv_at hl 4 rfl) ?_
      refine lv_iload hx hb dX0_meet_31 (lv_at hl 0 rfl) ?_
      refine lv_iconst (v := nI 0) hx hb dX0_meet_33 (by decide) ?_
      refine pt_rdi (va_runV (As := [.int (nI y), .int (nI i), .int (nI 0)]) (rest := []) ⟨hx, hb, hml, hown, hts⟩ (c_X0_at l dC dI tys ws q2 q3 t1 h2 b2 cB n2 g e2 e3 et2 hn2 y i 0 (by omega)) (cwV 3 hts gX0_meet_X0_at rfl rfl rfl (by decide +kernel) ⟨Nat.le_of_ble_eq_true rfl, Nat.le_of_ble_eq_true rfl⟩) (pt_pv0 hP hK hN (q0 := q2) e2) rfl rfl hl.1 rfl (lv_room (Nat.le_of_ble_eq_true rfl)) dX0_meet_34 ⟨Nat.le_of_ble_eq_true rfl, Nat.le_of_ble_eq_true rfl⟩) (fun r34 hr34 => ?_)
      refine pt_top (y := (g (y * 6 + i * 2 + 0))) hr34 ?_
      refine lv_aload_n hx hb dX0_meet_37 rfl (lv_at hl 1 rfl) ?_
      refine lv_iload_n hx hb dX0_meet_38 rfl (lv_at hl 2 rfl) ?_
      refine lv_iload hx hb dX0_meet_39 (lv_at hl 0 rfl) ?_
      refine lv_iconst (v := nI 1) hx hb dX0_meet_41 (by decide) ?_
      refine pt_rdi (va_runV (As := [.int (nI x), .int (nI i), .int (nI 1)]) (rest := [.int (g (y * 6 + i * 2 + 0))]) ⟨hx, hb, hml, hown, hts⟩ (c_X0_at l dC dI (tys) (ws) q0 q1 t0 h b cA n f e0 e1 et hn x i 1 (by omega)) (cwV 3 hts gX0_meet_X0_at rfl rfl rfl (by decide +kernel) ⟨Nat.le_of_ble_eq_true rfl, Nat.le_of_ble_eq_true rfl⟩) (pt_pv0 hP hK hN (q0 := q0) e0) rfl rfl hl.1 rfl (lv_room (Nat.le_of_ble_eq_true rfl)) dX0_meet_42 ⟨Nat.le_of_ble_eq_true rfl, Nat.le_of_ble_eq_true rfl⟩) (fun r42 hr42 => ?_)
      refine pt_top (y := (f (x * 6 + i * 2 + 1))) hr42 ?_
      refine lv_icmp_le (tgt := 50) hx hb dX0_meet_45 (by decide) (fun c45 => ?_) (fun c45 => ?_)
      · have hone : f (x * 6 + i * 2 + 0) ≤ g (y * 6 + i * 2 + 1) ∧ g (y * 6 + i * 2 + 0) ≤ f (x * 6 + i * 2 + 1) := ⟨Int32.not_lt.mp c26, c45⟩
        refine lv_iinc (v := nI (i + 1)) (lv' := [(5, .int (nI (i + 1))), (0, .ref h), (1, .int (nI x)), (2, .ref h2), (3, .int (nI y)), (4, .int (nI ax))]) hx hb dX0_meet_50 hl (k := 0) rfl (nI_1 _) (by decide) rfl (fun ls hl => ?_)
        refine lv_goto (tgt := 3) hx hb dX0_meet_53 (by decide) ?_
        exact ih (i + 1) _ ⟨by omega, fun a ha => (Nat.lt_succ_iff_lt_or_eq.mp ha).elim (hall a) (fun q => by subst q; exact hone), lv_sub hl [0, 1, 2, 3, 4, 5] rfl⟩ (by omega)
      · refine lv_iconst (v := 0) hx hb dX0_meet_48 (by decide) ?_
        exact W.zret (v := 0) hx hb hr rfl (fun zt zh zW => ⟨_, rfl, (pt_B.zero (fun q => c45 (q i hlt).2)), zh⟩) (fun q h => by cases h) dX0_meet_49

theorem iw_c_X0_within_wsX00 : ∀ w ∈ wsX00, w ∈ wsX0_within := fun _ h => List.mem_cons_of_mem _ (List.mem_append_right _ h)
set_option maxHeartbeats 4000000 in
set_option maxRecDepth 100000 in
/-- Boxes.within -/
theorem c_X0_within (l : Launch) (dC : Nat → ClassId) (dI : Nat → Nat → Nat) (tys : List (ClassId × FieldType)) (ws : va_W) (q0 q1 t0 h b : Nat) (cA : ClassId) (n : Nat) (f : Nat → Int32) (e0 : ws[q0]? = some (h, .inr (0, [.ref b]))) (e1 : ws[q1]? = some (b, .inl (cA, n, .inl f))) (et : tys[t0]? = some (cA, .int)) (hn : n < 2 ^ 31) (q2 q3 t1 h2 b2 : Nat) (cB : ClassId) (n2 : Nat) (g : Nat → Int32) (e2 : ws[q2]? = some (h2, .inr (0, [.ref b2]))) (e3 : ws[q3]? = some (b2, .inl (cB, n2, .inl g))) (et2 : tys[t1]? = some (cB, .int)) (hn2 : n2 < 2 ^ 31) (x y ax : Nat) (hx1 : x * 6 + 5 < n) (hy1 : y * 6 + 5 < n2) (hax : ax ≤ 3) : Met l yX0_within wsX0_within (pt_rm 1) (pt_R (dC, dI) vwCl tys ws pt_nw [.ref h, .int (nI x), .ref h2, .int (nI y), .int (nI ax)]) (vp_Si (fun r => pt_B r (∀ a, a < ax → g (y * 6 + a * 2 + 0) ≤ f (x * 6 + a * 2 + 0) ∧ f (x * 6 + a * 2 + 1) ≤ g (y * 6 + a * 2 + 1)))) 0 0 (fun _ => False) := by
  refine Met.ofW (cc := cX0_within) (maxL := 6) (ret := (some .boolean)) (by decide) rfl ?_
  intro p e s m args below meth cd s₁ B hml hv
  obtain ⟨rfl, hP, hK, hN⟩ := hv
  have hx := B.exec
  have hb := B.bytes
  have hr := B.returns
  have hts := atoms_spec (ws := wsX0_within) B.pre
  have hown : s.vm.findClass RX0 = some m.cls := findClass_of_methodNamed B.named
  have hlocks := B.notSynchronized
  have hl := lv_entry ([.ref h, .int (nI x), .ref h2, .int (nI y), .int (nI ax)]) (n := 6) (Nat.le_of_ble_eq_true rfl)
  rw [lg_entry_eq]
  generalize (lg_sl ([.ref h, .int (nI x), .ref h2, .int (nI y), .int (nI ax)]) ++ List.replicate (6 - (lg_sl ([.ref h, .int (nI x), .ref h2, .int (nI y), .int (nI ax)])).length) Slot.unset).toArray = ls at hl ⊢
  have hl : lv_has ls 6 [(0, .ref h), (1, .int (nI x)), (2, .ref h2), (3, .int (nI y)), (4, .int (nI ax))] := hl
  refine lv_iconst (v := nI 0) hx hb dX0_within_0 (by decide) ?_
  refine lv_istore (lv' := [(5, .int (nI 0)), (0, .ref h), (1, .int (nI x)), (2, .ref h2), (3, .int (nI y)), (4, .int (nI ax))]) hx hb dX0_within_1 hl (by decide) rfl (fun ls hl => ?_)
  refine pt_loopR (fun i : Nat => ax - i) (fun i ls => i ≤ ax ∧ (∀ a, a < i → g (y * 6 + a * 2 + 0) ≤ f (x * 6 + a * 2 + 0) ∧ f (x * 6 + a * 2 + 1) ≤ g (y * 6 + a * 2 + 1)) ∧ lv_has ls 6 [(5, .int (nI i)), (0, .ref h), (1, .int (nI x)), (2, .ref h2), (3, .int (nI y)), (4, .int (nI ax))]) ?_ 0 _ ⟨by omega, fun a ha => absurd ha (Nat.not_lt_zero _), hl⟩
  intro i ls ⟨hi, hall, hl⟩ ih
  refine lv_iload hx hb dX0_within_3 (lv_at hl 0 rfl) ?_
  refine lv_iload hx hb dX0_within_5 (lv_at hl 5 rfl) ?_
  refine lv_icmp_ge (tgt := 56) hx hb dX0_within_7 (by decide) (fun c7 => ?_) (fun c7 => ?_)
  · have hie : i = ax := by have := (nI_leI (by omega) (by omega)).mp c7; omega
    subst hie
    refine lv_iconst (v := 1) hx hb dX0_within_56 (by decide) ?_
    exact W.zret (v := 1) hx hb hr rfl (fun zt zh zW => ⟨_, rfl, pt_B.one hall, zh⟩) (fun q h => by cases h) dX0_within_57
  · have hlt : i < ax := Nat.not_le.mp (fun q => c7 ((nI_leI (by omega) (by omega)).mpr q))
    refine lv_aload_n hx hb dX0_within_10 rfl (lv_at hl 1 rfl) ?_
    refine lv_iload_n hx hb dX0_within_11 rfl (lv_at hl 2 rfl) ?_
    refine lv_iload hx hb dX0_within_12 (lv_at hl 0 rfl) ?_
    refine lv_iconst (v := nI 0) hx hb dX0_within_14 (by decide) ?_
    refine pt_rdi (va_runV (As := [.int (nI x), .int (nI i), .int (nI 0)]) (rest := []) ⟨hx, hb, hml, hown, hts⟩ (c_X0_at l dC dI (tys) (ws) q0 q1 t0 h b cA n f e0 e1 et hn x i 0 (by omega)) (cwV 3 hts gX0_within_X0_at rfl rfl rfl (by decide +kernel) ⟨Nat.le_of_ble_eq_true rfl, Nat.le_of_ble_eq_true rfl⟩) (pt_pv0 hP hK hN (q0 := q0) e0) rfl rfl hl.1 rfl (lv_room (Nat.le_of_ble_eq_true rfl)) dX0_within_15 ⟨Nat.le_of_ble_eq_true rfl, Nat.le_of_ble_eq_true rfl⟩) (fun r15 hr15 => ?_)
    refine pt_top (y := (f (x * 6 + i * 2 + 0))) hr15 ?_
    refine lv_aload_n hx hb dX0_within_18 rfl (lv_at hl 3 rfl) ?_
    refine lv_iload_n hx hb dX0_within_19 rfl (lv_at hl 4 rfl) ?_
    refine lv_iload hx hb dX0_within_20 (lv_at hl 0 rfl) ?_
    refine lv_iconst (v := nI 0) hx hb dX0_within_22 (by decide) ?_
    refine pt_rdi (va_runV (As := [.int (nI y), .int (nI i), .int (nI 0)]) (rest := [.int (f (x * 6 + i * 2 + 0))]) ⟨hx, hb, hml, hown, hts⟩ (c_X0_at l dC dI tys ws q2 q3 t1 h2 b2 cB n2 g e2 e3 et2 hn2 y i 0 (by omega)) (cwV 3 hts gX0_within_X0_at rfl rfl rfl (by decide +kernel) ⟨Nat.le_of_ble_eq_true rfl, Nat.le_of_ble_eq_true rfl⟩) (pt_pv0 hP hK hN (q0 := q2) e2) rfl rfl hl.1 rfl (lv_room (Nat.le_of_ble_eq_true rfl)) dX0_within_23 ⟨Nat.le_of_ble_eq_true rfl, Nat.le_of_ble_eq_true rfl⟩) (fun r23 hr23 => ?_)
    refine pt_top (y := (g (y * 6 + i * 2 + 0))) hr23 ?_
    refine lv_icmp_lt (tgt := 48) hx hb dX0_within_26 (by decide) (fun c26 => ?_) (fun c26 => ?_)
    · refine lv_iconst (v := 0) hx hb dX0_within_48 (by decide) ?_
      exact W.zret (v := 0) hx hb hr rfl (fun zt zh zW => ⟨_, rfl, (pt_B.zero (fun q => Int32.not_le.mpr c26 (q i hlt).1)), zh⟩) (fun q h => by cases h) dX0_within_49
    · refine lv_aload_n hx hb dX0_within_29 rfl (lv_at hl 1 rfl) ?_
      refine lv_iload_n hx hb dX0_within_30 rfl (lv_at hl 2 rfl) ?_
      refine lv_iload hx hb dX0_within_31 (lv_at hl 0 rfl) ?_
      refine lv_iconst (v := nI 1) hx hb dX0_within_33 (by decide) ?_
      refine pt_rdi (va_runV (As := [.int (nI x), .int (nI i), .int (nI 1)]) (rest := []) ⟨hx, hb, hml, hown, hts⟩ (c_X0_at l dC dI (tys) (ws) q0 q1 t0 h b cA n f e0 e1 et hn x i 1 (by omega)) (cwV 3 hts gX0_within_X0_at rfl rfl rfl (by decide +kernel) ⟨Nat.le_of_ble_eq_true rfl, Nat.le_of_ble_eq_true rfl⟩) (pt_pv0 hP hK hN (q0 := q0) e0) rfl rfl hl.1 rfl (lv_room (Nat.le_of_ble_eq_true rfl)) dX0_within_34 ⟨Nat.le_of_ble_eq_true rfl, Nat.le_of_ble_eq_true rfl⟩) (fun r34 hr34 => ?_)
      refine pt_top (y := (f (x * 6 + i * 2 + 1))) hr34 ?_
      refine lv_aload_n hx hb dX0_within_37 rfl (lv_at hl 3 rfl) ?_
      refine lv_iload_n hx hb dX0_within_38 rfl (lv_at hl 4 rfl) ?_
      refine lv_iload hx hb dX0_within_39 (lv_at hl 0 rfl) ?_
      refine lv_iconst (v := nI 1) hx hb dX0_within_41 (by decide) ?_
      refine pt_rdi (va_runV (As := [.int (nI y), .int (nI i), .int (nI 1)]) (rest := [.int (f (x * 6 + i * 2 + 1))]) ⟨hx, hb, hml, hown, hts⟩ (c_X0_at l dC dI tys ws q2 q3 t1 h2 b2 cB n2 g e2 e3 et2 hn2 y i 1 (by omega)) (cwV 3 hts gX0_within_X0_at rfl rfl rfl (by decide +kernel) ⟨Nat.le_of_ble_eq_true rfl, Nat.le_of_ble_eq_true rfl⟩) (pt_pv0 hP hK hN (q0 := q2) e2) rfl rfl hl.1 rfl (lv_room (Nat.le_of_ble_eq_true rfl)) dX0_within_42 ⟨Nat.le_of_ble_eq_true rfl, Nat.le_of_ble_eq_true rfl⟩) (fun r42 hr42 => ?_)
      refine pt_top (y := (g (y * 6 + i * 2 + 1))) hr42 ?_
      refine lv_icmp_le (tgt := 50) hx hb dX0_within_45 (by decide) (fun c45 => ?_) (fun c45 => ?_)
      · have hone : g (y * 6 + i * 2 + 0) ≤ f (x * 6 + i * 2 + 0) ∧ f (x * 6 + i * 2 + 1) ≤ g (y * 6 + i * 2 + 1) := ⟨Int32.not_lt.mp c26, c45⟩
        refine lv_iinc (v := nI (i + 1)) (lv' := [(5, .int (nI (i + 1))), (0, .ref h), (1, .int (nI x)), (2, .ref h2), (3, .int (nI y)), (4, .int (nI ax))]) hx hb dX0_within_50 hl (k := 0) rfl (nI_1 _) (by decide) rfl (fun ls hl => ?_)
        refine lv_goto (tgt := 3) hx hb dX0_within_53 (by decide) ?_
        exact ih (i + 1) _ ⟨by omega, fun a ha => (Nat.lt_succ_iff_lt_or_eq.mp ha).elim (hall a) (fun q => by subst q; exact hone), lv_sub hl [0, 1, 2, 3, 4, 5] rfl⟩ (by omega)
      · refine lv_iconst (v := 0) hx hb dX0_within_48 (by decide) ?_
        exact W.zret (v := 0) hx hb hr rfl (fun zt zh zW => ⟨_, rfl, (pt_B.zero (fun q => c45 (q i hlt).2)), zh⟩) (fun q h => by cases h) dX0_within_49

theorem pt_set_eq {ws : va_W} {q b : Nat} {x y : va_E} (h : ws[q]? = some (b, x)) : (ws.set q (b, y))[q]? = some (b, y) := by
  rw [List.getElem?_set, if_pos rfl, if_pos (List.getElem?_eq_some_iff.mp h).1]
theorem pt_set_ne {ws : va_W} {q q2 : Nat} {v r : Nat × va_E} (hq : q ≠ q2) (h : ws[q2]? = some r) : (ws.set q v)[q2]? = some r := by
  rw [List.getElem?_set, if_neg hq]; exact h
theorem pt_set_o {ws : va_W} {q q2 b b2 : Nat} {o : Nat × List Value} {x y : ClassId × vp_A} (h : ws[q2]? = some (b2, .inr o)) (h1 : ws[q]? = some (b, .inl x)) : (ws.set q (b, .inl y))[q2]? = some (b2, .inr o) := by
  refine pt_set_ne (fun e => ?_) h
  rw [← e, h1] at h
  cases h
theorem pt_set_self {ws : va_W} {q : Nat} {v : Nat × va_E} (h : ws[q]? = some v) : ws.set q v = ws := by
  refine List.ext_getElem? fun i => ?_
  rw [List.getElem?_set]
  by_cases hi : q = i
  · rw [if_pos hi, ← hi, if_pos (List.getElem?_eq_some_iff.mp h).1, h]
  · rw [if_neg hi]

theorem wd_c_X0_putSpan_X0_putSpan_0 : Cond.fieldLink RX0 11 "PointTrees$Boxes" "ends" "[I" ∈ wsX0_putSpan := by decide +kernel
theorem iw_c_X0_putSpan_wsX00 : ∀ w ∈ wsX00, w ∈ wsX0_putSpan := fun _ h => List.mem_cons_of_mem _ (List.mem_append_right _ h)
set_option maxHeartbeats 4000000 in
set_option maxRecDepth 100000 in
/-- Boxes.putSpan -/
theorem c_X0_putSpan (l : Launch) (dC : Nat → ClassId) (dI : Nat → Nat → Nat) (tys : List (ClassId × FieldType)) (ws : va_W) (q0 q1 t0 h b : Nat) (cA : ClassId) (n : Nat) (f : Nat → Int32) (e0 : ws[q0]? = some (h, .inr (0, [.ref b]))) (e1 : ws[q1]? = some (b, .inl (cA, n, .inl f))) (et : tys[t0]? = some (cA, .int)) (hn : n < 2 ^ 31) (sz : Nat) (x y : Nat) (lo hi : Int32) (hk : x * 6 + y * 2 + 1 < n) : Met l yX0_putSpan wsX0_putSpan (pt_rm 0) (pt_W (dC, dI) vwCl tys ws pt_nw sz [.ref h, .int (nI x), .int (nI y), .int lo, .int hi]) (va_Qv (fun (u : (Nat → Int32)) => u = upd (upd f (x * 6 + y * 2 + 0) lo) (x * 6 + y * 2 + 1) hi) (fun u t => va_P (dC, dI) vwCl (ws.set q1 (b, .inl (cA, n, .inl u))) t.heap) (va_A ws sz)) 0 0 (va_A ws sz) := by
  refine Met.ofW (cc := cX0_putSpan) (maxL := 5) (ret := none) (by decide) rfl ?_
  intro p e s m args below meth cd s₁ B hml hv
  obtain ⟨rfl, hsz, hP, hK, hN, hD0⟩ := hv
  have hx := B.exec
  have hb := B.bytes
  have hr := B.returns
  have hts := atoms_spec (ws := wsX0_putSpan) B.pre
  have hown : s.vm.findClass RX0 = some m.cls := findClass_of_methodNamed B.named
  have hlocks := B.notSynchronized
  subst hsz
  have hD := hD0.self (sz := s.heap.size)
  generalize hAe : va_A ws s.heap.size = AA at hD ⊢
  have hA : ∀ q : Nat, s.heap.size ≤ q → AA q := fun q h => by rw [← hAe]; exact Or.inr h
  have hS : va_S AA s.heap s.heap [] := va_S.rf
  have hl := lv_entry ([.ref h, .int (nI x), .int (nI y), .int lo, .int hi]) (n := 5) (Nat.le_of_ble_eq_true rfl)
  rw [lg_entry_eq]
  generalize (lg_sl ([.ref h, .int (nI x), .int (nI y), .int lo, .int hi]) ++ List.replicate (5 - (lg_sl ([.ref h, .int (nI x), .int (nI y), .int lo, .int hi])).length) Slot.unset).toArray = ls at hl ⊢
  have hl : lv_has ls 5 [(0, .ref h), (1, .int (nI x)), (2, .int (nI y)), (3, .int lo), (4, .int hi)] := hl
  have hP : va_P (dC, dI) vwCl (ws.set q1 (b, .inl (cA, n, .inl f))) s.heap := by rw [pt_set_self e1]; exact hP
  have hD : va_D AA (ws.set q1 (b, .inl (cA, n, .inl f))) := by rw [pt_set_self e1]; exact hD
  refine lv_aload_n hx hb dX0_putSpan_0 rfl (lv_at hl 0 rfl) ?_
  refine va_get (D := (dC, dI)) (ci := 0) (v := .ref b) (C := RX0) (T := TX0) (N := 1) hx hb hts iw_c_X0_putSpan_wsX00 hown hK hP q0 (pt_set_o (ws := ws) e0 e1) rfl 0 (by decide) (hts _ wd_c_X0_putSpan_X0_putSpan_0) (fun _ h9 => h9) rfl dX0_putSpan_1 ?_
  refine lv_iload_n hx hb dX0_putSpan_4 rfl (lv_at hl 1 rfl) ?_
  refine lv_bipush (v := nI 6) hx hb dX0_putSpan_5 (by decide) ?_
  refine lv_imul hx hb dX0_putSpan_7 ?_
  refine pt_top (y := nI (x * 6)) (pk_mul _ _) ?_
  refine lv_iload_n hx hb dX0_putSpan_8 rfl (lv_at hl 2 rfl) ?_
  refine lv_iconst (v := nI 2) hx hb dX0_putSpan_9 (by decide) ?_
  refine lv_imul hx hb dX0_putSpan_10 ?_
  refine pt_top (y := nI (y * 2)) (pk_mul _ _) ?_
  refine lv_iadd hx hb dX0_putSpan_11 ?_
  refine pt_top (y := nI ((x * 6) + (y * 2))) (nI_add _ _) ?_
  refine lv_iconst (v := nI 0) hx hb dX0_putSpan_12 (by decide) ?_
  refine lv_iadd hx hb dX0_putSpan_13 ?_
  refine pt_top (y := nI (((x * 6) + (y * 2)) + 0)) (nI_add _ _) ?_
  refine lv_iload_n hx hb dX0_putSpan_14 rfl (lv_at hl 3 rfl) ?_
  obtain ⟨f1, ef1⟩ : ∃ zz, zz = upd f (x * 6 + y * 2 + 0) lo := ⟨_, rfl⟩
  refine pt_iast hx hb hK hP hD hS q1 t0 (pt_set_eq (ws := ws) e1) et (x * 6 + y * 2 + 0) rfl (by omega) hn (ws' := (ws.set q1 (b, .inl (cA, n, .inl f1)))) (by rw [List.set_set, ef1]) dX0_putSpan_15 (fun H locs hP hD hS => ?_)
  refine lv_aload_n hx hb dX0_putSpan_16 rfl (lv_at hl 0 rfl) ?_
  refine va_get (D := (dC, dI)) (ci := 0) (v := .ref b) (C := RX0) (T := TX0) (N := 1) hx hb hts iw_c_X0_putSpan_wsX00 hown hK hP q0 (pt_set_o (ws := ws) e0 e1) rfl 0 (by decide) (hts _ wd_c_X0_putSpan_X0_putSpan_0) (fun _ h9 => h9) rfl dX0_putSpan_17 ?_
  refine lv_iload_n hx hb dX0_putSpan_20 rfl (lv_at hl 1 rfl) ?_
  refine lv_bipush (v := nI 6) hx hb dX0_putSpan_21 (by decide) ?_
  refine lv_imul hx hb dX0_putSpan_23 ?_
  refine pt_top (y := nI (x * 6)) (pk_mul _ _) ?_
  refine lv_iload_n hx hb dX0_putSpan_24 rfl (lv_at hl 2 rfl) ?_
  refine lv_iconst (v := nI 2) hx hb dX0_putSpan_25 (by decide) ?_
  refine lv_imul hx hb dX0_putSpan_26 ?_
  refine pt_top (y := nI (y * 2)) (pk_mul _ _) ?_
  refine lv_iadd hx hb dX0_putSpan_27 ?_
  refine pt_top (y := nI ((x * 6) + (y * 2))) (nI_add _ _) ?_
  refine lv_iconst (v := nI 1) hx hb dX0_putSpan_28 (by decide) ?_
  refine lv_iadd hx hb dX0_putSpan_29 ?_
  refine pt_top (y := nI (((x * 6) + (y * 2)) + 1)) (nI_add _ _) ?_
  refine lv_iload hx hb dX0_putSpan_30 (lv_at hl 4 rfl) ?_
  obtain ⟨f2, ef2⟩ : ∃ zz, zz = upd f1 (x * 6 + y * 2 + 1) hi := ⟨_, rfl⟩
  refine pt_iast hx hb hK hP hD hS q1 t0 (pt_set_eq (ws := ws) e1) et (x * 6 + y * 2 + 1) rfl (by omega) hn (ws' := (ws.set q1 (b, .inl (cA, n, .inl f2)))) (by rw [List.set_set, ef2]) dX0_putSpan_32 (fun H locs hP hD hS => ?_)
  exact W.vret hx hb hr (fun zt zh zW => ⟨⟨f2, rfl, (by rw [ef2, ef1]), by show va_P _ _ _ zt.heap; rw [zh]; exact hP⟩, hS.F zh⟩) hS.2.2 dX0_putSpan_33

theorem iw_c_X0_put_wsX00 : ∀ w ∈ wsX00, w ∈ wsX0_put := fun _ h => List.mem_cons_of_mem _ (List.mem_append_right _ h)
set_option maxHeartbeats 4000000 in
set_option maxRecDepth 100000 in
/-- Boxes.put -/
theorem c_X0_put (l : Launch) (dC : Nat → ClassId) (dI : Nat → Nat → Nat) (tys : List (ClassId × FieldType)) (ws : va_W) (q0 q1 t0 h b : Nat) (cA : ClassId) (n : Nat) (f : Nat → Int32) (e0 : ws[q0]? = some (h, .inr (0, [.ref b]))) (e1 : ws[q1]? = some (b, .inl (cA, n, .inl f))) (et : tys[t0]? = some (cA, .int)) (hn : n < 2 ^ 31) (sz : Nat) (x : Nat) (x0 x1 y0 y1 z0 z1 : Int32) (hk : x * 6 + 5 < n) : Met l yX0_put wsX0_put (pt_rm 1) (pt_W (dC, dI) vwCl tys ws pt_nw sz [.ref h, .int (nI x), .int x0, .int x1, .int y0, .int y1, .int z0, .int z1]) (va_Qv (fun (u : (Nat → Int32)) => u = upd (upd (upd (upd (upd (upd f (x * 6 + 0 * 2 + 0) x0) (x * 6 + 0 * 2 + 1) x1) (x * 6 + 1 * 2 + 0) y0) (x * 6 + 1 * 2 + 1) y1) (x * 6 + 2 * 2 + 0) z0) (x * 6 + 2 * 2 + 1) z1) (fun u t => va_P (dC, dI) vwCl (ws.set q1 (b, .inl (cA, n, .inl u))) t.heap) (va_A ws sz)) 0 0 (va_A ws sz) := by
  refine Met.ofW (cc := cX0_put) (maxL := 8) (ret := none) (by decide) rfl ?_
  intro p e s m args below meth cd s₁ B hml hv
  obtain ⟨rfl, hsz, hP, hK, hN, hD0⟩ := hv
  have hx := B.exec
  have hb := B.bytes
  have hr := B.returns
  have hts := atoms_spec (ws := wsX0_put) B.pre
  have hown : s.vm.findClass RX0 = some m.cls := findClass_of_methodNamed B.named
  have hlocks := B.notSynchronized
  subst hsz
  have hD := hD0.self (sz := s.heap.size)
  generalize hAe : va_A ws s.heap.size = AA at hD ⊢
  have hA : ∀ q : Nat, s.heap.size ≤ q → AA q := fun q h => by rw [← hAe]; exact Or.inr h
  have hS : va_S AA s.heap s.heap [] := va_S.rf
  have hl := lv_entry ([.ref h, .int (nI x), .int x0, .int x1, .int y0, .int y1, .int z0, .int z1]) (n := 8) (Nat.le_of_ble_eq_true rfl)
  rw [lg_entry_eq]
  generalize (lg_sl ([.ref h, .int (nI x), .int x0, .int x1, .int y0, .int y1, .int z0, .int z1]) ++ List.replicate (8 - (lg_sl ([.ref h, .int (nI x), .int x0, .int x1, .int y0, .int y1, .int z0, .int z1])).length) Slot.unset).toArray = ls at hl ⊢
  have hl : lv_has ls 8 [(0, .ref h), (1, .int (nI x)), (2, .int x0), (3, .int x1), (4, .int y0), (5, .int y1), (6, .int z0), (7, .int z1)] := hl
  have hP : va_P (dC, dI) vwCl (ws.set q1 (b, .inl (cA, n, .inl f))) s.heap := by rw [pt_set_self e1]; exact hP
  have hD : va_D AA (ws.set q1 (b, .inl (cA, n, .inl f))) := by rw [pt_set_self e1]; exact hD
  refine lv_aload_n hx hb dX0_put_0 rfl (lv_at hl 0 rfl) ?_
  refine lv_iload_n hx hb dX0_put_1 rfl (lv_at hl 1 rfl) ?_
  refine lv_iconst (v := nI 0) hx hb dX0_put_2 (by decide) ?_
  refine lv_iload_n hx hb dX0_put_3 rfl (lv_at hl 2 rfl) ?_
  refine lv_iload_n hx hb dX0_put_4 rfl (lv_at hl 3 rfl) ?_
  refine pt_callv (wf := (fun u => (ws.set q1 (b, .inl (cA, n, .inl f))).set q1 (b, .inl (cA, n, .inl u)))) (va_runV (As := [.int (nI x), .int (nI 0), .int x0, .int x1]) (rest := []) ⟨hx, hb, hml, hown, hts⟩ (c_X0_putSpan l dC dI tys (ws.set q1 (b, .inl (cA, n, .inl f))) q0 q1 t0 h b cA n f (pt_set_o (ws := ws) e0 e1) (pt_set_eq (ws := ws) e1) et hn _ x 0 x0 x1 (by omega)) (cwV 4 hts gX0_put_X0_putSpan rfl rfl rfl (by decide +kernel) ⟨Nat.le_of_ble_eq_true rfl, Nat.le_of_ble_eq_true rfl⟩) (pt_wv0 hP hK hN hD (q0 := q0) (pt_set_o (ws := ws) e0 e1)) rfl rfl hl.1 rfl (lv_room (Nat.le_of_ble_eq_true rfl)) dX0_put_5 ⟨Nat.le_of_ble_eq_true rfl, Nat.le_of_ble_eq_true rfl⟩) hD hS hA (fun _ => pt_setaddr (pt_set_eq (ws := ws) e1)) (fun u5 H locs hr5 hP hD hS => ?_)
  rw [List.set_set] at hP hD
  obtain ⟨f1, rfl⟩ : ∃ zz, zz = u5 := ⟨_, rfl⟩
  have ef1 := hr5
  refine lv_aload_n hx hb dX0_put_8 rfl (lv_at hl 0 rfl) ?_
  refine lv_iload_n hx hb dX0_put_9 rfl (lv_at hl 1 rfl) ?_
  refine lv_iconst (v := nI 1) hx hb dX0_put_10 (by decide) ?_
  refine lv_iload hx hb dX0_put_11 (lv_at hl 4 rfl) ?_
  refine lv_iload hx hb dX0_put_13 (lv_at hl 5 rfl) ?_
  refine pt_callv (wf := (fun u => (ws.set q1 (b, .inl (cA, n, .inl f1))).set q1 (b, .inl (cA, n, .inl u)))) (va_runV (As := [.int (nI x), .int (nI 1), .int y0, .int y1]) (rest := []) ⟨hx, hb, hml, hown, hts⟩ (c_X0_putSpan l dC dI tys (ws.set q1 (b, .inl (cA, n, .inl f1))) q0 q1 t0 h b cA n f1 (pt_set_o (ws := ws) e0 e1) (pt_set_eq (ws := ws) e1) et hn _ x 1 y0 y1 (by omega)) (cwV 4 hts gX0_put_X0_putSpan rfl rfl rfl (by decide +kernel) ⟨Nat.le_of_ble_eq_true rfl, Nat.le_of_ble_eq_true rfl⟩) (pt_wv0 hP hK hN hD (q0 := q0) (pt_set_o (ws := ws) e0 e1)) rfl rfl hl.1 rfl (lv_room (Nat.le_of_ble_eq_true rfl)) dX0_put_15 ⟨Nat.le_of_ble_eq_true rfl, Nat.le_of_ble_eq_true rfl⟩) hD hS hA (fun _ => pt_setaddr (pt_set_eq (ws := ws) e1)) (fun u15 H locs hr15 hP hD hS => ?_)
  rw [List.set_set] at hP hD
  obtain ⟨f2, rfl⟩ : ∃ zz, zz = u15 := ⟨_, rfl⟩
  have ef2 := hr15
  refine lv_aload_n hx hb dX0_put_18 rfl (lv_at hl 0 rfl) ?_
  refine lv_iload_n hx hb dX0_put_19 rfl (lv_at hl 1 rfl) ?_
  refine lv_iconst (v := nI 2) hx hb dX0_put_20 (by decide) ?_
  refine lv_iload hx hb dX0_put_21 (lv_at hl 6 rfl) ?_
  refine lv_iload hx hb dX0_put_23 (lv_at hl 7 rfl) ?_
  refine pt_callv (wf := (fun u => (ws.set q1 (b, .inl (cA, n, .inl f2))).set q1 (b, .inl (cA, n, .inl u)))) (va_runV (As := [.int (nI x), .int (nI 2), .int z0, .int z1]) (rest := []) ⟨hx, hb, hml, hown, hts⟩ (c_X0_putSpan l dC dI tys (ws.set q1 (b, .inl (cA, n, .inl f2))) q0 q1 t0 h b cA n f2 (pt_set_o (ws := ws) e0 e1) (pt_set_eq (ws := ws) e1) et hn _ x 2 z0 z1 (by omega)) (cwV 4 hts gX0_put_X0_putSpan rfl rfl rfl (by decide +kernel) ⟨Nat.le_of_ble_eq_true rfl, Nat.le_of_ble_eq_true rfl⟩) (pt_wv0 hP hK hN hD (q0 := q0) (pt_set_o (ws := ws) e0 e1)) rfl rfl hl.1 rfl (lv_room (Nat.le_of_ble_eq_true rfl)) dX0_put_25 ⟨Nat.le_of_ble_eq_true rfl, Nat.le_of_ble_eq_true rfl⟩) hD hS hA (fun _ => pt_setaddr (pt_set_eq (ws := ws) e1)) (fun u25 H locs hr25 hP hD hS => ?_)
  rw [List.set_set] at hP hD
  obtain ⟨f3, rfl⟩ : ∃ zz, zz = u25 := ⟨_, rfl⟩
  have ef3 := hr25
  exact W.vret hx hb hr (fun zt zh zW => ⟨⟨f3, rfl, (by rw [ef3, ef2, ef1]), by show va_P _ _ _ zt.heap; rw [zh]; exact hP⟩, hS.F zh⟩) hS.2.2 dX0_put_28

theorem pt_cpy_step {f g : Nat → Int32} {s d i : Nat} : upd (upd (va_cpy g f s d (i * 2)) (d + i * 2 + 0) (g (s + i * 2 + 0))) (d + i * 2 + 1) (g (s + i * 2 + 1)) = va_cpy g f s d ((i + 1) * 2) := by
  funext k
  unfold upd va_cpy
  by_cases h1 : k = d + i * 2 + 1
  · subst h1
    rw [if_pos rfl, if_pos ⟨by omega, by omega⟩, show d + i * 2 + 1 - d = i * 2 + 1 by omega, Nat.add_assoc]
  · rw [if_neg h1]
    by_cases h2 : k = d + i * 2 + 0
    · subst h2
      rw [if_pos rfl, if_pos ⟨by omega, by omega⟩, show d + i * 2 + 0 - d = i * 2 + 0 by omega, Nat.add_assoc]
    · rw [if_neg h2]
      by_cases h3 : d ≤ k ∧ k < d + i * 2
      · rw [if_pos h3, if_pos ⟨h3.1, by omega⟩]
      · rw [if_neg h3, if_neg (fun q => h3 ⟨q.1, by omega⟩)]
theorem pt_cpy_0 {f g : Nat → Int32} {s d : Nat} : va_cpy g f s d (0 * 2) = f := by
  funext k
  unfold va_cpy
  rw [if_neg (fun q => by omega)]

theorem iw_c_X0_copyFrom_wsX00 : ∀ w ∈ wsX00, w ∈ wsX0_copyFrom := fun _ h => List.mem_cons_of_mem _ (List.mem_append_right _ h)
set_option maxHeartbeats 4000000 in
set_option maxRecDepth 100000 in
/-- Boxes.copyFrom -/
theorem c_X0_copyFrom (l : Launch) (dC : Nat → ClassId) (dI : Nat → Nat → Nat) (tys : List (ClassId × FieldType)) (ws : va_W) (q0 q1 t0 h b : Nat) (cA : ClassId) (n : Nat) (f : Nat → Int32) (e0 : ws[q0]? = some (h, .inr (0, [.ref b]))) (e1 : ws[q1]? = some (b, .inl (cA, n, .inl f))) (et : tys[t0]? = some (cA, .int)) (hn : n < 2 ^ 31) (q2 q3 t1 h2 b2 : Nat) (cB : ClassId) (n2 : Nat) (g : Nat → Int32) (e2 : ws[q2]? = some (h2, .inr (0, [.ref b2]))) (e3 : ws[q3]? = some (b2, .inl (cB, n2, .inl g))) (et2 : tys[t1]? = some (cB, .int)) (hn2 : n2 < 2 ^ 31) (hq : q1 ≠ q3) (sz : Nat) (x y : Nat) (hkx : x * 6 + 5 < n) (hky : y * 6 + 5 < n2) : Met l yX0_copyFrom wsX0_copyFrom (pt_rm 1) (pt_W (dC, dI) vwCl tys ws pt_nw sz [.ref h, .int (nI x), .ref h2, .int (nI y)]) (va_Qv (fun (u : (Nat → Int32)) => u = va_cpy g f (y * 6) (x * 6) (3 * 2)) (fun u t => va_P (dC, dI) vwCl (ws.set q1 (b, .inl (cA, n, .inl u))) t.heap) (va_A ws sz)) 0 0 (va_A ws sz) := by
  refine Met.ofW (cc := cX0_copyFrom) (maxL := 5) (ret := none) (by decide) rfl ?_
  intro p e s m args below meth cd s₁ B hml hv
  obtain ⟨rfl, hsz, hP, hK, hN, hD0⟩ := hv
  have hx := B.exec
  have hb := B.bytes
  have hr := B.returns
  have hts := atoms_spec (ws := wsX0_copyFrom) B.pre
  have hown : s.vm.findClass RX0 = some m.cls := findClass_of_methodNamed B.named
  have hlocks := B.notSynchronized
  subst hsz
  have hD := hD0.self (sz := s.heap.size)
  generalize hAe : va_A ws s.heap.size = AA at hD ⊢
  have hA : ∀ q : Nat, s.heap.size ≤ q → AA q := fun q h => by rw [← hAe]; exact Or.inr h
  have hS : va_S AA s.heap s.heap [] := va_S.rf
  have hl := lv_entry ([.ref h, .int (nI x), .ref h2, .int (nI y)]) (n := 5) (Nat.le_of_ble_eq_true rfl)
  rw [lg_entry_eq]
  generalize (lg_sl ([.ref h, .int (nI x), .ref h2, .int (nI y)]) ++ List.replicate (5 - (lg_sl ([.ref h, .int (nI x), .ref h2, .int (nI y)])).length) Slot.unset).toArray = ls at hl ⊢
  have hl : lv_has ls 5 [(0, .ref h), (1, .int (nI x)), (2, .ref h2), (3, .int (nI y))] := hl
  have hP : va_P (dC, dI) vwCl (ws.set q1 (b, .inl (cA, n, .inl f))) s.heap := by rw [pt_set_self e1]; exact hP
  have hD : va_D AA (ws.set q1 (b, .inl (cA, n, .inl f))) := by rw [pt_set_self e1]; exact hD
  refine lv_iconst (v := nI 0) hx hb dX0_copyFrom_0 (by decide) ?_
  refine lv_istore (lv' := [(4, .int (nI 0)), (0, .ref h), (1, .int (nI x)), (2, .ref h2), (3, .int (nI y))]) hx hb dX0_copyFrom_1 hl (by decide) rfl (fun ls hl => ?_)
  refine pt_loopW (fun q : Nat × (Nat → Int32) => 3 - q.1) (fun q ls H locs => q.1 ≤ 3 ∧ q.2 = va_cpy g f (y * 6) (x * 6) (q.1 * 2) ∧ va_P (dC, dI) vwCl (ws.set q1 (b, .inl (cA, n, .inl q.2))) H ∧ va_D AA (ws.set q1 (b, .inl (cA, n, .inl q.2))) ∧ va_S AA s.heap H locs ∧ lv_has ls 5 [(4, .int (nI q.1)), (0, .ref h), (1, .int (nI x)), (2, .ref h2), (3, .int (nI y))]) ?_ (0, f) _ _ _ ⟨Nat.zero_le 3, pt_cpy_0.symm, hP, hD, hS, hl⟩
  intro ⟨i, fu⟩ ls H locs ⟨hi, eu, hP, hD, hS, hl⟩ ih
  dsimp only at hi eu hP hD hl ih
  refine lv_iload hx hb dX0_copyFrom_3 (lv_at hl 0 rfl) ?_
  refine lv_iconst (v := nI 3) hx hb dX0_copyFrom_5 (by decide) ?_
  refine lv_icmp_ge (tgt := 38) hx hb dX0_copyFrom_6 (by decide) (fun c6 => ?_) (fun c6 => ?_)
  · have hie : i = 3 := by have := (nI_leI (by omega) (by omega)).mp c6; omega
    subst hie
    exact W.vret hx hb hr (fun zt zh zW => ⟨⟨fu, rfl, eu, by show va_P _ _ _ zt.heap; rw [zh]; exact hP⟩, hS.F zh⟩) hS.2.2 dX0_copyFrom_38
  · have hlt : i < 3 := Nat.not_le.mp (fun q => c6 ((nI_leI (by omega) (by omega)).mpr q))
    refine lv_aload_n hx hb dX0_copyFrom_9 rfl (lv_at hl 1 rfl) ?_
    refine lv_iload_n hx hb dX0_copyFrom_10 rfl (lv_at hl 2 rfl) ?_
    refine lv_iload hx hb dX0_copyFrom_11 (lv_at hl 0 rfl) ?_
    refine lv_aload_n hx hb dX0_copyFrom_13 rfl (lv_at hl 3 rfl) ?_
    refine lv_iload_n hx hb dX0_copyFrom_14 rfl (lv_at hl 4 rfl) ?_
    refine lv_iload hx hb dX0_copyFrom_15 (lv_at hl 0 rfl) ?_
    refine lv_iconst (v := nI 0) hx hb dX0_copyFrom_17 (by decide) ?_
    refine pt_rdi (va_runV (As := [.int (nI y), .int (nI i), .int (nI 0)]) (rest := [.int (nI i), .int (nI x), .ref h]) ⟨hx, hb, hml, hown, hts⟩ (c_X0_at l dC dI tys (ws.set q1 (b, .inl (cA, n, .inl fu))) q2 q3 t1 h2 b2 cB n2 g (pt_set_o (ws := ws) e2 e1) (pt_set_ne (ws := ws) hq e3) et2 hn2 y i 0 (by omega)) (cwV 3 hts gX0_copyFrom_X0_at rfl rfl rfl (by decide +kernel) ⟨Nat.le_of_ble_eq_true rfl, Nat.le_of_ble_eq_true rfl⟩) (pt_pv0 hP hK hN (q0 := q2) (pt_set_o (ws := ws) e2 e1)) rfl rfl hl.1 rfl (lv_room (Nat.le_of_ble_eq_true rfl)) dX0_copyFrom_18 ⟨Nat.le_of_ble_eq_true rfl, Nat.le_of_ble_eq_true rfl⟩) (fun r18 hr18 => ?_)
    refine pt_top (y := (g (y * 6 + i * 2 + 0))) hr18 ?_
    refine lv_aload_n hx hb dX0_copyFrom_21 rfl (lv_at hl 3 rfl) ?_
    refine lv_iload_n hx hb dX0_copyFrom_22 rfl (lv_at hl 4 rfl) ?_
    refine lv_iload hx hb dX0_copyFrom_23 (lv_at hl 0 rfl) ?_
    refine lv_iconst (v := nI 1) hx hb dX0_copyFrom_25 (by decide) ?_
    refine pt_rdi (va_runV (As := [.int (nI y), .int (nI i), .int (nI 1)]) (rest := [.int (g (y * 6 + i * 2 + 0)), .int (nI i), .int (nI x), .ref h]) ⟨hx, hb, hml, hown, hts⟩ (c_X0_at l dC dI tys (ws.set q1 (b, .inl (cA, n, .inl fu))) q2 q3 t1 h2 b2 cB n2 g (pt_set_o (ws := ws) e2 e1) (pt_set_ne (ws := ws) hq e3) et2 hn2 y i 1 (by omega)) (cwV 3 hts gX0_copyFrom_X0_at rfl rfl rfl (by decide +kernel) ⟨Nat.le_of_ble_eq_true rfl, Nat.le_of_ble_eq_true rfl⟩) (pt_pv0 hP hK hN (q0 := q2) (pt_set_o (ws := ws) e2 e1)) rfl rfl hl.1 rfl (lv_room (Nat.le_of_ble_eq_true rfl)) dX0_copyFrom_26 ⟨Nat.le_of_ble_eq_true rfl, Nat.le_of_ble_eq_true rfl⟩) (fun r26 hr26 => ?_)
    refine pt_top (y := (g (y * 6 + i * 2 + 1))) hr26 ?_
    refine pt_callv (wf := (fun u => (ws.set q1 (b, .inl (cA, n, .inl fu))).set q1 (b, .inl (cA, n, .inl u)))) (va_runV (As := [.int (nI x), .int (nI i), .int (g (y * 6 + i * 2 + 0)), .int (g (y * 6 + i * 2 + 1))]) (rest := []) ⟨hx, hb, hml, hown, hts⟩ (c_X0_putSpan l dC dI tys (ws.set q1 (b, .inl (cA, n, .inl fu))) q0 q1 t0 h b cA n fu (pt_set_o (ws := ws) e0 e1) (pt_set_eq (ws := ws) e1) et hn _ x i (g (y * 6 + i * 2 + 0)) (g (y * 6 + i * 2 + 1)) (by omega)) (cwV 4 hts gX0_copyFrom_X0_putSpan rfl rfl rfl (by decide +kernel) ⟨Nat.le_of_ble_eq_true rfl, Nat.le_of_ble_eq_true rfl⟩) (pt_wv0 hP hK hN hD (q0 := q0) (pt_set_o (ws := ws) e0 e1)) rfl rfl hl.1 rfl (lv_room (Nat.le_of_ble_eq_true rfl)) dX0_copyFrom_29 ⟨Nat.le_of_ble_eq_true rfl, Nat.le_of_ble_eq_true rfl⟩) hD hS hA (fun _ => pt_setaddr (pt_set_eq (ws := ws) e1)) (fun u29 H locs hr29 hP hD hS => ?_)
    rw [List.set_set] at hP hD
    obtain ⟨f1, rfl⟩ : ∃ zz, zz = u29 := ⟨_, rfl⟩
    have ef1 := hr29
    refine lv_iinc (v := nI (i + 1)) (lv' := [(4, .int (nI (i + 1))), (0, .ref h), (1, .int (nI x)), (2, .ref h2), (3, .int (nI y))]) hx hb dX0_copyFrom_32 hl (k := 0) rfl (nI_1 _) (by decide) rfl (fun ls hl => ?_)
    refine lv_goto (tgt := 3) hx hb dX0_copyFrom_35 (by decide) ?_
    exact ih (i + 1, f1) _ _ _ ⟨by show i + 1 ≤ 3; omega, by show f1 = _; rw [ef1, eu]; exact pt_cpy_step, hP, hD, hS, lv_sub hl [0, 1, 2, 3, 4] rfl⟩ (by show 3 - (i + 1) < 3 - i; omega)

/-- the ends of a box at d of f, widened by the box at s of g: of the first m of them -/
def pt_wd (f g : Nat → Int32) (s d m : Nat) : Nat → Int32 := fun k => if d ≤ k ∧ k < d + m then (if (k - d) % 2 = 0 then (if g (s + (k - d)) < f k then g (s + (k - d)) else f k) else (if f k < g (s + (k - d)) then g (s + (k - d)) else f k)) else f k
theorem pt_wd_0 {f g : Nat → Int32} {s d : Nat} : pt_wd f g s d (0 * 2) = f := by
  funext k
  unfold pt_wd
  rw [if_neg (fun q => by omega)]
theorem pt_wd_out {f g : Nat → Int32} {s d m k : Nat} (h : ¬ (d ≤ k ∧ k < d + m)) : pt_wd f g s d m k = f k := by
  unfold pt_wd; rw [if_neg h]
theorem pt_wd_hi {f g : Nat → Int32} {s d i : Nat} : pt_wd f g s d ((i + 1) * 2) (d + i * 2 + 1) = if f (d + i * 2 + 1) < g (s + i * 2 + 1) then g (s + i * 2 + 1) else f (d + i * 2 + 1) := by
  unfold pt_wd
  rw [if_pos (show d ≤ d + i * 2 + 1 ∧ d + i * 2 + 1 < d + (i + 1) * 2 from ⟨by omega, by omega⟩), show d + i * 2 + 1 - d = i * 2 + 1 by omega, if_neg (show ¬ (i * 2 + 1) % 2 = 0 by omega), Nat.add_assoc s]
theorem pt_wd_lo {f g : Nat → Int32} {s d i : Nat} : pt_wd f g s d ((i + 1) * 2) (d + i * 2 + 0) = if g (s + i * 2 + 0) < f (d + i * 2 + 0) then g (s + i * 2 + 0) else f (d + i * 2 + 0) := by
  unfold pt_wd
  rw [if_pos (show d ≤ d + i * 2 + 0 ∧ d + i * 2 + 0 < d + (i + 1) * 2 from ⟨by omega, by omega⟩), show d + i * 2 + 0 - d = i * 2 + 0 by omega, if_pos (show (i * 2 + 0) % 2 = 0 by omega), Nat.add_assoc s]
theorem pt_wd_step {f g : Nat → Int32} {s d i : Nat} : upd (upd (pt_wd f g s d (i * 2)) (d + i * 2 + 0) (if g (s + i * 2 + 0) < pt_wd f g s d (i * 2) (d + i * 2 + 0) then g (s + i * 2 + 0) else pt_wd f g s d (i * 2) (d + i * 2 + 0))) (d + i * 2 + 1) (if pt_wd f g s d (i * 2) (d + i * 2 + 1) < g (s + i * 2 + 1) then g (s + i * 2 + 1) else pt_wd f g s d (i * 2) (d + i * 2 + 1)) = pt_wd f g s d ((i + 1) * 2) := by
  rw [pt_wd_out (k := d + i * 2 + 0) (by omega), pt_wd_out (k := d + i * 2 + 1) (by omega)]
  funext k
  by_cases h1 : k = d + i * 2 + 1
  · subst h1
    rw [pt_upd, pt_wd_hi]
  · rw [pt_upd_ne h1]
    by_cases h2 : k = d + i * 2 + 0
    · subst h2
      rw [pt_upd, pt_wd_lo]
    · rw [pt_upd_ne h2]
      by_cases h3 : d ≤ k ∧ k < d + i * 2
      · unfold pt_wd
        rw [if_pos h3, if_pos (show d ≤ k ∧ k < d + (i + 1) * 2 from ⟨h3.1, by omega⟩)]
      · rw [pt_wd_out h3, pt_wd_out (fun q => h3 ⟨q.1, by omega⟩)]

theorem wd_c_X0_widen_X0_widen_0 : Cond.methodLink RX0 23 Lib.Math.min.name ∈ wsX0_widen := by decide +kernel
theorem wd_c_X0_widen_X0_widen_1 : Cond.static Lib.Math.min.name ∈ wsX0_widen := by decide +kernel
theorem wd_c_X0_widen_X0_widen_2 : Cond.initialized "java/lang/Math" ∈ wsX0_widen := by decide +kernel
theorem wd_c_X0_widen_X0_widen_3 : Cond.code Lib.Math.min.name Lib.Math.min.code 2 (some .int) ∈ wsX0_widen := by decide +kernel
theorem wd_c_X0_widen_X0_widen_4 : Cond.methodLink RX0 29 Lib.Math.max.name ∈ wsX0_widen := by decide +kernel
theorem wd_c_X0_widen_X0_widen_5 : Cond.static Lib.Math.max.name ∈ wsX0_widen := by decide +kernel
theorem wd_c_X0_widen_X0_widen_6 : Cond.code Lib.Math.max.name Lib.Math.max.code 2 (some .int) ∈ wsX0_widen := by decide +kernel
theorem iw_c_X0_widen_wsX00 : ∀ w ∈ wsX00, w ∈ wsX0_widen := fun _ h => List.mem_cons_of_mem _ (List.mem_append_right _ h)
set_option maxHeartbeats 4000000 in
set_option maxRecDepth 100000 in
/-- Boxes.widen -/
theorem c_X0_widen (l : Launch) (dC : Nat → ClassId) (dI : Nat → Nat → Nat) (tys : List (ClassId × FieldType)) (ws : va_W) (q0 q1 t0 h b : Nat) (cA : ClassId) (n : Nat) (f : Nat → Int32) (e0 : ws[q0]? = some (h, .inr (0, [.ref b]))) (e1 : ws[q1]? = some (b, .inl (cA, n, .inl f))) (et : tys[t0]? = some (cA, .int)) (hn : n < 2 ^ 31) (q2 q3 t1 h2 b2 : Nat) (cB : ClassId) (n2 : Nat) (g : Nat → Int32) (e2 : ws[q2]? = some (h2, .inr (0, [.ref b2]))) (e3 : ws[q3]? = some (b2, .inl (cB, n2, .inl g))) (et2 : tys[t1]? = some (cB, .int)) (hn2 : n2 < 2 ^ 31) (hq : q1 ≠ q3) (sz : Nat) (x y : Nat) (hkx : x * 6 + 5 < n) (hky : y * 6 + 5 < n2) : Met l yX0_widen wsX0_widen (pt_rm 1) (pt_W (dC, dI) vwCl tys ws pt_nw sz [.ref h, .int (nI x), .ref h2, .int (nI y)]) (va_Qv (fun (u : (Nat → Int32)) => u = pt_wd f g (y * 6) (x * 6) (3 * 2)) (fun u t => va_P (dC, dI) vwCl (ws.set q1 (b, .inl (cA, n, .inl u))) t.heap) (va_A ws sz)) 0 0 (va_A ws sz) := by
  refine Met.ofW (cc := cX0_widen) (maxL := 7) (ret := none) (by decide) rfl ?_
  intro p e s m args below meth cd s₁ B hml hv
  obtain ⟨rfl, hsz, hP, hK, hN, hD0⟩ := hv
  have hx := B.exec
  have hb := B.bytes
  have hr := B.returns
  have hts := atoms_spec (ws := wsX0_widen) B.pre
  have hown : s.vm.findClass RX0 = some m.cls := findClass_of_methodNamed B.named
  have hlocks := B.notSynchronized
  subst hsz
  have hD := hD0.self (sz := s.heap.size)
  generalize hAe : va_A ws s.heap.size = AA at hD ⊢
  have hA : ∀ q : Nat, s.heap.size ≤ q → AA q := fun q h => by rw [← hAe]; exact Or.inr h
  have hS : va_S AA s.heap s.heap [] := va_S.rf
  have hl := lv_entry ([.ref h, .int (nI x), .ref h2, .int (nI y)]) (n := 7) (Nat.le_of_ble_eq_true rfl)
  rw [lg_entry_eq]
  generalize (lg_sl ([.ref h, .int (nI x), .ref h2, .int (nI y)]) ++ List.replicate (7 - (lg_sl ([.ref h, .int (nI x), .ref h2, .int (nI y)])).length) Slot.unset).toArray = ls at hl ⊢
  have hl : lv_has ls 7 [(0, .ref h), (1, .int (nI x)), (2, .ref h2), (3, .int (nI y))] := hl
  have hP : va_P (dC, dI) vwCl (ws.set q1 (b, .inl (cA, n, .inl f))) s.heap := by rw [pt_set_self e1]; exact hP
  have hD : va_D AA (ws.set q1 (b, .inl (cA, n, .inl f))) := by rw [pt_set_self e1]; exact hD
  refine lv_iconst (v := nI 0) hx hb dX0_widen_0 (by decide) ?_
  refine lv_istore (lv' := [(4, .int (nI 0)), (0, .ref h), (1, .int (nI x)), (2, .ref h2), (3, .int (nI y))]) hx hb dX0_widen_1 hl (by decide) rfl (fun ls hl => ?_)
  refine pt_loopW (fun q : Nat × (Nat → Int32) => 3 - q.1) (fun q ls H locs => q.1 ≤ 3 ∧ q.2 = pt_wd f g (y * 6) (x * 6) (q.1 * 2) ∧ va_P (dC, dI) vwCl (ws.set q1 (b, .inl (cA, n, .inl q.2))) H ∧ va_D AA (ws.set q1 (b, .inl (cA, n, .inl q.2))) ∧ va_S AA s.heap H locs ∧ lv_has ls 7 [(4, .int (nI q.1)), (0, .ref h), (1, .int (nI x)), (2, .ref h2), (3, .int (nI y))]) ?_ (0, f) _ _ _ ⟨Nat.zero_le 3, pt_wd_0.symm, hP, hD, hS, hl⟩
  intro ⟨i, fu⟩ ls H locs ⟨hi, eu, hP, hD, hS, hl⟩ ih
  dsimp only at hi eu hP hD hl ih
  refine lv_iload hx hb dX0_widen_3 (lv_at hl 0 rfl) ?_
  refine lv_iconst (v := nI 3) hx hb dX0_widen_5 (by decide) ?_
  refine lv_icmp_ge (tgt := 68) hx hb dX0_widen_6 (by decide) (fun c6 => ?_) (fun c6 => ?_)
  · have hie : i = 3 := by have := (nI_leI (by omega) (by omega)).mp c6; omega
    subst hie
    exact W.vret hx hb hr (fun zt zh zW => ⟨⟨fu, rfl, eu, by show va_P _ _ _ zt.heap; rw [zh]; exact hP⟩, hS.F zh⟩) hS.2.2 dX0_widen_68
  · have hlt : i < 3 := Nat.not_le.mp (fun q => c6 ((nI_leI (by omega) (by omega)).mpr q))
    refine lv_aload_n hx hb dX0_widen_9 rfl (lv_at hl 1 rfl) ?_
    refine lv_iload_n hx hb dX0_widen_10 rfl (lv_at hl 2 rfl) ?_
    refine lv_iload hx hb dX0_widen_11 (lv_at hl 0 rfl) ?_
    refine lv_iconst (v := nI 0) hx hb dX0_widen_13 (by decide) ?_
    refine pt_rdi (va_runV (As := [.int (nI x), .int (nI i), .int (nI 0)]) (rest := []) ⟨hx, hb, hml, hown, hts⟩ (c_X0_at l dC dI tys (ws.set q1 (b, .inl (cA, n, .inl fu))) q0 q1 t0 h b cA n fu (pt_set_o (ws := ws) e0 e1) (pt_set_eq (ws := ws) e1) et hn x i 0 (by omega)) (cwV 3 hts gX0_widen_X0_at rfl rfl rfl (by decide +kernel) ⟨Nat.le_of_ble_eq_true rfl, Nat.le_of_ble_eq_true rfl⟩) (pt_pv0 hP hK hN (q0 := q0) (pt_set_o (ws := ws) e0 e1)) rfl rfl hl.1 rfl (lv_room (Nat.le_of_ble_eq_true rfl)) dX0_widen_14 ⟨Nat.le_of_ble_eq_true rfl, Nat.le_of_ble_eq_true rfl⟩) (fun r14 hr14 => ?_)
    refine pt_top (y := (fu (x * 6 + i * 2 + 0))) hr14 ?_
    refine lv_aload_n hx hb dX0_widen_17 rfl (lv_at hl 3 rfl) ?_
    refine lv_iload_n hx hb dX0_widen_18 rfl (lv_at hl 4 rfl) ?_
    refine lv_iload hx hb dX0_widen_19 (lv_at hl 0 rfl) ?_
    refine lv_iconst (v := nI 0) hx hb dX0_widen_21 (by decide) ?_
    refine pt_rdi (va_runV (As := [.int (nI y), .int (nI i), .int (nI 0)]) (rest := [.int (fu (x * 6 + i * 2 + 0))]) ⟨hx, hb, hml, hown, hts⟩ (c_X0_at l dC dI tys (ws.set q1 (b, .inl (cA, n, .inl fu))) q2 q3 t1 h2 b2 cB n2 g (pt_set_o (ws := ws) e2 e1) (pt_set_ne (ws := ws) hq e3) et2 hn2 y i 0 (by omega)) (cwV 3 hts gX0_widen_X0_at rfl rfl rfl (by decide +kernel) ⟨Nat.le_of_ble_eq_true rfl, Nat.le_of_ble_eq_true rfl⟩) (pt_pv0 hP hK hN (q0 := q2) (pt_set_o (ws := ws) e2 e1)) rfl rfl hl.1 rfl (lv_room (Nat.le_of_ble_eq_true rfl)) dX0_widen_22 ⟨Nat.le_of_ble_eq_true rfl, Nat.le_of_ble_eq_true rfl⟩) (fun r22 hr22 => ?_)
    refine pt_top (y := (g (y * 6 + i * 2 + 0))) hr22 ?_
    refine va_mmin hx hb (hml.trans hl.1.symm) hown (hts _ wd_c_X0_widen_X0_widen_0) (hts _ wd_c_X0_widen_X0_widen_1) (hts _ wd_c_X0_widen_X0_widen_2) (hts _ wd_c_X0_widen_X0_widen_3) (Nat.le_of_ble_eq_true rfl) (Nat.le_of_ble_eq_true rfl) (Nat.le_refl _) (Nat.le_refl _) dX0_widen_25 ?_
    refine lv_istore (lv' := [(5, .int (if (g (y * 6 + i * 2 + 0)) < (fu (x * 6 + i * 2 + 0)) then (g (y * 6 + i * 2 + 0)) else (fu (x * 6 + i * 2 + 0)))), (4, .int (nI i)), (0, .ref h), (1, .int (nI x)), (2, .ref h2), (3, .int (nI y))]) hx hb dX0_widen_28 hl (by decide) rfl (fun ls hl => ?_)
    refine lv_aload_n hx hb dX0_widen_30 rfl (lv_at hl 2 rfl) ?_
    refine lv_iload_n hx hb dX0_widen_31 rfl (lv_at hl 3 rfl) ?_
    refine lv_iload hx hb dX0_widen_32 (lv_at hl 1 rfl) ?_
    refine lv_iconst (v := nI 1) hx hb dX0_widen_34 (by decide) ?_
    refine pt_rdi (va_runV (As := [.int (nI x), .int (nI i), .int (nI 1)]) (rest := []) ⟨hx, hb, hml, hown, hts⟩ (c_X0_at l dC dI tys (ws.set q1 (b, .inl (cA, n, .inl fu))) q0 q1 t0 h b cA n fu (pt_set_o (ws := ws) e0 e1) (pt_set_eq (ws := ws) e1) et hn x i 1 (by omega)) (cwV 3 hts gX0_widen_X0_at rfl rfl rfl (by decide +kernel) ⟨Nat.le_of_ble_eq_true rfl, Nat.le_of_ble_eq_true rfl⟩) (pt_pv0 hP hK hN (q0 := q0) (pt_set_o (ws := ws) e0 e1)) rfl rfl hl.1 rfl (lv_room (Nat.le_of_ble_eq_true rfl)) dX0_widen_35 ⟨Nat.le_of_ble_eq_true rfl, Nat.le_of_ble_eq_true rfl⟩) (fun r35 hr35 => ?_)
    refine pt_top (y := (fu (x * 6 + i * 2 + 1))) hr35 ?_
    refine lv_aload_n hx hb dX0_widen_38 rfl (lv_at hl 4 rfl) ?_
    refine lv_iload_n hx hb dX0_widen_39 rfl (lv_at hl 5 rfl) ?_
    refine lv_iload hx hb dX0_widen_40 (lv_at hl 1 rfl) ?_
    refine lv_iconst (v := nI 1) hx hb dX0_widen_42 (by decide) ?_
    refine pt_rdi (va_runV (As := [.int (nI y), .int (nI i), .int (nI 1)]) (rest := [.int (fu (x * 6 + i * 2 + 1))]) ⟨hx, hb, hml, hown, hts⟩ (c_X0_at l dC dI tys (ws.set q1 (b, .inl (cA, n, .inl fu))) q2 q3 t1 h2 b2 cB n2 g (pt_set_o (ws := ws) e2 e1) (pt_set_ne (ws := ws) hq e3) et2 hn2 y i 1 (by omega)) (cwV 3 hts gX0_widen_X0_at rfl rfl rfl (by decide +kernel) ⟨Nat.le_of_ble_eq_true rfl, Nat.le_of_ble_eq_true rfl⟩) (pt_pv0 hP hK hN (q0 := q2) (pt_set_o (ws := ws) e2 e1)) rfl rfl hl.1 rfl (lv_room (Nat.le_of_ble_eq_true rfl)) dX0_widen_43 ⟨Nat.le_of_ble_eq_true rfl, Nat.le_of_ble_eq_true rfl⟩) (fun r43 hr43 => ?_)
    refine pt_top (y := (g (y * 6 + i * 2 + 1))) hr43 ?_
    refine va_mmax hx hb (hml.trans hl.1.symm) hown (hts _ wd_c_X0_widen_X0_widen_4) (hts _ wd_c_X0_widen_X0_widen_5) (hts _ wd_c_X0_widen_X0_widen_2) (hts _ wd_c_X0_widen_X0_widen_6) (Nat.le_of_ble_eq_true rfl) (Nat.le_of_ble_eq_true rfl) (Nat.le_refl _) (Nat.le_refl _) dX0_widen_46 ?_
    refine lv_istore (lv' := [(6, .int (if (fu (x * 6 + i * 2 + 1)) < (g (y * 6 + i * 2 + 1)) then (g (y * 6 + i * 2 + 1)) else (fu (x * 6 + i * 2 + 1)))), (5, .int (if (g (y * 6 + i * 2 + 0)) < (fu (x * 6 + i * 2 + 0)) then (g (y * 6 + i * 2 + 0)) else (fu (x * 6 + i * 2 + 0)))), (4, .int (nI i)), (0, .ref h), (1, .int (nI x)), (2, .ref h2), (3, .int (nI y))]) hx hb dX0_widen_49 hl (by decide) rfl (fun ls hl => ?_)
    refine lv_aload_n hx hb dX0_widen_51 rfl (lv_at hl 3 rfl) ?_
    refine lv_iload_n hx hb dX0_widen_52 rfl (lv_at hl 4 rfl) ?_
    refine lv_iload hx hb dX0_widen_53 (lv_at hl 2 rfl) ?_
    refine lv_iload hx hb dX0_widen_55 (lv_at hl 1 rfl) ?_
    refine lv_iload hx hb dX0_widen_57 (lv_at hl 0 rfl) ?_
    refine pt_callv (wf := (fun u => (ws.set q1 (b, .inl (cA, n, .inl fu))).set q1 (b, .inl (cA, n, .inl u)))) (va_runV (As := [.int (nI x), .int (nI i), .int (if (g (y * 6 + i * 2 + 0)) < (fu (x * 6 + i * 2 + 0)) then (g (y * 6 + i * 2 + 0)) else (fu (x * 6 + i * 2 + 0))), .int (if (fu (x * 6 + i * 2 + 1)) < (g (y * 6 + i * 2 + 1)) then (g (y * 6 + i * 2 + 1)) else (fu (x * 6 + i * 2 + 1)))]) (rest := []) ⟨hx, hb, hml, hown, hts⟩ (c_X0_putSpan l dC dI tys (ws.set q1 (b, .inl (cA, n, .inl fu))) q0 q1 t0 h b cA n fu (pt_set_o (ws := ws) e0 e1) (pt_set_eq (ws := ws) e1) et hn _ x i (if (g (y * 6 + i * 2 + 0)) < (fu (x * 6 + i * 2 + 0)) then (g (y * 6 + i * 2 + 0)) else (fu (x * 6 + i * 2 + 0))) (if (fu (x * 6 + i * 2 + 1)) < (g (y * 6 + i * 2 + 1)) then (g (y * 6 + i * 2 + 1)) else (fu (x * 6 + i * 2 + 1))) (by omega)) (cwV 4 hts gX0_widen_X0_putSpan rfl rfl rfl (by decide +kernel) ⟨Nat.le_of_ble_eq_true rfl, Nat.le_of_ble_eq_true rfl⟩) (pt_wv0 hP hK hN hD (q0 := q0) (pt_set_o (ws := ws) e0 e1)) rfl rfl hl.1 rfl (lv_room (Nat.le_of_ble_eq_true rfl)) dX0_widen_59 ⟨Nat.le_of_ble_eq_true rfl, Nat.le_of_ble_eq_true rfl⟩) hD hS hA (fun _ => pt_setaddr (pt_set_eq (ws := ws) e1)) (fun u59 H locs hr59 hP hD hS => ?_)
    rw [List.set_set] at hP hD
    obtain ⟨f1, rfl⟩ : ∃ zz, zz = u59 := ⟨_, rfl⟩
    have ef1 := hr59
    refine lv_iinc (v := nI (i + 1)) (lv' := [(4, .int (nI (i + 1))), (6, .int (if (fu (x * 6 + i * 2 + 1)) < (g (y * 6 + i * 2 + 1)) then (g (y * 6 + i * 2 + 1)) else (fu (x * 6 + i * 2 + 1)))), (5, .int (if (g (y * 6 + i * 2 + 0)) < (fu (x * 6 + i * 2 + 0)) then (g (y * 6 + i * 2 + 0)) else (fu (x * 6 + i * 2 + 0)))), (0, .ref h), (1, .int (nI x)), (2, .ref h2), (3, .int (nI y))]) hx hb dX0_widen_62 hl (k := 2) rfl (nI_1 _) (by decide) rfl (fun ls hl => ?_)
    refine lv_goto (tgt := 3) hx hb dX0_widen_65 (by decide) ?_
    exact ih (i + 1, f1) _ _ _ ⟨by show i + 1 ≤ 3; omega, by show f1 = _; rw [ef1, eu]; exact pt_wd_step, hP, hD, hS, lv_sub hl [0, 3, 4, 5, 6] rfl⟩ (by show 3 - (i + 1) < 3 - i; omega)

/-- the square of the gap between p and lo .. hi, as the class reckons it -/
def pt_gap (lo hi p : Int32) : Int64 := if (if p.toInt64 - hi.toInt64 < lo.toInt64 - p.toInt64 then lo.toInt64 - p.toInt64 else p.toInt64 - hi.toInt64) < 0 then 0 else (if p.toInt64 - hi.toInt64 < lo.toInt64 - p.toInt64 then lo.toInt64 - p.toInt64 else p.toInt64 - hi.toInt64)
def pt_sqa (lo hi p : Int32) : Int64 := pt_gap lo hi p * pt_gap lo hi p
def pt_sqt (ax : Nat) (lo hi : Nat → Int32) (x y z : Int32) : Int64 := if ax ≤ 1 then pt_sqa (lo 0) (hi 0) x else if ax ≤ 2 then pt_sqa (lo 0) (hi 0) x + pt_sqa (lo 1) (hi 1) y else pt_sqa (lo 0) (hi 0) x + pt_sqa (lo 1) (hi 1) y + pt_sqa (lo 2) (hi 2) z

theorem wd_c_X0_squareOnAxis_X0_squareOnAxis_0 : Cond.methodLink RX0 36 Lib.MathLoose.max_long.x ∈ wsX0_squareOnAxis := by decide +kernel
theorem wd_c_X0_squareOnAxis_X0_squareOnAxis_1 : Cond.static Lib.MathLoose.max_long.x ∈ wsX0_squareOnAxis := by decide +kernel
theorem wd_c_X0_squareOnAxis_X0_squareOnAxis_2 : Cond.initialized "java/lang/Math" ∈ wsX0_squareOnAxis := by decide +kernel
theorem wd_c_X0_squareOnAxis_X0_squareOnAxis_3 : Cond.code Lib.MathLoose.max_long.x Lib.MathLoose.max_long.code 4 (some .long) ∈ wsX0_squareOnAxis := by decide +kernel
theorem iw_c_X0_squareOnAxis_wsX00 : ∀ w ∈ wsX00, w ∈ wsX0_squareOnAxis := fun _ h => List.mem_cons_of_mem _ (List.mem_append_right _ h)
set_option maxHeartbeats 4000000 in
set_option maxRecDepth 100000 in
/-- Boxes.squareOnAxis -/
theorem c_X0_squareOnAxis (l : Launch) (dC : Nat → ClassId) (dI : Nat → Nat → Nat) (tys : List (ClassId × FieldType)) (ws : va_W) (q0 q1 t0 h b : Nat) (cA : ClassId) (n : Nat) (f : Nat → Int32) (e0 : ws[q0]? = some (h, .inr (0, [.ref b]))) (e1 : ws[q1]? = some (b, .inl (cA, n, .inl f))) (et : tys[t0]? = some (cA, .int)) (hn : n < 2 ^ 31) (x y : Nat) (p0 : Int32) (hk : x * 6 + y * 2 + 1 < n) : Met l yX0_squareOnAxis wsX0_squareOnAxis (pt_rm 1) (pt_R (dC, dI) vwCl tys ws pt_nw [.ref h, .int (nI x), .int (nI y), .int p0]) (vp_Sl (fun r => r = pt_sqa (f (x * 6 + y * 2 + 0)) (f (x * 6 + y * 2 + 1)) p0)) 0 0 (fun _ => False) := by
  refine Met.ofW (cc := cX0_squareOnAxis) (maxL := 10) (ret := (some .long)) (by decide) rfl ?_
  intro p e s m args below meth cd s₁ B hml hv
  obtain ⟨rfl, hP, hK, hN⟩ := hv
  have hx := B.exec
  have hb := B.bytes
  have hr := B.returns
  have hts := atoms_spec (ws := wsX0_squareOnAxis) B.pre
  have hown : s.vm.findClass RX0 = some m.cls := findClass_of_methodNamed B.named
  have hlocks := B.notSynchronized
  have hl := lv_entry ([.ref h, .int (nI x), .int (nI y), .int p0]) (n := 10) (Nat.le_of_ble_eq_true rfl)
  rw [lg_entry_eq]
  generalize (lg_sl ([.ref h, .int (nI x), .int (nI y), .int p0]) ++ List.replicate (10 - (lg_sl ([.ref h, .int (nI x), .int (nI y), .int p0])).length) Slot.unset).toArray = ls at hl ⊢
  have hl : lv_has ls 10 [(0, .ref h), (1, .int (nI x)), (2, .int (nI y)), (3, .int p0)] := hl
  refine lv_aload_n hx hb dX0_squareOnAxis_0 rfl (lv_at hl 0 rfl) ?_
  refine lv_iload_n hx hb dX0_squareOnAxis_1 rfl (lv_at hl 1 rfl) ?_
  refine lv_iload_n hx hb dX0_squareOnAxis_2 rfl (lv_at hl 2 rfl) ?_
  refine lv_iconst (v := nI 0) hx hb dX0_squareOnAxis_3 (by decide) ?_
  refine pt_rdi (va_runV (As := [.int (nI x), .int (nI y), .int (nI 0)]) (rest := []) ⟨hx, hb, hml, hown, hts⟩ (c_X0_at l dC dI (tys) (ws) q0 q1 t0 h b cA n f e0 e1 et hn x y 0 (by omega)) (cwV 3 hts gX0_squareOnAxis_X0_at rfl rfl rfl (by decide +kernel) ⟨Nat.le_of_ble_eq_true rfl, Nat.le_of_ble_eq_true rfl⟩) (pt_pv0 hP hK hN (q0 := q0) e0) rfl rfl hl.1 rfl (lv_room (Nat.le_of_ble_eq_true rfl)) dX0_squareOnAxis_4 ⟨Nat.le_of_ble_eq_true rfl, Nat.le_of_ble_eq_true rfl⟩) (fun r4 hr4 => ?_)
  refine pt_top (y := (f (x * 6 + y * 2 + 0))) hr4 ?_
  refine lv_i2l (v := ((f (x * 6 + y * 2 + 0))).toInt64) hx hb dX0_squareOnAxis_7 rfl ?_
  refine lv_iload_n hx hb dX0_squareOnAxis_8 rfl (lv_at hl 3 rfl) ?_
  refine lv_i2l (v := (p0).toInt64) hx hb dX0_squareOnAxis_9 rfl ?_
  refine lv_lsub hx hb dX0_squareOnAxis_10 ?_
  refine lv_lstore (lv' := [(4, .long ((((f (x * 6 + y * 2 + 0))).toInt64) - ((p0).toInt64))), (0, .ref h), (1, .int (nI x)), (2, .int (nI y)), (3, .int p0)]) hx hb dX0_squareOnAxis_11 hl (by decide) rfl (fun ls hl => ?_)
  refine lv_iload_n hx hb dX0_squareOnAxis_13 rfl (lv_at hl 4 rfl) ?_
  refine lv_i2l (v := (p0).toInt64) hx hb dX0_squareOnAxis_14 rfl ?_
  refine lv_aload_n hx hb dX0_squareOnAxis_15 rfl (lv_at hl 1 rfl) ?_
  refine lv_iload_n hx hb dX0_squareOnAxis_16 rfl (lv_at hl 2 rfl) ?_
  refine lv_iload_n hx hb dX0_squareOnAxis_17 rfl (lv_at hl 3 rfl) ?_
  refine lv_iconst (v := nI 1) hx hb dX0_squareOnAxis_18 (by decide) ?_
  refine pt_rdi (va_runV (As := [.int (nI x), .int (nI y), .int (nI 1)]) (rest := [.long ((p0).toInt64)]) ⟨hx, hb, hml, hown, hts⟩ (c_X0_at l dC dI (tys) (ws) q0 q1 t0 h b cA n f e0 e1 et hn x y 1 (by omega)) (cwV 3 hts gX0_squareOnAxis_X0_at rfl rfl rfl (by decide +kernel) ⟨Nat.le_of_ble_eq_true rfl, Nat.le_of_ble_eq_true rfl⟩) (pt_pv0 hP hK hN (q0 := q0) e0) rfl rfl hl.1 rfl (lv_room (Nat.le_of_ble_eq_true rfl)) dX0_squareOnAxis_19 ⟨Nat.le_of_ble_eq_true rfl, Nat.le_of_ble_eq_true rfl⟩) (fun r19 hr19 => ?_)
  refine pt_top (y := (f (x * 6 + y * 2 + 1))) hr19 ?_
  refine lv_i2l (v := ((f (x * 6 + y * 2 + 1))).toInt64) hx hb dX0_squareOnAxis_22 rfl ?_
  refine lv_lsub hx hb dX0_squareOnAxis_23 ?_
  refine lv_lstore (lv' := [(6, .long (((p0).toInt64) - (((f (x * 6 + y * 2 + 1))).toInt64))), (4, .long ((((f (x * 6 + y * 2 + 0))).toInt64) - ((p0).toInt64))), (0, .ref h), (1, .int (nI x)), (2, .int (nI y)), (3, .int p0)]) hx hb dX0_squareOnAxis_24 hl (by decide) rfl (fun ls hl => ?_)
  refine lv_lconst (v := 0) hx hb dX0_squareOnAxis_26 (by decide) ?_
  refine lv_lload hx hb dX0_squareOnAxis_27 (lv_at hl 1 rfl) ?_
  refine lv_lload hx hb dX0_squareOnAxis_29 (lv_at hl 0 rfl) ?_
  refine va_mmax_long hx hb (hml.trans hl.1.symm) hown (hts _ wd_c_X0_squareOnAxis_X0_squareOnAxis_0) (hts _ wd_c_X0_squareOnAxis_X0_squareOnAxis_1) (hts _ wd_c_X0_squareOnAxis_X0_squareOnAxis_2) (hts _ wd_c_X0_squareOnAxis_X0_squareOnAxis_3) (Nat.le_of_ble_eq_true rfl) (Nat.le_of_ble_eq_true rfl) (Nat.le_refl _) (Nat.le_refl _) dX0_squareOnAxis_31 ?_
  refine va_mmax_long hx hb (hml.trans hl.1.symm) hown (hts _ wd_c_X0_squareOnAxis_X0_squareOnAxis_0) (hts _ wd_c_X0_squareOnAxis_X0_squareOnAxis_1) (hts _ wd_c_X0_squareOnAxis_X0_squareOnAxis_2) (hts _ wd_c_X0_squareOnAxis_X0_squareOnAxis_3) (Nat.le_of_ble_eq_true rfl) (Nat.le_of_ble_eq_true rfl) (Nat.le_refl _) (Nat.le_refl _) dX0_squareOnAxis_34 ?_
  refine lv_lstore (lv' := [(8, .long (if (if (((p0).toInt64) - (((f (x * 6 + y * 2 + 1))).toInt64)) < ((((f (x * 6 + y * 2 + 0))).toInt64) - ((p0).toInt64)) then ((((f (x * 6 + y * 2 + 0))).toInt64) - ((p0).toInt64)) else (((p0).toInt64) - (((f (x * 6 + y * 2 + 1))).toInt64))) < (0 : Int64) then (0 : Int64) else (if (((p0).toInt64) - (((f (x * 6 + y * 2 + 1))).toInt64)) < ((((f (x * 6 + y * 2 + 0))).toInt64) - ((p0).toInt64)) then ((((f (x * 6 + y * 2 + 0))).toInt64) - ((p0).toInt64)) else (((p0).toInt64) - (((f (x * 6 + y * 2 + 1))).toInt64))))), (6, .long (((p0).toInt64) - (((f (x * 6 + y * 2 + 1))).toInt64))), (4, .long ((((f (x * 6 + y * 2 + 0))).toInt64) - ((p0).toInt64))), (0, .ref h), (1, .int (nI x)), (2, .int (nI y)), (3, .int p0)]) hx hb dX0_squareOnAxis_37 hl (by decide) rfl (fun ls hl => ?_)
  refine lv_lload hx hb dX0_squareOnAxis_39 (lv_at hl 0 rfl) ?_
  refine lv_lload hx hb dX0_squareOnAxis_41 (lv_at hl 0 rfl) ?_
  refine lv_lmul hx hb dX0_squareOnAxis_43 ?_
  exact W.lret (v := ((if (if (((p0).toInt64) - (((f (x * 6 + y * 2 + 1))).toInt64)) < ((((f (x * 6 + y * 2 + 0))).toInt64) - ((p0).toInt64)) then ((((f (x * 6 + y * 2 + 0))).toInt64) - ((p0).toInt64)) else (((p0).toInt64) - (((f (x * 6 + y * 2 + 1))).toInt64))) < (0 : Int64) then (0 : Int64) else (if (((p0).toInt64) - (((f (x * 6 + y * 2 + 1))).toInt64)) < ((((f (x * 6 + y * 2 + 0))).toInt64) - ((p0).toInt64)) then ((((f (x * 6 + y * 2 + 0))).toInt64) - ((p0).toInt64)) else (((p0).toInt64) - (((f (x * 6 + y * 2 + 1))).toInt64)))) * (if (if (((p0).toInt64) - (((f (x * 6 + y * 2 + 1))).toInt64)) < ((((f (x * 6 + y * 2 + 0))).toInt64) - ((p0).toInt64)) then ((((f (x * 6 + y * 2 + 0))).toInt64) - ((p0).toInt64)) else (((p0).toInt64) - (((f (x * 6 + y * 2 + 1))).toInt64))) < (0 : Int64) then (0 : Int64) else (if (((p0).toInt64) - (((f (x * 6 + y * 2 + 1))).toInt64)) < ((((f (x * 6 + y * 2 + 0))).toInt64) - ((p0).toInt64)) then ((((f (x * 6 + y * 2 + 0))).toInt64) - ((p0).toInt64)) else (((p0).toInt64) - (((f (x * 6 + y * 2 + 1))).toInt64)))))) hx hb hr (fun zt zh zW => ⟨_, rfl, rfl, zh⟩) (fun q h => by cases h) dX0_squareOnAxis_44

theorem iw_c_X0_squareTo_wsX00 : ∀ w ∈ wsX00, w ∈ wsX0_squareTo := fun _ h => List.mem_cons_of_mem _ (List.mem_append_right _ h)
set_option maxHeartbeats 4000000 in
set_option maxRecDepth 100000 in
/-- Boxes.squareTo -/
theorem c_X0_squareTo (l : Launch) (dC : Nat → ClassId) (dI : Nat → Nat → Nat) (tys : List (ClassId × FieldType)) (ws : va_W) (q0 q1 t0 h b : Nat) (cA : ClassId) (n : Nat) (f : Nat → Int32) (e0 : ws[q0]? = some (h, .inr (0, [.ref b]))) (e1 : ws[q1]? = some (b, .inl (cA, n, .inl f))) (et : tys[t0]? = some (cA, .int)) (hn : n < 2 ^ 31) (x ax : Nat) (px py pz : Int32) (hk : x * 6 + 5 < n) (hax : ax ≤ 3) : Met l yX0_squareTo wsX0_squareTo (pt_rm 2) (pt_R (dC, dI) vwCl tys ws pt_nw [.ref h, .int (nI x), .int (nI ax), .int px, .int py, .int pz]) (vp_Sl (fun r => r = pt_sqt ax (fun a => f (x * 6 + a * 2 + 0)) (fun a => f (x * 6 + a * 2 + 1)) px py pz)) 0 0 (fun _ => False) := by
  refine Met.ofW (cc := cX0_squareTo) (maxL := 8) (ret := (some .long)) (by decide) rfl ?_
  intro p e s m args below meth cd s₁ B hml hv
  obtain ⟨rfl, hP, hK, hN⟩ := hv
  have hx := B.exec
  have hb := B.bytes
  have hr := B.returns
  have hts := atoms_spec (ws := wsX0_squareTo) B.pre
  have hown : s.vm.findClass RX0 = some m.cls := findClass_of_methodNamed B.named
  have hlocks := B.notSynchronized
  have hl := lv_entry ([.ref h, .int (nI x), .int (nI ax), .int px, .int py, .int pz]) (n := 8) (Nat.le_of_ble_eq_true rfl)
  rw [lg_entry_eq]
  generalize (lg_sl ([.ref h, .int (nI x), .int (nI ax), .int px, .int py, .int pz]) ++ List.replicate (8 - (lg_sl ([.ref h, .int (nI x), .int (nI ax), .int px, .int py, .int pz])).length) Slot.unset).toArray = ls at hl ⊢
  have hl : lv_has ls 8 [(0, .ref h), (1, .int (nI x)), (2, .int (nI ax)), (3, .int px), (4, .int py), (5, .int pz)] := hl
  refine lv_aload_n hx hb dX0_squareTo_0 rfl (lv_at hl 0 rfl) ?_
  refine lv_iload_n hx hb dX0_squareTo_1 rfl (lv_at hl 1 rfl) ?_
  refine lv_iconst (v := nI 0) hx hb dX0_squareTo_2 (by decide) ?_
  refine lv_iload_n hx hb dX0_squareTo_3 rfl (lv_at hl 3 rfl) ?_
  refine pt_rdl (va_runV (As := [.int (nI x), .int (nI 0), .int px]) (rest := []) ⟨hx, hb, hml, hown, hts⟩ (c_X0_squareOnAxis l dC dI (tys) (ws) q0 q1 t0 h b cA n f e0 e1 et hn x 0 px (by omega)) (cwV 3 hts gX0_squareTo_X0_squareOnAxis rfl rfl rfl (by decide +kernel) ⟨Nat.le_of_ble_eq_true rfl, Nat.le_of_ble_eq_true rfl⟩) (pt_pv0 hP hK hN (q0 := q0) e0) rfl rfl hl.1 rfl (lv_room (Nat.le_of_ble_eq_true rfl)) dX0_squareTo_4 ⟨Nat.le_of_ble_eq_true rfl, Nat.le_of_ble_eq_true rfl⟩) (fun r4 hr4 => ?_)
  refine pt_topl (y := (pt_sqa (f (x * 6 + 0 * 2 + 0)) (f (x * 6 + 0 * 2 + 1)) px)) hr4 ?_
  refine lv_lstore (lv' := [(6, .long (pt_sqa (f (x * 6 + 0 * 2 + 0)) (f (x * 6 + 0 * 2 + 1)) px)), (0, .ref h), (1, .int (nI x)), (2, .int (nI ax)), (3, .int px), (4, .int py), (5, .int pz)]) hx hb dX0_squareTo_7 hl (by decide) rfl (fun ls hl => ?_)
  refine lv_iload_n hx hb dX0_squareTo_9 rfl (lv_at hl 3 rfl) ?_
  refine lv_iconst (v := nI 1) hx hb dX0_squareTo_10 (by decide) ?_
  refine lv_icmp_le (tgt := 27) hx hb dX0_squareTo_11 (by decide) (fun c11 => ?_) (fun c11 => ?_)
  · have d11 : ax ≤ 1 := (nI_leI (by omega) (by omega)).mp c11
    refine lv_iload_n hx hb dX0_squareTo_27 rfl (lv_at hl 3 rfl) ?_
    refine lv_iconst (v := nI 2) hx hb dX0_squareTo_28 (by decide) ?_
    refine lv_icmp_le (tgt := 45) hx hb dX0_squareTo_29 (by decide) (fun c29 => ?_) (fun c29 => absurd (nI_le (by omega) (by omega)) c29)
    refine lv_lload hx hb dX0_squareTo_45 (lv_at hl 0 rfl) ?_
    exact W.lret (v := (pt_sqa (f (x * 6 + 0 * 2 + 0)) (f (x * 6 + 0 * 2 + 1)) px)) hx hb hr (fun zt zh zW => ⟨_, rfl, (by unfold pt_sqt; first | (rw [if_pos d11]; done) | (rw [if_neg d11, if_pos d29]; done) | (rw [if_neg d11, if_neg d29]; done)), zh⟩) (fun q h => by cases h) dX0_squareTo_47
  · have d11 : ¬ ax ≤ 1 := fun q => c11 ((nI_leI (by omega) (by omega)).mpr q)
    refine lv_lload hx hb dX0_squareTo_14 (lv_at hl 0 rfl) ?_
    refine lv_aload_n hx hb dX0_squareTo_16 rfl (lv_at hl 1 rfl) ?_
    refine lv_iload_n hx hb dX0_squareTo_17 rfl (lv_at hl 2 rfl) ?_
    refine lv_iconst (v := nI 1) hx hb dX0_squareTo_18 (by decide) ?_
    refine lv_iload hx hb dX0_squareTo_19 (lv_at hl 5 rfl) ?_
    refine pt_rdl (va_runV (As := [.int (nI x), .int (nI 1), .int py]) (rest := [.long (pt_sqa (f (x * 6 + 0 * 2 + 0)) (f (x * 6 + 0 * 2 + 1)) px)]) ⟨hx, hb, hml, hown, hts⟩ (c_X0_squareOnAxis l dC dI (tys) (ws) q0 q1 t0 h b cA n f e0 e1 et hn x 1 py (by omega)) (cwV 3 hts gX0_squareTo_X0_squareOnAxis rfl rfl rfl (by decide +kernel) ⟨Nat.le_of_ble_eq_true rfl, Nat.le_of_ble_eq_true rfl⟩) (pt_pv0 hP hK hN (q0 := q0) e0) rfl rfl hl.1 rfl (lv_room (Nat.le_of_ble_eq_true rfl)) dX0_squareTo_21 ⟨Nat.le_of_ble_eq_true rfl, Nat.le_of_ble_eq_true rfl⟩) (fun r21 hr21 => ?_)
    refine pt_topl (y := (pt_sqa (f (x * 6 + 1 * 2 + 0)) (f (x * 6 + 1 * 2 + 1)) py)) hr21 ?_
    refine lv_ladd hx hb dX0_squareTo_24 ?_
    refine lv_lstore (lv' := [(6, .long ((pt_sqa (f (x * 6 + 0 * 2 + 0)) (f (x * 6 + 0 * 2 + 1)) px) + (pt_sqa (f (x * 6 + 1 * 2 + 0)) (f (x * 6 + 1 * 2 + 1)) py))), (0, .ref h), (1, .int (nI x)), (2, .int (nI ax)), (3, .int px), (4, .int py), (5, .int pz)]) hx hb dX0_squareTo_25 hl (by decide) rfl (fun ls hl => ?_)
    refine lv_iload_n hx hb dX0_squareTo_27 rfl (lv_at hl 3 rfl) ?_
    refine lv_iconst (v := nI 2) hx hb dX0_squareTo_28 (by decide) ?_
    refine lv_icmp_le (tgt := 45) hx hb dX0_squareTo_29 (by decide) (fun c29 => ?_) (fun c29 => ?_)
    · have d29 : ax ≤ 2 := (nI_leI (by omega) (by omega)).mp c29
      refine lv_lload hx hb dX0_squareTo_45 (lv_at hl 0 rfl) ?_
      exact W.lret (v := ((pt_sqa (f (x * 6 + 0 * 2 + 0)) (f (x * 6 + 0 * 2 + 1)) px) + (pt_sqa (f (x * 6 + 1 * 2 + 0)) (f (x * 6 + 1 * 2 + 1)) py))) hx hb hr (fun zt zh zW => ⟨_, rfl, (by unfold pt_sqt; first | (rw [if_pos d11]; done) | (rw [if_neg d11, if_pos d29]; done) | (rw [if_neg d11, if_neg d29]; done)), zh⟩) (fun q h => by cases h) dX0_squareTo_47
    · have d29 : ¬ ax ≤ 2 := fun q => c29 ((nI_leI (by omega) (by omega)).mpr q)
      refine lv_lload hx hb dX0_squareTo_32 (lv_at hl 0 rfl) ?_
      refine lv_aload_n hx hb dX0_squareTo_34 rfl (lv_at hl 1 rfl) ?_
      refine lv_iload_n hx hb dX0_squareTo_35 rfl (lv_at hl 2 rfl) ?_
      refine lv_iconst (v := nI 2) hx hb dX0_squareTo_36 (by decide) ?_
      refine lv_iload hx hb dX0_squareTo_37 (lv_at hl 6 rfl) ?_
      refine pt_rdl (va_runV (As := [.int (nI x), .int (nI 2), .int pz]) (rest := [.long ((pt_sqa (f (x * 6 + 0 * 2 + 0)) (f (x * 6 + 0 * 2 + 1)) px) + (pt_sqa (f (x * 6 + 1 * 2 + 0)) (f (x * 6 + 1 * 2 + 1)) py))]) ⟨hx, hb, hml, hown, hts⟩ (c_X0_squareOnAxis l dC dI (tys) (ws) q0 q1 t0 h b cA n f e0 e1 et hn x 2 pz (by omega)) (cwV 3 hts gX0_squareTo_X0_squareOnAxis rfl rfl rfl (by decide +kernel) ⟨Nat.le_of_ble_eq_true rfl, Nat.le_of_ble_eq_true rfl⟩) (pt_pv0 hP hK hN (q0 := q0) e0) rfl rfl hl.1 rfl (lv_room (Nat.le_of_ble_eq_true rfl)) dX0_squareTo_39 ⟨Nat.le_of_ble_eq_true rfl, Nat.le_of_ble_eq_true rfl⟩) (fun r39 hr39 => ?_)
      refine pt_topl (y := (pt_sqa (f (x * 6 + 2 * 2 + 0)) (f (x * 6 + 2 * 2 + 1)) pz)) hr39 ?_
      refine lv_ladd hx hb dX0_squareTo_42 ?_
      refine lv_lstore (lv' := [(6, .long (((pt_sqa (f (x * 6 + 0 * 2 + 0)) (f (x * 6 + 0 * 2 + 1)) px) + (pt_sqa (f (x * 6 + 1 * 2 + 0)) (f (x * 6 + 1 * 2 + 1)) py)) + (pt_sqa (f (x * 6 + 2 * 2 + 0)) (f (x * 6 + 2 * 2 + 1)) pz))), (0, .ref h), (1, .int (nI x)), (2, .int (nI ax)), (3, .int px), (4, .int py), (5, .int pz)]) hx hb dX0_squareTo_43 hl (by decide) rfl (fun ls hl => ?_)
      refine lv_lload hx hb dX0_squareTo_45 (lv_at hl 0 rfl) ?_
      exact W.lret (v := (((pt_sqa (f (x * 6 + 0 * 2 + 0)) (f (x * 6 + 0 * 2 + 1)) px) + (pt_sqa (f (x * 6 + 1 * 2 + 0)) (f (x * 6 + 1 * 2 + 1)) py)) + (pt_sqa (f (x * 6 + 2 * 2 + 0)) (f (x * 6 + 2 * 2 + 1)) pz))) hx hb hr (fun zt zh zW => ⟨_, rfl, (by unfold pt_sqt; first | (rw [if_pos d11]; done) | (rw [if_neg d11, if_pos d29]; done) | (rw [if_neg d11, if_neg d29]; done)), zh⟩) (fun q h => by cases h) dX0_squareTo_47
end
section
/-- what a pair of ends must keep to -/
def pt_span (lo hi : Int32) : Prop := -1000000 ≤ lo ∧ hi ≤ 1000000 ∧ lo ≤ hi
def pt_box (ax : Nat) (x0 x1 y0 y1 z0 z1 : Int32) : Prop := pt_span x0 x1 ∧ (2 ≤ ax → pt_span y0 y1) ∧ (3 ≤ ax → pt_span z0 z1)
theorem pt_ix {k : Int32} {n : Nat} (h0 : ¬ k < 0) (h1 : ¬ nI n ≤ k) (hn : n < 2 ^ 31) : ∃ t, t < n ∧ k = nI t := by
  rcases pk_ix k hn with h | h | h
  · exact absurd h h0
  · exact absurd h h1
  · exact h
theorem pt_ixn {t n : Nat} (ht : t < n) (hn : n < 2 ^ 31) : ¬ nI t < 0 ∧ ¬ nI n ≤ nI t := ⟨nI_pos (by omega), nI_ge ht hn⟩
/-- a number of a row of n things -/
def pt_in (n : Nat) (P : Nat → Prop) (k : Int32) : Prop := ∃ t, t < n ∧ k = nI t ∧ P t
theorem pt_in_lo {n : Nat} {P : Nat → Prop} {k : Int32} (h : k < 0) (hn : n < 2 ^ 31) : ¬ pt_in n P k := fun ⟨t, ht, e, _⟩ => (pt_ixn ht hn).1 (by rw [← e]; exact h)
theorem pt_in_hi {n : Nat} {P : Nat → Prop} {k : Int32} (h : nI n ≤ k) (hn : n < 2 ^ 31) : ¬ pt_in n P k := fun ⟨t, ht, e, _⟩ => (pt_ixn ht hn).2 (by rw [← e]; exact h)
theorem pt_in_no {n : Nat} {P : Nat → Prop} {k : Int32} {t : Nat} (e : k = nI t) (ht : t < n) (hn : n < 2 ^ 31) (h : ¬ P t) : ¬ pt_in n P k := fun ⟨u, hu, eu, hp⟩ => h (by
  have : t = u := (nI_eq (by omega) (by omega)).mp (e.symm.trans eu)
  rw [this]; exact hp)

theorem wd_c_X1_isSpan_X1_isSpan_0 : Cond.constant RX1 149 (-1000000) ∈ wsX1_isSpan := by decide +kernel
theorem wd_c_X1_isSpan_X1_isSpan_1 : Cond.constant RX1 150 (1000000) ∈ wsX1_isSpan := by decide +kernel
set_option maxHeartbeats 4000000 in
set_option maxRecDepth 100000 in
theorem c_X1_isSpan (l : Launch) (dC : Nat → ClassId) (dI : Nat → Nat → Nat)  (tys : List (ClassId × FieldType)) (ws : va_W) (lo hi : Int32) : Met l yX1_isSpan wsX1_isSpan (pt_rm 0) (pt_R (dC, dI) vwCl tys ws pt_nw [.int lo, .int hi]) (vp_Si (fun r => pt_B r (pt_span lo hi))) 0 0 (fun _ => False) := by
  refine Met.ofW (cc := cX1_isSpan) (maxL := 2) (ret := (some .boolean)) (by decide) rfl ?_
  intro p e s m args below meth cd s₁ B hml hv
  obtain ⟨rfl, hP, hK, hN⟩ := hv
  have hx := B.exec
  have hb := B.bytes
  have hr := B.returns
  have hts := atoms_spec (ws := wsX1_isSpan) B.pre
  have hown : s.vm.findClass RX1 = some m.cls := findClass_of_methodNamed B.named
  have hlocks := B.notSynchronized
  have hl := lv_entry ([.int lo, .int hi]) (n := 2) (Nat.le_of_ble_eq_true rfl)
  rw [lg_entry_eq]
  generalize (lg_sl ([.int lo, .int hi]) ++ List.replicate (2 - (lg_sl ([.int lo, .int hi])).length) Slot.unset).toArray = ls at hl ⊢
  have hl : lv_has ls 2 [(0, .int lo), (1, .int hi)] := hl
  refine lv_iload_n hx hb dX1_isSpan_0 rfl (lv_at hl 0 rfl) ?_
  refine lv_ldc (v := -1000000) hx hb hown (hts _ wd_c_X1_isSpan_X1_isSpan_0) dX1_isSpan_1 ?_
  refine lv_icmp_lt (tgt := 21) hx hb dX1_isSpan_3 (by decide) (fun c3 => ?_) (fun c3 => ?_)
  · refine lv_iconst (v := 0) hx hb dX1_isSpan_21 (by decide) ?_
    exact W.zret (v := 0) hx hb hr rfl (fun zt zh zW => ⟨_, rfl, (pt_B.zero (fun q => by first | exact Int32.not_le.mpr c3 q.1 | exact Int32.not_le.mpr c9 q.2.1 | exact Int32.not_le.mpr c14 q.2.2)), zh⟩) (fun q h => by cases h) dX1_isSpan_22
  · refine lv_iload_n hx hb dX1_isSpan_6 rfl (lv_at hl 1 rfl) ?_
    refine lv_ldc (v := 1000000) hx hb hown (hts _ wd_c_X1_isSpan_X1_isSpan_1) dX1_isSpan_7 ?_
    refine lv_icmp_gt (tgt := 21) hx hb dX1_isSpan_9 (by decide) (fun c9 => ?_) (fun c9 => ?_)
    · refine lv_iconst (v := 0) hx hb dX1_isSpan_21 (by decide) ?_
      exact W.zret (v := 0) hx hb hr rfl (fun zt zh zW => ⟨_, rfl, (pt_B.zero (fun q => by first | exact Int32.not_le.mpr c3 q.1 | exact Int32.not_le.mpr c9 q.2.1 | exact Int32.not_le.mpr c14 q.2.2)), zh⟩) (fun q h => by cases h) dX1_isSpan_22
    · refine lv_iload_n hx hb dX1_isSpan_12 rfl (lv_at hl 0 rfl) ?_
      refine lv_iload_n hx hb dX1_isSpan_13 rfl (lv_at hl 1 rfl) ?_
      refine lv_icmp_gt (tgt := 21) hx hb dX1_isSpan_14 (by decide) (fun c14 => ?_) (fun c14 => ?_)
      · refine lv_iconst (v := 0) hx hb dX1_isSpan_21 (by decide) ?_
        exact W.zret (v := 0) hx hb hr rfl (fun zt zh zW => ⟨_, rfl, (pt_B.zero (fun q => by first | exact Int32.not_le.mpr c3 q.1 | exact Int32.not_le.mpr c9 q.2.1 | exact Int32.not_le.mpr c14 q.2.2)), zh⟩) (fun q h => by cases h) dX1_isSpan_22
      · refine lv_iconst (v := 1) hx hb dX1_isSpan_17 (by decide) ?_
        refine lv_goto (tgt := 22) hx hb dX1_isSpan_18 (by decide) ?_
        exact W.zret (v := 1) hx hb hr rfl (fun zt zh zW => ⟨_, rfl, (pt_B.one ⟨Int32.not_lt.mp c3, Int32.not_lt.mp c9, Int32.not_lt.mp c14⟩), zh⟩) (fun q h => by cases h) dX1_isSpan_22

theorem wd_c_X1_isBox_X1_isBox_0 : Cond.fieldLink RX1 9 "PointTrees" "axes" "I" ∈ wsX1_isBox := by decide +kernel
theorem iw_c_X1_isBox_wsX10 : ∀ w ∈ wsX10, w ∈ wsX1_isBox := fun _ h => List.mem_cons_of_mem _ (List.mem_append_right _ h)
set_option maxHeartbeats 4000000 in
set_option maxRecDepth 100000 in
theorem c_X1_isBox (l : Launch) (dC : Nat → ClassId) (dI : Nat → Nat → Nat) (a : Nat → Nat) (c : Nat → ClassId) (F : Nat → Int32) (A : Nat → Nat → Int32) (Q : Nat → Int64) (ax : Nat) (h0 : F 0 = nI ax) (hax : ax ≤ 3) (x0 x1 y0 y1 z0 z1 : Int32) : Met l yX1_isBox wsX1_isBox (pt_rm 1) (pt_R (dC, dI) vwCl (pt_xt c) (pt_xw a c F A Q) pt_nw [.ref (a 0), .int x0, .int x1, .int y0, .int y1, .int z0, .int z1]) (vp_Si (fun r => pt_B r (pt_box ax x0 x1 y0 y1 z0 z1))) 0 0 (fun _ => False) := by
  refine Met.ofW (cc := cX1_isBox) (maxL := 7) (ret := (some .boolean)) (by decide) rfl ?_
  intro p e s m args below meth cd s₁ B hml hv
  obtain ⟨rfl, hP, hK, hN⟩ := hv
  have hx := B.exec
  have hb := B.bytes
  have hr := B.returns
  have hts := atoms_spec (ws := wsX1_isBox) B.pre
  have hown : s.vm.findClass RX1 = some m.cls := findClass_of_methodNamed B.named
  have hlocks := B.notSynchronized
  have hl := lv_entry ([.ref (a 0), .int x0, .int x1, .int y0, .int y1, .int z0, .int z1]) (n := 7) (Nat.le_of_ble_eq_true rfl)
  rw [lg_entry_eq]
  generalize (lg_sl ([.ref (a 0), .int x0, .int x1, .int y0, .int y1, .int z0, .int z1]) ++ List.replicate (7 - (lg_sl ([.ref (a 0), .int x0, .int x1, .int y0, .int y1, .int z0, .int z1])).length) Slot.unset).toArray = ls at hl ⊢
  have hl : lv_has ls 7 [(0, .ref (a 0)), (1, .int x0), (2, .int x1), (3, .int y0), (4, .int y1), (5, .int z0), (6, .int z1)] := hl
  refine lv_iload_n hx hb dX1_isBox_0 rfl (lv_at hl 1 rfl) ?_
  refine lv_iload_n hx hb dX1_isBox_1 rfl (lv_at hl 2 rfl) ?_
  refine pt_rdi (va_runS (As := [.int x0, .int x1]) (rest := []) ⟨hx, hb, hml, hown, hts⟩ (c_X1_isSpan l dC dI (pt_xt c) (pt_xw a c F A Q) x0 x1) (va_cwS 2 hts gX1_isBox_X1_isSpan rfl rfl rfl (by decide +kernel) ⟨Nat.le_of_ble_eq_true rfl, Nat.le_of_ble_eq_true rfl⟩) (pt_R.preS hP hK hN) rfl rfl hl.1 rfl (lv_room (Nat.le_of_ble_eq_true rfl)) dX1_isBox_2 ⟨Nat.le_of_ble_eq_true rfl, Nat.le_of_ble_eq_true rfl⟩) (fun r2 hr2 => ?_)
  refine lv_if_eq (tgt := 47) hx hb dX1_isBox_5 (by decide) (fun c5 => ?_) (fun c5 => ?_)
  · have d5 := hr2.f c5
    refine lv_iconst (v := 0) hx hb dX1_isBox_47 (by decide) ?_
    exact W.zret (v := 0) hx hb hr rfl (fun zt zh zW => ⟨_, rfl, (pt_B.zero (fun q => by first | exact d40 (q.2.2 d30) | exact d22 (q.2.1 d13) | exact d5 q.1)), zh⟩) (fun q h => by cases h) dX1_isBox_48
  · have d5 := hr2.t c5
    refine lv_aload_n hx hb dX1_isBox_8 rfl (lv_at hl 0 rfl) ?_
    refine va_get (D := (dC, dI)) (ci := 1) (v := .int (F 0)) (C := RX1) (T := TX1) (N := 18) hx hb hts iw_c_X1_isBox_wsX10 hown hK hP 0 rfl rfl 0 (by decide) (hts _ wd_c_X1_isBox_X1_isBox_0) (fun _ h9 => h9) rfl dX1_isBox_9 ?_
    refine pt_top (y := nI ax) h0 ?_
    refine lv_iconst (v := nI 2) hx hb dX1_isBox_12 (by decide) ?_
    refine lv_icmp_lt (tgt := 25) hx hb dX1_isBox_13 (by decide) (fun c13 => ?_) (fun c13 => ?_)
    · have d13 : ¬ 2 ≤ ax := fun q => nI_nlt q (by omega) c13
      refine lv_aload_n hx hb dX1_isBox_25 rfl (lv_at hl 0 rfl) ?_
      refine va_get (D := (dC, dI)) (ci := 1) (v := .int (F 0)) (C := RX1) (T := TX1) (N := 18) hx hb hts iw_c_X1_isBox_wsX10 hown hK hP 0 rfl rfl 0 (by decide) (hts _ wd_c_X1_isBox_X1_isBox_0) (fun _ h9 => h9) rfl dX1_isBox_26 ?_
      refine pt_top (y := nI ax) h0 ?_
      refine lv_iconst (v := nI 3) hx hb dX1_isBox_29 (by decide) ?_
      refine lv_icmp_lt (tgt := 43) hx hb dX1_isBox_30 (by decide) (fun c30 => ?_) (fun c30 => ?_)
      · have d30 : ¬ 3 ≤ ax := fun q => nI_nlt q (by omega) c30
        refine lv_iconst (v := 1) hx hb dX1_isBox_43 (by decide) ?_
        refine lv_goto (tgt := 48) hx hb dX1_isBox_44 (by decide) ?_
        exact W.zret (v := 1) hx hb hr rfl (fun zt zh zW => ⟨_, rfl, (pt_B.one ⟨d5, by first | exact fun _ => d22 | exact fun q => absurd q d13, by first | exact fun _ => d40 | exact fun q => absurd q d30⟩), zh⟩) (fun q h => by cases h) dX1_isBox_48
      · have d30 : 3 ≤ ax := Nat.not_lt.mp (fun q => c30 (nI_lt q (by omega)))
        refine lv_iload hx hb dX1_isBox_33 (lv_at hl 5 rfl) ?_
        refine lv_iload hx hb dX1_isBox_35 (lv_at hl 6 rfl) ?_
        refine pt_rdi (va_runS (As := [.int z0, .int z1]) (rest := []) ⟨hx, hb, hml, hown, hts⟩ (c_X1_isSpan l dC dI (pt_xt c) (pt_xw a c F A Q) z0 z1) (va_cwS 2 hts gX1_isBox_X1_isSpan rfl rfl rfl (by decide +kernel) ⟨Nat.le_of_ble_eq_true rfl, Nat.le_of_ble_eq_true rfl⟩) (pt_R.preS hP hK hN) rfl rfl hl.1 rfl (lv_room (Nat.le_of_ble_eq_true rfl)) dX1_isBox_37 ⟨Nat.le_of_ble_eq_true rfl, Nat.le_of_ble_eq_true rfl⟩) (fun r37 hr37 => ?_)
        refine lv_if_eq (tgt := 47) hx hb dX1_isBox_40 (by decide) (fun c40 => ?_) (fun c40 => ?_)
        · have d40 := hr37.f c40
          refine lv_iconst (v := 0) hx hb dX1_isBox_47 (by decide) ?_
          exact W.zret (v := 0) hx hb hr rfl (fun zt zh zW => ⟨_, rfl, (pt_B.zero (fun q => by first | exact d40 (q.2.2 d30) | exact d22 (q.2.1 d13) | exact d5 q.1)), zh⟩) (fun q h => by cases h) dX1_isBox_48
        · have d40 := hr37.t c40
          refine lv_iconst (v := 1) hx hb dX1_isBox_43 (by decide) ?_
          refine lv_goto (tgt := 48) hx hb dX1_isBox_44 (by decide) ?_
          exact W.zret (v := 1) hx hb hr rfl (fun zt zh zW => ⟨_, rfl, (pt_B.one ⟨d5, by first | exact fun _ => d22 | exact fun q => absurd q d13, by first | exact fun _ => d40 | exact fun q => absurd q d30⟩), zh⟩) (fun q h => by cases h) dX1_isBox_48
    · have d13 : 2 ≤ ax := Nat.not_lt.mp (fun q => c13 (nI_lt q (by omega)))
      refine lv_iload_n hx hb dX1_isBox_16 rfl (lv_at hl 3 rfl) ?_
      refine lv_iload hx hb dX1_isBox_17 (lv_at hl 4 rfl) ?_
      refine pt_rdi (va_runS (As := [.int y0, .int y1]) (rest := []) ⟨hx, hb, hml, hown, hts⟩ (c_X1_isSpan l dC dI (pt_xt c) (pt_xw a c F A Q) y0 y1) (va_cwS 2 hts gX1_isBox_X1_isSpan rfl rfl rfl (by decide +kernel) ⟨Nat.le_of_ble_eq_true rfl, Nat.le_of_ble_eq_true rfl⟩) (pt_R.preS hP hK hN) rfl rfl hl.1 rfl (lv_room (Nat.le_of_ble_eq_true rfl)) dX1_isBox_19 ⟨Nat.le_of_ble_eq_true rfl, Nat.le_of_ble_eq_true rfl⟩) (fun r19 hr19 => ?_)
      refine lv_if_eq (tgt := 47) hx hb dX1_isBox_22 (by decide) (fun c22 => ?_) (fun c22 => ?_)
      · have d22 := hr19.f c22
        refine lv_iconst (v := 0) hx hb dX1_isBox_47 (by decide) ?_
        exact W.zret (v := 0) hx hb hr rfl (fun zt zh zW => ⟨_, rfl, (pt_B.zero (fun q => by first | exact d40 (q.2.2 d30) | exact d22 (q.2.1 d13) | exact d5 q.1)), zh⟩) (fun q h => by cases h) dX1_isBox_48
      · have d22 := hr19.t c22
        refine lv_aload_n hx hb dX1_isBox_25 rfl (lv_at hl 0 rfl) ?_
        refine va_get (D := (dC, dI)) (ci := 1) (v := .int (F 0)) (C := RX1) (T := TX1) (N := 18) hx hb hts iw_c_X1_isBox_wsX10 hown hK hP 0 rfl rfl 0 (by decide) (hts _ wd_c_X1_isBox_X1_isBox_0) (fun _ h9 => h9) rfl dX1_isBox_26 ?_
        refine pt_top (y := nI ax) h0 ?_
        refine lv_iconst (v := nI 3) hx hb dX1_isBox_29 (by decide) ?_
        refine lv_icmp_lt (tgt := 43) hx hb dX1_isBox_30 (by decide) (fun c30 => ?_) (fun c30 => ?_)
        · have d30 : ¬ 3 ≤ ax := fun q => nI_nlt q (by omega) c30
          refine lv_iconst (v := 1) hx hb dX1_isBox_43 (by decide) ?_
          refine lv_goto (tgt := 48) hx hb dX1_isBox_44 (by decide) ?_
          exact W.zret (v := 1) hx hb hr rfl (fun zt zh zW => ⟨_, rfl, (pt_B.one ⟨d5, by first | exact fun _ => d22 | exact fun q => absurd q d13, by first | exact fun _ => d40 | exact fun q => absurd q d30⟩), zh⟩) (fun q h => by cases h) dX1_isBox_48
        · have d30 : 3 ≤ ax := Nat.not_lt.mp (fun q => c30 (nI_lt q (by omega)))
          refine lv_iload hx hb dX1_isBox_33 (lv_at hl 5 rfl) ?_
          refine lv_iload hx hb dX1_isBox_35 (lv_at hl 6 rfl) ?_
          refine pt_rdi (va_runS (As := [.int z0, .int z1]) (rest := []) ⟨hx, hb, hml, hown, hts⟩ (c_X1_isSpan l dC dI (pt_xt c) (pt_xw a c F A Q) z0 z1) (va_cwS 2 hts gX1_isBox_X1_isSpan rfl rfl rfl (by decide +kernel) ⟨Nat.le_of_ble_eq_true rfl, Nat.le_of_ble_eq_true rfl⟩) (pt_R.preS hP hK hN) rfl rfl hl.1 rfl (lv_room (Nat.le_of_ble_eq_true rfl)) dX1_isBox_37 ⟨Nat.le_of_ble_eq_true rfl, Nat.le_of_ble_eq_true rfl⟩) (fun r37 hr37 => ?_)
          refine lv_if_eq (tgt := 47) hx hb dX1_isBox_40 (by decide) (fun c40 => ?_) (fun c40 => ?_)
          · have d40 := hr37.f c40
            refine lv_iconst (v := 0) hx hb dX1_isBox_47 (by decide) ?_
            exact W.zret (v := 0) hx hb hr rfl (fun zt zh zW => ⟨_, rfl, (pt_B.zero (fun q => by first | exact d40 (q.2.2 d30) | exact d22 (q.2.1 d13) | exact d5 q.1)), zh⟩) (fun q h => by cases h) dX1_isBox_48
          · have d40 := hr37.t c40
            refine lv_iconst (v := 1) hx hb dX1_isBox_43 (by decide) ?_
            refine lv_goto (tgt := 48) hx hb dX1_isBox_44 (by decide) ?_
            exact W.zret (v := 1) hx hb hr rfl (fun zt zh zW => ⟨_, rfl, (pt_B.one ⟨d5, by first | exact fun _ => d22 | exact fun q => absurd q d13, by first | exact fun _ => d40 | exact fun q => absurd q d30⟩), zh⟩) (fun q h => by cases h) dX1_isBox_48

theorem iw_c_X1_isPlace_wsX10 : ∀ w ∈ wsX10, w ∈ wsX1_isPlace := fun _ h => List.mem_cons_of_mem _ (List.mem_append_right _ h)
set_option maxHeartbeats 4000000 in
set_option maxRecDepth 100000 in
theorem c_X1_isPlace (l : Launch) (dC : Nat → ClassId) (dI : Nat → Nat → Nat) (a : Nat → Nat) (c : Nat → ClassId) (F : Nat → Int32) (A : Nat → Nat → Int32) (Q : Nat → Int64) (ax : Nat) (h0 : F 0 = nI ax) (hax : ax ≤ 3) (x y z : Int32) : Met l yX1_isPlace wsX1_isPlace (pt_rm 2) (pt_R (dC, dI) vwCl (pt_xt c) (pt_xw a c F A Q) pt_nw [.ref (a 0), .int x, .int y, .int z]) (vp_Si (fun r => pt_B r (pt_box ax x x y y z z))) 0 0 (fun _ => False) := by
  refine Met.ofW (cc := cX1_isPlace) (maxL := 4) (ret := (some .boolean)) (by decide) rfl ?_
  intro p e s m args below meth cd s₁ B hml hv
  obtain ⟨rfl, hP, hK, hN⟩ := hv
  have hx := B.exec
  have hb := B.bytes
  have hr := B.returns
  have hts := atoms_spec (ws := wsX1_isPlace) B.pre
  have hown : s.vm.findClass RX1 = some m.cls := findClass_of_methodNamed B.named
  have hlocks := B.notSynchronized
  have hl := lv_entry ([.ref (a 0), .int x, .int y, .int z]) (n := 4) (Nat.le_of_ble_eq_true rfl)
  rw [lg_entry_eq]
  generalize (lg_sl ([.ref (a 0), .int x, .int y, .int z]) ++ List.replicate (4 - (lg_sl ([.ref (a 0), .int x, .int y, .int z])).length) Slot.unset).toArray = ls at hl ⊢
  have hl : lv_has ls 4 [(0, .ref (a 0)), (1, .int x), (2, .int y), (3, .int z)] := hl
  refine lv_aload_n hx hb dX1_isPlace_0 rfl (lv_at hl 0 rfl) ?_
  refine lv_iload_n hx hb dX1_isPlace_1 rfl (lv_at hl 1 rfl) ?_
  refine lv_iload_n hx hb dX1_isPlace_2 rfl (lv_at hl 1 rfl) ?_
  refine lv_iload_n hx hb dX1_isPlace_3 rfl (lv_at hl 2 rfl) ?_
  refine lv_iload_n hx hb dX1_isPlace_4 rfl (lv_at hl 2 rfl) ?_
  refine lv_iload_n hx hb dX1_isPlace_5 rfl (lv_at hl 3 rfl) ?_
  refine lv_iload_n hx hb dX1_isPlace_6 rfl (lv_at hl 3 rfl) ?_
  refine pt_rdi (va_runV (As := [.int x, .int x, .int y, .int y, .int z, .int z]) (rest := []) ⟨hx, hb, hml, hown, hts⟩ (c_X1_isBox l dC dI a c F A Q ax h0 hax x x y y z z) (cwV 6 hts gX1_isPlace_X1_isBox rfl rfl rfl (by decide +kernel) ⟨Nat.le_of_ble_eq_true rfl, Nat.le_of_ble_eq_true rfl⟩) (pt_pv1 hP hK hN (q0 := 0) rfl) rfl rfl hl.1 rfl (lv_room (Nat.le_of_ble_eq_true rfl)) dX1_isPlace_7 ⟨Nat.le_of_ble_eq_true rfl, Nat.le_of_ble_eq_true rfl⟩) (fun r7 hr7 => ?_)
  exact W.zret (v := r7) hx hb hr hr7.nar (fun zt zh zW => ⟨_, rfl, hr7, zh⟩) (fun q h => by cases h) dX1_isPlace_10

theorem wd_c_X1_hasThing_X1_hasThing_0 : Cond.fieldLink RX1 60 "PointTrees" "made" "I" ∈ wsX1_hasThing := by decide +kernel
theorem wd_c_X1_hasThing_X1_hasThing_1 : Cond.fieldLink RX1 15 "PointTrees" "isThere" "[Z" ∈ wsX1_hasThing := by decide +kernel
theorem iw_c_X1_hasThing_wsX10 : ∀ w ∈ wsX10, w ∈ wsX1_hasThing := fun _ h => List.mem_cons_of_mem _ (List.mem_append_right _ h)
set_option maxHeartbeats 4000000 in
set_option maxRecDepth 100000 in
theorem c_X1_hasThing (l : Launch) (dC : Nat → ClassId) (dI : Nat → Nat → Nat) (a : Nat → Nat) (c : Nat → ClassId) (F : Nat → Int32) (A : Nat → Nat → Int32) (Q : Nat → Int64) (md : Nat) (h1 : F 1 = nI md) (hmd : md ≤ 64) (k : Int32) : Met l yX1_hasThing wsX1_hasThing (pt_rm 0) (pt_R (dC, dI) vwCl (pt_xt c) (pt_xw a c F A Q) pt_nw [.ref (a 0), .int k]) (vp_Si (fun r => pt_B r (pt_in md (fun t => ¬ A 3 t = 0) k))) 0 0 (fun _ => False) := by
  refine Met.ofW (cc := cX1_hasThing) (maxL := 2) (ret := (some .boolean)) (by decide) rfl ?_
  intro p e s m args below meth cd s₁ B hml hv
  obtain ⟨rfl, hP, hK, hN⟩ := hv
  have hx := B.exec
  have hb := B.bytes
  have hr := B.returns
  have hts := atoms_spec (ws := wsX1_hasThing) B.pre
  have hown : s.vm.findClass RX1 = some m.cls := findClass_of_methodNamed B.named
  have hlocks := B.notSynchronized
  have hl := lv_entry ([.ref (a 0), .int k]) (n := 2) (Nat.le_of_ble_eq_true rfl)
  rw [lg_entry_eq]
  generalize (lg_sl ([.ref (a 0), .int k]) ++ List.replicate (2 - (lg_sl ([.ref (a 0), .int k])).length) Slot.unset).toArray = ls at hl ⊢
  have hl : lv_has ls 2 [(0, .ref (a 0)), (1, .int k)] := hl
  refine lv_iload_n hx hb dX1_hasThing_0 rfl (lv_at hl 1 rfl) ?_
  refine lv_if_lt (tgt := 25) hx hb dX1_hasThing_1 (by decide) (fun c1 => ?_) (fun c1 => ?_)
  · refine lv_iconst (v := 0) hx hb dX1_hasThing_25 (by decide) ?_
    exact W.zret (v := 0) hx hb hr rfl (fun zt zh zW => ⟨_, rfl, (pt_B.zero (by first | exact pt_in_no ek ht (by omega) (fun q => q c18) | exact pt_in_hi c9 (by omega) | exact pt_in_lo c1 (by omega))), zh⟩) (fun q h => by cases h) dX1_hasThing_26
  · refine lv_iload_n hx hb dX1_hasThing_4 rfl (lv_at hl 1 rfl) ?_
    refine lv_aload_n hx hb dX1_hasThing_5 rfl (lv_at hl 0 rfl) ?_
    refine va_get (D := (dC, dI)) (ci := 1) (v := .int (F 1)) (C := RX1) (T := TX1) (N := 18) hx hb hts iw_c_X1_hasThing_wsX10 hown hK hP 0 rfl rfl 1 (by decide) (hts _ wd_c_X1_hasThing_X1_hasThing_0) (fun _ h9 => h9) rfl dX1_hasThing_6 ?_
    refine pt_top (y := nI md) h1 ?_
    refine lv_icmp_ge (tgt := 25) hx hb dX1_hasThing_9 (by decide) (fun c9 => ?_) (fun c9 => ?_)
    · refine lv_iconst (v := 0) hx hb dX1_hasThing_25 (by decide) ?_
      exact W.zret (v := 0) hx hb hr rfl (fun zt zh zW => ⟨_, rfl, (pt_B.zero (by first | exact pt_in_no ek ht (by omega) (fun q => q c18) | exact pt_in_hi c9 (by omega) | exact pt_in_lo c1 (by omega))), zh⟩) (fun q h => by cases h) dX1_hasThing_26
    · obtain ⟨t, ht, ek⟩ := pt_ix c1 c9 (by omega)
      refine lv_aload_n hx hb dX1_hasThing_12 rfl (lv_at hl 0 rfl) ?_
      refine va_get (D := (dC, dI)) (ci := 1) (v := .ref (a 3)) (C := RX1) (T := TX1) (N := 18) hx hb hts iw_c_X1_hasThing_wsX10 hown hK hP 0 rfl rfl 3 (by decide) (hts _ wd_c_X1_hasThing_X1_hasThing_1) (fun _ h9 => h9) rfl dX1_hasThing_13 ?_
      refine lv_iload_n hx hb dX1_hasThing_16 rfl (lv_at hl 1 rfl) ?_
      refine pt_zald hx hb hK hP 1 0 rfl rfl t ek (by omega) (by decide) dX1_hasThing_17 ?_
      refine lv_if_eq (tgt := 25) hx hb dX1_hasThing_18 (by decide) (fun c18 => ?_) (fun c18 => ?_)
      · refine lv_iconst (v := 0) hx hb dX1_hasThing_25 (by decide) ?_
        exact W.zret (v := 0) hx hb hr rfl (fun zt zh zW => ⟨_, rfl, (pt_B.zero (by first | exact pt_in_no ek ht (by omega) (fun q => q c18) | exact pt_in_hi c9 (by omega) | exact pt_in_lo c1 (by omega))), zh⟩) (fun q h => by cases h) dX1_hasThing_26
      · refine lv_iconst (v := 1) hx hb dX1_hasThing_21 (by decide) ?_
        refine lv_goto (tgt := 26) hx hb dX1_hasThing_22 (by decide) ?_
        exact W.zret (v := 1) hx hb hr rfl (fun zt zh zW => ⟨_, rfl, (pt_B.one ⟨t, ht, ek, c18⟩), zh⟩) (fun q h => by cases h) dX1_hasThing_26

theorem wd_c_X1_hasBlock_X1_hasBlock_0 : Cond.fieldLink RX1 66 "PointTrees" "blocks" "I" ∈ wsX1_hasBlock := by decide +kernel
theorem iw_c_X1_hasBlock_wsX10 : ∀ w ∈ wsX10, w ∈ wsX1_hasBlock := fun _ h => List.mem_cons_of_mem _ (List.mem_append_right _ h)
set_option maxHeartbeats 4000000 in
set_option maxRecDepth 100000 in
theorem c_X1_hasBlock (l : Launch) (dC : Nat → ClassId) (dI : Nat → Nat → Nat) (a : Nat → Nat) (c : Nat → ClassId) (F : Nat → Int32) (A : Nat → Nat → Int32) (Q : Nat → Int64) (nb : Nat) (h5 : F 5 = nI nb) (hnb : nb ≤ 31) (k : Int32) : Met l yX1_hasBlock wsX1_hasBlock (pt_rm 0) (pt_R (dC, dI) vwCl (pt_xt c) (pt_xw a c F A Q) pt_nw [.ref (a 0), .int k]) (vp_Si (fun r => pt_B r (pt_in nb (fun _ => True) k))) 0 0 (fun _ => False) := by
  refine Met.ofW (cc := cX1_hasBlock) (maxL := 2) (ret := (some .boolean)) (by decide) rfl ?_
  intro p e s m args below meth cd s₁ B hml hv
  obtain ⟨rfl, hP, hK, hN⟩ := hv
  have hx := B.exec
  have hb := B.bytes
  have hr := B.returns
  have hts := atoms_spec (ws := wsX1_hasBlock) B.pre
  have hown : s.vm.findClass RX1 = some m.cls := findClass_of_methodNamed B.named
  have hlocks := B.notSynchronized
  have hl := lv_entry ([.ref (a 0), .int k]) (n := 2) (Nat.le_of_ble_eq_true rfl)
  rw [lg_entry_eq]
  generalize (lg_sl ([.ref (a 0), .int k]) ++ List.replicate (2 - (lg_sl ([.ref (a 0), .int k])).length) Slot.unset).toArray = ls at hl ⊢
  have hl : lv_has ls 2 [(0, .ref (a 0)), (1, .int k)] := hl
  refine lv_iload_n hx hb dX1_hasBlock_0 rfl (lv_at hl 1 rfl) ?_
  refine lv_if_lt (tgt := 16) hx hb dX1_hasBlock_1 (by decide) (fun c1 => ?_) (fun c1 => ?_)
  · refine lv_iconst (v := 0) hx hb dX1_hasBlock_16 (by decide) ?_
    exact W.zret (v := 0) hx hb hr rfl (fun zt zh zW => ⟨_, rfl, (pt_B.zero (by first | exact pt_in_hi c9 (by omega) | exact pt_in_lo c1 (by omega))), zh⟩) (fun q h => by cases h) dX1_hasBlock_17
  · refine lv_iload_n hx hb dX1_hasBlock_4 rfl (lv_at hl 1 rfl) ?_
    refine lv_aload_n hx hb dX1_hasBlock_5 rfl (lv_at hl 0 rfl) ?_
    refine va_get (D := (dC, dI)) (ci := 1) (v := .int (F 5)) (C := RX1) (T := TX1) (N := 18) hx hb hts iw_c_X1_hasBlock_wsX10 hown hK hP 0 rfl rfl 5 (by decide) (hts _ wd_c_X1_hasBlock_X1_hasBlock_0) (fun _ h9 => h9) rfl dX1_hasBlock_6 ?_
    refine pt_top (y := nI nb) h5 ?_
    refine lv_icmp_ge (tgt := 16) hx hb dX1_hasBlock_9 (by decide) (fun c9 => ?_) (fun c9 => ?_)
    · refine lv_iconst (v := 0) hx hb dX1_hasBlock_16 (by decide) ?_
      exact W.zret (v := 0) hx hb hr rfl (fun zt zh zW => ⟨_, rfl, (pt_B.zero (by first | exact pt_in_hi c9 (by omega) | exact pt_in_lo c1 (by omega))), zh⟩) (fun q h => by cases h) dX1_hasBlock_17
    · obtain ⟨t, ht, ek⟩ := pt_ix c1 c9 (by omega)
      refine lv_iconst (v := 1) hx hb dX1_hasBlock_12 (by decide) ?_
      refine lv_goto (tgt := 17) hx hb dX1_hasBlock_13 (by decide) ?_
      exact W.zret (v := 1) hx hb hr rfl (fun zt zh zW => ⟨_, rfl, (pt_B.one ⟨t, ht, ek, trivial⟩), zh⟩) (fun q h => by cases h) dX1_hasBlock_17

theorem wd_c_X1_hasEnd_X1_hasEnd_0 : Cond.fieldLink RX1 9 "PointTrees" "axes" "I" ∈ wsX1_hasEnd := by decide +kernel
theorem iw_c_X1_hasEnd_wsX10 : ∀ w ∈ wsX10, w ∈ wsX1_hasEnd := fun _ h => List.mem_cons_of_mem _ (List.mem_append_right _ h)
set_option maxHeartbeats 4000000 in
set_option maxRecDepth 100000 in
theorem c_X1_hasEnd (l : Launch) (dC : Nat → ClassId) (dI : Nat → Nat → Nat) (a : Nat → Nat) (c : Nat → ClassId) (F : Nat → Int32) (A : Nat → Nat → Int32) (Q : Nat → Int64) (ax : Nat) (h0 : F 0 = nI ax) (hax : ax ≤ 3) (k d : Int32) : Met l yX1_hasEnd wsX1_hasEnd (pt_rm 0) (pt_R (dC, dI) vwCl (pt_xt c) (pt_xw a c F A Q) pt_nw [.ref (a 0), .int k, .int d]) (vp_Si (fun r => pt_B r (pt_in ax (fun _ => True) k ∧ pt_in 2 (fun _ => True) d))) 0 0 (fun _ => False) := by
  refine Met.ofW (cc := cX1_hasEnd) (maxL := 3) (ret := (some .boolean)) (by decide) rfl ?_
  intro p e s m args below meth cd s₁ B hml hv
  obtain ⟨rfl, hP, hK, hN⟩ := hv
  have hx := B.exec
  have hb := B.bytes
  have hr := B.returns
  have hts := atoms_spec (ws := wsX1_hasEnd) B.pre
  have hown : s.vm.findClass RX1 = some m.cls := findClass_of_methodNamed B.named
  have hlocks := B.notSynchronized
  have hl := lv_entry ([.ref (a 0), .int k, .int d]) (n := 3) (Nat.le_of_ble_eq_true rfl)
  rw [lg_entry_eq]
  generalize (lg_sl ([.ref (a 0), .int k, .int d]) ++ List.replicate (3 - (lg_sl ([.ref (a 0), .int k, .int d])).length) Slot.unset).toArray = ls at hl ⊢
  have hl : lv_has ls 3 [(0, .ref (a 0)), (1, .int k), (2, .int d)] := hl
  refine lv_iload_n hx hb dX1_hasEnd_0 rfl (lv_at hl 1 rfl) ?_
  refine lv_if_lt (tgt := 25) hx hb dX1_hasEnd_1 (by decide) (fun c1 => ?_) (fun c1 => ?_)
  · refine lv_iconst (v := 0) hx hb dX1_hasEnd_25 (by decide) ?_
    exact W.zret (v := 0) hx hb hr rfl (fun zt zh zW => ⟨_, rfl, (pt_B.zero (fun q => by first | (obtain ⟨_, u, hu, eu, _⟩ := q; rcases (show u = 0 ∨ u = 1 by omega) with rfl | rfl <;> first | exact c13 eu | exact c18 eu) | exact pt_in_hi c9 (by omega) q.1 | exact pt_in_lo c1 (by omega) q.1)), zh⟩) (fun q h => by cases h) dX1_hasEnd_26
  · refine lv_iload_n hx hb dX1_hasEnd_4 rfl (lv_at hl 1 rfl) ?_
    refine lv_aload_n hx hb dX1_hasEnd_5 rfl (lv_at hl 0 rfl) ?_
    refine va_get (D := (dC, dI)) (ci := 1) (v := .int (F 0)) (C := RX1) (T := TX1) (N := 18) hx hb hts iw_c_X1_hasEnd_wsX10 hown hK hP 0 rfl rfl 0 (by decide) (hts _ wd_c_X1_hasEnd_X1_hasEnd_0) (fun _ h9 => h9) rfl dX1_hasEnd_6 ?_
    refine pt_top (y := nI ax) h0 ?_
    refine lv_icmp_ge (tgt := 25) hx hb dX1_hasEnd_9 (by decide) (fun c9 => ?_) (fun c9 => ?_)
    · refine lv_iconst (v := 0) hx hb dX1_hasEnd_25 (by decide) ?_
      exact W.zret (v := 0) hx hb hr rfl (fun zt zh zW => ⟨_, rfl, (pt_B.zero (fun q => by first | (obtain ⟨_, u, hu, eu, _⟩ := q; rcases (show u = 0 ∨ u = 1 by omega) with rfl | rfl <;> first | exact c13 eu | exact c18 eu) | exact pt_in_hi c9 (by omega) q.1 | exact pt_in_lo c1 (by omega) q.1)), zh⟩) (fun q h => by cases h) dX1_hasEnd_26
    · obtain ⟨t, ht, ek⟩ := pt_ix c1 c9 (by omega)
      refine lv_iload_n hx hb dX1_hasEnd_12 rfl (lv_at hl 2 rfl) ?_
      refine lv_if_eq (tgt := 21) hx hb dX1_hasEnd_13 (by decide) (fun c13 => ?_) (fun c13 => ?_)
      · refine lv_iconst (v := 1) hx hb dX1_hasEnd_21 (by decide) ?_
        refine lv_goto (tgt := 26) hx hb dX1_hasEnd_22 (by decide) ?_
        exact W.zret (v := 1) hx hb hr rfl (fun zt zh zW => ⟨_, rfl, (pt_B.one ⟨⟨t, ht, ek, trivial⟩, by first | exact ⟨1, by decide, c18, trivial⟩ | exact ⟨0, by decide, c13, trivial⟩⟩), zh⟩) (fun q h => by cases h) dX1_hasEnd_26
      · refine lv_iload_n hx hb dX1_hasEnd_16 rfl (lv_at hl 2 rfl) ?_
        refine lv_iconst (v := nI 1) hx hb dX1_hasEnd_17 (by decide) ?_
        refine lv_icmp_ne (tgt := 25) hx hb dX1_hasEnd_18 (by decide) (fun c18 => ?_) (fun c18 => ?_)
        · refine lv_iconst (v := 0) hx hb dX1_hasEnd_25 (by decide) ?_
          exact W.zret (v := 0) hx hb hr rfl (fun zt zh zW => ⟨_, rfl, (pt_B.zero (fun q => by first | (obtain ⟨_, u, hu, eu, _⟩ := q; rcases (show u = 0 ∨ u = 1 by omega) with rfl | rfl <;> first | exact c13 eu | exact c18 eu) | exact pt_in_hi c9 (by omega) q.1 | exact pt_in_lo c1 (by omega) q.1)), zh⟩) (fun q h => by cases h) dX1_hasEnd_26
        · refine lv_iconst (v := 1) hx hb dX1_hasEnd_21 (by decide) ?_
          refine lv_goto (tgt := 26) hx hb dX1_hasEnd_22 (by decide) ?_
          exact W.zret (v := 1) hx hb hr rfl (fun zt zh zW => ⟨_, rfl, (pt_B.one ⟨⟨t, ht, ek, trivial⟩, by first | exact ⟨1, by decide, c18, trivial⟩ | exact ⟨0, by decide, c13, trivial⟩⟩), zh⟩) (fun q h => by cases h) dX1_hasEnd_26

theorem wd_c_X1_isParted_X1_isParted_0 : Cond.fieldLink RX1 38 "PointTrees" "otherHalf" "[I" ∈ wsX1_isParted := by decide +kernel
theorem iw_c_X1_isParted_wsX10 : ∀ w ∈ wsX10, w ∈ wsX1_isParted := fun _ h => List.mem_cons_of_mem _ (List.mem_append_right _ h)
set_option maxHeartbeats 4000000 in
set_option maxRecDepth 100000 in
theorem c_X1_isParted (l : Launch) (dC : Nat → ClassId) (dI : Nat → Nat → Nat) (a : Nat → Nat) (c : Nat → ClassId) (F : Nat → Int32) (A : Nat → Nat → Int32) (Q : Nat → Int64) (k : Nat) (hk : k < 31) : Met l yX1_isParted wsX1_isParted (pt_rm 0) (pt_R (dC, dI) vwCl (pt_xt c) (pt_xw a c F A Q) pt_nw [.ref (a 0), .int (nI k)]) (vp_Si (fun r => pt_B r (¬ A 10 k = 0))) 0 0 (fun _ => False) := by
  refine Met.ofW (cc := cX1_isParted) (maxL := 2) (ret := (some .boolean)) (by decide) rfl ?_
  intro p e s m args below meth cd s₁ B hml hv
  obtain ⟨rfl, hP, hK, hN⟩ := hv
  have hx := B.exec
  have hb := B.bytes
  have hr := B.returns
  have hts := atoms_spec (ws := wsX1_isParted) B.pre
  have hown : s.vm.findClass RX1 = some m.cls := findClass_of_methodNamed B.named
  have hlocks := B.notSynchronized
  have hl := lv_entry ([.ref (a 0), .int (nI k)]) (n := 2) (Nat.le_of_ble_eq_true rfl)
  rw [lg_entry_eq]
  generalize (lg_sl ([.ref (a 0), .int (nI k)]) ++ List.replicate (2 - (lg_sl ([.ref (a 0), .int (nI k)])).length) Slot.unset).toArray = ls at hl ⊢
  have hl : lv_has ls 2 [(0, .ref (a 0)), (1, .int (nI k))] := hl
  refine lv_aload_n hx hb dX1_isParted_0 rfl (lv_at hl 0 rfl) ?_
  refine va_get (D := (dC, dI)) (ci := 1) (v := .ref (a 10)) (C := RX1) (T := TX1) (N := 18) hx hb hts iw_c_X1_isParted_wsX10 hown hK hP 0 rfl rfl 10 (by decide) (hts _ wd_c_X1_isParted_X1_isParted_0) (fun _ h9 => h9) rfl dX1_isParted_1 ?_
  refine lv_iload_n hx hb dX1_isParted_4 rfl (lv_at hl 1 rfl) ?_
  refine pt_iald hx hb hK hP 7 5 rfl rfl k rfl (by omega) (by decide) dX1_isParted_5 ?_
  refine lv_if_eq (tgt := 13) hx hb dX1_isParted_6 (by decide) (fun c6 => ?_) (fun c6 => ?_)
  · refine lv_iconst (v := 0) hx hb dX1_isParted_13 (by decide) ?_
    exact W.zret (v := 0) hx hb hr rfl (fun zt zh zW => ⟨_, rfl, (pt_B.zero (fun q => q c6)), zh⟩) (fun q h => by cases h) dX1_isParted_14
  · refine lv_iconst (v := 1) hx hb dX1_isParted_9 (by decide) ?_
    refine lv_goto (tgt := 14) hx hb dX1_isParted_10 (by decide) ?_
    exact W.zret (v := 1) hx hb hr rfl (fun zt zh zW => ⟨_, rfl, (pt_B.one c6), zh⟩) (fun q h => by cases h) dX1_isParted_14

theorem wd_c_X1_count_X1_count_0 : Cond.fieldLink RX1 63 "PointTrees" "present" "I" ∈ wsX1_count := by decide +kernel
theorem iw_c_X1_count_wsX10 : ∀ w ∈ wsX10, w ∈ wsX1_count := fun _ h => List.mem_cons_of_mem _ (List.mem_append_right _ h)
set_option maxHeartbeats 4000000 in
set_option maxRecDepth 100000 in
theorem c_X1_count (l : Launch) (dC : Nat → ClassId) (dI : Nat → Nat → Nat) (a : Nat → Nat) (c : Nat → ClassId) (F : Nat → Int32) (A : Nat → Nat → Int32) (Q : Nat → Int64) : Met l yX1_count wsX1_count (pt_rm 0) (pt_R (dC, dI) vwCl (pt_xt c) (pt_xw a c F A Q) pt_nw [.ref (a 0)]) (vp_Si (fun r => r = F 2)) 0 0 (fun _ => False) := by
  refine Met.ofW (cc := cX1_count) (maxL := 1) (ret := (some .int)) (by decide) rfl ?_
  intro p e s m args below meth cd s₁ B hml hv
  obtain ⟨rfl, hP, hK, hN⟩ := hv
  have hx := B.exec
  have hb := B.bytes
  have hr := B.returns
  have hts := atoms_spec (ws := wsX1_count) B.pre
  have hown : s.vm.findClass RX1 = some m.cls := findClass_of_methodNamed B.named
  have hlocks := B.notSynchronized
  have hl := lv_entry ([.ref (a 0)]) (n := 1) (Nat.le_of_ble_eq_true rfl)
  rw [lg_entry_eq]
  generalize (lg_sl ([.ref (a 0)]) ++ List.replicate (1 - (lg_sl ([.ref (a 0)])).length) Slot.unset).toArray = ls at hl ⊢
  have hl : lv_has ls 1 [(0, .ref (a 0))] := hl
  refine lv_aload_n hx hb dX1_count_0 rfl (lv_at hl 0 rfl) ?_
  refine va_get (D := (dC, dI)) (ci := 1) (v := .int (F 2)) (C := RX1) (T := TX1) (N := 18) hx hb hts iw_c_X1_count_wsX10 hown hK hP 0 rfl rfl 2 (by decide) (hts _ wd_c_X1_count_X1_count_0) (fun _ h9 => h9) rfl dX1_count_1 ?_
  exact W.iret (v := (F 2)) hx hb hr (fun zt zh zW => ⟨_, rfl, rfl, zh⟩) (fun q h => by cases h) dX1_count_4

theorem wd_c_X1_told_X1_told_0 : Cond.fieldLink RX1 53 "PointTrees" "toldCounts" "[I" ∈ wsX1_told := by decide +kernel
theorem iw_c_X1_told_wsX10 : ∀ w ∈ wsX10, w ∈ wsX1_told := fun _ h => List.mem_cons_of_mem _ (List.mem_append_right _ h)
set_option maxHeartbeats 4000000 in
set_option maxRecDepth 100000 in
theorem c_X1_told (l : Launch) (dC : Nat → ClassId) (dI : Nat → Nat → Nat) (a : Nat → Nat) (c : Nat → ClassId) (F : Nat → Int32) (A : Nat → Nat → Int32) (Q : Nat → Int64) (k : Int32) : Met l yX1_told wsX1_told (pt_rm 0) (pt_R (dC, dI) vwCl (pt_xt c) (pt_xw a c F A Q) pt_nw [.ref (a 0), .int k]) (vp_Si (fun r => (∃ t, t < 3 ∧ k = nI t ∧ r = A 16 t) ∨ (¬ pt_in 3 (fun _ => True) k ∧ r = -2))) 0 0 (fun _ => False) := by
  refine Met.ofW (cc := cX1_told) (maxL := 2) (ret := (some .int)) (by decide) rfl ?_
  intro p e s m args below meth cd s₁ B hml hv
  obtain ⟨rfl, hP, hK, hN⟩ := hv
  have hx := B.exec
  have hb := B.bytes
  have hr := B.returns
  have hts := atoms_spec (ws := wsX1_told) B.pre
  have hown : s.vm.findClass RX1 = some m.cls := findClass_of_methodNamed B.named
  have hlocks := B.notSynchronized
  have hl := lv_entry ([.ref (a 0), .int k]) (n := 2) (Nat.le_of_ble_eq_true rfl)
  rw [lg_entry_eq]
  generalize (lg_sl ([.ref (a 0), .int k]) ++ List.replicate (2 - (lg_sl ([.ref (a 0), .int k])).length) Slot.unset).toArray = ls at hl ⊢
  have hl : lv_has ls 2 [(0, .ref (a 0)), (1, .int k)] := hl
  refine lv_iload_n hx hb dX1_told_0 rfl (lv_at hl 1 rfl) ?_
  refine lv_if_lt (tgt := 9) hx hb dX1_told_1 (by decide) (fun c1 => ?_) (fun c1 => ?_)
  · refine lv_bipush (v := (-2)) hx hb dX1_told_9 (by decide) ?_
    exact W.iret (v := (-2)) hx hb hr (fun zt zh zW => ⟨_, rfl, (Or.inr ⟨by first | exact pt_in_hi (Int32.not_lt.mp c6) (by omega) | exact pt_in_lo c1 (by omega), rfl⟩), zh⟩) (fun q h => by cases h) dX1_told_11
  · refine lv_iload_n hx hb dX1_told_4 rfl (lv_at hl 1 rfl) ?_
    refine lv_iconst (v := nI 3) hx hb dX1_told_5 (by decide) ?_
    refine lv_icmp_lt (tgt := 12) hx hb dX1_told_6 (by decide) (fun c6 => ?_) (fun c6 => ?_)
    · obtain ⟨t, ht, ek⟩ := pt_ix (n := 3) c1 (Int32.not_le.mpr c6) (by omega)
      refine lv_aload_n hx hb dX1_told_12 rfl (lv_at hl 0 rfl) ?_
      refine va_get (D := (dC, dI)) (ci := 1) (v := .ref (a 16)) (C := RX1) (T := TX1) (N := 18) hx hb hts iw_c_X1_told_wsX10 hown hK hP 0 rfl rfl 16 (by decide) (hts _ wd_c_X1_told_X1_told_0) (fun _ h9 => h9) rfl dX1_told_13 ?_
      refine lv_iload_n hx hb dX1_told_16 rfl (lv_at hl 1 rfl) ?_
      refine pt_iald hx hb hK hP 14 10 rfl rfl t ek ht (by decide) dX1_told_17 ?_
      exact W.iret (v := (A 16 t)) hx hb hr (fun zt zh zW => ⟨_, rfl, (Or.inl ⟨t, ht, ek, rfl⟩), zh⟩) (fun q h => by cases h) dX1_told_18
    · refine lv_bipush (v := (-2)) hx hb dX1_told_9 (by decide) ?_
      exact W.iret (v := (-2)) hx hb hr (fun zt zh zW => ⟨_, rfl, (Or.inr ⟨by first | exact pt_in_hi (Int32.not_lt.mp c6) (by omega) | exact pt_in_lo c1 (by omega), rfl⟩), zh⟩) (fun q h => by cases h) dX1_told_11
end
section
noncomputable def pt_sum (g : Nat → Nat) : Nat → Nat
  | 0 => 0
  | n + 1 => pt_sum g n + g n
theorem pt_sum_c {f g : Nat → Nat} : ∀ n, (∀ i, i < n → f i = g i) → pt_sum f n = pt_sum g n
  | 0, _ => rfl
  | n + 1, h => by
    show pt_sum f n + f n = pt_sum g n + g n
    rw [pt_sum_c n (fun i hi => h i (by omega)), h n (by omega)]
/-- nothing is counted in front of lo -/
theorem pt_cnt_none {p : Nat → Prop} : ∀ n, (∀ i, i < n → ¬ p i) → pt_cnt p n = 0
  | 0, _ => rfl
  | n + 1, h => by
    show pt_cnt p n + pt_cb (p n) = 0
    rw [pt_cnt_none n (fun i hi => h i (by omega)), pt_cb_f (h n (by omega))]
theorem pt_cnt_mono {p : Nat → Prop} {m : Nat} : ∀ n, m ≤ n → pt_cnt p m ≤ pt_cnt p n
  | 0, h => by rw [Nat.le_zero.mp h]; exact Nat.le_refl _
  | n + 1, h => by
    rcases Nat.lt_or_ge n m with q | q
    · rw [show m = n + 1 by omega]; exact Nat.le_refl _
    · exact Nat.le_trans (pt_cnt_mono n q) (Nat.le_add_right _ _)
theorem pt_cnt_t {p : Nat → Prop} {n : Nat} (h : p n) : pt_cnt p (n + 1) = pt_cnt p n + 1 := by
  show pt_cnt p n + pt_cb (p n) = _
  rw [pt_cb_t h]
theorem pt_cnt_f {p : Nat → Prop} {n : Nat} (h : ¬ p n) : pt_cnt p (n + 1) = pt_cnt p n := by
  show pt_cnt p n + pt_cb (p n) = _
  rw [pt_cb_f h]; rfl
theorem pt_updL_s {f g : Nat → Int64} {i : Nat} {v : Int64} (h : ∀ x, x < i → f x = g x) (e : v = g i) (x : Nat) (hx : x < i + 1) : vp_updL f i v x = g x := by
  unfold vp_updL
  by_cases q : x = i
  · rw [if_pos q, q, e]
  · rw [if_neg q]; exact h x (by omega)
theorem pt_upd_s {f g : Nat → Int32} {i : Nat} {v : Int32} (h : ∀ x, x < i → f x = g x) (e : v = g i) (x : Nat) (hx : x < i + 1) : upd f i v x = g x := by
  unfold upd
  by_cases q : x = i
  · rw [if_pos q, q, e]
  · rw [if_neg q]; exact h x (by omega)
/-- the j-th of those below n that are p -/
def pt_kth (p : Nat → Prop) (n : Nat) (k r : Int32) : Prop := (∃ j t, k = nI j ∧ j < 2 ^ 31 ∧ t < n ∧ p t ∧ pt_cnt p t = j ∧ r = nI t) ∨ ((∀ j t, k = nI j → j < 2 ^ 31 → t < n → p t → ¬ pt_cnt p t = j) ∧ r = -1)
/-- the first below n that is p -/
def pt_fst (p : Nat → Prop) (n : Nat) (r : Int32) : Prop := (∃ t, t < n ∧ p t ∧ (∀ u, u < t → ¬ p u) ∧ r = nI t) ∨ ((∀ t, t < n → ¬ p t) ∧ r = -1)
theorem pt_sw_out {w : Int32} {n : Nat} (hn : n < 2 ^ 31) (h : w < 0 ∨ nI n ≤ w) : w.toInt < 0 ∨ (n : Int) - 1 < w.toInt := by
  rcases h with h | h
  · rw [Int32.lt_iff_toInt_lt, Int32.toInt_zero] at h
    exact Or.inl h
  · rw [Int32.le_iff_toInt_le, nI_toInt hn] at h
    exact Or.inr (by omega)

theorem wd_c_X1_end_X1_end_0 : Cond.constantLong RX1 91 (-9223372036854775808) ∈ wsX1_end := by decide +kernel
theorem wd_c_X1_end_X1_end_1 : Cond.fieldLink RX1 24 "PointTrees" "things" "LPointTrees$Boxes;" ∈ wsX1_end := by decide +kernel
theorem wd_c_X1_end_X1_end_2 : Cond.initialized RX0 ∈ wsX1_end := by decide +kernel
theorem wd_c_X1_end_X1_end_3 : Cond.instanceMethod yX0_at ∈ wsX1_end := by decide +kernel
theorem wd_c_X1_end_X1_end_4 : Cond.selects RX0 yX0_at yX0_at ∈ wsX1_end := by decide +kernel
theorem iw_c_X1_end_wsX10 : ∀ w ∈ wsX10, w ∈ wsX1_end := fun _ h => List.mem_cons_of_mem _ (List.mem_append_left _ (List.mem_append_right _ h))
theorem iw_c_X1_end_wsX00 : ∀ w ∈ wsX00, w ∈ wsX1_end := fun _ h => List.mem_cons_of_mem _ (List.mem_append_right _ h)
set_option maxHeartbeats 4000000 in
set_option maxRecDepth 100000 in
theorem c_X1_end (l : Launch) (dC : Nat → ClassId) (dI : Nat → Nat → Nat) (a : Nat → Nat) (c : Nat → ClassId) (F : Nat → Int32) (A : Nat → Nat → Int32) (Q : Nat → Int64) (ax : Nat) (h0 : F 0 = nI ax) (hax : ax ≤ 3) (md : Nat) (h1 : F 1 = nI md) (hmd : md ≤ 64) (k x z : Int32) : Met l yX1_end wsX1_end (pt_rm 1) (pt_R (dC, dI) vwCl (pt_xt c) (pt_xw a c F A Q) pt_nw [.ref (a 0), .int k, .int x, .int z]) (vp_Sl (fun r => (∃ t y d, t < md ∧ y < ax ∧ d < 2 ∧ k = nI t ∧ x = nI y ∧ z = nI d ∧ ¬ A 3 t = 0 ∧ r = (A 4 (t * 6 + y * 2 + d)).toInt64) ∨ (¬ (pt_in md (fun t => ¬ A 3 t = 0) k ∧ pt_in ax (fun _ => True) x ∧ pt_in 2 (fun _ => True) z) ∧ r = -9223372036854775808))) 0 0 (fun _ => False) := by
  refine Met.ofW (cc := cX1_end) (maxL := 4) (ret := (some .long)) (by decide) rfl ?_
  intro p e s m args below meth cd s₁ B hml hv
  obtain ⟨rfl, hP, hK, hN⟩ := hv
  have hx := B.exec
  have hb := B.bytes
  have hr := B.returns
  have hts := atoms_spec (ws := wsX1_end) B.pre
  have hown : s.vm.findClass RX1 = some m.cls := findClass_of_methodNamed B.named
  have hlocks := B.notSynchronized
  have hl := lv_entry ([.ref (a 0), .int k, .int x, .int z]) (n := 4) (Nat.le_of_ble_eq_true rfl)
  rw [lg_entry_eq]
  generalize (lg_sl ([.ref (a 0), .int k, .int x, .int z]) ++ List.replicate (4 - (lg_sl ([.ref (a 0), .int k, .int x, .int z])).length) Slot.unset).toArray = ls at hl ⊢
  have hl : lv_has ls 4 [(0, .ref (a 0)), (1, .int k), (2, .int x), (3, .int z)] := hl
  refine lv_aload_n hx hb dX1_end_0 rfl (lv_at hl 0 rfl) ?_
  refine lv_iload_n hx hb dX1_end_1 rfl (lv_at hl 1 rfl) ?_
  refine pt_rdi (va_runV (As := [.int k]) (rest := []) ⟨hx, hb, hml, hown, hts⟩ (c_X1_hasThing l dC dI a c F A Q md h1 hmd k) (cwV 1 hts gX1_end_X1_hasThing rfl rfl rfl (by decide +kernel) ⟨Nat.le_of_ble_eq_true rfl, Nat.le_of_ble_eq_true rfl⟩) (pt_pv1 hP hK hN (q0 := 0) rfl) rfl rfl hl.1 rfl (lv_room (Nat.le_of_ble_eq_true rfl)) dX1_end_2 ⟨Nat.le_of_ble_eq_true rfl, Nat.le_of_ble_eq_true rfl⟩) (fun r2 hr2 => ?_)
  refine lv_if_eq (tgt := 17) hx hb dX1_end_5 (by decide) (fun c5 => ?_) (fun c5 => ?_)
  · have d5 := hr2.f c5
    refine lv_ldc2 (v := -9223372036854775808) hx hb hown (hts _ wd_c_X1_end_X1_end_0) dX1_end_17 ?_
    exact W.lret (v := (-9223372036854775808 : Int64)) hx hb hr (fun zt zh zW => ⟨_, rfl, (Or.inr ⟨fun q => by first | exact d14 q.2 | exact d5 q.1, rfl⟩), zh⟩) (fun q h => by cases h) dX1_end_20
  · have d5 := hr2.t c5
    refine lv_aload_n hx hb dX1_end_8 rfl (lv_at hl 0 rfl) ?_
    refine lv_iload_n hx hb dX1_end_9 rfl (lv_at hl 2 rfl) ?_
    refine lv_iload_n hx hb dX1_end_10 rfl (lv_at hl 3 rfl) ?_
    refine pt_rdi (va_runV (As := [.int x, .int z]) (rest := []) ⟨hx, hb, hml, hown, hts⟩ (c_X1_hasEnd l dC dI a c F A Q ax h0 hax x z) (cwV 2 hts gX1_end_X1_hasEnd rfl rfl rfl (by decide +kernel) ⟨Nat.le_of_ble_eq_true rfl, Nat.le_of_ble_eq_true rfl⟩) (pt_pv1 hP hK hN (q0 := 0) rfl) rfl rfl hl.1 rfl (lv_room (Nat.le_of_ble_eq_true rfl)) dX1_end_11 ⟨Nat.le_of_ble_eq_true rfl, Nat.le_of_ble_eq_true rfl⟩) (fun r11 hr11 => ?_)
    refine lv_if_ne (tgt := 21) hx hb dX1_end_14 (by decide) (fun c14 => ?_) (fun c14 => ?_)
    · have d14 := hr11.t c14
      obtain ⟨t, ht, ek, hT⟩ := d5
      obtain ⟨⟨y, hy, ey, _⟩, d, hd, ed, _⟩ := d14
      subst ek
      subst ey
      subst ed
      refine lv_aload_n hx hb dX1_end_21 rfl (lv_at hl 0 rfl) ?_
      refine va_get (D := (dC, dI)) (ci := 1) (v := .ref (a 4)) (C := RX1) (T := TX1) (N := 18) hx hb hts iw_c_X1_end_wsX10 hown hK hP 0 rfl rfl 4 (by decide) (hts _ wd_c_X1_end_X1_end_1) (fun _ h9 => h9) rfl dX1_end_22 ?_
      refine lv_iload_n hx hb dX1_end_25 rfl (lv_at hl 1 rfl) ?_
      refine lv_iload_n hx hb dX1_end_26 rfl (lv_at hl 2 rfl) ?_
      refine lv_iload_n hx hb dX1_end_27 rfl (lv_at hl 3 rfl) ?_
      refine pt_rdi (va_runVN (As := [.int (nI t), .int (nI y), .int (nI d)]) (rest := []) ⟨hx, hb, hml, hown, hts⟩ (c_X0_at l dC dI (pt_xt c) (pt_xw a c F A Q) 2 3 1 (a 4) (a 24) (c 4) 384 (A 4) rfl rfl rfl (by decide) t y d (by omega)) ⟨va_cnB 3 hts gX1_end_X0_at_n93 rfl rfl rfl (pt_nest hN 2 rfl) (hts _ wd_c_X1_end_X1_end_2) (by decide +kernel) ⟨Nat.le_of_ble_eq_true rfl, Nat.le_of_ble_eq_true rfl⟩, (hts _ wd_c_X1_end_X1_end_3), (hts _ wd_c_X1_end_X1_end_4)⟩ (pt_pv0 hP hK hN (q0 := 2) rfl) rfl rfl hl.1 rfl (lv_room (Nat.le_of_ble_eq_true rfl)) dX1_end_28 ⟨Nat.le_of_ble_eq_true rfl, Nat.le_of_ble_eq_true rfl⟩) (fun r28 hr28 => ?_)
      refine pt_top (y := (A 4 (t * 6 + y * 2 + d))) hr28 ?_
      refine lv_i2l (v := ((A 4 (t * 6 + y * 2 + d))).toInt64) hx hb dX1_end_31 rfl ?_
      exact W.lret (v := ((A 4 (t * 6 + y * 2 + d))).toInt64) hx hb hr (fun zt zh zW => ⟨_, rfl, (Or.inl ⟨t, y, d, ht, hy, hd, rfl, rfl, rfl, hT, rfl⟩), zh⟩) (fun q h => by cases h) dX1_end_32
    · have d14 := hr11.f c14
      refine lv_ldc2 (v := -9223372036854775808) hx hb hown (hts _ wd_c_X1_end_X1_end_0) dX1_end_17 ?_
      exact W.lret (v := (-9223372036854775808 : Int64)) hx hb hr (fun zt zh zW => ⟨_, rfl, (Or.inr ⟨fun q => by first | exact d14 q.2 | exact d5 q.1, rfl⟩), zh⟩) (fun q h => by cases h) dX1_end_20

theorem wd_c_X1_bound_X1_bound_0 : Cond.constantLong RX1 91 (-9223372036854775808) ∈ wsX1_bound := by decide +kernel
theorem wd_c_X1_bound_X1_bound_1 : Cond.fieldLink RX1 44 "PointTrees" "bounds" "LPointTrees$Boxes;" ∈ wsX1_bound := by decide +kernel
theorem wd_c_X1_bound_X1_bound_2 : Cond.initialized RX0 ∈ wsX1_bound := by decide +kernel
theorem wd_c_X1_bound_X1_bound_3 : Cond.instanceMethod yX0_at ∈ wsX1_bound := by decide +kernel
theorem wd_c_X1_bound_X1_bound_4 : Cond.selects RX0 yX0_at yX0_at ∈ wsX1_bound := by decide +kernel
theorem iw_c_X1_bound_wsX10 : ∀ w ∈ wsX10, w ∈ wsX1_bound := fun _ h => List.mem_cons_of_mem _ (List.mem_append_left _ (List.mem_append_right _ h))
theorem iw_c_X1_bound_wsX00 : ∀ w ∈ wsX00, w ∈ wsX1_bound := fun _ h => List.mem_cons_of_mem _ (List.mem_append_right _ h)
set_option maxHeartbeats 4000000 in
set_option maxRecDepth 100000 in
theorem c_X1_bound (l : Launch) (dC : Nat → ClassId) (dI : Nat → Nat → Nat) (a : Nat → Nat) (c : Nat → ClassId) (F : Nat → Int32) (A : Nat → Nat → Int32) (Q : Nat → Int64) (ax : Nat) (h0 : F 0 = nI ax) (hax : ax ≤ 3) (nb : Nat) (h5 : F 5 = nI nb) (hnb : nb ≤ 31) (k x z : Int32) : Met l yX1_bound wsX1_bound (pt_rm 1) (pt_R (dC, dI) vwCl (pt_xt c) (pt_xw a c F A Q) pt_nw [.ref (a 0), .int k, .int x, .int z]) (vp_Sl (fun r => (∃ t y d, t < nb ∧ y < ax ∧ d < 2 ∧ k = nI t ∧ x = nI y ∧ z = nI d ∧ True ∧ r = (A 12 (t * 6 + y * 2 + d)).toInt64) ∨ (¬ (pt_in nb (fun t => True) k ∧ pt_in ax (fun _ => True) x ∧ pt_in 2 (fun _ => True) z) ∧ r = -9223372036854775808))) 0 0 (fun _ => False) := by
  refine Met.ofW (cc := cX1_bound) (maxL := 4) (ret := (some .long)) (by decide) rfl ?_
  intro p e s m args below meth cd s₁ B hml hv
  obtain ⟨rfl, hP, hK, hN⟩ := hv
  have hx := B.exec
  have hb := B.bytes
  have hr := B.returns
  have hts := atoms_spec (ws := wsX1_bound) B.pre
  have hown : s.vm.findClass RX1 = some m.cls := findClass_of_methodNamed B.named
  have hlocks := B.notSynchronized
  have hl := lv_entry ([.ref (a 0), .int k, .int x, .int z]) (n := 4) (Nat.le_of_ble_eq_true rfl)
  rw [lg_entry_eq]
  generalize (lg_sl ([.ref (a 0), .int k, .int x, .int z]) ++ List.replicate (4 - (lg_sl ([.ref (a 0), .int k, .int x, .int z])).length) Slot.unset).toArray = ls at hl ⊢
  have hl : lv_has ls 4 [(0, .ref (a 0)), (1, .int k), (2, .int x), (3, .int z)] := hl
  refine lv_aload_n hx hb dX1_bound_0 rfl (lv_at hl 0 rfl) ?_
  refine lv_iload_n hx hb dX1_bound_1 rfl (lv_at hl 1 rfl) ?_
  refine pt_rdi (va_runV (As := [.int k]) (rest := []) ⟨hx, hb, hml, hown, hts⟩ (c_X1_hasBlock l dC dI a c F A Q nb h5 hnb k) (cwV 1 hts gX1_bound_X1_hasBlock rfl rfl rfl (by decide +kernel) ⟨Nat.le_of_ble_eq_true rfl, Nat.le_of_ble_eq_true rfl⟩) (pt_pv1 hP hK hN (q0 := 0) rfl) rfl rfl hl.1 rfl (lv_room (Nat.le_of_ble_eq_true rfl)) dX1_bound_2 ⟨Nat.le_of_ble_eq_true rfl, Nat.le_of_ble_eq_true rfl⟩) (fun r2 hr2 => ?_)
  refine lv_if_eq (tgt := 17) hx hb dX1_bound_5 (by decide) (fun c5 => ?_) (fun c5 => ?_)
  · have d5 := hr2.f c5
    refine lv_ldc2 (v := -9223372036854775808) hx hb hown (hts _ wd_c_X1_bound_X1_bound_0) dX1_bound_17 ?_
    exact W.lret (v := (-9223372036854775808 : Int64)) hx hb hr (fun zt zh zW => ⟨_, rfl, (Or.inr ⟨fun q => by first | exact d14 q.2 | exact d5 q.1, rfl⟩), zh⟩) (fun q h => by cases h) dX1_bound_20
  · have d5 := hr2.t c5
    refine lv_aload_n hx hb dX1_bound_8 rfl (lv_at hl 0 rfl) ?_
    refine lv_iload_n hx hb dX1_bound_9 rfl (lv_at hl 2 rfl) ?_
    refine lv_iload_n hx hb dX1_bound_10 rfl (lv_at hl 3 rfl) ?_
    refine pt_rdi (va_runV (As := [.int x, .int z]) (rest := []) ⟨hx, hb, hml, hown, hts⟩ (c_X1_hasEnd l dC dI a c F A Q ax h0 hax x z) (cwV 2 hts gX1_bound_X1_hasEnd rfl rfl rfl (by decide +kernel) ⟨Nat.le_of_ble_eq_true rfl, Nat.le_of_ble_eq_true rfl⟩) (pt_pv1 hP hK hN (q0 := 0) rfl) rfl rfl hl.1 rfl (lv_room (Nat.le_of_ble_eq_true rfl)) dX1_bound_11 ⟨Nat.le_of_ble_eq_true rfl, Nat.le_of_ble_eq_true rfl⟩) (fun r11 hr11 => ?_)
    refine lv_if_ne (tgt := 21) hx hb dX1_bound_14 (by decide) (fun c14 => ?_) (fun c14 => ?_)
    · have d14 := hr11.t c14
      obtain ⟨t, ht, ek, hT⟩ := d5
      obtain ⟨⟨y, hy, ey, _⟩, d, hd, ed, _⟩ := d14
      subst ek
      subst ey
      subst ed
      refine lv_aload_n hx hb dX1_bound_21 rfl (lv_at hl 0 rfl) ?_
      refine va_get (D := (dC, dI)) (ci := 1) (v := .ref (a 12)) (C := RX1) (T := TX1) (N := 18) hx hb hts iw_c_X1_bound_wsX10 hown hK hP 0 rfl rfl 12 (by decide) (hts _ wd_c_X1_bound_X1_bound_1) (fun _ h9 => h9) rfl dX1_bound_22 ?_
      refine lv_iload_n hx hb dX1_bound_25 rfl (lv_at hl 1 rfl) ?_
      refine lv_iload_n hx hb dX1_bound_26 rfl (lv_at hl 2 rfl) ?_
      refine lv_iload_n hx hb dX1_bound_27 rfl (lv_at hl 3 rfl) ?_
      refine pt_rdi (va_runVN (As := [.int (nI t), .int (nI y), .int (nI d)]) (rest := []) ⟨hx, hb, hml, hown, hts⟩ (c_X0_at l dC dI (pt_xt c) (pt_xw a c F A Q) 9 10 7 (a 12) (a 32) (c 12) 186 (A 12) rfl rfl rfl (by decide) t y d (by omega)) ⟨va_cnB 3 hts gX1_bound_X0_at_n93 rfl rfl rfl (pt_nest hN 2 rfl) (hts _ wd_c_X1_bound_X1_bound_2) (by decide +kernel) ⟨Nat.le_of_ble_eq_true rfl, Nat.le_of_ble_eq_true rfl⟩, (hts _ wd_c_X1_bound_X1_bound_3), (hts _ wd_c_X1_bound_X1_bound_4)⟩ (pt_pv0 hP hK hN (q0 := 9) rfl) rfl rfl hl.1 rfl (lv_room (Nat.le_of_ble_eq_true rfl)) dX1_bound_28 ⟨Nat.le_of_ble_eq_true rfl, Nat.le_of_ble_eq_true rfl⟩) (fun r28 hr28 => ?_)
      refine pt_top (y := (A 12 (t * 6 + y * 2 + d))) hr28 ?_
      refine lv_i2l (v := ((A 12 (t * 6 + y * 2 + d))).toInt64) hx hb dX1_bound_31 rfl ?_
      exact W.lret (v := ((A 12 (t * 6 + y * 2 + d))).toInt64) hx hb hr (fun zt zh zW => ⟨_, rfl, (Or.inl ⟨t, y, d, ht, hy, hd, rfl, rfl, rfl, hT, rfl⟩), zh⟩) (fun q h => by cases h) dX1_bound_32
    · have d14 := hr11.f c14
      refine lv_ldc2 (v := -9223372036854775808) hx hb hown (hts _ wd_c_X1_bound_X1_bound_0) dX1_bound_17 ?_
      exact W.lret (v := (-9223372036854775808 : Int64)) hx hb hr (fun zt zh zW => ⟨_, rfl, (Or.inr ⟨fun q => by first | exact d14 q.2 | exact d5 q.1, rfl⟩), zh⟩) (fun q h => by cases h) dX1_bound_20

theorem wd_c_X1_block_X1_block_0 : Cond.fieldLink RX1 35 "PointTrees" "blockTo" "[I" ∈ wsX1_block := by decide +kernel
theorem wd_c_X1_block_X1_block_1 : Cond.fieldLink RX1 32 "PointTrees" "blockFrom" "[I" ∈ wsX1_block := by decide +kernel
theorem wd_c_X1_block_X1_block_2 : Cond.fieldLink RX1 38 "PointTrees" "otherHalf" "[I" ∈ wsX1_block := by decide +kernel
theorem wd_c_X1_block_X1_block_3 : Cond.fieldLink RX1 41 "PointTrees" "blockDepth" "[I" ∈ wsX1_block := by decide +kernel
theorem iw_c_X1_block_wsX10 : ∀ w ∈ wsX10, w ∈ wsX1_block := fun _ h => List.mem_cons_of_mem _ (List.mem_append_right _ h)
set_option maxHeartbeats 4000000 in
set_option maxRecDepth 100000 in
theorem c_X1_block (l : Launch) (dC : Nat → ClassId) (dI : Nat → Nat → Nat) (a : Nat → Nat) (c : Nat → ClassId) (F : Nat → Int32) (A : Nat → Nat → Int32) (Q : Nat → Int64) (nb : Nat) (h5 : F 5 = nI nb) (hnb : nb ≤ 31) (k x : Int32) : Met l yX1_block wsX1_block (pt_rm 1) (pt_R (dC, dI) vwCl (pt_xt c) (pt_xw a c F A Q) pt_nw [.ref (a 0), .int k, .int x]) (vp_Si (fun r => (¬ pt_in nb (fun _ => True) k ∧ r = -1) ∨ ∃ b, b < nb ∧ k = nI b ∧ ((x = nI 0 ∧ pt_B r (¬ A 10 b = 0)) ∨ (x = nI 1 ∧ r = A 9 b - A 8 b) ∨ (x = nI 2 ∧ r = A 10 b) ∨ (x = nI 3 ∧ r = A 11 b) ∨ (¬ pt_in 4 (fun _ => True) x ∧ r = -2)))) 0 0 (fun _ => False) := by
  refine Met.ofW (cc := cX1_block) (maxL := 3) (ret := (some .int)) (by decide) rfl ?_
  intro p e s m args below meth cd s₁ B hml hv
  obtain ⟨rfl, hP, hK, hN⟩ := hv
  have hx := B.exec
  have hb := B.bytes
  have hr := B.returns
  have hts := atoms_spec (ws := wsX1_block) B.pre
  have hown : s.vm.findClass RX1 = some m.cls := findClass_of_methodNamed B.named
  have hlocks := B.notSynchronized
  have hl := lv_entry ([.ref (a 0), .int k, .int x]) (n := 3) (Nat.le_of_ble_eq_true rfl)
  rw [lg_entry_eq]
  generalize (lg_sl ([.ref (a 0), .int k, .int x]) ++ List.replicate (3 - (lg_sl ([.ref (a 0), .int k, .int x])).length) Slot.unset).toArray = ls at hl ⊢
  have hl : lv_has ls 3 [(0, .ref (a 0)), (1, .int k), (2, .int x)] := hl
  refine lv_aload_n hx hb dX1_block_0 rfl (lv_at hl 0 rfl) ?_
  refine lv_iload_n hx hb dX1_block_1 rfl (lv_at hl 1 rfl) ?_
  refine pt_rdi (va_runV (As := [.int k]) (rest := []) ⟨hx, hb, hml, hown, hts⟩ (c_X1_hasBlock l dC dI a c F A Q nb h5 hnb k) (cwV 1 hts gX1_block_X1_hasBlock rfl rfl rfl (by decide +kernel) ⟨Nat.le_of_ble_eq_true rfl, Nat.le_of_ble_eq_true rfl⟩) (pt_pv1 hP hK hN (q0 := 0) rfl) rfl rfl hl.1 rfl (lv_room (Nat.le_of_ble_eq_true rfl)) dX1_block_2 ⟨Nat.le_of_ble_eq_true rfl, Nat.le_of_ble_eq_true rfl⟩) (fun r2 hr2 => ?_)
  refine lv_if_ne (tgt := 10) hx hb dX1_block_5 (by decide) (fun c5 => ?_) (fun c5 => ?_)
  · have d5 := hr2.t c5
    obtain ⟨b, hb2, ek, _⟩ := d5
    subst ek
    refine lv_iload_n hx hb dX1_block_10 rfl (lv_at hl 2 rfl) ?_
    by_cases cx : x < 0 ∨ nI 4 ≤ x
    · refine lv_tableOut (tgt := 82) hx hb dX1_block_11 (pt_sw_out (n := 4) (by decide) cx) (by decide) ?_
      refine lv_bipush (v := (-2)) hx hb dX1_block_82 (by decide) ?_
      exact W.iret (v := (-2)) hx hb hr (fun zt zh zW => ⟨_, rfl, (Or.inr ⟨b, hb2, rfl, Or.inr (Or.inr (Or.inr (Or.inr ⟨fun q => cx.elim (fun h => pt_in_lo h (by decide) q) (fun h => pt_in_hi h (by decide) q), rfl⟩)))⟩), zh⟩) (fun q h => by cases h) dX1_block_84
    · obtain ⟨j, hj, ej⟩ := pt_ix (n := 4) (fun q => cx (Or.inl q)) (fun q => cx (Or.inr q)) (by decide)
      subst ej
      rcases (show j = 0 ∨ j = 1 ∨ j = 2 ∨ j = 3 by omega) with rfl | rfl | rfl | rfl
      · refine lv_tableIn (tgt := 40) hx hb dX1_block_11 (by decide) (by decide) rfl (by decide) ?_
        refine lv_aload_n hx hb dX1_block_40 rfl (lv_at hl 0 rfl) ?_
        refine lv_iload_n hx hb dX1_block_41 rfl (lv_at hl 1 rfl) ?_
        refine pt_rdi (va_runV (As := [.int (nI b)]) (rest := []) ⟨hx, hb, hml, hown, hts⟩ (c_X1_isParted l dC dI a c F A Q b (by omega)) (cwV 1 hts gX1_block_X1_isParted rfl rfl rfl (by decide +kernel) ⟨Nat.le_of_ble_eq_true rfl, Nat.le_of_ble_eq_true rfl⟩) (pt_pv1 hP hK hN (q0 := 0) rfl) rfl rfl hl.1 rfl (lv_room (Nat.le_of_ble_eq_true rfl)) dX1_block_42 ⟨Nat.le_of_ble_eq_true rfl, Nat.le_of_ble_eq_true rfl⟩) (fun r42 hr42 => ?_)
        refine lv_if_eq (tgt := 52) hx hb dX1_block_45 (by decide) (fun c45 => ?_) (fun c45 => ?_)
        · have d45 := hr42.f c45
          refine lv_iconst (v := 0) hx hb dX1_block_52 (by decide) ?_
          exact W.iret (v := 0) hx hb hr (fun zt zh zW => ⟨_, rfl, (Or.inr ⟨b, hb2, rfl, Or.inl ⟨rfl, by first | exact pt_B.one d45 | exact pt_B.zero d45⟩⟩), zh⟩) (fun q h => by cases h) dX1_block_53
        · have d45 := hr42.t c45
          refine lv_iconst (v := 1) hx hb dX1_block_48 (by decide) ?_
          refine lv_goto (tgt := 53) hx hb dX1_block_49 (by decide) ?_
          exact W.iret (v := 1) hx hb hr (fun zt zh zW => ⟨_, rfl, (Or.inr ⟨b, hb2, rfl, Or.inl ⟨rfl, by first | exact pt_B.one d45 | exact pt_B.zero d45⟩⟩), zh⟩) (fun q h => by cases h) dX1_block_53
      · refine lv_tableIn (tgt := 54) hx hb dX1_block_11 (by decide) (by decide) rfl (by decide) ?_
        refine lv_aload_n hx hb dX1_block_54 rfl (lv_at hl 0 rfl) ?_
        refine va_get (D := (dC, dI)) (ci := 1) (v := .ref (a 9)) (C := RX1) (T := TX1) (N := 18) hx hb hts iw_c_X1_block_wsX10 hown hK hP 0 rfl rfl 9 (by decide) (hts _ wd_c_X1_block_X1_block_0) (fun _ h9 => h9) rfl dX1_block_55 ?_
        refine lv_iload_n hx hb dX1_block_58 rfl (lv_at hl 1 rfl) ?_
        refine pt_iald hx hb hK hP 6 4 rfl rfl b rfl (by omega) (by decide) dX1_block_59 ?_
        refine lv_aload_n hx hb dX1_block_60 rfl (lv_at hl 0 rfl) ?_
        refine va_get (D := (dC, dI)) (ci := 1) (v := .ref (a 8)) (C := RX1) (T := TX1) (N := 18) hx hb hts iw_c_X1_block_wsX10 hown hK hP 0 rfl rfl 8 (by decide) (hts _ wd_c_X1_block_X1_block_1) (fun _ h9 => h9) rfl dX1_block_61 ?_
        refine lv_iload_n hx hb dX1_block_64 rfl (lv_at hl 1 rfl) ?_
        refine pt_iald hx hb hK hP 5 3 rfl rfl b rfl (by omega) (by decide) dX1_block_65 ?_
        refine lv_isub hx hb dX1_block_66 ?_
        exact W.iret (v := ((A 9 b) - (A 8 b))) hx hb hr (fun zt zh zW => ⟨_, rfl, (Or.inr ⟨b, hb2, rfl, Or.inr (Or.inl ⟨rfl, rfl⟩)⟩), zh⟩) (fun q h => by cases h) dX1_block_67
      · refine lv_tableIn (tgt := 68) hx hb dX1_block_11 (by decide) (by decide) rfl (by decide) ?_
        refine lv_aload_n hx hb dX1_block_68 rfl (lv_at hl 0 rfl) ?_
        refine va_get (D := (dC, dI)) (ci := 1) (v := .ref (a 10)) (C := RX1) (T := TX1) (N := 18) hx hb hts iw_c_X1_block_wsX10 hown hK hP 0 rfl rfl 10 (by decide) (hts _ wd_c_X1_block_X1_block_2) (fun _ h9 => h9) rfl dX1_block_69 ?_
        refine lv_iload_n hx hb dX1_block_72 rfl (lv_at hl 1 rfl) ?_
        refine pt_iald hx hb hK hP 7 5 rfl rfl b rfl (by omega) (by decide) dX1_block_73 ?_
        exact W.iret (v := (A 10 b)) hx hb hr (fun zt zh zW => ⟨_, rfl, (Or.inr ⟨b, hb2, rfl, Or.inr (Or.inr (Or.inl ⟨rfl, rfl⟩))⟩), zh⟩) (fun q h => by cases h) dX1_block_74
      · refine lv_tableIn (tgt := 75) hx hb dX1_block_11 (by decide) (by decide) rfl (by decide) ?_
        refine lv_aload_n hx hb dX1_block_75 rfl (lv_at hl 0 rfl) ?_
        refine va_get (D := (dC, dI)) (ci := 1) (v := .ref (a 11)) (C := RX1) (T := TX1) (N := 18) hx hb hts iw_c_X1_block_wsX10 hown hK hP 0 rfl rfl 11 (by decide) (hts _ wd_c_X1_block_X1_block_3) (fun _ h9 => h9) rfl dX1_block_76 ?_
        refine lv_iload_n hx hb dX1_block_79 rfl (lv_at hl 1 rfl) ?_
        refine pt_iald hx hb hK hP 8 6 rfl rfl b rfl (by omega) (by decide) dX1_block_80 ?_
        exact W.iret (v := (A 11 b)) hx hb hr (fun zt zh zW => ⟨_, rfl, (Or.inr ⟨b, hb2, rfl, Or.inr (Or.inr (Or.inr (Or.inl ⟨rfl, rfl⟩)))⟩), zh⟩) (fun q h => by cases h) dX1_block_81
  · have d5 := hr2.f c5
    refine lv_iconst (v := (-1)) hx hb dX1_block_8 (by decide) ?_
    exact W.iret (v := (-1)) hx hb hr (fun zt zh zW => ⟨_, rfl, (Or.inl ⟨d5, rfl⟩), zh⟩) (fun q h => by cases h) dX1_block_9

theorem wd_c_X1_found_X1_found_0 : Cond.fieldLink RX1 114 "PointTrees" "foundCount" "I" ∈ wsX1_found := by decide +kernel
theorem wd_c_X1_found_X1_found_1 : Cond.fieldLink RX1 50 "PointTrees" "isFound" "[Z" ∈ wsX1_found := by decide +kernel
theorem iw_c_X1_found_wsX10 : ∀ w ∈ wsX10, w ∈ wsX1_found := fun _ h => List.mem_cons_of_mem _ (List.mem_append_right _ h)
set_option maxHeartbeats 4000000 in
set_option maxRecDepth 100000 in
theorem c_X1_found (l : Launch) (dC : Nat → ClassId) (dI : Nat → Nat → Nat) (a : Nat → Nat) (c : Nat → ClassId) (F : Nat → Int32) (A : Nat → Nat → Int32) (Q : Nat → Int64) (fc : Nat) (h15 : F 15 = nI fc) (hfc : fc < 2 ^ 31) (hle : pt_cnt (fun t => ¬ A 14 t = 0) 64 ≤ fc) (k : Int32) : Met l yX1_found wsX1_found (pt_rm 0) (pt_R (dC, dI) vwCl (pt_xt c) (pt_xw a c F A Q) pt_nw [.ref (a 0), .int k]) (vp_Si (fun r => pt_kth (fun t => ¬ A 14 t = 0) 64 k r)) 0 0 (fun _ => False) := by
  refine Met.ofW (cc := cX1_found) (maxL := 4) (ret := (some .int)) (by decide) rfl ?_
  intro p e s m args below meth cd s₁ B hml hv
  obtain ⟨rfl, hP, hK, hN⟩ := hv
  have hx := B.exec
  have hb := B.bytes
  have hr := B.returns
  have hts := atoms_spec (ws := wsX1_found) B.pre
  have hown : s.vm.findClass RX1 = some m.cls := findClass_of_methodNamed B.named
  have hlocks := B.notSynchronized
  have hl := lv_entry ([.ref (a 0), .int k]) (n := 4) (Nat.le_of_ble_eq_true rfl)
  rw [lg_entry_eq]
  generalize (lg_sl ([.ref (a 0), .int k]) ++ List.replicate (4 - (lg_sl ([.ref (a 0), .int k])).length) Slot.unset).toArray = ls at hl ⊢
  have hl : lv_has ls 4 [(0, .ref (a 0)), (1, .int k)] := hl
  refine lv_iload_n hx hb dX1_found_0 rfl (lv_at hl 1 rfl) ?_
  refine lv_if_lt (tgt := 12) hx hb dX1_found_1 (by decide) (fun c1 => ?_) (fun c1 => ?_)
  · refine lv_iconst (v := (-1)) hx hb dX1_found_12 (by decide) ?_
    exact W.iret (v := (-1)) hx hb hr (fun zt zh zW => ⟨_, rfl, (Or.inr ⟨fun j2 t e hj2 ht hp q => by first | exact absurd (show nI j2 < 0 by rw [← e]; exact c1) (nI_pos hj2) | (have h1 := pt_cnt_t (p := (fun t => ¬ A 14 t = 0)) (n := t) hp; have h2 := pt_cnt_mono (p := (fun t => ¬ A 14 t = 0)) (m := t + 1) 64 ht; have h3 : j2 < fc := (by omega); exact c9 (by rw [e]; exact nI_lt h3 hfc)), rfl⟩), zh⟩) (fun q h => by cases h) dX1_found_13
  · refine lv_iload_n hx hb dX1_found_4 rfl (lv_at hl 1 rfl) ?_
    refine lv_aload_n hx hb dX1_found_5 rfl (lv_at hl 0 rfl) ?_
    refine va_get (D := (dC, dI)) (ci := 1) (v := .int (F 15)) (C := RX1) (T := TX1) (N := 18) hx hb hts iw_c_X1_found_wsX10 hown hK hP 0 rfl rfl 15 (by decide) (hts _ wd_c_X1_found_X1_found_0) (fun _ h9 => h9) rfl dX1_found_6 ?_
    refine pt_top (y := nI fc) h15 ?_
    refine lv_icmp_lt (tgt := 14) hx hb dX1_found_9 (by decide) (fun c9 => ?_) (fun c9 => ?_)
    · obtain ⟨j, hj, ek⟩ := pt_ix c1 (Int32.not_le.mpr c9) hfc
      subst ek
      refine lv_iconst (v := nI 0) hx hb dX1_found_14 (by decide) ?_
      refine lv_istore_n (lv' := [(2, .int (nI 0)), (0, .ref (a 0)), (1, .int (nI j))]) hx hb dX1_found_15 rfl hl (by decide) rfl (fun ls hl => ?_)
      refine lv_iconst (v := nI 0) hx hb dX1_found_16 (by decide) ?_
      refine lv_istore_n (lv' := [(3, .int (nI 0)), (2, .int (nI 0)), (0, .ref (a 0)), (1, .int (nI j))]) hx hb dX1_found_17 rfl hl (by decide) rfl (fun ls hl => ?_)
      refine pt_loopR (fun i : Nat => 64 - i) (fun i ls => i ≤ 64 ∧ (∀ u, u < i → ¬ A 14 u = 0 → ¬ pt_cnt (fun t => ¬ A 14 t = 0) u = j) ∧ lv_has ls 4 [(3, .int (nI i)), (2, .int (nI (pt_cnt (fun t => ¬ A 14 t = 0) i))), (0, .ref (a 0)), (1, .int (nI j))]) ?_ 0 _ ⟨Nat.zero_le _, fun u hu => absurd hu (Nat.not_lt_zero _), hl⟩
      intro i ls ⟨hi, hno, hl⟩ ih
      refine lv_iload_n hx hb dX1_found_18 rfl (lv_at hl 0 rfl) ?_
      refine lv_bipush (v := nI 64) hx hb dX1_found_19 (by decide) ?_
      refine lv_icmp_ge (tgt := 49) hx hb dX1_found_21 (by decide) (fun c21 => ?_) (fun c21 => ?_)
      · have hie : i = 64 := by have := (nI_leI (by omega) (by omega)).mp c21; omega
        subst hie
        refine lv_iconst (v := (-1)) hx hb dX1_found_49 (by decide) ?_
        exact W.iret (v := (-1)) hx hb hr (fun zt zh zW => ⟨_, rfl, (Or.inr ⟨fun j2 t e hj2 ht hp q => hno t ht hp (by rw [q]; exact ((nI_eq (by omega) hj2).mp e).symm), rfl⟩), zh⟩) (fun q h => by cases h) dX1_found_50
      · have hlt : i < 64 := Nat.not_le.mp (fun q => c21 ((nI_leI (by omega) (by omega)).mpr q))
        refine lv_aload_n hx hb dX1_found_24 rfl (lv_at hl 2 rfl) ?_
        refine va_get (D := (dC, dI)) (ci := 1) (v := .ref (a 14)) (C := RX1) (T := TX1) (N := 18) hx hb hts iw_c_X1_found_wsX10 hown hK hP 0 rfl rfl 14 (by decide) (hts _ wd_c_X1_found_X1_found_1) (fun _ h9 => h9) rfl dX1_found_25 ?_
        refine lv_iload_n hx hb dX1_found_28 rfl (lv_at hl 0 rfl) ?_
        refine pt_zald hx hb hK hP 13 9 rfl rfl i rfl (by omega) (by decide) dX1_found_29 ?_
        refine lv_if_eq (tgt := 43) hx hb dX1_found_30 (by decide) (fun c30 => ?_) (fun c30 => ?_)
        · have d30 : A 14 i = 0 := c30
          refine lv_iinc (v := nI (i + 1)) (lv' := [(3, .int (nI (i + 1))), (2, .int (nI (pt_cnt (fun t => ¬ A 14 t = 0) i))), (0, .ref (a 0)), (1, .int (nI j))]) hx hb dX1_found_43 hl (k := 0) rfl (nI_1 _) (by decide) rfl (fun ls hl => ?_)
          refine lv_goto (tgt := 18) hx hb dX1_found_46 (by decide) ?_
          have ec := pt_cnt_f (p := (fun t => ¬ A 14 t = 0)) (n := i) (fun q => q d30)
          exact ih (i + 1) _ ⟨by omega, fun u hu h => (Nat.lt_succ_iff_lt_or_eq.mp hu).elim (fun q => hno u q h) (fun q => by subst q; exact absurd d30 h), by rw [ec]; exact lv_sub hl [0, 1, 2, 3] rfl⟩ (by omega)
        · have d30 : ¬ A 14 i = 0 := c30
          refine lv_iload_n hx hb dX1_found_33 rfl (lv_at hl 1 rfl) ?_
          refine lv_iload_n hx hb dX1_found_34 rfl (lv_at hl 3 rfl) ?_
          refine lv_icmp_ne (tgt := 40) hx hb dX1_found_35 (by decide) (fun c35 => ?_) (fun c35 => ?_)
          · have d35 : ¬ pt_cnt (fun t => ¬ A 14 t = 0) i = j := fun q => c35 (by rw [q])
            refine lv_iinc (v := nI ((pt_cnt (fun t => ¬ A 14 t = 0) i) + 1)) (lv' := [(2, .int (nI ((pt_cnt (fun t => ¬ A 14 t = 0) i) + 1))), (3, .int (nI i)), (0, .ref (a 0)), (1, .int (nI j))]) hx hb dX1_found_40 hl (k := 1) rfl (nI_1 _) (by decide) rfl (fun ls hl => ?_)
            refine lv_iinc (v := nI (i + 1)) (lv' := [(3, .int (nI (i + 1))), (2, .int (nI ((pt_cnt (fun t => ¬ A 14 t = 0) i) + 1))), (0, .ref (a 0)), (1, .int (nI j))]) hx hb dX1_found_43 hl (k := 1) rfl (nI_1 _) (by decide) rfl (fun ls hl => ?_)
            refine lv_goto (tgt := 18) hx hb dX1_found_46 (by decide) ?_
            have ec := pt_cnt_t (p := (fun t => ¬ A 14 t = 0)) (n := i) d30
            exact ih (i + 1) _ ⟨by omega, fun u hu h => (Nat.lt_succ_iff_lt_or_eq.mp hu).elim (fun q => hno u q h) (fun q => by subst q; exact d35), by rw [ec]; exact lv_sub hl [0, 1, 2, 3] rfl⟩ (by omega)
          · have hcl := pt_cnt_le (fun t => ¬ A 14 t = 0) i
            have d35 : pt_cnt (fun t => ¬ A 14 t = 0) i = j := (nI_eq (by omega) (by omega)).mp c35
            refine lv_iload_n hx hb dX1_found_38 rfl (lv_at hl 0 rfl) ?_
            exact W.iret (v := nI i) hx hb hr (fun zt zh zW => ⟨_, rfl, (Or.inl ⟨j, i, rfl, by omega, hlt, d30, d35, rfl⟩), zh⟩) (fun q h => by cases h) dX1_found_39
    · refine lv_iconst (v := (-1)) hx hb dX1_found_12 (by decide) ?_
      exact W.iret (v := (-1)) hx hb hr (fun zt zh zW => ⟨_, rfl, (Or.inr ⟨fun j2 t e hj2 ht hp q => by first | exact absurd (show nI j2 < 0 by rw [← e]; exact c1) (nI_pos hj2) | (have h1 := pt_cnt_t (p := (fun t => ¬ A 14 t = 0)) (n := t) hp; have h2 := pt_cnt_mono (p := (fun t => ¬ A 14 t = 0)) (m := t + 1) 64 ht; have h3 : j2 < fc := (by omega); exact c9 (by rw [e]; exact nI_lt h3 hfc)), rfl⟩), zh⟩) (fun q h => by cases h) dX1_found_13

theorem wd_c_X1_distance_X1_distance_0 : Cond.constantLong RX1 91 (-9223372036854775808) ∈ wsX1_distance := by decide +kernel
theorem wd_c_X1_distance_X1_distance_1 : Cond.fieldLink RX1 24 "PointTrees" "things" "LPointTrees$Boxes;" ∈ wsX1_distance := by decide +kernel
theorem wd_c_X1_distance_X1_distance_2 : Cond.fieldLink RX1 9 "PointTrees" "axes" "I" ∈ wsX1_distance := by decide +kernel
theorem wd_c_X1_distance_X1_distance_3 : Cond.initialized RX0 ∈ wsX1_distance := by decide +kernel
theorem wd_c_X1_distance_X1_distance_4 : Cond.instanceMethod yX0_squareTo ∈ wsX1_distance := by decide +kernel
theorem wd_c_X1_distance_X1_distance_5 : Cond.selects RX0 yX0_squareTo yX0_squareTo ∈ wsX1_distance := by decide +kernel
theorem iw_c_X1_distance_wsX10 : ∀ w ∈ wsX10, w ∈ wsX1_distance := fun _ h => List.mem_cons_of_mem _ (List.mem_append_left _ (List.mem_append_right _ h))
theorem iw_c_X1_distance_wsX00 : ∀ w ∈ wsX00, w ∈ wsX1_distance := fun _ h => List.mem_cons_of_mem _ (List.mem_append_right _ h)
set_option maxHeartbeats 4000000 in
set_option maxRecDepth 100000 in
theorem c_X1_distance (l : Launch) (dC : Nat → ClassId) (dI : Nat → Nat → Nat) (a : Nat → Nat) (c : Nat → ClassId) (F : Nat → Int32) (A : Nat → Nat → Int32) (Q : Nat → Int64) (ax : Nat) (h0 : F 0 = nI ax) (hax : ax ≤ 3) (md : Nat) (h1 : F 1 = nI md) (hmd : md ≤ 64) (k x y z : Int32) : Met l yX1_distance wsX1_distance (pt_rm 3) (pt_R (dC, dI) vwCl (pt_xt c) (pt_xw a c F A Q) pt_nw [.ref (a 0), .int k, .int x, .int y, .int z]) (vp_Sl (fun r => (∃ t, t < md ∧ k = nI t ∧ ¬ A 3 t = 0 ∧ pt_box ax x x y y z z ∧ r = pt_sqt ax (fun q => A 4 (t * 6 + q * 2 + 0)) (fun q => A 4 (t * 6 + q * 2 + 1)) x y z) ∨ (¬ (pt_in md (fun t => ¬ A 3 t = 0) k ∧ pt_box ax x x y y z z) ∧ r = -9223372036854775808))) 0 0 (fun _ => False) := by
  refine Met.ofW (cc := cX1_distance) (maxL := 5) (ret := (some .long)) (by decide) rfl ?_
  intro p e s m args below meth cd s₁ B hml hv
  obtain ⟨rfl, hP, hK, hN⟩ := hv
  have hx := B.exec
  have hb := B.bytes
  have hr := B.returns
  have hts := atoms_spec (ws := wsX1_distance) B.pre
  have hown : s.vm.findClass RX1 = some m.cls := findClass_of_methodNamed B.named
  have hlocks := B.notSynchronized
  have hl := lv_entry ([.ref (a 0), .int k, .int x, .int y, .int z]) (n := 5) (Nat.le_of_ble_eq_true rfl)
  rw [lg_entry_eq]
  generalize (lg_sl ([.ref (a 0), .int k, .int x, .int y, .int z]) ++ List.replicate (5 - (lg_sl ([.ref (a 0), .int k, .int x, .int y, .int z])).length) Slot.unset).toArray = ls at hl ⊢
  have hl : lv_has ls 5 [(0, .ref (a 0)), (1, .int k), (2, .int x), (3, .int y), (4, .int z)] := hl
  refine lv_aload_n hx hb dX1_distance_0 rfl (lv_at hl 0 rfl) ?_
  refine lv_iload_n hx hb dX1_distance_1 rfl (lv_at hl 1 rfl) ?_
  refine pt_rdi (va_runV (As := [.int k]) (rest := []) ⟨hx, hb, hml, hown, hts⟩ (c_X1_hasThing l dC dI a c F A Q md h1 hmd k) (cwV 1 hts gX1_distance_X1_hasThing rfl rfl rfl (by decide +kernel) ⟨Nat.le_of_ble_eq_true rfl, Nat.le_of_ble_eq_true rfl⟩) (pt_pv1 hP hK hN (q0 := 0) rfl) rfl rfl hl.1 rfl (lv_room (Nat.le_of_ble_eq_true rfl)) dX1_distance_2 ⟨Nat.le_of_ble_eq_true rfl, Nat.le_of_ble_eq_true rfl⟩) (fun r2 hr2 => ?_)
  refine lv_if_eq (tgt := 19) hx hb dX1_distance_5 (by decide) (fun c5 => ?_) (fun c5 => ?_)
  · have d5 := hr2.f c5
    refine lv_ldc2 (v := -9223372036854775808) hx hb hown (hts _ wd_c_X1_distance_X1_distance_0) dX1_distance_19 ?_
    exact W.lret (v := (-9223372036854775808 : Int64)) hx hb hr (fun zt zh zW => ⟨_, rfl, (Or.inr ⟨fun q => by first | exact d16 q.2 | exact d5 q.1, rfl⟩), zh⟩) (fun q h => by cases h) dX1_distance_22
  · have d5 := hr2.t c5
    refine lv_aload_n hx hb dX1_distance_8 rfl (lv_at hl 0 rfl) ?_
    refine lv_iload_n hx hb dX1_distance_9 rfl (lv_at hl 2 rfl) ?_
    refine lv_iload_n hx hb dX1_distance_10 rfl (lv_at hl 3 rfl) ?_
    refine lv_iload hx hb dX1_distance_11 (lv_at hl 4 rfl) ?_
    refine pt_rdi (va_runV (As := [.int x, .int y, .int z]) (rest := []) ⟨hx, hb, hml, hown, hts⟩ (c_X1_isPlace l dC dI a c F A Q ax h0 hax x y z) (cwV 3 hts gX1_distance_X1_isPlace rfl rfl rfl (by decide +kernel) ⟨Nat.le_of_ble_eq_true rfl, Nat.le_of_ble_eq_true rfl⟩) (pt_pv1 hP hK hN (q0 := 0) rfl) rfl rfl hl.1 rfl (lv_room (Nat.le_of_ble_eq_true rfl)) dX1_distance_13 ⟨Nat.le_of_ble_eq_true rfl, Nat.le_of_ble_eq_true rfl⟩) (fun r13 hr13 => ?_)
    refine lv_if_ne (tgt := 23) hx hb dX1_distance_16 (by decide) (fun c16 => ?_) (fun c16 => ?_)
    · have d16 := hr13.t c16
      obtain ⟨t, ht, ek, hT⟩ := d5
      subst ek
      refine lv_aload_n hx hb dX1_distance_23 rfl (lv_at hl 0 rfl) ?_
      refine va_get (D := (dC, dI)) (ci := 1) (v := .ref (a 4)) (C := RX1) (T := TX1) (N := 18) hx hb hts iw_c_X1_distance_wsX10 hown hK hP 0 rfl rfl 4 (by decide) (hts _ wd_c_X1_distance_X1_distance_1) (fun _ h9 => h9) rfl dX1_distance_24 ?_
      refine lv_iload_n hx hb dX1_distance_27 rfl (lv_at hl 1 rfl) ?_
      refine lv_aload_n hx hb dX1_distance_28 rfl (lv_at hl 0 rfl) ?_
      refine va_get (D := (dC, dI)) (ci := 1) (v := .int (F 0)) (C := RX1) (T := TX1) (N := 18) hx hb hts iw_c_X1_distance_wsX10 hown hK hP 0 rfl rfl 0 (by decide) (hts _ wd_c_X1_distance_X1_distance_2) (fun _ h9 => h9) rfl dX1_distance_29 ?_
      refine pt_top (y := nI ax) h0 ?_
      refine lv_iload_n hx hb dX1_distance_32 rfl (lv_at hl 2 rfl) ?_
      refine lv_iload_n hx hb dX1_distance_33 rfl (lv_at hl 3 rfl) ?_
      refine lv_iload hx hb dX1_distance_34 (lv_at hl 4 rfl) ?_
      refine pt_rdl (va_runVN (As := [.int (nI t), .int (nI ax), .int x, .int y, .int z]) (rest := []) ⟨hx, hb, hml, hown, hts⟩ (c_X0_squareTo l dC dI (pt_xt c) (pt_xw a c F A Q) 2 3 1 (a 4) (a 24) (c 4) 384 (A 4) rfl rfl rfl (by decide) t ax x y z (by omega) hax) ⟨va_cnB 5 hts gX1_distance_X0_squareTo_n121 rfl rfl rfl (pt_nest hN 8 rfl) (hts _ wd_c_X1_distance_X1_distance_3) (by decide +kernel) ⟨Nat.le_of_ble_eq_true rfl, Nat.le_of_ble_eq_true rfl⟩, (hts _ wd_c_X1_distance_X1_distance_4), (hts _ wd_c_X1_distance_X1_distance_5)⟩ (pt_pv0 hP hK hN (q0 := 2) rfl) rfl rfl hl.1 rfl (lv_room (Nat.le_of_ble_eq_true rfl)) dX1_distance_36 ⟨Nat.le_of_ble_eq_true rfl, Nat.le_of_ble_eq_true rfl⟩) (fun r36 hr36 => ?_)
      refine pt_topl (y := (pt_sqt ax (fun q => A 4 (t * 6 + q * 2 + 0)) (fun q => A 4 (t * 6 + q * 2 + 1)) x y z)) hr36 ?_
      exact W.lret (v := (pt_sqt ax (fun q => A 4 (t * 6 + q * 2 + 0)) (fun q => A 4 (t * 6 + q * 2 + 1)) x y z)) hx hb hr (fun zt zh zW => ⟨_, rfl, (Or.inl ⟨t, ht, rfl, hT, d16, rfl⟩), zh⟩) (fun q h => by cases h) dX1_distance_39
    · have d16 := hr13.f c16
      refine lv_ldc2 (v := -9223372036854775808) hx hb hown (hts _ wd_c_X1_distance_X1_distance_0) dX1_distance_19 ?_
      exact W.lret (v := (-9223372036854775808 : Int64)) hx hb hr (fun zt zh zW => ⟨_, rfl, (Or.inr ⟨fun q => by first | exact d16 q.2 | exact d5 q.1, rfl⟩), zh⟩) (fun q h => by cases h) dX1_distance_22

/-- do the boxes t of T and u of U meet -/
def pt_mee (ax : Nat) (T U : Nat → Int32) (t u : Nat) : Prop := ∀ a, a < ax → T (t * 6 + a * 2 + 0) ≤ U (u * 6 + a * 2 + 1) ∧ U (u * 6 + a * 2 + 0) ≤ T (t * 6 + a * 2 + 1)
def pt_wn (ax : Nat) (T U : Nat → Int32) (t u : Nat) : Prop := ∀ a, a < ax → U (u * 6 + a * 2 + 0) ≤ T (t * 6 + a * 2 + 0) ∧ T (t * 6 + a * 2 + 1) ≤ U (u * 6 + a * 2 + 1)

theorem wd_c_X1_pairs_X1_pairs_0 : Cond.fieldLink RX1 60 "PointTrees" "made" "I" ∈ wsX1_pairs := by decide +kernel
theorem wd_c_X1_pairs_X1_pairs_1 : Cond.fieldLink RX1 15 "PointTrees" "isThere" "[Z" ∈ wsX1_pairs := by decide +kernel
theorem wd_c_X1_pairs_X1_pairs_2 : Cond.fieldLink RX1 24 "PointTrees" "things" "LPointTrees$Boxes;" ∈ wsX1_pairs := by decide +kernel
theorem wd_c_X1_pairs_X1_pairs_3 : Cond.fieldLink RX1 9 "PointTrees" "axes" "I" ∈ wsX1_pairs := by decide +kernel
theorem wd_c_X1_pairs_X1_pairs_4 : Cond.initialized RX0 ∈ wsX1_pairs := by decide +kernel
theorem wd_c_X1_pairs_X1_pairs_5 : Cond.static yX0_meet ∈ wsX1_pairs := by decide +kernel
theorem iw_c_X1_pairs_wsX10 : ∀ w ∈ wsX10, w ∈ wsX1_pairs := fun _ h => List.mem_cons_of_mem _ (List.mem_append_left _ (List.mem_append_right _ h))
theorem iw_c_X1_pairs_wsX00 : ∀ w ∈ wsX00, w ∈ wsX1_pairs := fun _ h => List.mem_cons_of_mem _ (List.mem_append_right _ h)
set_option maxHeartbeats 4000000 in
set_option maxRecDepth 100000 in
theorem c_X1_pairs (l : Launch) (dC : Nat → ClassId) (dI : Nat → Nat → Nat) (a : Nat → Nat) (c : Nat → ClassId) (F : Nat → Int32) (A : Nat → Nat → Int32) (Q : Nat → Int64) (ax : Nat) (h0 : F 0 = nI ax) (hax : ax ≤ 3) (md : Nat) (h1 : F 1 = nI md) (hmd : md ≤ 64) : Met l yX1_pairs wsX1_pairs (pt_rm 2) (pt_R (dC, dI) vwCl (pt_xt c) (pt_xw a c F A Q) pt_nw [.ref (a 0)]) (vp_Si (fun r => r = nI (pt_sum (fun t => pt_cnt (fun v => t + 1 ≤ v ∧ (¬ A 3 t = 0 ∧ ¬ A 3 v = 0 ∧ pt_mee ax (A 4) (A 4) t v)) md) md))) 0 0 (fun _ => False) := by
  refine Met.ofW (cc := cX1_pairs) (maxL := 4) (ret := (some .int)) (by decide) rfl ?_
  intro p e s m args below meth cd s₁ B hml hv
  obtain ⟨rfl, hP, hK, hN⟩ := hv
  have hx := B.exec
  have hb := B.bytes
  have hr := B.returns
  have hts := atoms_spec (ws := wsX1_pairs) B.pre
  have hown : s.vm.findClass RX1 = some m.cls := findClass_of_methodNamed B.named
  have hlocks := B.notSynchronized
  have hl := lv_entry ([.ref (a 0)]) (n := 4) (Nat.le_of_ble_eq_true rfl)
  rw [lg_entry_eq]
  generalize (lg_sl ([.ref (a 0)]) ++ List.replicate (4 - (lg_sl ([.ref (a 0)])).length) Slot.unset).toArray = ls at hl ⊢
  have hl : lv_has ls 4 [(0, .ref (a 0))] := hl
  refine lv_iconst (v := nI 0) hx hb dX1_pairs_0 (by decide) ?_
  refine lv_istore_n (lv' := [(1, .int (nI 0)), (0, .ref (a 0))]) hx hb dX1_pairs_1 rfl hl (by decide) rfl (fun ls hl => ?_)
  refine lv_iconst (v := nI 0) hx hb dX1_pairs_2 (by decide) ?_
  refine lv_istore_n (lv' := [(2, .int (nI 0)), (1, .int (nI 0)), (0, .ref (a 0))]) hx hb dX1_pairs_3 rfl hl (by decide) rfl (fun ls hl => ?_)
  refine pt_loopR (fun i : Nat => md - i) (fun i ls => i ≤ md ∧ lv_has ls 4 [(2, .int (nI i)), (1, .int (nI (pt_sum (fun t => pt_cnt (fun v => t + 1 ≤ v ∧ (¬ A 3 t = 0 ∧ ¬ A 3 v = 0 ∧ pt_mee ax (A 4) (A 4) t v)) md) i))), (0, .ref (a 0))]) ?_ 0 _ ⟨Nat.zero_le _, hl⟩
  intro i ls ⟨hi, hl⟩ ih
  refine lv_iload_n hx hb dX1_pairs_4 rfl (lv_at hl 0 rfl) ?_
  refine lv_aload_n hx hb dX1_pairs_5 rfl (lv_at hl 2 rfl) ?_
  refine va_get (D := (dC, dI)) (ci := 1) (v := .int (F 1)) (C := RX1) (T := TX1) (N := 18) hx hb hts iw_c_X1_pairs_wsX10 hown hK hP 0 rfl rfl 1 (by decide) (hts _ wd_c_X1_pairs_X1_pairs_0) (fun _ h9 => h9) rfl dX1_pairs_6 ?_
  refine pt_top (y := nI md) h1 ?_
  refine lv_icmp_ge (tgt := 77) hx hb dX1_pairs_9 (by decide) (fun c9 => ?_) (fun c9 => ?_)
  · have hie : i = md := by have := (nI_leI (by omega) (by omega)).mp c9; omega
    refine lv_iload_n hx hb dX1_pairs_77 rfl (lv_at hl 1 rfl) ?_
    exact W.iret (v := nI (pt_sum (fun t => pt_cnt (fun v => t + 1 ≤ v ∧ (¬ A 3 t = 0 ∧ ¬ A 3 v = 0 ∧ pt_mee ax (A 4) (A 4) t v)) md) i)) hx hb hr (fun zt zh zW => ⟨_, rfl, (by rw [← hie]), zh⟩) (fun q h => by cases h) dX1_pairs_78
  · have hlt : i < md := Nat.not_le.mp (fun q => c9 ((nI_leI (by omega) (by omega)).mpr q))
    refine lv_iload_n hx hb dX1_pairs_12 rfl (lv_at hl 0 rfl) ?_
    refine lv_iconst (v := nI 1) hx hb dX1_pairs_13 (by decide) ?_
    refine lv_iadd hx hb dX1_pairs_14 ?_
    refine pt_top (y := nI (i + 1)) (nI_add _ _) ?_
    refine lv_istore_n (lv' := [(3, .int (nI (i + 1))), (2, .int (nI i)), (1, .int (nI (pt_sum (fun t => pt_cnt (fun v => t + 1 ≤ v ∧ (¬ A 3 t = 0 ∧ ¬ A 3 v = 0 ∧ pt_mee ax (A 4) (A 4) t v)) md) i))), (0, .ref (a 0))]) hx hb dX1_pairs_15 rfl hl (by decide) rfl (fun ls hl => ?_)
    have e0 : pt_sum (fun t => pt_cnt (fun v => t + 1 ≤ v ∧ (¬ A 3 t = 0 ∧ ¬ A 3 v = 0 ∧ pt_mee ax (A 4) (A 4) t v)) md) i = pt_sum (fun t => pt_cnt (fun v => t + 1 ≤ v ∧ (¬ A 3 t = 0 ∧ ¬ A 3 v = 0 ∧ pt_mee ax (A 4) (A 4) t v)) md) i + pt_cnt (fun v => i + 1 ≤ v ∧ (¬ A 3 i = 0 ∧ ¬ A 3 v = 0 ∧ pt_mee ax (A 4) (A 4) i v)) (i + 1) := by rw [pt_cnt_none (i + 1) (fun v hv q => by have := q.1; omega)]; rfl
    rw [e0] at hl
    refine pt_loopR (fun j : Nat => md - j) (fun j ls => i + 1 ≤ j ∧ j ≤ md ∧ lv_has ls 4 [(3, .int (nI j)), (2, .int (nI i)), (1, .int (nI (pt_sum (fun t => pt_cnt (fun v => t + 1 ≤ v ∧ (¬ A 3 t = 0 ∧ ¬ A 3 v = 0 ∧ pt_mee ax (A 4) (A 4) t v)) md) i + pt_cnt (fun v => i + 1 ≤ v ∧ (¬ A 3 i = 0 ∧ ¬ A 3 v = 0 ∧ pt_mee ax (A 4) (A 4) i v)) j))), (0, .ref (a 0))]) ?_ (i + 1) _ ⟨Nat.le_refl _, by omega, hl⟩
    intro j ls ⟨hj0, hj, hl⟩ ihj
    refine lv_iload_n hx hb dX1_pairs_16 rfl (lv_at hl 0 rfl) ?_
    refine lv_aload_n hx hb dX1_pairs_17 rfl (lv_at hl 3 rfl) ?_
    refine va_get (D := (dC, dI)) (ci := 1) (v := .int (F 1)) (C := RX1) (T := TX1) (N := 18) hx hb hts iw_c_X1_pairs_wsX10 hown hK hP 0 rfl rfl 1 (by decide) (hts _ wd_c_X1_pairs_X1_pairs_0) (fun _ h9 => h9) rfl dX1_pairs_18 ?_
    refine pt_top (y := nI md) h1 ?_
    refine lv_icmp_ge (tgt := 71) hx hb dX1_pairs_21 (by decide) (fun c21 => ?_) (fun c21 => ?_)
    · have hje : j = md := by have := (nI_leI (by omega) (by omega)).mp c21; omega
      rw [hje] at hl
      have hl : lv_has ls 4 [(3, .int (nI md)), (2, .int (nI i)), (1, .int (nI (pt_sum (fun t => pt_cnt (fun v => t + 1 ≤ v ∧ (¬ A 3 t = 0 ∧ ¬ A 3 v = 0 ∧ pt_mee ax (A 4) (A 4) t v)) md) (i + 1)))), (0, .ref (a 0))] := hl
      refine lv_iinc (v := nI (i + 1)) (lv' := [(2, .int (nI (i + 1))), (3, .int (nI md)), (1, .int (nI (pt_sum (fun t => pt_cnt (fun v => t + 1 ≤ v ∧ (¬ A 3 t = 0 ∧ ¬ A 3 v = 0 ∧ pt_mee ax (A 4) (A 4) t v)) md) (i + 1)))), (0, .ref (a 0))]) hx hb dX1_pairs_71 hl (k := 1) rfl (nI_1 _) (by decide) rfl (fun ls hl => ?_)
      refine lv_goto (tgt := 4) hx hb dX1_pairs_74 (by decide) ?_
      exact ih (i + 1) _ ⟨by omega, lv_sub hl [0, 2, 3] rfl⟩ (by omega)
    · have hjl : j < md := Nat.not_le.mp (fun q => c21 ((nI_leI (by omega) (by omega)).mpr q))
      refine lv_aload_n hx hb dX1_pairs_24 rfl (lv_at hl 3 rfl) ?_
      refine va_get (D := (dC, dI)) (ci := 1) (v := .ref (a 3)) (C := RX1) (T := TX1) (N := 18) hx hb hts iw_c_X1_pairs_wsX10 hown hK hP 0 rfl rfl 3 (by decide) (hts _ wd_c_X1_pairs_X1_pairs_1) (fun _ h9 => h9) rfl dX1_pairs_25 ?_
      refine lv_iload_n hx hb dX1_pairs_28 rfl (lv_at hl 1 rfl) ?_
      refine pt_zald hx hb hK hP 1 0 rfl rfl i rfl (by omega) (by decide) dX1_pairs_29 ?_
      refine lv_if_eq (tgt := 65) hx hb dX1_pairs_30 (by decide) (fun c30 => ?_) (fun c30 => ?_)
      · have d30 : A 3 i = 0 := c30
        refine lv_iinc (v := nI (j + 1)) (lv' := [(3, .int (nI (j + 1))), (2, .int (nI i)), (1, .int (nI (pt_sum (fun t => pt_cnt (fun v => t + 1 ≤ v ∧ (¬ A 3 t = 0 ∧ ¬ A 3 v = 0 ∧ pt_mee ax (A 4) (A 4) t v)) md) i + pt_cnt (fun v => i + 1 ≤ v ∧ (¬ A 3 i = 0 ∧ ¬ A 3 v = 0 ∧ pt_mee ax (A 4) (A 4) i v)) j))), (0, .ref (a 0))]) hx hb dX1_pairs_65 hl (k := 0) rfl (nI_1 _) (by decide) rfl (fun ls hl => ?_)
        refine lv_goto (tgt := 16) hx hb dX1_pairs_68 (by decide) ?_
        have ec := pt_cnt_f (p := (fun v => i + 1 ≤ v ∧ (¬ A 3 i = 0 ∧ ¬ A 3 v = 0 ∧ pt_mee ax (A 4) (A 4) i v))) (n := j) (fun q => by first | exact hr56.f c59 q.2.2.2 | exact q.2.2.1 d39 | exact q.2.1 d30)
        exact ihj (j + 1) _ ⟨by omega, by omega, by rw [ec]; exact lv_sub hl [0, 1, 2, 3] rfl⟩ (by omega)
      · have d30 : ¬ A 3 i = 0 := c30
        refine lv_aload_n hx hb dX1_pairs_33 rfl (lv_at hl 3 rfl) ?_
        refine va_get (D := (dC, dI)) (ci := 1) (v := .ref (a 3)) (C := RX1) (T := TX1) (N := 18) hx hb hts iw_c_X1_pairs_wsX10 hown hK hP 0 rfl rfl 3 (by decide) (hts _ wd_c_X1_pairs_X1_pairs_1) (fun _ h9 => h9) rfl dX1_pairs_34 ?_
        refine lv_iload_n hx hb dX1_pairs_37 rfl (lv_at hl 0 rfl) ?_
        refine pt_zald hx hb hK hP 1 0 rfl rfl j rfl (by omega) (by decide) dX1_pairs_38 ?_
        refine lv_if_eq (tgt := 65) hx hb dX1_pairs_39 (by decide) (fun c39 => ?_) (fun c39 => ?_)
        · have d39 : A 3 j = 0 := c39
          refine lv_iinc (v := nI (j + 1)) (lv' := [(3, .int (nI (j + 1))), (2, .int (nI i)), (1, .int (nI (pt_sum (fun t => pt_cnt (fun v => t + 1 ≤ v ∧ (¬ A 3 t = 0 ∧ ¬ A 3 v = 0 ∧ pt_mee ax (A 4) (A 4) t v)) md) i + pt_cnt (fun v => i + 1 ≤ v ∧ (¬ A 3 i = 0 ∧ ¬ A 3 v = 0 ∧ pt_mee ax (A 4) (A 4) i v)) j))), (0, .ref (a 0))]) hx hb dX1_pairs_65 hl (k := 0) rfl (nI_1 _) (by decide) rfl (fun ls hl => ?_)
          refine lv_goto (tgt := 16) hx hb dX1_pairs_68 (by decide) ?_
          have ec := pt_cnt_f (p := (fun v => i + 1 ≤ v ∧ (¬ A 3 i = 0 ∧ ¬ A 3 v = 0 ∧ pt_mee ax (A 4) (A 4) i v))) (n := j) (fun q => by first | exact hr56.f c59 q.2.2.2 | exact q.2.2.1 d39 | exact q.2.1 d30)
          exact ihj (j + 1) _ ⟨by omega, by omega, by rw [ec]; exact lv_sub hl [0, 1, 2, 3] rfl⟩ (by omega)
        · have d39 : ¬ A 3 j = 0 := c39
          refine lv_aload_n hx hb dX1_pairs_42 rfl (lv_at hl 3 rfl) ?_
          refine va_get (D := (dC, dI)) (ci := 1) (v := .ref (a 4)) (C := RX1) (T := TX1) (N := 18) hx hb hts iw_c_X1_pairs_wsX10 hown hK hP 0 rfl rfl 4 (by decide) (hts _ wd_c_X1_pairs_X1_pairs_2) (fun _ h9 => h9) rfl dX1_pairs_43 ?_
          refine lv_iload_n hx hb dX1_pairs_46 rfl (lv_at hl 1 rfl) ?_
          refine lv_aload_n hx hb dX1_pairs_47 rfl (lv_at hl 3 rfl) ?_
          refine va_get (D := (dC, dI)) (ci := 1) (v := .ref (a 4)) (C := RX1) (T := TX1) (N := 18) hx hb hts iw_c_X1_pairs_wsX10 hown hK hP 0 rfl rfl 4 (by decide) (hts _ wd_c_X1_pairs_X1_pairs_2) (fun _ h9 => h9) rfl dX1_pairs_48 ?_
          refine lv_iload_n hx hb dX1_pairs_51 rfl (lv_at hl 0 rfl) ?_
          refine lv_aload_n hx hb dX1_pairs_52 rfl (lv_at hl 3 rfl) ?_
          refine va_get (D := (dC, dI)) (ci := 1) (v := .int (F 0)) (C := RX1) (T := TX1) (N := 18) hx hb hts iw_c_X1_pairs_wsX10 hown hK hP 0 rfl rfl 0 (by decide) (hts _ wd_c_X1_pairs_X1_pairs_3) (fun _ h9 => h9) rfl dX1_pairs_53 ?_
          refine pt_top (y := nI ax) h0 ?_
          refine pt_rdi (va_runSN (As := [.ref (a 4), .int (nI i), .ref (a 4), .int (nI j), .int (nI ax)]) (rest := []) ⟨hx, hb, hml, hown, hts⟩ (c_X0_meet l dC dI (pt_xt c) (pt_xw a c F A Q) 2 3 1 (a 4) (a 24) (c 4) 384 (A 4) rfl rfl rfl (by decide) 2 3 1 (a 4) (a 24) (c 4) 384 (A 4) rfl rfl rfl (by decide) i j ax (by omega) (by omega) hax) ⟨va_cnB 5 hts gX1_pairs_X0_meet_n129 rfl rfl rfl (pt_nest hN 7 rfl) (hts _ wd_c_X1_pairs_X1_pairs_4) (by decide +kernel) ⟨Nat.le_of_ble_eq_true rfl, Nat.le_of_ble_eq_true rfl⟩, (hts _ wd_c_X1_pairs_X1_pairs_5), trivial⟩ (pt_R.preS hP hK hN) rfl rfl hl.1 rfl (lv_room (Nat.le_of_ble_eq_true rfl)) dX1_pairs_56 ⟨Nat.le_of_ble_eq_true rfl, Nat.le_of_ble_eq_true rfl⟩) (fun r56 hr56 => ?_)
          refine lv_if_eq (tgt := 65) hx hb dX1_pairs_59 (by decide) (fun c59 => ?_) (fun c59 => ?_)
          · refine lv_iinc (v := nI (j + 1)) (lv' := [(3, .int (nI (j + 1))), (2, .int (nI i)), (1, .int (nI (pt_sum (fun t => pt_cnt (fun v => t + 1 ≤ v ∧ (¬ A 3 t = 0 ∧ ¬ A 3 v = 0 ∧ pt_mee ax (A 4) (A 4) t v)) md) i + pt_cnt (fun v => i + 1 ≤ v ∧ (¬ A 3 i = 0 ∧ ¬ A 3 v = 0 ∧ pt_mee ax (A 4) (A 4) i v)) j))), (0, .ref (a 0))]) hx hb dX1_pairs_65 hl (k := 0) rfl (nI_1 _) (by decide) rfl (fun ls hl => ?_)
            refine lv_goto (tgt := 16) hx hb dX1_pairs_68 (by decide) ?_
            have ec := pt_cnt_f (p := (fun v => i + 1 ≤ v ∧ (¬ A 3 i = 0 ∧ ¬ A 3 v = 0 ∧ pt_mee ax (A 4) (A 4) i v))) (n := j) (fun q => by first | exact hr56.f c59 q.2.2.2 | exact q.2.2.1 d39 | exact q.2.1 d30)
            exact ihj (j + 1) _ ⟨by omega, by omega, by rw [ec]; exact lv_sub hl [0, 1, 2, 3] rfl⟩ (by omega)
          · refine lv_iinc (v := nI ((pt_sum (fun t => pt_cnt (fun v => t + 1 ≤ v ∧ (¬ A 3 t = 0 ∧ ¬ A 3 v = 0 ∧ pt_mee ax (A 4) (A 4) t v)) md) i + pt_cnt (fun v => i + 1 ≤ v ∧ (¬ A 3 i = 0 ∧ ¬ A 3 v = 0 ∧ pt_mee ax (A 4) (A 4) i v)) j) + 1)) (lv' := [(1, .int (nI ((pt_sum (fun t => pt_cnt (fun v => t + 1 ≤ v ∧ (¬ A 3 t = 0 ∧ ¬ A 3 v = 0 ∧ pt_mee ax (A 4) (A 4) t v)) md) i + pt_cnt (fun v => i + 1 ≤ v ∧ (¬ A 3 i = 0 ∧ ¬ A 3 v = 0 ∧ pt_mee ax (A 4) (A 4) i v)) j) + 1))), (3, .int (nI j)), (2, .int (nI i)), (0, .ref (a 0))]) hx hb dX1_pairs_62 hl (k := 2) rfl (nI_1 _) (by decide) rfl (fun ls hl => ?_)
            refine lv_iinc (v := nI (j + 1)) (lv' := [(3, .int (nI (j + 1))), (1, .int (nI ((pt_sum (fun t => pt_cnt (fun v => t + 1 ≤ v ∧ (¬ A 3 t = 0 ∧ ¬ A 3 v = 0 ∧ pt_mee ax (A 4) (A 4) t v)) md) i + pt_cnt (fun v => i + 1 ≤ v ∧ (¬ A 3 i = 0 ∧ ¬ A 3 v = 0 ∧ pt_mee ax (A 4) (A 4) i v)) j) + 1))), (2, .int (nI i)), (0, .ref (a 0))]) hx hb dX1_pairs_65 hl (k := 1) rfl (nI_1 _) (by decide) rfl (fun ls hl => ?_)
            refine lv_goto (tgt := 16) hx hb dX1_pairs_68 (by decide) ?_
            have ec := pt_cnt_t (p := (fun v => i + 1 ≤ v ∧ (¬ A 3 i = 0 ∧ ¬ A 3 v = 0 ∧ pt_mee ax (A 4) (A 4) i v))) (n := j) ⟨hj0, d30, d39, hr56.t c59⟩
            exact ihj (j + 1) _ ⟨by omega, by omega, by rw [ec]; exact lv_sub hl [0, 2, 1, 3] rfl⟩ (by omega)

theorem wd_c_X1_isNearer_X1_isNearer_0 : Cond.fieldLink RX1 56 "PointTrees" "squares" "[J" ∈ wsX1_isNearer := by decide +kernel
theorem iw_c_X1_isNearer_wsX10 : ∀ w ∈ wsX10, w ∈ wsX1_isNearer := fun _ h => List.mem_cons_of_mem _ (List.mem_append_right _ h)
set_option maxHeartbeats 4000000 in
set_option maxRecDepth 100000 in
theorem c_X1_isNearer (l : Launch) (dC : Nat → ClassId) (dI : Nat → Nat → Nat) (a : Nat → Nat) (c : Nat → ClassId) (F : Nat → Int32) (A : Nat → Nat → Int32) (Q : Nat → Int64) (t v : Nat) (ht : t < 64) (hv1 : v < 64) : Met l yX1_isNearer wsX1_isNearer (pt_rm 0) (pt_R (dC, dI) vwCl (pt_xt c) (pt_xw a c F A Q) pt_nw [.ref (a 0), .int (nI t), .int (nI v)]) (vp_Si (fun r => pt_B r (Q t < Q v ∨ (Q t = Q v ∧ t < v)))) 0 0 (fun _ => False) := by
  refine Met.ofW (cc := cX1_isNearer) (maxL := 3) (ret := (some .boolean)) (by decide) rfl ?_
  intro p e s m args below meth cd s₁ B hml hv
  obtain ⟨rfl, hP, hK, hN⟩ := hv
  have hx := B.exec
  have hb := B.bytes
  have hr := B.returns
  have hts := atoms_spec (ws := wsX1_isNearer) B.pre
  have hown : s.vm.findClass RX1 = some m.cls := findClass_of_methodNamed B.named
  have hlocks := B.notSynchronized
  have hl := lv_entry ([.ref (a 0), .int (nI t), .int (nI v)]) (n := 3) (Nat.le_of_ble_eq_true rfl)
  rw [lg_entry_eq]
  generalize (lg_sl ([.ref (a 0), .int (nI t), .int (nI v)]) ++ List.replicate (3 - (lg_sl ([.ref (a 0), .int (nI t), .int (nI v)])).length) Slot.unset).toArray = ls at hl ⊢
  have hl : lv_has ls 3 [(0, .ref (a 0)), (1, .int (nI t)), (2, .int (nI v))] := hl
  refine lv_aload_n hx hb dX1_isNearer_0 rfl (lv_at hl 0 rfl) ?_
  refine va_get (D := (dC, dI)) (ci := 1) (v := .ref (a 17)) (C := RX1) (T := TX1) (N := 18) hx hb hts iw_c_X1_isNearer_wsX10 hown hK hP 0 rfl rfl 17 (by decide) (hts _ wd_c_X1_isNearer_X1_isNearer_0) (fun _ h9 => h9) rfl dX1_isNearer_1 ?_
  refine lv_iload_n hx hb dX1_isNearer_4 rfl (lv_at hl 1 rfl) ?_
  refine pt_lald hx hb hK hP 15 11 rfl rfl t rfl (by omega) (by decide) dX1_isNearer_5 ?_
  refine lv_aload_n hx hb dX1_isNearer_6 rfl (lv_at hl 0 rfl) ?_
  refine va_get (D := (dC, dI)) (ci := 1) (v := .ref (a 17)) (C := RX1) (T := TX1) (N := 18) hx hb hts iw_c_X1_isNearer_wsX10 hown hK hP 0 rfl rfl 17 (by decide) (hts _ wd_c_X1_isNearer_X1_isNearer_0) (fun _ h9 => h9) rfl dX1_isNearer_7 ?_
  refine lv_iload_n hx hb dX1_isNearer_10 rfl (lv_at hl 2 rfl) ?_
  refine pt_lald hx hb hK hP 15 11 rfl rfl v rfl (by omega) (by decide) dX1_isNearer_11 ?_
  refine W.lcmp hx hb dX1_isNearer_12 ?_
  refine lv_if_lt (tgt := 37) hx hb dX1_isNearer_13 (by decide) (fun c13 => ?_) (fun c13 => ?_)
  · have d13 : Q t < Q v := (lg_cmp_lt _ _).mp c13
    refine lv_iconst (v := 1) hx hb dX1_isNearer_37 (by decide) ?_
    refine lv_goto (tgt := 42) hx hb dX1_isNearer_38 (by decide) ?_
    exact W.zret (v := 1) hx hb hr rfl (fun zt zh zW => ⟨_, rfl, (pt_B.one (by first | exact Or.inl d13 | exact Or.inr ⟨d29, d34⟩)), zh⟩) (fun q h => by cases h) dX1_isNearer_42
  · have d13 : ¬ Q t < Q v := fun q => c13 ((lg_cmp_lt _ _).mpr q)
    refine lv_aload_n hx hb dX1_isNearer_16 rfl (lv_at hl 0 rfl) ?_
    refine va_get (D := (dC, dI)) (ci := 1) (v := .ref (a 17)) (C := RX1) (T := TX1) (N := 18) hx hb hts iw_c_X1_isNearer_wsX10 hown hK hP 0 rfl rfl 17 (by decide) (hts _ wd_c_X1_isNearer_X1_isNearer_0) (fun _ h9 => h9) rfl dX1_isNearer_17 ?_
    refine lv_iload_n hx hb dX1_isNearer_20 rfl (lv_at hl 1 rfl) ?_
    refine pt_lald hx hb hK hP 15 11 rfl rfl t rfl (by omega) (by decide) dX1_isNearer_21 ?_
    refine lv_aload_n hx hb dX1_isNearer_22 rfl (lv_at hl 0 rfl) ?_
    refine va_get (D := (dC, dI)) (ci := 1) (v := .ref (a 17)) (C := RX1) (T := TX1) (N := 18) hx hb hts iw_c_X1_isNearer_wsX10 hown hK hP 0 rfl rfl 17 (by decide) (hts _ wd_c_X1_isNearer_X1_isNearer_0) (fun _ h9 => h9) rfl dX1_isNearer_23 ?_
    refine lv_iload_n hx hb dX1_isNearer_26 rfl (lv_at hl 2 rfl) ?_
    refine pt_lald hx hb hK hP 15 11 rfl rfl v rfl (by omega) (by decide) dX1_isNearer_27 ?_
    refine W.lcmp hx hb dX1_isNearer_28 ?_
    refine lv_if_ne (tgt := 41) hx hb dX1_isNearer_29 (by decide) (fun c29 => ?_) (fun c29 => ?_)
    · have d29 : ¬ Q t = Q v := fun q => c29 ((lg_cmp_eq _ _).mpr q)
      refine lv_iconst (v := 0) hx hb dX1_isNearer_41 (by decide) ?_
      exact W.zret (v := 0) hx hb hr rfl (fun zt zh zW => ⟨_, rfl, (pt_B.zero (fun q => q.elim d13 (fun q => by first | exact d29 q.1 | exact d34 q.2))), zh⟩) (fun q h => by cases h) dX1_isNearer_42
    · have d29 : Q t = Q v := (lg_cmp_eq _ _).mp c29
      refine lv_iload_n hx hb dX1_isNearer_32 rfl (lv_at hl 1 rfl) ?_
      refine lv_iload_n hx hb dX1_isNearer_33 rfl (lv_at hl 2 rfl) ?_
      refine lv_icmp_ge (tgt := 41) hx hb dX1_isNearer_34 (by decide) (fun c34 => ?_) (fun c34 => ?_)
      · have d34 : ¬ t < v := fun q => nI_ge q (by omega) c34
        refine lv_iconst (v := 0) hx hb dX1_isNearer_41 (by decide) ?_
        exact W.zret (v := 0) hx hb hr rfl (fun zt zh zW => ⟨_, rfl, (pt_B.zero (fun q => q.elim d13 (fun q => by first | exact d29 q.1 | exact d34 q.2))), zh⟩) (fun q h => by cases h) dX1_isNearer_42
      · have d34 : t < v := Nat.not_le.mp (fun q => c34 (nI_le q (by omega)))
        refine lv_iconst (v := 1) hx hb dX1_isNearer_37 (by decide) ?_
        refine lv_goto (tgt := 42) hx hb dX1_isNearer_38 (by decide) ?_
        exact W.zret (v := 1) hx hb hr rfl (fun zt zh zW => ⟨_, rfl, (pt_B.one (by first | exact Or.inl d13 | exact Or.inr ⟨d29, d34⟩)), zh⟩) (fun q h => by cases h) dX1_isNearer_42

theorem wd_c_X1_nearerThan_X1_nearerThan_0 : Cond.fieldLink RX1 60 "PointTrees" "made" "I" ∈ wsX1_nearerThan := by decide +kernel
theorem wd_c_X1_nearerThan_X1_nearerThan_1 : Cond.fieldLink RX1 15 "PointTrees" "isThere" "[Z" ∈ wsX1_nearerThan := by decide +kernel
theorem iw_c_X1_nearerThan_wsX10 : ∀ w ∈ wsX10, w ∈ wsX1_nearerThan := fun _ h => List.mem_cons_of_mem _ (List.mem_append_right _ h)
set_option maxHeartbeats 4000000 in
set_option maxRecDepth 100000 in
theorem c_X1_nearerThan (l : Launch) (dC : Nat → ClassId) (dI : Nat → Nat → Nat) (a : Nat → Nat) (c : Nat → ClassId) (F : Nat → Int32) (A : Nat → Nat → Int32) (Q : Nat → Int64) (md : Nat) (h1 : F 1 = nI md) (hmd : md ≤ 64) (k : Nat) (hk : k < 64) : Met l yX1_nearerThan wsX1_nearerThan (pt_rm 1) (pt_R (dC, dI) vwCl (pt_xt c) (pt_xw a c F A Q) pt_nw [.ref (a 0), .int (nI k)]) (vp_Si (fun r => r = nI (pt_cnt (fun t => ¬ A 3 t = 0 ∧ (Q t < Q k ∨ (Q t = Q k ∧ t < k))) md))) 0 0 (fun _ => False) := by
  refine Met.ofW (cc := cX1_nearerThan) (maxL := 4) (ret := (some .int)) (by decide) rfl ?_
  intro p e s m args below meth cd s₁ B hml hv
  obtain ⟨rfl, hP, hK, hN⟩ := hv
  have hx := B.exec
  have hb := B.bytes
  have hr := B.returns
  have hts := atoms_spec (ws := wsX1_nearerThan) B.pre
  have hown : s.vm.findClass RX1 = some m.cls := findClass_of_methodNamed B.named
  have hlocks := B.notSynchronized
  have hl := lv_entry ([.ref (a 0), .int (nI k)]) (n := 4) (Nat.le_of_ble_eq_true rfl)
  rw [lg_entry_eq]
  generalize (lg_sl ([.ref (a 0), .int (nI k)]) ++ List.replicate (4 - (lg_sl ([.ref (a 0), .int (nI k)])).length) Slot.unset).toArray = ls at hl ⊢
  have hl : lv_has ls 4 [(0, .ref (a 0)), (1, .int (nI k))] := hl
  refine lv_iconst (v := nI 0) hx hb dX1_nearerThan_0 (by decide) ?_
  refine lv_istore_n (lv' := [(2, .int (nI 0)), (0, .ref (a 0)), (1, .int (nI k))]) hx hb dX1_nearerThan_1 rfl hl (by decide) rfl (fun ls hl => ?_)
  refine lv_iconst (v := nI 0) hx hb dX1_nearerThan_2 (by decide) ?_
  refine lv_istore_n (lv' := [(3, .int (nI 0)), (2, .int (nI 0)), (0, .ref (a 0)), (1, .int (nI k))]) hx hb dX1_nearerThan_3 rfl hl (by decide) rfl (fun ls hl => ?_)
  refine pt_loopR (fun i : Nat => md - i) (fun i ls => i ≤ md ∧ lv_has ls 4 [(3, .int (nI i)), (2, .int (nI (pt_cnt (fun t => ¬ A 3 t = 0 ∧ (Q t < Q k ∨ (Q t = Q k ∧ t < k))) i))), (0, .ref (a 0)), (1, .int (nI k))]) ?_ 0 _ ⟨Nat.zero_le _, hl⟩
  intro i ls ⟨hi, hl⟩ ih
  refine lv_iload_n hx hb dX1_nearerThan_4 rfl (lv_at hl 0 rfl) ?_
  refine lv_aload_n hx hb dX1_nearerThan_5 rfl (lv_at hl 2 rfl) ?_
  refine va_get (D := (dC, dI)) (ci := 1) (v := .int (F 1)) (C := RX1) (T := TX1) (N := 18) hx hb hts iw_c_X1_nearerThan_wsX10 hown hK hP 0 rfl rfl 1 (by decide) (hts _ wd_c_X1_nearerThan_X1_nearerThan_0) (fun _ h9 => h9) rfl dX1_nearerThan_6 ?_
  refine pt_top (y := nI md) h1 ?_
  refine lv_icmp_ge (tgt := 39) hx hb dX1_nearerThan_9 (by decide) (fun c9 => ?_) (fun c9 => ?_)
  · have hie : i = md := by have := (nI_leI (by omega) (by omega)).mp c9; omega
    refine lv_iload_n hx hb dX1_nearerThan_39 rfl (lv_at hl 1 rfl) ?_
    exact W.iret (v := nI (pt_cnt (fun t => ¬ A 3 t = 0 ∧ (Q t < Q k ∨ (Q t = Q k ∧ t < k))) i)) hx hb hr (fun zt zh zW => ⟨_, rfl, (by rw [← hie]), zh⟩) (fun q h => by cases h) dX1_nearerThan_40
  · have hlt : i < md := Nat.not_le.mp (fun q => c9 ((nI_leI (by omega) (by omega)).mpr q))
    refine lv_aload_n hx hb dX1_nearerThan_12 rfl (lv_at hl 2 rfl) ?_
    refine va_get (D := (dC, dI)) (ci := 1) (v := .ref (a 3)) (C := RX1) (T := TX1) (N := 18) hx hb hts iw_c_X1_nearerThan_wsX10 hown hK hP 0 rfl rfl 3 (by decide) (hts _ wd_c_X1_nearerThan_X1_nearerThan_1) (fun _ h9 => h9) rfl dX1_nearerThan_13 ?_
    refine lv_iload_n hx hb dX1_nearerThan_16 rfl (lv_at hl 0 rfl) ?_
    refine pt_zald hx hb hK hP 1 0 rfl rfl i rfl (by omega) (by decide) dX1_nearerThan_17 ?_
    refine lv_if_eq (tgt := 33) hx hb dX1_nearerThan_18 (by decide) (fun c18 => ?_) (fun c18 => ?_)
    · refine lv_iinc (v := nI (i + 1)) (lv' := [(3, .int (nI (i + 1))), (2, .int (nI (pt_cnt (fun t => ¬ A 3 t = 0 ∧ (Q t < Q k ∨ (Q t = Q k ∧ t < k))) i))), (0, .ref (a 0)), (1, .int (nI k))]) hx hb dX1_nearerThan_33 hl (k := 0) rfl (nI_1 _) (by decide) rfl (fun ls hl => ?_)
      refine lv_goto (tgt := 4) hx hb dX1_nearerThan_36 (by decide) ?_
      have ec := pt_cnt_f (p := (fun t => ¬ A 3 t = 0 ∧ (Q t < Q k ∨ (Q t = Q k ∧ t < k)))) (n := i) (fun q => by first | exact hr24.f c27 q.2 | exact q.1 c18)
      exact ih (i + 1) _ ⟨by omega, by rw [ec]; exact lv_sub hl [0, 1, 2, 3] rfl⟩ (by omega)
    · refine lv_aload_n hx hb dX1_nearerThan_21 rfl (lv_at hl 2 rfl) ?_
      refine lv_iload_n hx hb dX1_nearerThan_22 rfl (lv_at hl 0 rfl) ?_
      refine lv_iload_n hx hb dX1_nearerThan_23 rfl (lv_at hl 3 rfl) ?_
      refine pt_rdi (va_runV (As := [.int (nI i), .int (nI k)]) (rest := []) ⟨hx, hb, hml, hown, hts⟩ (c_X1_isNearer l dC dI a c F A Q i k (by omega) (by omega)) (cwV 2 hts gX1_nearerThan_X1_isNearer rfl rfl rfl (by decide +kernel) ⟨Nat.le_of_ble_eq_true rfl, Nat.le_of_ble_eq_true rfl⟩) (pt_pv1 hP hK hN (q0 := 0) rfl) rfl rfl hl.1 rfl (lv_room (Nat.le_of_ble_eq_true rfl)) dX1_nearerThan_24 ⟨Nat.le_of_ble_eq_true rfl, Nat.le_of_ble_eq_true rfl⟩) (fun r24 hr24 => ?_)
      refine lv_if_eq (tgt := 33) hx hb dX1_nearerThan_27 (by decide) (fun c27 => ?_) (fun c27 => ?_)
      · refine lv_iinc (v := nI (i + 1)) (lv' := [(3, .int (nI (i + 1))), (2, .int (nI (pt_cnt (fun t => ¬ A 3 t = 0 ∧ (Q t < Q k ∨ (Q t = Q k ∧ t < k))) i))), (0, .ref (a 0)), (1, .int (nI k))]) hx hb dX1_nearerThan_33 hl (k := 0) rfl (nI_1 _) (by decide) rfl (fun ls hl => ?_)
        refine lv_goto (tgt := 4) hx hb dX1_nearerThan_36 (by decide) ?_
        have ec := pt_cnt_f (p := (fun t => ¬ A 3 t = 0 ∧ (Q t < Q k ∨ (Q t = Q k ∧ t < k)))) (n := i) (fun q => by first | exact hr24.f c27 q.2 | exact q.1 c18)
        exact ih (i + 1) _ ⟨by omega, by rw [ec]; exact lv_sub hl [0, 1, 2, 3] rfl⟩ (by omega)
      · refine lv_iinc (v := nI ((pt_cnt (fun t => ¬ A 3 t = 0 ∧ (Q t < Q k ∨ (Q t = Q k ∧ t < k))) i) + 1)) (lv' := [(2, .int (nI ((pt_cnt (fun t => ¬ A 3 t = 0 ∧ (Q t < Q k ∨ (Q t = Q k ∧ t < k))) i) + 1))), (3, .int (nI i)), (0, .ref (a 0)), (1, .int (nI k))]) hx hb dX1_nearerThan_30 hl (k := 1) rfl (nI_1 _) (by decide) rfl (fun ls hl => ?_)
        refine lv_iinc (v := nI (i + 1)) (lv' := [(3, .int (nI (i + 1))), (2, .int (nI ((pt_cnt (fun t => ¬ A 3 t = 0 ∧ (Q t < Q k ∨ (Q t = Q k ∧ t < k))) i) + 1))), (0, .ref (a 0)), (1, .int (nI k))]) hx hb dX1_nearerThan_33 hl (k := 1) rfl (nI_1 _) (by decide) rfl (fun ls hl => ?_)
        refine lv_goto (tgt := 4) hx hb dX1_nearerThan_36 (by decide) ?_
        have ec := pt_cnt_t (p := (fun t => ¬ A 3 t = 0 ∧ (Q t < Q k ∨ (Q t = Q k ∧ t < k)))) (n := i) ⟨c18, hr24.t c27⟩
        exact ih (i + 1) _ ⟨by omega, by rw [ec]; exact lv_sub hl [0, 1, 2, 3] rfl⟩ (by omega)

/-- which thing is the k-th nearest, by the squares S -/
def pt_rk (th : Nat → Prop) (S : Nat → Int64) (md : Nat) (k : Int32) (t : Nat) : Prop := th t ∧ nI (pt_cnt (fun v => th v ∧ (S v < S t ∨ (S v = S t ∧ v < t))) md) = k

theorem wd_c_X1_nearest_X1_nearest_0 : Cond.fieldLink RX1 63 "PointTrees" "present" "I" ∈ wsX1_nearest := by decide +kernel
theorem wd_c_X1_nearest_X1_nearest_1 : Cond.fieldLink RX1 60 "PointTrees" "made" "I" ∈ wsX1_nearest := by decide +kernel
theorem wd_c_X1_nearest_X1_nearest_2 : Cond.fieldLink RX1 15 "PointTrees" "isThere" "[Z" ∈ wsX1_nearest := by decide +kernel
theorem wd_c_X1_nearest_X1_nearest_3 : Cond.fieldLink RX1 56 "PointTrees" "squares" "[J" ∈ wsX1_nearest := by decide +kernel
theorem wd_c_X1_nearest_X1_nearest_4 : Cond.fieldLink RX1 24 "PointTrees" "things" "LPointTrees$Boxes;" ∈ wsX1_nearest := by decide +kernel
theorem wd_c_X1_nearest_X1_nearest_5 : Cond.fieldLink RX1 9 "PointTrees" "axes" "I" ∈ wsX1_nearest := by decide +kernel
theorem wd_c_X1_nearest_X1_nearest_6 : Cond.initialized RX0 ∈ wsX1_nearest := by decide +kernel
theorem wd_c_X1_nearest_X1_nearest_7 : Cond.instanceMethod yX0_squareTo ∈ wsX1_nearest := by decide +kernel
theorem wd_c_X1_nearest_X1_nearest_8 : Cond.selects RX0 yX0_squareTo yX0_squareTo ∈ wsX1_nearest := by decide +kernel
theorem iw_c_X1_nearest_wsX10 : ∀ w ∈ wsX10, w ∈ wsX1_nearest := fun _ h => List.mem_cons_of_mem _ (List.mem_append_left _ (List.mem_append_right _ h))
theorem iw_c_X1_nearest_wsX00 : ∀ w ∈ wsX00, w ∈ wsX1_nearest := fun _ h => List.mem_cons_of_mem _ (List.mem_append_right _ h)
set_option maxHeartbeats 4000000 in
set_option maxRecDepth 100000 in
theorem c_X1_nearest (l : Launch) (dC : Nat → ClassId) (dI : Nat → Nat → Nat) (a : Nat → Nat) (c : Nat → ClassId) (F : Nat → Int32) (A : Nat → Nat → Int32) (Q : Nat → Int64) (sz : Nat) (ax : Nat) (h0 : F 0 = nI ax) (hax : ax ≤ 3) (md : Nat) (h1 : F 1 = nI md) (hmd : md ≤ 64) (pr : Nat) (h2 : F 2 = nI pr) (hpr : pr ≤ 64) (x y z k : Int32) : Met l yX1_nearest wsX1_nearest (pt_rm 3) (pt_W (dC, dI) vwCl (pt_xt c) (pt_xw a c F A Q) pt_nw sz [.ref (a 0), .int x, .int y, .int z, .int k]) (va_Qi (fun (r : Int32) (u : pt_XS) => u.1 = F ∧ u.2.1 = A ∧ ((¬ pt_in pr (fun _ => True) k ∧ r = -1) ∨ (pt_in pr (fun _ => True) k ∧ ¬ pt_box ax x x y y z z ∧ r = -2) ∨ (pt_in pr (fun _ => True) k ∧ pt_box ax x x y y z z ∧ pt_fst (pt_rk (fun t => ¬ A 3 t = 0) (fun t => pt_sqt ax (fun q => A 4 (t * 6 + q * 2 + 0)) (fun q => A 4 (t * 6 + q * 2 + 1)) x y z) md k) md r))) (fun u t => va_P (dC, dI) vwCl (pt_xw a c u.1 u.2.1 u.2.2) t.heap) (va_A (pt_xw a c F A Q) sz)) 0 0 (va_A (pt_xw a c F A Q) sz) := by
  refine Met.ofW (cc := cX1_nearest) (maxL := 6) (ret := (some .int)) (by decide) rfl ?_
  intro p e s m args below meth cd s₁ B hml hv
  obtain ⟨rfl, hsz, hP, hK, hN, hD0⟩ := hv
  have hx := B.exec
  have hb := B.bytes
  have hr := B.returns
  have hts := atoms_spec (ws := wsX1_nearest) B.pre
  have hown : s.vm.findClass RX1 = some m.cls := findClass_of_methodNamed B.named
  have hlocks := B.notSynchronized
  subst hsz
  have hD := hD0.self (sz := s.heap.size)
  generalize hAe : va_A (pt_xw a c F A Q) s.heap.size = AA at hD ⊢
  have hA : ∀ q : Nat, s.heap.size ≤ q → AA q := fun q h => by rw [← hAe]; exact Or.inr h
  have hS : va_S AA s.heap s.heap [] := va_S.rf
  have hl := lv_entry ([.ref (a 0), .int x, .int y, .int z, .int k]) (n := 6) (Nat.le_of_ble_eq_true rfl)
  rw [lg_entry_eq]
  generalize (lg_sl ([.ref (a 0), .int x, .int y, .int z, .int k]) ++ List.replicate (6 - (lg_sl ([.ref (a 0), .int x, .int y, .int z, .int k])).length) Slot.unset).toArray = ls at hl ⊢
  have hl : lv_has ls 6 [(0, .ref (a 0)), (1, .int x), (2, .int y), (3, .int z), (4, .int k)] := hl
  refine lv_iload hx hb dX1_nearest_0 (lv_at hl 4 rfl) ?_
  refine lv_if_lt (tgt := 14) hx hb dX1_nearest_2 (by decide) (fun c2 => ?_) (fun c2 => ?_)
  · refine lv_iconst (v := (-1)) hx hb dX1_nearest_14 (by decide) ?_
    exact W.iret (v := (-1)) hx hb hr (fun zt zh zW => ⟨⟨_, (F, A, Q), rfl, ⟨rfl, rfl, Or.inl ⟨by first | exact pt_in_hi (Int32.not_lt.mp c11) (by omega) | exact pt_in_lo c2 (by omega), rfl⟩⟩, by show va_P _ _ _ zt.heap; rw [zh]; exact hP⟩, hS.F zh⟩) hS.2.2 dX1_nearest_15
  · refine lv_iload hx hb dX1_nearest_5 (lv_at hl 4 rfl) ?_
    refine lv_aload_n hx hb dX1_nearest_7 rfl (lv_at hl 0 rfl) ?_
    refine va_get (D := (dC, dI)) (ci := 1) (v := .int (F 2)) (C := RX1) (T := TX1) (N := 18) hx hb hts iw_c_X1_nearest_wsX10 hown hK hP 0 rfl rfl 2 (by decide) (hts _ wd_c_X1_nearest_X1_nearest_0) (fun _ h9 => h9) rfl dX1_nearest_8 ?_
    refine pt_top (y := nI pr) h2 ?_
    refine lv_icmp_lt (tgt := 16) hx hb dX1_nearest_11 (by decide) (fun c11 => ?_) (fun c11 => ?_)
    · obtain ⟨kk, hkk, ek⟩ := pt_ix c2 (Int32.not_le.mpr c11) (by omega)
      have hin : pt_in pr (fun _ => True) k := ⟨kk, hkk, ek, trivial⟩
      refine lv_aload_n hx hb dX1_nearest_16 rfl (lv_at hl 0 rfl) ?_
      refine lv_iload_n hx hb dX1_nearest_17 rfl (lv_at hl 1 rfl) ?_
      refine lv_iload_n hx hb dX1_nearest_18 rfl (lv_at hl 2 rfl) ?_
      refine lv_iload_n hx hb dX1_nearest_19 rfl (lv_at hl 3 rfl) ?_
      refine pt_rdi (va_runV (As := [.int x, .int y, .int z]) (rest := []) ⟨hx, hb, hml, hown, hts⟩ (c_X1_isPlace l dC dI a c F A Q ax h0 hax x y z) (cwV 3 hts gX1_nearest_X1_isPlace rfl rfl rfl (by decide +kernel) ⟨Nat.le_of_ble_eq_true rfl, Nat.le_of_ble_eq_true rfl⟩) (pt_pv1 hP hK hN (q0 := 0) rfl) rfl rfl hl.1 rfl (lv_room (Nat.le_of_ble_eq_true rfl)) dX1_nearest_20 ⟨Nat.le_of_ble_eq_true rfl, Nat.le_of_ble_eq_true rfl⟩) (fun r20 hr20 => ?_)
      refine lv_if_ne (tgt := 29) hx hb dX1_nearest_23 (by decide) (fun c23 => ?_) (fun c23 => ?_)
      · have d23 := hr20.t c23
        refine lv_iconst (v := nI 0) hx hb dX1_nearest_29 (by decide) ?_
        refine lv_istore (lv' := [(5, .int (nI 0)), (0, .ref (a 0)), (1, .int x), (2, .int y), (3, .int z), (4, .int k)]) hx hb dX1_nearest_30 hl (by decide) rfl (fun ls hl => ?_)
        refine pt_loopW (fun q : Nat × (Nat → Int64) => md - q.1) (fun q ls H locs => q.1 ≤ md ∧ (∀ t, t < q.1 → q.2 t = (fun t => pt_sqt ax (fun q => A 4 (t * 6 + q * 2 + 0)) (fun q => A 4 (t * 6 + q * 2 + 1)) x y z) t) ∧ va_P (dC, dI) vwCl (pt_xw a c F A q.2) H ∧ va_D AA (pt_xw a c F A q.2) ∧ va_S AA s.heap H locs ∧ lv_has ls 6 [(5, .int (nI q.1)), (0, .ref (a 0)), (1, .int x), (2, .int y), (3, .int z), (4, .int k)]) ?_ (0, Q) _ _ _ ⟨Nat.zero_le _, fun t ht => absurd ht (Nat.not_lt_zero _), hP, hD, hS, hl⟩
        intro ⟨i, Qi⟩ ls H locs ⟨hi, hsq, hP, hD, hS, hl⟩ ih
        dsimp only at hi hsq hP hD hl ih
        refine lv_iload hx hb dX1_nearest_32 (lv_at hl 0 rfl) ?_
        refine lv_aload_n hx hb dX1_nearest_34 rfl (lv_at hl 1 rfl) ?_
        refine va_get (D := (dC, dI)) (ci := 1) (v := .int (F 1)) (C := RX1) (T := TX1) (N := 18) hx hb hts iw_c_X1_nearest_wsX10 hown hK hP 0 rfl rfl 1 (by decide) (hts _ wd_c_X1_nearest_X1_nearest_1) (fun _ h9 => h9) rfl dX1_nearest_35 ?_
        refine pt_top (y := nI md) h1 ?_
        refine lv_icmp_ge (tgt := 70) hx hb dX1_nearest_38 (by decide) (fun c38 => ?_) (fun c38 => ?_)
        · have hie : i = md := by have := (nI_leI (by omega) (by omega)).mp c38; omega
          refine lv_iconst (v := nI 0) hx hb dX1_nearest_70 (by decide) ?_
          refine lv_istore (lv' := [(5, .int (nI 0)), (0, .ref (a 0)), (1, .int x), (2, .int y), (3, .int z), (4, .int k)]) hx hb dX1_nearest_71 hl (by decide) rfl (fun ls hl => ?_)
          refine pt_loopR (fun j : Nat => md - j) (fun j ls => j ≤ md ∧ (∀ u, u < j → ¬ pt_rk (fun t => ¬ A 3 t = 0) (fun t => pt_sqt ax (fun q => A 4 (t * 6 + q * 2 + 0)) (fun q => A 4 (t * 6 + q * 2 + 1)) x y z) md k u) ∧ lv_has ls 6 [(5, .int (nI j)), (0, .ref (a 0)), (1, .int x), (2, .int y), (3, .int z), (4, .int k)]) ?_ 0 _ ⟨Nat.zero_le _, fun t ht => absurd ht (Nat.not_lt_zero _), hl⟩
          intro j ls ⟨hj, hno, hl⟩ ihj
          refine lv_iload hx hb dX1_nearest_73 (lv_at hl 0 rfl) ?_
          refine lv_aload_n hx hb dX1_nearest_75 rfl (lv_at hl 1 rfl) ?_
          refine va_get (D := (dC, dI)) (ci := 1) (v := .int (F 1)) (C := RX1) (T := TX1) (N := 18) hx hb hts iw_c_X1_nearest_wsX10 hown hK hP 0 rfl rfl 1 (by decide) (hts _ wd_c_X1_nearest_X1_nearest_1) (fun _ h9 => h9) rfl dX1_nearest_76 ?_
          refine pt_top (y := nI md) h1 ?_
          refine lv_icmp_ge (tgt := 112) hx hb dX1_nearest_79 (by decide) (fun c79 => ?_) (fun c79 => ?_)
          · have hje : j = md := by have := (nI_leI (by omega) (by omega)).mp c79; omega
            refine lv_iconst (v := (-1)) hx hb dX1_nearest_112 (by decide) ?_
            exact W.iret (v := (-1)) hx hb hr (fun zt zh zW => ⟨⟨_, (F, A, Qi), rfl, ⟨rfl, rfl, Or.inr (Or.inr ⟨hin, d23, Or.inr ⟨fun t ht => hno t (by omega), rfl⟩⟩)⟩, by show va_P _ _ _ zt.heap; rw [zh]; exact hP⟩, hS.F zh⟩) hS.2.2 dX1_nearest_113
          · have hjl : j < md := Nat.not_le.mp (fun q => c79 ((nI_leI (by omega) (by omega)).mpr q))
            refine lv_aload_n hx hb dX1_nearest_82 rfl (lv_at hl 1 rfl) ?_
            refine va_get (D := (dC, dI)) (ci := 1) (v := .ref (a 3)) (C := RX1) (T := TX1) (N := 18) hx hb hts iw_c_X1_nearest_wsX10 hown hK hP 0 rfl rfl 3 (by decide) (hts _ wd_c_X1_nearest_X1_nearest_2) (fun _ h9 => h9) rfl dX1_nearest_83 ?_
            refine lv_iload hx hb dX1_nearest_86 (lv_at hl 0 rfl) ?_
            refine pt_zald hx hb hK hP 1 0 rfl rfl j rfl (by omega) (by decide) dX1_nearest_88 ?_
            refine lv_if_eq (tgt := 106) hx hb dX1_nearest_89 (by decide) (fun c89 => ?_) (fun c89 => ?_)
            · refine lv_iinc (v := nI (j + 1)) (lv' := [(5, .int (nI (j + 1))), (0, .ref (a 0)), (1, .int x), (2, .int y), (3, .int z), (4, .int k)]) hx hb dX1_nearest_106 hl (k := 0) rfl (nI_1 _) (by decide) rfl (fun ls hl => ?_)
              refine lv_goto (tgt := 73) hx hb dX1_nearest_109 (by decide) ?_
              exact ihj (j + 1) _ ⟨by omega, fun u hu => (Nat.lt_succ_iff_lt_or_eq.mp hu).elim (hno u) (fun q => by subst q; intro h; first | exact c100 (hr95e.trans h.2) | exact h.1 c89), lv_sub hl [0, 1, 2, 3, 4, 5] rfl⟩ (by omega)
            · refine lv_aload_n hx hb dX1_nearest_92 rfl (lv_at hl 1 rfl) ?_
              refine lv_iload hx hb dX1_nearest_93 (lv_at hl 0 rfl) ?_
              refine pt_rdi (va_runV (As := [.int (nI j)]) (rest := []) ⟨hx, hb, hml, hown, hts⟩ (c_X1_nearerThan l dC dI a c F A Qi md h1 hmd j (by omega)) (cwV 1 hts gX1_nearest_X1_nearerThan rfl rfl rfl (by decide +kernel) ⟨Nat.le_of_ble_eq_true rfl, Nat.le_of_ble_eq_true rfl⟩) (pt_pv1 hP hK hN (q0 := 0) rfl) rfl rfl hl.1 rfl (lv_room (Nat.le_of_ble_eq_true rfl)) dX1_nearest_95 ⟨Nat.le_of_ble_eq_true rfl, Nat.le_of_ble_eq_true rfl⟩) (fun r95 hr95 => ?_)
              have hr95e : r95 = nI (pt_cnt (fun v => ¬ A 3 v = 0 ∧ ((fun t => pt_sqt ax (fun q => A 4 (t * 6 + q * 2 + 0)) (fun q => A 4 (t * 6 + q * 2 + 1)) x y z) v < (fun t => pt_sqt ax (fun q => A 4 (t * 6 + q * 2 + 0)) (fun q => A 4 (t * 6 + q * 2 + 1)) x y z) j ∨ ((fun t => pt_sqt ax (fun q => A 4 (t * 6 + q * 2 + 0)) (fun q => A 4 (t * 6 + q * 2 + 1)) x y z) v = (fun t => pt_sqt ax (fun q => A 4 (t * 6 + q * 2 + 0)) (fun q => A 4 (t * 6 + q * 2 + 1)) x y z) j ∧ v < j))) md) := by rw [hr95]; exact congrArg nI (pt_cnt_c md (fun v hv => by rw [hsq v (by omega), hsq j (by omega)]))
              refine lv_iload hx hb dX1_nearest_98 (lv_at hl 5 rfl) ?_
              refine lv_icmp_ne (tgt := 106) hx hb dX1_nearest_100 (by decide) (fun c100 => ?_) (fun c100 => ?_)
              · refine lv_iinc (v := nI (j + 1)) (lv' := [(5, .int (nI (j + 1))), (0, .ref (a 0)), (1, .int x), (2, .int y), (3, .int z), (4, .int k)]) hx hb dX1_nearest_106 hl (k := 0) rfl (nI_1 _) (by decide) rfl (fun ls hl => ?_)
                refine lv_goto (tgt := 73) hx hb dX1_nearest_109 (by decide) ?_
                exact ihj (j + 1) _ ⟨by omega, fun u hu => (Nat.lt_succ_iff_lt_or_eq.mp hu).elim (hno u) (fun q => by subst q; intro h; first | exact c100 (hr95e.trans h.2) | exact h.1 c89), lv_sub hl [0, 1, 2, 3, 4, 5] rfl⟩ (by omega)
              · refine lv_iload hx hb dX1_nearest_103 (lv_at hl 0 rfl) ?_
                exact W.iret (v := nI j) hx hb hr (fun zt zh zW => ⟨⟨_, (F, A, Qi), rfl, ⟨rfl, rfl, Or.inr (Or.inr ⟨hin, d23, Or.inl ⟨j, hjl, ⟨c89, hr95e.symm.trans c100⟩, hno, rfl⟩⟩)⟩, by show va_P _ _ _ zt.heap; rw [zh]; exact hP⟩, hS.F zh⟩) hS.2.2 dX1_nearest_105
        · have hlt : i < md := Nat.not_le.mp (fun q => c38 ((nI_leI (by omega) (by omega)).mpr q))
          refine lv_aload_n hx hb dX1_nearest_41 rfl (lv_at hl 1 rfl) ?_
          refine va_get (D := (dC, dI)) (ci := 1) (v := .ref (a 17)) (C := RX1) (T := TX1) (N := 18) hx hb hts iw_c_X1_nearest_wsX10 hown hK hP 0 rfl rfl 17 (by decide) (hts _ wd_c_X1_nearest_X1_nearest_3) (fun _ h9 => h9) rfl dX1_nearest_42 ?_
          refine lv_iload hx hb dX1_nearest_45 (lv_at hl 0 rfl) ?_
          refine lv_aload_n hx hb dX1_nearest_47 rfl (lv_at hl 1 rfl) ?_
          refine va_get (D := (dC, dI)) (ci := 1) (v := .ref (a 4)) (C := RX1) (T := TX1) (N := 18) hx hb hts iw_c_X1_nearest_wsX10 hown hK hP 0 rfl rfl 4 (by decide) (hts _ wd_c_X1_nearest_X1_nearest_4) (fun _ h9 => h9) rfl dX1_nearest_48 ?_
          refine lv_iload hx hb dX1_nearest_51 (lv_at hl 0 rfl) ?_
          refine lv_aload_n hx hb dX1_nearest_53 rfl (lv_at hl 1 rfl) ?_
          refine va_get (D := (dC, dI)) (ci := 1) (v := .int (F 0)) (C := RX1) (T := TX1) (N := 18) hx hb hts iw_c_X1_nearest_wsX10 hown hK hP 0 rfl rfl 0 (by decide) (hts _ wd_c_X1_nearest_X1_nearest_5) (fun _ h9 => h9) rfl dX1_nearest_54 ?_
          refine pt_top (y := nI ax) h0 ?_
          refine lv_iload_n hx hb dX1_nearest_57 rfl (lv_at hl 2 rfl) ?_
          refine lv_iload_n hx hb dX1_nearest_58 rfl (lv_at hl 3 rfl) ?_
          refine lv_iload_n hx hb dX1_nearest_59 rfl (lv_at hl 4 rfl) ?_
          refine pt_rdl (va_runVN (As := [.int (nI i), .int (nI ax), .int x, .int y, .int z]) (rest := [.int (nI i), .ref (a 17)]) ⟨hx, hb, hml, hown, hts⟩ (c_X0_squareTo l dC dI (pt_xt c) (pt_xw a c F A Qi) 2 3 1 (a 4) (a 24) (c 4) 384 (A 4) rfl rfl rfl (by decide) i ax x y z (by omega) hax) ⟨va_cnB 5 hts gX1_nearest_X0_squareTo_n121 rfl rfl rfl (pt_nest hN 8 rfl) (hts _ wd_c_X1_nearest_X1_nearest_6) (by decide +kernel) ⟨Nat.le_of_ble_eq_true rfl, Nat.le_of_ble_eq_true rfl⟩, (hts _ wd_c_X1_nearest_X1_nearest_7), (hts _ wd_c_X1_nearest_X1_nearest_8)⟩ (pt_pv0 hP hK hN (q0 := 2) rfl) rfl rfl hl.1 rfl (lv_room (Nat.le_of_ble_eq_true rfl)) dX1_nearest_60 ⟨Nat.le_of_ble_eq_true rfl, Nat.le_of_ble_eq_true rfl⟩) (fun r60 hr60 => ?_)
          refine pt_topl (y := (pt_sqt ax (fun q => A 4 (i * 6 + q * 2 + 0)) (fun q => A 4 (i * 6 + q * 2 + 1)) x y z)) hr60 ?_
          obtain ⟨Q1, eQ1⟩ : ∃ zz, zz = vp_updL Qi i (pt_sqt ax (fun q => A 4 (i * 6 + q * 2 + 0)) (fun q => A 4 (i * 6 + q * 2 + 1)) x y z) := ⟨_, rfl⟩
          refine pt_last hx hb hK hP hD hS 15 11 rfl rfl i rfl (by omega) (by decide) (ws' := (pt_xw a c F A Q1)) (by rw [eQ1]; rfl) dX1_nearest_63 (fun H locs hP hD hS => ?_)
          refine lv_iinc (v := nI (i + 1)) (lv' := [(5, .int (nI (i + 1))), (0, .ref (a 0)), (1, .int x), (2, .int y), (3, .int z), (4, .int k)]) hx hb dX1_nearest_64 hl (k := 0) rfl (nI_1 _) (by decide) rfl (fun ls hl => ?_)
          refine lv_goto (tgt := 32) hx hb dX1_nearest_67 (by decide) ?_
          exact ih (i + 1, Q1) _ _ _ ⟨by show i + 1 ≤ md; omega, fun t ht => by show Q1 t = _; rw [eQ1]; exact pt_updL_s hsq rfl t ht, hP, hD, hS, lv_sub hl [0, 1, 2, 3, 4, 5] rfl⟩ (by show md - (i + 1) < md - i; omega)
      · have d23 := hr20.f c23
        refine lv_bipush (v := (-2)) hx hb dX1_nearest_26 (by decide) ?_
        exact W.iret (v := (-2)) hx hb hr (fun zt zh zW => ⟨⟨_, (F, A, Q), rfl, ⟨rfl, rfl, Or.inr (Or.inl ⟨hin, d23, rfl⟩)⟩, by show va_P _ _ _ zt.heap; rw [zh]; exact hP⟩, hS.F zh⟩) hS.2.2 dX1_nearest_28
    · refine lv_iconst (v := (-1)) hx hb dX1_nearest_14 (by decide) ?_
      exact W.iret (v := (-1)) hx hb hr (fun zt zh zW => ⟨⟨_, (F, A, Q), rfl, ⟨rfl, rfl, Or.inl ⟨by first | exact pt_in_hi (Int32.not_lt.mp c11) (by omega) | exact pt_in_lo c2 (by omega), rfl⟩⟩, by show va_P _ _ _ zt.heap; rw [zh]; exact hP⟩, hS.F zh⟩) hS.2.2 dX1_nearest_15
end
section
noncomputable def pt_if {α : Type} (P : Prop) (x y : α) : α := @ite α P (Classical.propDecidable P) x y
theorem pt_if_t {α : Type} {P : Prop} {x y : α} (h : P) : pt_if P x y = x := by unfold pt_if; exact if_pos h
theorem pt_if_f {α : Type} {P : Prop} {x y : α} (h : ¬ P) : pt_if P x y = y := by unfold pt_if; exact if_neg h
/-- what a block's bounds tell: 0 none, 1 all, 2 not settled -/
noncomputable def pt_vd (rel : Nat) (mt wi ho : Prop) : Nat := if rel = 2 then pt_if ho 2 0 else pt_if mt (pt_if wi (if rel = 3 then 0 else 1) 2) (if rel = 3 then 1 else 0)
def pt_so (rel : Nat) (mt wi ho : Prop) : Prop := match rel with
  | 0 => mt
  | 1 => wi
  | 2 => ho
  | _ => ¬ mt
/-- LOW + HIGH of a thing on an axis -/
def pt_sm (T : Nat → Int32) (x t : Nat) : Int32 := T (t * 6 + x * 2 + 0) + T (t * 6 + x * 2 + 1)
def pt_bf (S : Nat → Int32) (t v : Nat) : Prop := S t < S v ∨ (S t = S v ∧ t < v)
def pt_mn (g : Nat → Int32) (f : Nat) : Nat → Int32
  | 0 => g f
  | n + 1 => if g (f + 1 + n) < pt_mn g f n then g (f + 1 + n) else pt_mn g f n
def pt_mx (g : Nat → Int32) (f : Nat) : Nat → Int32
  | 0 => g f
  | n + 1 => if pt_mx g f n < g (f + 1 + n) then g (f + 1 + n) else pt_mx g f n
def pt_spr (g : Nat → Int32) (f t : Nat) : Int32 := pt_mx g f (t - f - 1) - pt_mn g f (t - f - 1)
def pt_wa (sp : Nat → Int32) : Nat → Nat
  | 0 => 0
  | n + 1 => if sp (pt_wa sp n) < sp n then n else pt_wa sp n
theorem pt_wa_le (sp : Nat → Int32) : ∀ n, pt_wa sp (n + 1) ≤ n
  | 0 => by show (if _ then 0 else 0) ≤ 0; split <;> exact Nat.le_refl 0
  | n + 1 => by
    show (if _ then n + 1 else pt_wa sp (n + 1)) ≤ n + 1
    split
    · exact Nat.le_refl _
    · exact Nat.le_succ_of_le (pt_wa_le sp n)

theorem wd_c_X1_verdictOn_X1_verdictOn_0 : Cond.fieldLink RX1 44 "PointTrees" "bounds" "LPointTrees$Boxes;" ∈ wsX1_verdictOn := by decide +kernel
theorem wd_c_X1_verdictOn_X1_verdictOn_1 : Cond.fieldLink RX1 47 "PointTrees" "asked" "LPointTrees$Boxes;" ∈ wsX1_verdictOn := by decide +kernel
theorem wd_c_X1_verdictOn_X1_verdictOn_2 : Cond.fieldLink RX1 9 "PointTrees" "axes" "I" ∈ wsX1_verdictOn := by decide +kernel
theorem wd_c_X1_verdictOn_X1_verdictOn_3 : Cond.initialized RX0 ∈ wsX1_verdictOn := by decide +kernel
theorem wd_c_X1_verdictOn_X1_verdictOn_4 : Cond.static yX0_meet ∈ wsX1_verdictOn := by decide +kernel
theorem wd_c_X1_verdictOn_X1_verdictOn_5 : Cond.static yX0_within ∈ wsX1_verdictOn := by decide +kernel
theorem iw_c_X1_verdictOn_wsX10 : ∀ w ∈ wsX10, w ∈ wsX1_verdictOn := fun _ h => List.mem_cons_of_mem _ (List.mem_append_left _ (List.mem_append_right _ h))
theorem iw_c_X1_verdictOn_wsX00 : ∀ w ∈ wsX00, w ∈ wsX1_verdictOn := fun _ h => List.mem_cons_of_mem _ (List.mem_append_right _ h)
set_option maxHeartbeats 4000000 in
set_option maxRecDepth 100000 in
theorem c_X1_verdictOn (l : Launch) (dC : Nat → ClassId) (dI : Nat → Nat → Nat) (a : Nat → Nat) (c : Nat → ClassId) (F : Nat → Int32) (A : Nat → Nat → Int32) (Q : Nat → Int64) (ax : Nat) (h0 : F 0 = nI ax) (hax : ax ≤ 3) (b rel : Nat) (hb1 : b < 31) (hrel : rel ≤ 3) : Met l yX1_verdictOn wsX1_verdictOn (pt_rm 2) (pt_R (dC, dI) vwCl (pt_xt c) (pt_xw a c F A Q) pt_nw [.ref (a 0), .int (nI b), .int (nI rel)]) (vp_Si (fun r => r = nI (pt_vd rel (pt_mee ax (A 12) (A 13) b 0) (pt_wn ax (A 12) (A 13) b 0) (pt_wn ax (A 13) (A 12) 0 b)))) 0 0 (fun _ => False) := by
  refine Met.ofW (cc := cX1_verdictOn) (maxL := 3) (ret := (some .int)) (by decide) rfl ?_
  intro p e s m args below meth cd s₁ B hml hv
  obtain ⟨rfl, hP, hK, hN⟩ := hv
  have hx := B.exec
  have hb := B.bytes
  have hr := B.returns
  have hts := atoms_spec (ws := wsX1_verdictOn) B.pre
  have hown : s.vm.findClass RX1 = some m.cls := findClass_of_methodNamed B.named
  have hlocks := B.notSynchronized
  have hl := lv_entry ([.ref (a 0), .int (nI b), .int (nI rel)]) (n := 3) (Nat.le_of_ble_eq_true rfl)
  rw [lg_entry_eq]
  generalize (lg_sl ([.ref (a 0), .int (nI b), .int (nI rel)]) ++ List.replicate (3 - (lg_sl ([.ref (a 0), .int (nI b), .int (nI rel)])).length) Slot.unset).toArray = ls at hl ⊢
  have hl : lv_has ls 3 [(0, .ref (a 0)), (1, .int (nI b)), (2, .int (nI rel))] := hl
  refine lv_iload_n hx hb dX1_verdictOn_0 rfl (lv_at hl 2 rfl) ?_
  refine lv_iconst (v := nI 2) hx hb dX1_verdictOn_1 (by decide) ?_
  refine lv_icmp_ne (tgt := 31) hx hb dX1_verdictOn_2 (by decide) (fun c2 => ?_) (fun c2 => ?_)
  · have d2 : ¬ rel = 2 := fun q => c2 (by rw [q])
    refine lv_aload_n hx hb dX1_verdictOn_31 rfl (lv_at hl 0 rfl) ?_
    refine va_get (D := (dC, dI)) (ci := 1) (v := .ref (a 12)) (C := RX1) (T := TX1) (N := 18) hx hb hts iw_c_X1_verdictOn_wsX10 hown hK hP 0 rfl rfl 12 (by decide) (hts _ wd_c_X1_verdictOn_X1_verdictOn_0) (fun _ h9 => h9) rfl dX1_verdictOn_32 ?_
    refine lv_iload_n hx hb dX1_verdictOn_35 rfl (lv_at hl 1 rfl) ?_
    refine lv_aload_n hx hb dX1_verdictOn_36 rfl (lv_at hl 0 rfl) ?_
    refine va_get (D := (dC, dI)) (ci := 1) (v := .ref (a 13)) (C := RX1) (T := TX1) (N := 18) hx hb hts iw_c_X1_verdictOn_wsX10 hown hK hP 0 rfl rfl 13 (by decide) (hts _ wd_c_X1_verdictOn_X1_verdictOn_1) (fun _ h9 => h9) rfl dX1_verdictOn_37 ?_
    refine lv_iconst (v := nI 0) hx hb dX1_verdictOn_40 (by decide) ?_
    refine lv_aload_n hx hb dX1_verdictOn_41 rfl (lv_at hl 0 rfl) ?_
    refine va_get (D := (dC, dI)) (ci := 1) (v := .int (F 0)) (C := RX1) (T := TX1) (N := 18) hx hb hts iw_c_X1_verdictOn_wsX10 hown hK hP 0 rfl rfl 0 (by decide) (hts _ wd_c_X1_verdictOn_X1_verdictOn_2) (fun _ h9 => h9) rfl dX1_verdictOn_42 ?_
    refine pt_top (y := nI ax) h0 ?_
    refine pt_rdi (va_runSN (As := [.ref (a 12), .int (nI b), .ref (a 13), .int (nI 0), .int (nI ax)]) (rest := []) ⟨hx, hb, hml, hown, hts⟩ (c_X0_meet l dC dI (pt_xt c) (pt_xw a c F A Q) 9 10 7 (a 12) (a 32) (c 12) 186 (A 12) rfl rfl rfl (by decide) 11 12 8 (a 13) (a 33) (c 13) 6 (A 13) rfl rfl rfl (by decide) b 0 ax (by omega) (by omega) hax) ⟨va_cnB 5 hts gX1_verdictOn_X0_meet_n129 rfl rfl rfl (pt_nest hN 7 rfl) (hts _ wd_c_X1_verdictOn_X1_verdictOn_3) (by decide +kernel) ⟨Nat.le_of_ble_eq_true rfl, Nat.le_of_ble_eq_true rfl⟩, (hts _ wd_c_X1_verdictOn_X1_verdictOn_4), trivial⟩ (pt_R.preS hP hK hN) rfl rfl hl.1 rfl (lv_room (Nat.le_of_ble_eq_true rfl)) dX1_verdictOn_45 ⟨Nat.le_of_ble_eq_true rfl, Nat.le_of_ble_eq_true rfl⟩) (fun r45 hr45 => ?_)
    refine lv_if_ne (tgt := 62) hx hb dX1_verdictOn_48 (by decide) (fun c48 => ?_) (fun c48 => ?_)
    · have d48 : (pt_mee ax (A 12) (A 13) b 0) := hr45.t c48
      refine lv_aload_n hx hb dX1_verdictOn_62 rfl (lv_at hl 0 rfl) ?_
      refine va_get (D := (dC, dI)) (ci := 1) (v := .ref (a 12)) (C := RX1) (T := TX1) (N := 18) hx hb hts iw_c_X1_verdictOn_wsX10 hown hK hP 0 rfl rfl 12 (by decide) (hts _ wd_c_X1_verdictOn_X1_verdictOn_0) (fun _ h9 => h9) rfl dX1_verdictOn_63 ?_
      refine lv_iload_n hx hb dX1_verdictOn_66 rfl (lv_at hl 1 rfl) ?_
      refine lv_aload_n hx hb dX1_verdictOn_67 rfl (lv_at hl 0 rfl) ?_
      refine va_get (D := (dC, dI)) (ci := 1) (v := .ref (a 13)) (C := RX1) (T := TX1) (N := 18) hx hb hts iw_c_X1_verdictOn_wsX10 hown hK hP 0 rfl rfl 13 (by decide) (hts _ wd_c_X1_verdictOn_X1_verdictOn_1) (fun _ h9 => h9) rfl dX1_verdictOn_68 ?_
      refine lv_iconst (v := nI 0) hx hb dX1_verdictOn_71 (by decide) ?_
      refine lv_aload_n hx hb dX1_verdictOn_72 rfl (lv_at hl 0 rfl) ?_
      refine va_get (D := (dC, dI)) (ci := 1) (v := .int (F 0)) (C := RX1) (T := TX1) (N := 18) hx hb hts iw_c_X1_verdictOn_wsX10 hown hK hP 0 rfl rfl 0 (by decide) (hts _ wd_c_X1_verdictOn_X1_verdictOn_2) (fun _ h9 => h9) rfl dX1_verdictOn_73 ?_
      refine pt_top (y := nI ax) h0 ?_
      refine pt_rdi (va_runSN (As := [.ref (a 12), .int (nI b), .ref (a 13), .int (nI 0), .int (nI ax)]) (rest := []) ⟨hx, hb, hml, hown, hts⟩ (c_X0_within l dC dI (pt_xt c) (pt_xw a c F A Q) 9 10 7 (a 12) (a 32) (c 12) 186 (A 12) rfl rfl rfl (by decide) 11 12 8 (a 13) (a 33) (c 13) 6 (A 13) rfl rfl rfl (by decide) b 0 ax (by omega) (by omega) hax) ⟨va_cnB 5 hts gX1_verdictOn_X0_within_n192 rfl rfl rfl (pt_nest hN 6 rfl) (hts _ wd_c_X1_verdictOn_X1_verdictOn_3) (by decide +kernel) ⟨Nat.le_of_ble_eq_true rfl, Nat.le_of_ble_eq_true rfl⟩, (hts _ wd_c_X1_verdictOn_X1_verdictOn_5), trivial⟩ (pt_R.preS hP hK hN) rfl rfl hl.1 rfl (lv_room (Nat.le_of_ble_eq_true rfl)) dX1_verdictOn_76 ⟨Nat.le_of_ble_eq_true rfl, Nat.le_of_ble_eq_true rfl⟩) (fun r76 hr76 => ?_)
      refine lv_if_eq (tgt := 93) hx hb dX1_verdictOn_79 (by decide) (fun c79 => ?_) (fun c79 => ?_)
      · have d79 : ¬ (pt_wn ax (A 12) (A 13) b 0) := hr76.f c79
        refine lv_iconst (v := nI 2) hx hb dX1_verdictOn_93 (by decide) ?_
        exact W.iret (v := nI 2) hx hb hr (fun zt zh zW => ⟨_, rfl, (by unfold pt_vd; first | (rw [if_neg d2, pt_if_t d48, pt_if_f d79]; done)), zh⟩) (fun q h => by cases h) dX1_verdictOn_94
      · have d79 : (pt_wn ax (A 12) (A 13) b 0) := hr76.t c79
        refine lv_iload_n hx hb dX1_verdictOn_82 rfl (lv_at hl 2 rfl) ?_
        refine lv_iconst (v := nI 3) hx hb dX1_verdictOn_83 (by decide) ?_
        refine lv_icmp_ne (tgt := 91) hx hb dX1_verdictOn_84 (by decide) (fun c84 => ?_) (fun c84 => ?_)
        · have d84 : ¬ rel = 3 := fun q => c84 (by rw [q])
          refine lv_iconst (v := nI 1) hx hb dX1_verdictOn_91 (by decide) ?_
          exact W.iret (v := nI 1) hx hb hr (fun zt zh zW => ⟨_, rfl, (by unfold pt_vd; first | (rw [if_neg d2, pt_if_t d48, pt_if_t d79, if_pos d84]; done) | (rw [if_neg d2, pt_if_t d48, pt_if_t d79, if_neg d84]; done)), zh⟩) (fun q h => by cases h) dX1_verdictOn_92
        · have d84 : rel = 3 := (nI_eq (by omega) (by omega)).mp c84
          refine lv_iconst (v := nI 0) hx hb dX1_verdictOn_87 (by decide) ?_
          refine lv_goto (tgt := 92) hx hb dX1_verdictOn_88 (by decide) ?_
          exact W.iret (v := nI 0) hx hb hr (fun zt zh zW => ⟨_, rfl, (by unfold pt_vd; first | (rw [if_neg d2, pt_if_t d48, pt_if_t d79, if_pos d84]; done) | (rw [if_neg d2, pt_if_t d48, pt_if_t d79, if_neg d84]; done)), zh⟩) (fun q h => by cases h) dX1_verdictOn_92
    · have d48 : ¬ (pt_mee ax (A 12) (A 13) b 0) := hr45.f c48
      refine lv_iload_n hx hb dX1_verdictOn_51 rfl (lv_at hl 2 rfl) ?_
      refine lv_iconst (v := nI 3) hx hb dX1_verdictOn_52 (by decide) ?_
      refine lv_icmp_ne (tgt := 60) hx hb dX1_verdictOn_53 (by decide) (fun c53 => ?_) (fun c53 => ?_)
      · have d53 : ¬ rel = 3 := fun q => c53 (by rw [q])
        refine lv_iconst (v := nI 0) hx hb dX1_verdictOn_60 (by decide) ?_
        exact W.iret (v := nI 0) hx hb hr (fun zt zh zW => ⟨_, rfl, (by unfold pt_vd; first | (rw [if_neg d2, pt_if_f d48, if_pos d53]; done) | (rw [if_neg d2, pt_if_f d48, if_neg d53]; done)), zh⟩) (fun q h => by cases h) dX1_verdictOn_61
      · have d53 : rel = 3 := (nI_eq (by omega) (by omega)).mp c53
        refine lv_iconst (v := nI 1) hx hb dX1_verdictOn_56 (by decide) ?_
        refine lv_goto (tgt := 61) hx hb dX1_verdictOn_57 (by decide) ?_
        exact W.iret (v := nI 1) hx hb hr (fun zt zh zW => ⟨_, rfl, (by unfold pt_vd; first | (rw [if_neg d2, pt_if_f d48, if_pos d53]; done) | (rw [if_neg d2, pt_if_f d48, if_neg d53]; done)), zh⟩) (fun q h => by cases h) dX1_verdictOn_61
  · have d2 : rel = 2 := (nI_eq (by omega) (by omega)).mp c2
    refine lv_aload_n hx hb dX1_verdictOn_5 rfl (lv_at hl 0 rfl) ?_
    refine va_get (D := (dC, dI)) (ci := 1) (v := .ref (a 13)) (C := RX1) (T := TX1) (N := 18) hx hb hts iw_c_X1_verdictOn_wsX10 hown hK hP 0 rfl rfl 13 (by decide) (hts _ wd_c_X1_verdictOn_X1_verdictOn_1) (fun _ h9 => h9) rfl dX1_verdictOn_6 ?_
    refine lv_iconst (v := nI 0) hx hb dX1_verdictOn_9 (by decide) ?_
    refine lv_aload_n hx hb dX1_verdictOn_10 rfl (lv_at hl 0 rfl) ?_
    refine va_get (D := (dC, dI)) (ci := 1) (v := .ref (a 12)) (C := RX1) (T := TX1) (N := 18) hx hb hts iw_c_X1_verdictOn_wsX10 hown hK hP 0 rfl rfl 12 (by decide) (hts _ wd_c_X1_verdictOn_X1_verdictOn_0) (fun _ h9 => h9) rfl dX1_verdictOn_11 ?_
    refine lv_iload_n hx hb dX1_verdictOn_14 rfl (lv_at hl 1 rfl) ?_
    refine lv_aload_n hx hb dX1_verdictOn_15 rfl (lv_at hl 0 rfl) ?_
    refine va_get (D := (dC, dI)) (ci := 1) (v := .int (F 0)) (C := RX1) (T := TX1) (N := 18) hx hb hts iw_c_X1_verdictOn_wsX10 hown hK hP 0 rfl rfl 0 (by decide) (hts _ wd_c_X1_verdictOn_X1_verdictOn_2) (fun _ h9 => h9) rfl dX1_verdictOn_16 ?_
    refine pt_top (y := nI ax) h0 ?_
    refine pt_rdi (va_runSN (As := [.ref (a 13), .int (nI 0), .ref (a 12), .int (nI b), .int (nI ax)]) (rest := []) ⟨hx, hb, hml, hown, hts⟩ (c_X0_within l dC dI (pt_xt c) (pt_xw a c F A Q) 11 12 8 (a 13) (a 33) (c 13) 6 (A 13) rfl rfl rfl (by decide) 9 10 7 (a 12) (a 32) (c 12) 186 (A 12) rfl rfl rfl (by decide) 0 b ax (by omega) (by omega) hax) ⟨va_cnB 5 hts gX1_verdictOn_X0_within_n192 rfl rfl rfl (pt_nest hN 6 rfl) (hts _ wd_c_X1_verdictOn_X1_verdictOn_3) (by decide +kernel) ⟨Nat.le_of_ble_eq_true rfl, Nat.le_of_ble_eq_true rfl⟩, (hts _ wd_c_X1_verdictOn_X1_verdictOn_5), trivial⟩ (pt_R.preS hP hK hN) rfl rfl hl.1 rfl (lv_room (Nat.le_of_ble_eq_true rfl)) dX1_verdictOn_19 ⟨Nat.le_of_ble_eq_true rfl, Nat.le_of_ble_eq_true rfl⟩) (fun r19 hr19 => ?_)
    refine lv_if_eq (tgt := 29) hx hb dX1_verdictOn_22 (by decide) (fun c22 => ?_) (fun c22 => ?_)
    · have d22 : ¬ (pt_wn ax (A 13) (A 12) 0 b) := hr19.f c22
      refine lv_iconst (v := nI 0) hx hb dX1_verdictOn_29 (by decide) ?_
      exact W.iret (v := nI 0) hx hb hr (fun zt zh zW => ⟨_, rfl, (by unfold pt_vd; first | (rw [if_pos d2, pt_if_t d22]; done) | (rw [if_pos d2, pt_if_f d22]; done)), zh⟩) (fun q h => by cases h) dX1_verdictOn_30
    · have d22 : (pt_wn ax (A 13) (A 12) 0 b) := hr19.t c22
      refine lv_iconst (v := nI 2) hx hb dX1_verdictOn_25 (by decide) ?_
      refine lv_goto (tgt := 30) hx hb dX1_verdictOn_26 (by decide) ?_
      exact W.iret (v := nI 2) hx hb hr (fun zt zh zW => ⟨_, rfl, (by unfold pt_vd; first | (rw [if_pos d2, pt_if_t d22]; done) | (rw [if_pos d2, pt_if_f d22]; done)), zh⟩) (fun q h => by cases h) dX1_verdictOn_30

theorem wd_c_X1_isSo_X1_isSo_0 : Cond.fieldLink RX1 24 "PointTrees" "things" "LPointTrees$Boxes;" ∈ wsX1_isSo := by decide +kernel
theorem wd_c_X1_isSo_X1_isSo_1 : Cond.fieldLink RX1 47 "PointTrees" "asked" "LPointTrees$Boxes;" ∈ wsX1_isSo := by decide +kernel
theorem wd_c_X1_isSo_X1_isSo_2 : Cond.fieldLink RX1 9 "PointTrees" "axes" "I" ∈ wsX1_isSo := by decide +kernel
theorem wd_c_X1_isSo_X1_isSo_3 : Cond.initialized RX0 ∈ wsX1_isSo := by decide +kernel
theorem wd_c_X1_isSo_X1_isSo_4 : Cond.static yX0_meet ∈ wsX1_isSo := by decide +kernel
theorem wd_c_X1_isSo_X1_isSo_5 : Cond.static yX0_within ∈ wsX1_isSo := by decide +kernel
theorem iw_c_X1_isSo_wsX10 : ∀ w ∈ wsX10, w ∈ wsX1_isSo := fun _ h => List.mem_cons_of_mem _ (List.mem_append_left _ (List.mem_append_right _ h))
theorem iw_c_X1_isSo_wsX00 : ∀ w ∈ wsX00, w ∈ wsX1_isSo := fun _ h => List.mem_cons_of_mem _ (List.mem_append_right _ h)
set_option maxHeartbeats 4000000 in
set_option maxRecDepth 100000 in
theorem c_X1_isSo (l : Launch) (dC : Nat → ClassId) (dI : Nat → Nat → Nat) (a : Nat → Nat) (c : Nat → ClassId) (F : Nat → Int32) (A : Nat → Nat → Int32) (Q : Nat → Int64) (ax : Nat) (h0 : F 0 = nI ax) (hax : ax ≤ 3) (t rel : Nat) (ht : t < 64) (hrel : rel ≤ 3) : Met l yX1_isSo wsX1_isSo (pt_rm 2) (pt_R (dC, dI) vwCl (pt_xt c) (pt_xw a c F A Q) pt_nw [.ref (a 0), .int (nI t), .int (nI rel)]) (vp_Si (fun r => pt_B r (pt_so rel (pt_mee ax (A 4) (A 13) t 0) (pt_wn ax (A 4) (A 13) t 0) (pt_wn ax (A 13) (A 4) 0 t)))) 0 0 (fun _ => False) := by
  refine Met.ofW (cc := cX1_isSo) (maxL := 3) (ret := (some .boolean)) (by decide) rfl ?_
  intro p e s m args below meth cd s₁ B hml hv
  obtain ⟨rfl, hP, hK, hN⟩ := hv
  have hx := B.exec
  have hb := B.bytes
  have hr := B.returns
  have hts := atoms_spec (ws := wsX1_isSo) B.pre
  have hown : s.vm.findClass RX1 = some m.cls := findClass_of_methodNamed B.named
  have hlocks := B.notSynchronized
  have hl := lv_entry ([.ref (a 0), .int (nI t), .int (nI rel)]) (n := 3) (Nat.le_of_ble_eq_true rfl)
  rw [lg_entry_eq]
  generalize (lg_sl ([.ref (a 0), .int (nI t), .int (nI rel)]) ++ List.replicate (3 - (lg_sl ([.ref (a 0), .int (nI t), .int (nI rel)])).length) Slot.unset).toArray = ls at hl ⊢
  have hl : lv_has ls 3 [(0, .ref (a 0)), (1, .int (nI t)), (2, .int (nI rel))] := hl
  refine lv_iload_n hx hb dX1_isSo_0 rfl (lv_at hl 2 rfl) ?_
  rcases (show rel = 0 ∨ rel = 1 ∨ rel = 2 ∨ rel = 3 by omega) with rfl | rfl | rfl | rfl
  · refine lv_tableIn (tgt := 28) hx hb dX1_isSo_1 (by decide) (by decide) rfl (by decide) ?_
    refine lv_aload_n hx hb dX1_isSo_28 rfl (lv_at hl 0 rfl) ?_
    refine va_get (D := (dC, dI)) (ci := 1) (v := .ref (a 4)) (C := RX1) (T := TX1) (N := 18) hx hb hts iw_c_X1_isSo_wsX10 hown hK hP 0 rfl rfl 4 (by decide) (hts _ wd_c_X1_isSo_X1_isSo_0) (fun _ h9 => h9) rfl dX1_isSo_29 ?_
    refine lv_iload_n hx hb dX1_isSo_32 rfl (lv_at hl 1 rfl) ?_
    refine lv_aload_n hx hb dX1_isSo_33 rfl (lv_at hl 0 rfl) ?_
    refine va_get (D := (dC, dI)) (ci := 1) (v := .ref (a 13)) (C := RX1) (T := TX1) (N := 18) hx hb hts iw_c_X1_isSo_wsX10 hown hK hP 0 rfl rfl 13 (by decide) (hts _ wd_c_X1_isSo_X1_isSo_1) (fun _ h9 => h9) rfl dX1_isSo_34 ?_
    refine lv_iconst (v := nI 0) hx hb dX1_isSo_37 (by decide) ?_
    refine lv_aload_n hx hb dX1_isSo_38 rfl (lv_at hl 0 rfl) ?_
    refine va_get (D := (dC, dI)) (ci := 1) (v := .int (F 0)) (C := RX1) (T := TX1) (N := 18) hx hb hts iw_c_X1_isSo_wsX10 hown hK hP 0 rfl rfl 0 (by decide) (hts _ wd_c_X1_isSo_X1_isSo_2) (fun _ h9 => h9) rfl dX1_isSo_39 ?_
    refine pt_top (y := nI ax) h0 ?_
    refine pt_rdi (va_runSN (As := [.ref (a 4), .int (nI t), .ref (a 13), .int (nI 0), .int (nI ax)]) (rest := []) ⟨hx, hb, hml, hown, hts⟩ (c_X0_meet l dC dI (pt_xt c) (pt_xw a c F A Q) 2 3 1 (a 4) (a 24) (c 4) 384 (A 4) rfl rfl rfl (by decide) 11 12 8 (a 13) (a 33) (c 13) 6 (A 13) rfl rfl rfl (by decide) t 0 ax (by omega) (by omega) hax) ⟨va_cnB 5 hts gX1_isSo_X0_meet_n129 rfl rfl rfl (pt_nest hN 7 rfl) (hts _ wd_c_X1_isSo_X1_isSo_3) (by decide +kernel) ⟨Nat.le_of_ble_eq_true rfl, Nat.le_of_ble_eq_true rfl⟩, (hts _ wd_c_X1_isSo_X1_isSo_4), trivial⟩ (pt_R.preS hP hK hN) rfl rfl hl.1 rfl (lv_room (Nat.le_of_ble_eq_true rfl)) dX1_isSo_42 ⟨Nat.le_of_ble_eq_true rfl, Nat.le_of_ble_eq_true rfl⟩) (fun r42 hr42 => ?_)
    exact W.zret (v := r42) hx hb hr hr42.nar (fun zt zh zW => ⟨_, rfl, hr42, zh⟩) (fun q h => by cases h) dX1_isSo_45
  · refine lv_tableIn (tgt := 46) hx hb dX1_isSo_1 (by decide) (by decide) rfl (by decide) ?_
    refine lv_aload_n hx hb dX1_isSo_46 rfl (lv_at hl 0 rfl) ?_
    refine va_get (D := (dC, dI)) (ci := 1) (v := .ref (a 4)) (C := RX1) (T := TX1) (N := 18) hx hb hts iw_c_X1_isSo_wsX10 hown hK hP 0 rfl rfl 4 (by decide) (hts _ wd_c_X1_isSo_X1_isSo_0) (fun _ h9 => h9) rfl dX1_isSo_47 ?_
    refine lv_iload_n hx hb dX1_isSo_50 rfl (lv_at hl 1 rfl) ?_
    refine lv_aload_n hx hb dX1_isSo_51 rfl (lv_at hl 0 rfl) ?_
    refine va_get (D := (dC, dI)) (ci := 1) (v := .ref (a 13)) (C := RX1) (T := TX1) (N := 18) hx hb hts iw_c_X1_isSo_wsX10 hown hK hP 0 rfl rfl 13 (by decide) (hts _ wd_c_X1_isSo_X1_isSo_1) (fun _ h9 => h9) rfl dX1_isSo_52 ?_
    refine lv_iconst (v := nI 0) hx hb dX1_isSo_55 (by decide) ?_
    refine lv_aload_n hx hb dX1_isSo_56 rfl (lv_at hl 0 rfl) ?_
    refine va_get (D := (dC, dI)) (ci := 1) (v := .int (F 0)) (C := RX1) (T := TX1) (N := 18) hx hb hts iw_c_X1_isSo_wsX10 hown hK hP 0 rfl rfl 0 (by decide) (hts _ wd_c_X1_isSo_X1_isSo_2) (fun _ h9 => h9) rfl dX1_isSo_57 ?_
    refine pt_top (y := nI ax) h0 ?_
    refine pt_rdi (va_runSN (As := [.ref (a 4), .int (nI t), .ref (a 13), .int (nI 0), .int (nI ax)]) (rest := []) ⟨hx, hb, hml, hown, hts⟩ (c_X0_within l dC dI (pt_xt c) (pt_xw a c F A Q) 2 3 1 (a 4) (a 24) (c 4) 384 (A 4) rfl rfl rfl (by decide) 11 12 8 (a 13) (a 33) (c 13) 6 (A 13) rfl rfl rfl (by decide) t 0 ax (by omega) (by omega) hax) ⟨va_cnB 5 hts gX1_isSo_X0_within_n192 rfl rfl rfl (pt_nest hN 6 rfl) (hts _ wd_c_X1_isSo_X1_isSo_3) (by decide +kernel) ⟨Nat.le_of_ble_eq_true rfl, Nat.le_of_ble_eq_true rfl⟩, (hts _ wd_c_X1_isSo_X1_isSo_5), trivial⟩ (pt_R.preS hP hK hN) rfl rfl hl.1 rfl (lv_room (Nat.le_of_ble_eq_true rfl)) dX1_isSo_60 ⟨Nat.le_of_ble_eq_true rfl, Nat.le_of_ble_eq_true rfl⟩) (fun r60 hr60 => ?_)
    exact W.zret (v := r60) hx hb hr hr60.nar (fun zt zh zW => ⟨_, rfl, hr60, zh⟩) (fun q h => by cases h) dX1_isSo_63
  · refine lv_tableIn (tgt := 64) hx hb dX1_isSo_1 (by decide) (by decide) rfl (by decide) ?_
    refine lv_aload_n hx hb dX1_isSo_64 rfl (lv_at hl 0 rfl) ?_
    refine va_get (D := (dC, dI)) (ci := 1) (v := .ref (a 13)) (C := RX1) (T := TX1) (N := 18) hx hb hts iw_c_X1_isSo_wsX10 hown hK hP 0 rfl rfl 13 (by decide) (hts _ wd_c_X1_isSo_X1_isSo_1) (fun _ h9 => h9) rfl dX1_isSo_65 ?_
    refine lv_iconst (v := nI 0) hx hb dX1_isSo_68 (by decide) ?_
    refine lv_aload_n hx hb dX1_isSo_69 rfl (lv_at hl 0 rfl) ?_
    refine va_get (D := (dC, dI)) (ci := 1) (v := .ref (a 4)) (C := RX1) (T := TX1) (N := 18) hx hb hts iw_c_X1_isSo_wsX10 hown hK hP 0 rfl rfl 4 (by decide) (hts _ wd_c_X1_isSo_X1_isSo_0) (fun _ h9 => h9) rfl dX1_isSo_70 ?_
    refine lv_iload_n hx hb dX1_isSo_73 rfl (lv_at hl 1 rfl) ?_
    refine lv_aload_n hx hb dX1_isSo_74 rfl (lv_at hl 0 rfl) ?_
    refine va_get (D := (dC, dI)) (ci := 1) (v := .int (F 0)) (C := RX1) (T := TX1) (N := 18) hx hb hts iw_c_X1_isSo_wsX10 hown hK hP 0 rfl rfl 0 (by decide) (hts _ wd_c_X1_isSo_X1_isSo_2) (fun _ h9 => h9) rfl dX1_isSo_75 ?_
    refine pt_top (y := nI ax) h0 ?_
    refine pt_rdi (va_runSN (As := [.ref (a 13), .int (nI 0), .ref (a 4), .int (nI t), .int (nI ax)]) (rest := []) ⟨hx, hb, hml, hown, hts⟩ (c_X0_within l dC dI (pt_xt c) (pt_xw a c F A Q) 11 12 8 (a 13) (a 33) (c 13) 6 (A 13) rfl rfl rfl (by decide) 2 3 1 (a 4) (a 24) (c 4) 384 (A 4) rfl rfl rfl (by decide) 0 t ax (by omega) (by omega) hax) ⟨va_cnB 5 hts gX1_isSo_X0_within_n192 rfl rfl rfl (pt_nest hN 6 rfl) (hts _ wd_c_X1_isSo_X1_isSo_3) (by decide +kernel) ⟨Nat.le_of_ble_eq_true rfl, Nat.le_of_ble_eq_true rfl⟩, (hts _ wd_c_X1_isSo_X1_isSo_5), trivial⟩ (pt_R.preS hP hK hN) rfl rfl hl.1 rfl (lv_room (Nat.le_of_ble_eq_true rfl)) dX1_isSo_78 ⟨Nat.le_of_ble_eq_true rfl, Nat.le_of_ble_eq_true rfl⟩) (fun r78 hr78 => ?_)
    exact W.zret (v := r78) hx hb hr hr78.nar (fun zt zh zW => ⟨_, rfl, hr78, zh⟩) (fun q h => by cases h) dX1_isSo_81
  · refine lv_tableOut (tgt := 82) hx hb dX1_isSo_1 (by decide) (by decide) ?_
    refine lv_aload_n hx hb dX1_isSo_82 rfl (lv_at hl 0 rfl) ?_
    refine va_get (D := (dC, dI)) (ci := 1) (v := .ref (a 4)) (C := RX1) (T := TX1) (N := 18) hx hb hts iw_c_X1_isSo_wsX10 hown hK hP 0 rfl rfl 4 (by decide) (hts _ wd_c_X1_isSo_X1_isSo_0) (fun _ h9 => h9) rfl dX1_isSo_83 ?_
    refine lv_iload_n hx hb dX1_isSo_86 rfl (lv_at hl 1 rfl) ?_
    refine lv_aload_n hx hb dX1_isSo_87 rfl (lv_at hl 0 rfl) ?_
    refine va_get (D := (dC, dI)) (ci := 1) (v := .ref (a 13)) (C := RX1) (T := TX1) (N := 18) hx hb hts iw_c_X1_isSo_wsX10 hown hK hP 0 rfl rfl 13 (by decide) (hts _ wd_c_X1_isSo_X1_isSo_1) (fun _ h9 => h9) rfl dX1_isSo_88 ?_
    refine lv_iconst (v := nI 0) hx hb dX1_isSo_91 (by decide) ?_
    refine lv_aload_n hx hb dX1_isSo_92 rfl (lv_at hl 0 rfl) ?_
    refine va_get (D := (dC, dI)) (ci := 1) (v := .int (F 0)) (C := RX1) (T := TX1) (N := 18) hx hb hts iw_c_X1_isSo_wsX10 hown hK hP 0 rfl rfl 0 (by decide) (hts _ wd_c_X1_isSo_X1_isSo_2) (fun _ h9 => h9) rfl dX1_isSo_93 ?_
    refine pt_top (y := nI ax) h0 ?_
    refine pt_rdi (va_runSN (As := [.ref (a 4), .int (nI t), .ref (a 13), .int (nI 0), .int (nI ax)]) (rest := []) ⟨hx, hb, hml, hown, hts⟩ (c_X0_meet l dC dI (pt_xt c) (pt_xw a c F A Q) 2 3 1 (a 4) (a 24) (c 4) 384 (A 4) rfl rfl rfl (by decide) 11 12 8 (a 13) (a 33) (c 13) 6 (A 13) rfl rfl rfl (by decide) t 0 ax (by omega) (by omega) hax) ⟨va_cnB 5 hts gX1_isSo_X0_meet_n129 rfl rfl rfl (pt_nest hN 7 rfl) (hts _ wd_c_X1_isSo_X1_isSo_3) (by decide +kernel) ⟨Nat.le_of_ble_eq_true rfl, Nat.le_of_ble_eq_true rfl⟩, (hts _ wd_c_X1_isSo_X1_isSo_4), trivial⟩ (pt_R.preS hP hK hN) rfl rfl hl.1 rfl (lv_room (Nat.le_of_ble_eq_true rfl)) dX1_isSo_96 ⟨Nat.le_of_ble_eq_true rfl, Nat.le_of_ble_eq_true rfl⟩) (fun r96 hr96 => ?_)
    refine lv_if_ne (tgt := 106) hx hb dX1_isSo_99 (by decide) (fun c99 => ?_) (fun c99 => ?_)
    · have d99 : (pt_mee ax (A 4) (A 13) t 0) := hr96.t c99
      refine lv_iconst (v := 0) hx hb dX1_isSo_106 (by decide) ?_
      exact W.zret (v := 0) hx hb hr rfl (fun zt zh zW => ⟨_, rfl, (pt_B.zero (fun q => q d99)), zh⟩) (fun q h => by cases h) dX1_isSo_107
    · have d99 : ¬ (pt_mee ax (A 4) (A 13) t 0) := hr96.f c99
      refine lv_iconst (v := 1) hx hb dX1_isSo_102 (by decide) ?_
      refine lv_goto (tgt := 107) hx hb dX1_isSo_103 (by decide) ?_
      exact W.zret (v := 1) hx hb hr rfl (fun zt zh zW => ⟨_, rfl, (pt_B.one d99), zh⟩) (fun q h => by cases h) dX1_isSo_107

theorem wd_c_X1_comesBefore_X1_comesBefore_0 : Cond.fieldLink RX1 24 "PointTrees" "things" "LPointTrees$Boxes;" ∈ wsX1_comesBefore := by decide +kernel
theorem wd_c_X1_comesBefore_X1_comesBefore_1 : Cond.initialized RX0 ∈ wsX1_comesBefore := by decide +kernel
theorem wd_c_X1_comesBefore_X1_comesBefore_2 : Cond.instanceMethod yX0_sum ∈ wsX1_comesBefore := by decide +kernel
theorem wd_c_X1_comesBefore_X1_comesBefore_3 : Cond.selects RX0 yX0_sum yX0_sum ∈ wsX1_comesBefore := by decide +kernel
theorem iw_c_X1_comesBefore_wsX10 : ∀ w ∈ wsX10, w ∈ wsX1_comesBefore := fun _ h => List.mem_cons_of_mem _ (List.mem_append_left _ (List.mem_append_right _ h))
theorem iw_c_X1_comesBefore_wsX00 : ∀ w ∈ wsX00, w ∈ wsX1_comesBefore := fun _ h => List.mem_cons_of_mem _ (List.mem_append_right _ h)
set_option maxHeartbeats 4000000 in
set_option maxRecDepth 100000 in
theorem c_X1_comesBefore (l : Launch) (dC : Nat → ClassId) (dI : Nat → Nat → Nat) (a : Nat → Nat) (c : Nat → ClassId) (F : Nat → Int32) (A : Nat → Nat → Int32) (Q : Nat → Int64) (t v x : Nat) (ht : t < 64) (hv1 : v < 64) (hx1 : x < 3) : Met l yX1_comesBefore wsX1_comesBefore (pt_rm 2) (pt_R (dC, dI) vwCl (pt_xt c) (pt_xw a c F A Q) pt_nw [.ref (a 0), .int (nI t), .int (nI v), .int (nI x)]) (vp_Si (fun r => pt_B r (pt_bf (pt_sm (A 4) x) t v))) 0 0 (fun _ => False) := by
  refine Met.ofW (cc := cX1_comesBefore) (maxL := 6) (ret := (some .boolean)) (by decide) rfl ?_
  intro p e s m args below meth cd s₁ B hml hv
  obtain ⟨rfl, hP, hK, hN⟩ := hv
  have hx := B.exec
  have hb := B.bytes
  have hr := B.returns
  have hts := atoms_spec (ws := wsX1_comesBefore) B.pre
  have hown : s.vm.findClass RX1 = some m.cls := findClass_of_methodNamed B.named
  have hlocks := B.notSynchronized
  have hl := lv_entry ([.ref (a 0), .int (nI t), .int (nI v), .int (nI x)]) (n := 6) (Nat.le_of_ble_eq_true rfl)
  rw [lg_entry_eq]
  generalize (lg_sl ([.ref (a 0), .int (nI t), .int (nI v), .int (nI x)]) ++ List.replicate (6 - (lg_sl ([.ref (a 0), .int (nI t), .int (nI v), .int (nI x)])).length) Slot.unset).toArray = ls at hl ⊢
  have hl : lv_has ls 6 [(0, .ref (a 0)), (1, .int (nI t)), (2, .int (nI v)), (3, .int (nI x))] := hl
  refine lv_aload_n hx hb dX1_comesBefore_0 rfl (lv_at hl 0 rfl) ?_
  refine va_get (D := (dC, dI)) (ci := 1) (v := .ref (a 4)) (C := RX1) (T := TX1) (N := 18) hx hb hts iw_c_X1_comesBefore_wsX10 hown hK hP 0 rfl rfl 4 (by decide) (hts _ wd_c_X1_comesBefore_X1_comesBefore_0) (fun _ h9 => h9) rfl dX1_comesBefore_1 ?_
  refine lv_iload_n hx hb dX1_comesBefore_4 rfl (lv_at hl 1 rfl) ?_
  refine lv_iload_n hx hb dX1_comesBefore_5 rfl (lv_at hl 3 rfl) ?_
  refine pt_rdi (va_runVN (As := [.int (nI t), .int (nI x)]) (rest := []) ⟨hx, hb, hml, hown, hts⟩ (c_X0_sum l dC dI (pt_xt c) (pt_xw a c F A Q) 2 3 1 (a 4) (a 24) (c 4) 384 (A 4) rfl rfl rfl (by decide) t x (by omega)) ⟨va_cnB 2 hts gX1_comesBefore_X0_sum_n171 rfl rfl rfl (pt_nest hN 5 rfl) (hts _ wd_c_X1_comesBefore_X1_comesBefore_1) (by decide +kernel) ⟨Nat.le_of_ble_eq_true rfl, Nat.le_of_ble_eq_true rfl⟩, (hts _ wd_c_X1_comesBefore_X1_comesBefore_2), (hts _ wd_c_X1_comesBefore_X1_comesBefore_3)⟩ (pt_pv0 hP hK hN (q0 := 2) rfl) rfl rfl hl.1 rfl (lv_room (Nat.le_of_ble_eq_true rfl)) dX1_comesBefore_6 ⟨Nat.le_of_ble_eq_true rfl, Nat.le_of_ble_eq_true rfl⟩) (fun r6 hr6 => ?_)
  refine pt_top (y := (pt_sm (A 4) x t)) hr6 ?_
  refine lv_istore (lv' := [(4, .int (pt_sm (A 4) x t)), (0, .ref (a 0)), (1, .int (nI t)), (2, .int (nI v)), (3, .int (nI x))]) hx hb dX1_comesBefore_9 hl (by decide) rfl (fun ls hl => ?_)
  refine lv_aload_n hx hb dX1_comesBefore_11 rfl (lv_at hl 1 rfl) ?_
  refine va_get (D := (dC, dI)) (ci := 1) (v := .ref (a 4)) (C := RX1) (T := TX1) (N := 18) hx hb hts iw_c_X1_comesBefore_wsX10 hown hK hP 0 rfl rfl 4 (by decide) (hts _ wd_c_X1_comesBefore_X1_comesBefore_0) (fun _ h9 => h9) rfl dX1_comesBefore_12 ?_
  refine lv_iload_n hx hb dX1_comesBefore_15 rfl (lv_at hl 3 rfl) ?_
  refine lv_iload_n hx hb dX1_comesBefore_16 rfl (lv_at hl 4 rfl) ?_
  refine pt_rdi (va_runVN (As := [.int (nI v), .int (nI x)]) (rest := []) ⟨hx, hb, hml, hown, hts⟩ (c_X0_sum l dC dI (pt_xt c) (pt_xw a c F A Q) 2 3 1 (a 4) (a 24) (c 4) 384 (A 4) rfl rfl rfl (by decide) v x (by omega)) ⟨va_cnB 2 hts gX1_comesBefore_X0_sum_n171 rfl rfl rfl (pt_nest hN 5 rfl) (hts _ wd_c_X1_comesBefore_X1_comesBefore_1) (by decide +kernel) ⟨Nat.le_of_ble_eq_true rfl, Nat.le_of_ble_eq_true rfl⟩, (hts _ wd_c_X1_comesBefore_X1_comesBefore_2), (hts _ wd_c_X1_comesBefore_X1_comesBefore_3)⟩ (pt_pv0 hP hK hN (q0 := 2) rfl) rfl rfl hl.1 rfl (lv_room (Nat.le_of_ble_eq_true rfl)) dX1_comesBefore_17 ⟨Nat.le_of_ble_eq_true rfl, Nat.le_of_ble_eq_true rfl⟩) (fun r17 hr17 => ?_)
  refine pt_top (y := (pt_sm (A 4) x v)) hr17 ?_
  refine lv_istore (lv' := [(5, .int (pt_sm (A 4) x v)), (4, .int (pt_sm (A 4) x t)), (0, .ref (a 0)), (1, .int (nI t)), (2, .int (nI v)), (3, .int (nI x))]) hx hb dX1_comesBefore_20 hl (by decide) rfl (fun ls hl => ?_)
  refine lv_iload hx hb dX1_comesBefore_22 (lv_at hl 1 rfl) ?_
  refine lv_iload hx hb dX1_comesBefore_24 (lv_at hl 0 rfl) ?_
  refine lv_icmp_lt (tgt := 41) hx hb dX1_comesBefore_26 (by decide) (fun c26 => ?_) (fun c26 => ?_)
  · refine lv_iconst (v := 1) hx hb dX1_comesBefore_41 (by decide) ?_
    refine lv_goto (tgt := 46) hx hb dX1_comesBefore_42 (by decide) ?_
    exact W.zret (v := 1) hx hb hr rfl (fun zt zh zW => ⟨_, rfl, (pt_B.one (by first | exact Or.inl c26 | exact Or.inr ⟨c33, d38⟩)), zh⟩) (fun q h => by cases h) dX1_comesBefore_46
  · refine lv_iload hx hb dX1_comesBefore_29 (lv_at hl 1 rfl) ?_
    refine lv_iload hx hb dX1_comesBefore_31 (lv_at hl 0 rfl) ?_
    refine lv_icmp_ne (tgt := 45) hx hb dX1_comesBefore_33 (by decide) (fun c33 => ?_) (fun c33 => ?_)
    · refine lv_iconst (v := 0) hx hb dX1_comesBefore_45 (by decide) ?_
      exact W.zret (v := 0) hx hb hr rfl (fun zt zh zW => ⟨_, rfl, (pt_B.zero (fun q => q.elim c26 (fun q => by first | exact c33 q.1 | exact d38 q.2))), zh⟩) (fun q h => by cases h) dX1_comesBefore_46
    · refine lv_iload_n hx hb dX1_comesBefore_36 rfl (lv_at hl 3 rfl) ?_
      refine lv_iload_n hx hb dX1_comesBefore_37 rfl (lv_at hl 4 rfl) ?_
      refine lv_icmp_ge (tgt := 45) hx hb dX1_comesBefore_38 (by decide) (fun c38 => ?_) (fun c38 => ?_)
      · have d38 : ¬ t < v := fun q => nI_ge q (by omega) c38
        refine lv_iconst (v := 0) hx hb dX1_comesBefore_45 (by decide) ?_
        exact W.zret (v := 0) hx hb hr rfl (fun zt zh zW => ⟨_, rfl, (pt_B.zero (fun q => q.elim c26 (fun q => by first | exact c33 q.1 | exact d38 q.2))), zh⟩) (fun q h => by cases h) dX1_comesBefore_46
      · have d38 : t < v := Nat.not_le.mp (fun q => c38 (nI_le q (by omega)))
        refine lv_iconst (v := 1) hx hb dX1_comesBefore_41 (by decide) ?_
        refine lv_goto (tgt := 46) hx hb dX1_comesBefore_42 (by decide) ?_
        exact W.zret (v := 1) hx hb hr rfl (fun zt zh zW => ⟨_, rfl, (pt_B.one (by first | exact Or.inl c26 | exact Or.inr ⟨c33, d38⟩)), zh⟩) (fun q h => by cases h) dX1_comesBefore_46

theorem wd_c_X1_spread_X1_spread_0 : Cond.fieldLink RX1 24 "PointTrees" "things" "LPointTrees$Boxes;" ∈ wsX1_spread := by decide +kernel
theorem wd_c_X1_spread_X1_spread_1 : Cond.fieldLink RX1 28 "PointTrees" "order" "[I" ∈ wsX1_spread := by decide +kernel
theorem wd_c_X1_spread_X1_spread_2 : Cond.initialized RX0 ∈ wsX1_spread := by decide +kernel
theorem wd_c_X1_spread_X1_spread_3 : Cond.instanceMethod yX0_sum ∈ wsX1_spread := by decide +kernel
theorem wd_c_X1_spread_X1_spread_4 : Cond.selects RX0 yX0_sum yX0_sum ∈ wsX1_spread := by decide +kernel
theorem wd_c_X1_spread_X1_spread_5 : Cond.methodLink RX1 174 Lib.Math.min.name ∈ wsX1_spread := by decide +kernel
theorem wd_c_X1_spread_X1_spread_6 : Cond.static Lib.Math.min.name ∈ wsX1_spread := by decide +kernel
theorem wd_c_X1_spread_X1_spread_7 : Cond.initialized "java/lang/Math" ∈ wsX1_spread := by decide +kernel
theorem wd_c_X1_spread_X1_spread_8 : Cond.code Lib.Math.min.name Lib.Math.min.code 2 (some .int) ∈ wsX1_spread := by decide +kernel
theorem wd_c_X1_spread_X1_spread_9 : Cond.methodLink RX1 177 Lib.Math.max.name ∈ wsX1_spread := by decide +kernel
theorem wd_c_X1_spread_X1_spread_10 : Cond.static Lib.Math.max.name ∈ wsX1_spread := by decide +kernel
theorem wd_c_X1_spread_X1_spread_11 : Cond.code Lib.Math.max.name Lib.Math.max.code 2 (some .int) ∈ wsX1_spread := by decide +kernel
theorem iw_c_X1_spread_wsX10 : ∀ w ∈ wsX10, w ∈ wsX1_spread := fun _ h => List.mem_cons_of_mem _ (List.mem_append_left _ (List.mem_append_right _ h))
theorem iw_c_X1_spread_wsX00 : ∀ w ∈ wsX00, w ∈ wsX1_spread := fun _ h => List.mem_cons_of_mem _ (List.mem_append_right _ h)
set_option maxHeartbeats 4000000 in
set_option maxRecDepth 100000 in
theorem c_X1_spread (l : Launch) (dC : Nat → ClassId) (dI : Nat → Nat → Nat) (a : Nat → Nat) (c : Nat → ClassId) (F : Nat → Int32) (A : Nat → Nat → Int32) (Q : Nat → Int64) (od : Nat → Nat) (f t : Nat) (hft : f < t) (ht : t ≤ 64) (hod : ∀ i, f ≤ i → i < t → A 7 i = nI (od i) ∧ od i < 64) (x : Nat) (hx1 : x < 3) : Met l yX1_spread wsX1_spread (pt_rm 2) (pt_R (dC, dI) vwCl (pt_xt c) (pt_xw a c F A Q) pt_nw [.ref (a 0), .int (nI f), .int (nI t), .int (nI x)]) (vp_Si (fun r => r = pt_spr (fun i => pt_sm (A 4) x (od i)) f t)) 0 0 (fun _ => False) := by
  refine Met.ofW (cc := cX1_spread) (maxL := 8) (ret := (some .int)) (by decide) rfl ?_
  intro p e s m args below meth cd s₁ B hml hv
  obtain ⟨rfl, hP, hK, hN⟩ := hv
  have hx := B.exec
  have hb := B.bytes
  have hr := B.returns
  have hts := atoms_spec (ws := wsX1_spread) B.pre
  have hown : s.vm.findClass RX1 = some m.cls := findClass_of_methodNamed B.named
  have hlocks := B.notSynchronized
  have hl := lv_entry ([.ref (a 0), .int (nI f), .int (nI t), .int (nI x)]) (n := 8) (Nat.le_of_ble_eq_true rfl)
  rw [lg_entry_eq]
  generalize (lg_sl ([.ref (a 0), .int (nI f), .int (nI t), .int (nI x)]) ++ List.replicate (8 - (lg_sl ([.ref (a 0), .int (nI f), .int (nI t), .int (nI x)])).length) Slot.unset).toArray = ls at hl ⊢
  have hl : lv_has ls 8 [(0, .ref (a 0)), (1, .int (nI f)), (2, .int (nI t)), (3, .int (nI x))] := hl
  have hof := (hod f (Nat.le_refl f) hft).2
  refine lv_aload_n hx hb dX1_spread_0 rfl (lv_at hl 0 rfl) ?_
  refine va_get (D := (dC, dI)) (ci := 1) (v := .ref (a 4)) (C := RX1) (T := TX1) (N := 18) hx hb hts iw_c_X1_spread_wsX10 hown hK hP 0 rfl rfl 4 (by decide) (hts _ wd_c_X1_spread_X1_spread_0) (fun _ h9 => h9) rfl dX1_spread_1 ?_
  refine lv_aload_n hx hb dX1_spread_4 rfl (lv_at hl 0 rfl) ?_
  refine va_get (D := (dC, dI)) (ci := 1) (v := .ref (a 7)) (C := RX1) (T := TX1) (N := 18) hx hb hts iw_c_X1_spread_wsX10 hown hK hP 0 rfl rfl 7 (by decide) (hts _ wd_c_X1_spread_X1_spread_1) (fun _ h9 => h9) rfl dX1_spread_5 ?_
  refine lv_iload_n hx hb dX1_spread_8 rfl (lv_at hl 1 rfl) ?_
  refine pt_iald hx hb hK hP 4 2 rfl rfl f rfl (by omega) (by decide) dX1_spread_9 ?_
  refine pt_top (y := nI (od f)) (hod f (Nat.le_refl f) hft).1 ?_
  refine lv_iload_n hx hb dX1_spread_10 rfl (lv_at hl 3 rfl) ?_
  refine pt_rdi (va_runVN (As := [.int (nI (od f)), .int (nI x)]) (rest := []) ⟨hx, hb, hml, hown, hts⟩ (c_X0_sum l dC dI (pt_xt c) (pt_xw a c F A Q) 2 3 1 (a 4) (a 24) (c 4) 384 (A 4) rfl rfl rfl (by decide) (od f) x (by omega)) ⟨va_cnB 2 hts gX1_spread_X0_sum_n171 rfl rfl rfl (pt_nest hN 5 rfl) (hts _ wd_c_X1_spread_X1_spread_2) (by decide +kernel) ⟨Nat.le_of_ble_eq_true rfl, Nat.le_of_ble_eq_true rfl⟩, (hts _ wd_c_X1_spread_X1_spread_3), (hts _ wd_c_X1_spread_X1_spread_4)⟩ (pt_pv0 hP hK hN (q0 := 2) rfl) rfl rfl hl.1 rfl (lv_room (Nat.le_of_ble_eq_true rfl)) dX1_spread_11 ⟨Nat.le_of_ble_eq_true rfl, Nat.le_of_ble_eq_true rfl⟩) (fun r11 hr11 => ?_)
  refine pt_top (y := (pt_sm (A 4) x (od f))) hr11 ?_
  refine lv_istore (lv' := [(4, .int (pt_sm (A 4) x (od f))), (0, .ref (a 0)), (1, .int (nI f)), (2, .int (nI t)), (3, .int (nI x))]) hx hb dX1_spread_14 hl (by decide) rfl (fun ls hl => ?_)
  refine lv_iload hx hb dX1_spread_16 (lv_at hl 0 rfl) ?_
  refine lv_istore (lv' := [(5, .int (pt_sm (A 4) x (od f))), (4, .int (pt_sm (A 4) x (od f))), (0, .ref (a 0)), (1, .int (nI f)), (2, .int (nI t)), (3, .int (nI x))]) hx hb dX1_spread_18 hl (by decide) rfl (fun ls hl => ?_)
  refine lv_iload_n hx hb dX1_spread_20 rfl (lv_at hl 3 rfl) ?_
  refine lv_iconst (v := nI 1) hx hb dX1_spread_21 (by decide) ?_
  refine lv_iadd hx hb dX1_spread_22 ?_
  refine pt_top (y := nI (f + 1)) (nI_add _ _) ?_
  refine lv_istore (lv' := [(6, .int (nI (f + 1))), (5, .int (pt_sm (A 4) x (od f))), (4, .int (pt_sm (A 4) x (od f))), (0, .ref (a 0)), (1, .int (nI f)), (2, .int (nI t)), (3, .int (nI x))]) hx hb dX1_spread_23 hl (by decide) rfl (fun ls hl => ?_)
  refine pt_loopR (fun j : Nat => t - (f + 1 + j)) (fun j ls => f + 1 + j ≤ t ∧ lv_has ls 8 [(6, .int (nI (f + 1 + j))), (5, .int (pt_mx (fun i => pt_sm (A 4) x (od i)) f j)), (4, .int (pt_mn (fun i => pt_sm (A 4) x (od i)) f j)), (0, .ref (a 0)), (1, .int (nI f)), (2, .int (nI t)), (3, .int (nI x))]) ?_ 0 _ ⟨by omega, lv_sub hl [0, 1, 2, 3, 4, 5, 6] rfl⟩
  intro j ls ⟨hj, hl⟩ ih
  refine lv_iload hx hb dX1_spread_25 (lv_at hl 0 rfl) ?_
  refine lv_iload_n hx hb dX1_spread_27 rfl (lv_at hl 5 rfl) ?_
  refine lv_icmp_ge (tgt := 72) hx hb dX1_spread_28 (by decide) (fun c28 => ?_) (fun c28 => ?_)
  · have hje : j = t - f - 1 := by have := (nI_leI (by omega) (by omega)).mp c28; omega
    refine lv_iload hx hb dX1_spread_72 (lv_at hl 1 rfl) ?_
    refine lv_iload hx hb dX1_spread_74 (lv_at hl 2 rfl) ?_
    refine lv_isub hx hb dX1_spread_76 ?_
    exact W.iret (v := ((pt_mx (fun i => pt_sm (A 4) x (od i)) f j) - (pt_mn (fun i => pt_sm (A 4) x (od i)) f j))) hx hb hr (fun zt zh zW => ⟨_, rfl, (by unfold pt_spr; rw [hje]), zh⟩) (fun q h => by cases h) dX1_spread_77
  · have hlt : f + 1 + j < t := Nat.not_le.mp (fun q => c28 ((nI_leI (by omega) (by omega)).mpr q))
    have hoj := (hod (f + 1 + j) (by omega) hlt).2
    refine lv_aload_n hx hb dX1_spread_31 rfl (lv_at hl 3 rfl) ?_
    refine va_get (D := (dC, dI)) (ci := 1) (v := .ref (a 4)) (C := RX1) (T := TX1) (N := 18) hx hb hts iw_c_X1_spread_wsX10 hown hK hP 0 rfl rfl 4 (by decide) (hts _ wd_c_X1_spread_X1_spread_0) (fun _ h9 => h9) rfl dX1_spread_32 ?_
    refine lv_aload_n hx hb dX1_spread_35 rfl (lv_at hl 3 rfl) ?_
    refine va_get (D := (dC, dI)) (ci := 1) (v := .ref (a 7)) (C := RX1) (T := TX1) (N := 18) hx hb hts iw_c_X1_spread_wsX10 hown hK hP 0 rfl rfl 7 (by decide) (hts _ wd_c_X1_spread_X1_spread_1) (fun _ h9 => h9) rfl dX1_spread_36 ?_
    refine lv_iload hx hb dX1_spread_39 (lv_at hl 0 rfl) ?_
    refine pt_iald hx hb hK hP 4 2 rfl rfl (f + 1 + j) rfl (by omega) (by decide) dX1_spread_41 ?_
    refine pt_top (y := nI (od (f + 1 + j))) (hod (f + 1 + j) (by omega) hlt).1 ?_
    refine lv_iload_n hx hb dX1_spread_42 rfl (lv_at hl 6 rfl) ?_
    refine pt_rdi (va_runVN (As := [.int (nI (od (f + 1 + j))), .int (nI x)]) (rest := []) ⟨hx, hb, hml, hown, hts⟩ (c_X0_sum l dC dI (pt_xt c) (pt_xw a c F A Q) 2 3 1 (a 4) (a 24) (c 4) 384 (A 4) rfl rfl rfl (by decide) (od (f + 1 + j)) x (by omega)) ⟨va_cnB 2 hts gX1_spread_X0_sum_n171 rfl rfl rfl (pt_nest hN 5 rfl) (hts _ wd_c_X1_spread_X1_spread_2) (by decide +kernel) ⟨Nat.le_of_ble_eq_true rfl, Nat.le_of_ble_eq_true rfl⟩, (hts _ wd_c_X1_spread_X1_spread_3), (hts _ wd_c_X1_spread_X1_spread_4)⟩ (pt_pv0 hP hK hN (q0 := 2) rfl) rfl rfl hl.1 rfl (lv_room (Nat.le_of_ble_eq_true rfl)) dX1_spread_43 ⟨Nat.le_of_ble_eq_true rfl, Nat.le_of_ble_eq_true rfl⟩) (fun r43 hr43 => ?_)
    refine pt_top (y := (pt_sm (A 4) x (od (f + 1 + j)))) hr43 ?_
    refine lv_istore (lv' := [(7, .int (pt_sm (A 4) x (od (f + 1 + j)))), (6, .int (nI (f + 1 + j))), (5, .int (pt_mx (fun i => pt_sm (A 4) x (od i)) f j)), (4, .int (pt_mn (fun i => pt_sm (A 4) x (od i)) f j)), (0, .ref (a 0)), (1, .int (nI f)), (2, .int (nI t)), (3, .int (nI x))]) hx hb dX1_spread_46 hl (by decide) rfl (fun ls hl => ?_)
    refine lv_iload hx hb dX1_spread_48 (lv_at hl 3 rfl) ?_
    refine lv_iload hx hb dX1_spread_50 (lv_at hl 0 rfl) ?_
    refine va_mmin hx hb (hml.trans hl.1.symm) hown (hts _ wd_c_X1_spread_X1_spread_5) (hts _ wd_c_X1_spread_X1_spread_6) (hts _ wd_c_X1_spread_X1_spread_7) (hts _ wd_c_X1_spread_X1_spread_8) (Nat.le_of_ble_eq_true rfl) (Nat.le_of_ble_eq_true rfl) (Nat.le_refl _) (Nat.le_refl _) dX1_spread_52 ?_
    refine lv_istore (lv' := [(4, .int (if (pt_sm (A 4) x (od (f + 1 + j))) < (pt_mn (fun i => pt_sm (A 4) x (od i)) f j) then (pt_sm (A 4) x (od (f + 1 + j))) else (pt_mn (fun i => pt_sm (A 4) x (od i)) f j))), (7, .int (pt_sm (A 4) x (od (f + 1 + j)))), (6, .int (nI (f + 1 + j))), (5, .int (pt_mx (fun i => pt_sm (A 4) x (od i)) f j)), (0, .ref (a 0)), (1, .int (nI f)), (2, .int (nI t)), (3, .int (nI x))]) hx hb dX1_spread_55 hl (by decide) rfl (fun ls hl => ?_)
    refine lv_iload hx hb dX1_spread_57 (lv_at hl 3 rfl) ?_
    refine lv_iload hx hb dX1_spread_59 (lv_at hl 1 rfl) ?_
    refine va_mmax hx hb (hml.trans hl.1.symm) hown (hts _ wd_c_X1_spread_X1_spread_9) (hts _ wd_c_X1_spread_X1_spread_10) (hts _ wd_c_X1_spread_X1_spread_7) (hts _ wd_c_X1_spread_X1_spread_11) (Nat.le_of_ble_eq_true rfl) (Nat.le_of_ble_eq_true rfl) (Nat.le_refl _) (Nat.le_refl _) dX1_spread_61 ?_
    refine lv_istore (lv' := [(5, .int (if (pt_mx (fun i => pt_sm (A 4) x (od i)) f j) < (pt_sm (A 4) x (od (f + 1 + j))) then (pt_sm (A 4) x (od (f + 1 + j))) else (pt_mx (fun i => pt_sm (A 4) x (od i)) f j))), (4, .int (if (pt_sm (A 4) x (od (f + 1 + j))) < (pt_mn (fun i => pt_sm (A 4) x (od i)) f j) then (pt_sm (A 4) x (od (f + 1 + j))) else (pt_mn (fun i => pt_sm (A 4) x (od i)) f j))), (7, .int (pt_sm (A 4) x (od (f + 1 + j)))), (6, .int (nI (f + 1 + j))), (0, .ref (a 0)), (1, .int (nI f)), (2, .int (nI t)), (3, .int (nI x))]) hx hb dX1_spread_64 hl (by decide) rfl (fun ls hl => ?_)
    refine lv_iinc (v := nI ((f + 1 + j) + 1)) (lv' := [(6, .int (nI ((f + 1 + j) + 1))), (5, .int (if (pt_mx (fun i => pt_sm (A 4) x (od i)) f j) < (pt_sm (A 4) x (od (f + 1 + j))) then (pt_sm (A 4) x (od (f + 1 + j))) else (pt_mx (fun i => pt_sm (A 4) x (od i)) f j))), (4, .int (if (pt_sm (A 4) x (od (f + 1 + j))) < (pt_mn (fun i => pt_sm (A 4) x (od i)) f j) then (pt_sm (A 4) x (od (f + 1 + j))) else (pt_mn (fun i => pt_sm (A 4) x (od i)) f j))), (7, .int (pt_sm (A 4) x (od (f + 1 + j)))), (0, .ref (a 0)), (1, .int (nI f)), (2, .int (nI t)), (3, .int (nI x))]) hx hb dX1_spread_66 hl (k := 3) rfl (nI_1 _) (by decide) rfl (fun ls hl => ?_)
    refine lv_goto (tgt := 25) hx hb dX1_spread_69 (by decide) ?_
    exact ih (j + 1) _ ⟨by omega, lv_sub hl [0, 1, 2, 4, 5, 6, 7] rfl⟩ (by omega)

theorem wd_c_X1_widestAxis_X1_widestAxis_0 : Cond.fieldLink RX1 9 "PointTrees" "axes" "I" ∈ wsX1_widestAxis := by decide +kernel
theorem iw_c_X1_widestAxis_wsX10 : ∀ w ∈ wsX10, w ∈ wsX1_widestAxis := fun _ h => List.mem_cons_of_mem _ (List.mem_append_left _ (List.mem_append_right _ h))
theorem iw_c_X1_widestAxis_wsX00 : ∀ w ∈ wsX00, w ∈ wsX1_widestAxis := fun _ h => List.mem_cons_of_mem _ (List.mem_append_right _ h)
set_option maxHeartbeats 4000000 in
set_option maxRecDepth 100000 in
theorem c_X1_widestAxis (l : Launch) (dC : Nat → ClassId) (dI : Nat → Nat → Nat) (a : Nat → Nat) (c : Nat → ClassId) (F : Nat → Int32) (A : Nat → Nat → Int32) (Q : Nat → Int64) (ax : Nat) (h0 : F 0 = nI ax) (hax : ax ≤ 3) (hax1 : 1 ≤ ax) (od : Nat → Nat) (f t : Nat) (hft : f < t) (ht : t ≤ 64) (hod : ∀ i, f ≤ i → i < t → A 7 i = nI (od i) ∧ od i < 64) : Met l yX1_widestAxis wsX1_widestAxis (pt_rm 3) (pt_R (dC, dI) vwCl (pt_xt c) (pt_xw a c F A Q) pt_nw [.ref (a 0), .int (nI f), .int (nI t)]) (vp_Si (fun r => r = nI (pt_wa (fun x => pt_spr (fun i => pt_sm (A 4) x (od i)) f t) ax))) 0 0 (fun _ => False) := by
  refine Met.ofW (cc := cX1_widestAxis) (maxL := 5) (ret := (some .int)) (by decide) rfl ?_
  intro p e s m args below meth cd s₁ B hml hv
  obtain ⟨rfl, hP, hK, hN⟩ := hv
  have hx := B.exec
  have hb := B.bytes
  have hr := B.returns
  have hts := atoms_spec (ws := wsX1_widestAxis) B.pre
  have hown : s.vm.findClass RX1 = some m.cls := findClass_of_methodNamed B.named
  have hlocks := B.notSynchronized
  have hl := lv_entry ([.ref (a 0), .int (nI f), .int (nI t)]) (n := 5) (Nat.le_of_ble_eq_true rfl)
  rw [lg_entry_eq]
  generalize (lg_sl ([.ref (a 0), .int (nI f), .int (nI t)]) ++ List.replicate (5 - (lg_sl ([.ref (a 0), .int (nI f), .int (nI t)])).length) Slot.unset).toArray = ls at hl ⊢
  have hl : lv_has ls 5 [(0, .ref (a 0)), (1, .int (nI f)), (2, .int (nI t))] := hl
  refine lv_iconst (v := nI 0) hx hb dX1_widestAxis_0 (by decide) ?_
  refine lv_istore_n (lv' := [(3, .int (nI 0)), (0, .ref (a 0)), (1, .int (nI f)), (2, .int (nI t))]) hx hb dX1_widestAxis_1 rfl hl (by decide) rfl (fun ls hl => ?_)
  refine lv_iconst (v := nI 1) hx hb dX1_widestAxis_2 (by decide) ?_
  refine lv_istore (lv' := [(4, .int (nI 1)), (3, .int (nI 0)), (0, .ref (a 0)), (1, .int (nI f)), (2, .int (nI t))]) hx hb dX1_widestAxis_3 hl (by decide) rfl (fun ls hl => ?_)
  have e1 : pt_wa (fun x => pt_spr (fun i => pt_sm (A 4) x (od i)) f t) 1 = 0 := by show (if _ then 0 else 0) = 0; split <;> rfl
  rw [show nI 0 = nI (pt_wa (fun x => pt_spr (fun i => pt_sm (A 4) x (od i)) f t) (0 + 1)) from by rw [Nat.zero_add, e1]] at hl
  refine pt_loopR (fun i : Nat => ax - i) (fun i ls => i + 1 ≤ ax ∧ lv_has ls 5 [(4, .int (nI (i + 1))), (3, .int (nI (pt_wa (fun x => pt_spr (fun i => pt_sm (A 4) x (od i)) f t) (i + 1)))), (0, .ref (a 0)), (1, .int (nI f)), (2, .int (nI t))]) ?_ 0 _ ⟨by omega, hl⟩
  intro i ls ⟨hi, hl⟩ ih
  have hwl := pt_wa_le (fun x => pt_spr (fun i => pt_sm (A 4) x (od i)) f t) i
  refine lv_iload hx hb dX1_widestAxis_5 (lv_at hl 0 rfl) ?_
  refine lv_aload_n hx hb dX1_widestAxis_7 rfl (lv_at hl 2 rfl) ?_
  refine va_get (D := (dC, dI)) (ci := 1) (v := .int (F 0)) (C := RX1) (T := TX1) (N := 18) hx hb hts iw_c_X1_widestAxis_wsX10 hown hK hP 0 rfl rfl 0 (by decide) (hts _ wd_c_X1_widestAxis_X1_widestAxis_0) (fun _ h9 => h9) rfl dX1_widestAxis_8 ?_
  refine pt_top (y := nI ax) h0 ?_
  refine lv_icmp_ge (tgt := 41) hx hb dX1_widestAxis_11 (by decide) (fun c11 => ?_) (fun c11 => ?_)
  · have hie : i + 1 = ax := by have := (nI_leI (by omega) (by omega)).mp c11; omega
    subst hie
    refine lv_iload_n hx hb dX1_widestAxis_41 rfl (lv_at hl 1 rfl) ?_
    exact W.iret (v := nI (pt_wa (fun x => pt_spr (fun i => pt_sm (A 4) x (od i)) f t) (i + 1))) hx hb hr (fun zt zh zW => ⟨_, rfl, rfl, zh⟩) (fun q h => by cases h) dX1_widestAxis_42
  · have hlt : i + 1 < ax := Nat.not_le.mp (fun q => c11 ((nI_leI (by omega) (by omega)).mpr q))
    refine lv_aload_n hx hb dX1_widestAxis_14 rfl (lv_at hl 2 rfl) ?_
    refine lv_iload_n hx hb dX1_widestAxis_15 rfl (lv_at hl 3 rfl) ?_
    refine lv_iload_n hx hb dX1_widestAxis_16 rfl (lv_at hl 4 rfl) ?_
    refine lv_iload hx hb dX1_widestAxis_17 (lv_at hl 0 rfl) ?_
    refine pt_rdi (va_runV (As := [.int (nI f), .int (nI t), .int (nI (i + 1))]) (rest := []) ⟨hx, hb, hml, hown, hts⟩ (c_X1_spread l dC dI a c F A Q od f t hft ht hod (i + 1) (by omega)) (cwV 3 hts gX1_widestAxis_X1_spread rfl rfl rfl (by decide +kernel) ⟨Nat.le_of_ble_eq_true rfl, Nat.le_of_ble_eq_true rfl⟩) (pt_pv1 hP hK hN (q0 := 0) rfl) rfl rfl hl.1 rfl (lv_room (Nat.le_of_ble_eq_true rfl)) dX1_widestAxis_19 ⟨Nat.le_of_ble_eq_true rfl, Nat.le_of_ble_eq_true rfl⟩) (fun r19 hr19 => ?_)
    refine pt_top (y := ((fun x => pt_spr (fun i => pt_sm (A 4) x (od i)) f t) (i + 1))) hr19 ?_
    refine lv_aload_n hx hb dX1_widestAxis_22 rfl (lv_at hl 2 rfl) ?_
    refine lv_iload_n hx hb dX1_widestAxis_23 rfl (lv_at hl 3 rfl) ?_
    refine lv_iload_n hx hb dX1_widestAxis_24 rfl (lv_at hl 4 rfl) ?_
    refine lv_iload_n hx hb dX1_widestAxis_25 rfl (lv_at hl 1 rfl) ?_
    refine pt_rdi (va_runV (As := [.int (nI f), .int (nI t), .int (nI (pt_wa (fun x => pt_spr (fun i => pt_sm (A 4) x (od i)) f t) (i + 1)))]) (rest := [.int ((fun x => pt_spr (fun i => pt_sm (A 4) x (od i)) f t) (i + 1))]) ⟨hx, hb, hml, hown, hts⟩ (c_X1_spread l dC dI a c F A Q od f t hft ht hod (pt_wa (fun x => pt_spr (fun i => pt_sm (A 4) x (od i)) f t) (i + 1)) (by omega)) (cwV 3 hts gX1_widestAxis_X1_spread rfl rfl rfl (by decide +kernel) ⟨Nat.le_of_ble_eq_true rfl, Nat.le_of_ble_eq_true rfl⟩) (pt_pv1 hP hK hN (q0 := 0) rfl) rfl rfl hl.1 rfl (lv_room (Nat.le_of_ble_eq_true rfl)) dX1_widestAxis_26 ⟨Nat.le_of_ble_eq_true rfl, Nat.le_of_ble_eq_true rfl⟩) (fun r26 hr26 => ?_)
    refine pt_top (y := ((fun x => pt_spr (fun i => pt_sm (A 4) x (od i)) f t) (pt_wa (fun x => pt_spr (fun i => pt_sm (A 4) x (od i)) f t) (i + 1)))) hr26 ?_
    refine lv_icmp_le (tgt := 35) hx hb dX1_widestAxis_29 (by decide) (fun c29 => ?_) (fun c29 => ?_)
    · refine lv_iinc (v := nI ((i + 1) + 1)) (lv' := [(4, .int (nI ((i + 1) + 1))), (3, .int (nI (pt_wa (fun x => pt_spr (fun i => pt_sm (A 4) x (od i)) f t) (i + 1)))), (0, .ref (a 0)), (1, .int (nI f)), (2, .int (nI t))]) hx hb dX1_widestAxis_35 hl (k := 0) rfl (nI_1 _) (by decide) rfl (fun ls hl => ?_)
      refine lv_goto (tgt := 5) hx hb dX1_widestAxis_38 (by decide) ?_
      have ew : pt_wa (fun x => pt_spr (fun i => pt_sm (A 4) x (od i)) f t) (i + 1 + 1) = pt_wa (fun x => pt_spr (fun i => pt_sm (A 4) x (od i)) f t) (i + 1) := if_neg (Int32.not_lt.mpr c29)
      exact ih (i + 1) _ ⟨by omega, by rw [ew]; exact lv_sub hl [0, 1, 2, 3, 4] rfl⟩ (by omega)
    · refine lv_iload hx hb dX1_widestAxis_32 (lv_at hl 0 rfl) ?_
      refine lv_istore_n (lv' := [(3, .int (nI (i + 1))), (4, .int (nI (i + 1))), (0, .ref (a 0)), (1, .int (nI f)), (2, .int (nI t))]) hx hb dX1_widestAxis_34 rfl hl (by decide) rfl (fun ls hl => ?_)
      refine lv_iinc (v := nI ((i + 1) + 1)) (lv' := [(4, .int (nI ((i + 1) + 1))), (3, .int (nI (i + 1))), (0, .ref (a 0)), (1, .int (nI f)), (2, .int (nI t))]) hx hb dX1_widestAxis_35 hl (k := 1) rfl (nI_1 _) (by decide) rfl (fun ls hl => ?_)
      refine lv_goto (tgt := 5) hx hb dX1_widestAxis_38 (by decide) ?_
      have ew : pt_wa (fun x => pt_spr (fun i => pt_sm (A 4) x (od i)) f t) (i + 1 + 1) = i + 1 := if_pos (Int32.not_le.mp c29)
      exact ih (i + 1) _ ⟨by omega, by rw [ew]; exact lv_sub hl [0, 1, 2, 3, 4] rfl⟩ (by omega)
end
section
/-- what was found so far -/
def pt_ask (fd : Nat → Prop) (fc : Nat) (F : Nat → Int32) (A : Nat → Nat → Int32) : Prop := F 15 = nI fc ∧ (∀ x, x < 64 → pt_B (A 14 x) (fd x)) ∧ pt_cnt fd 64 ≤ fc
/-- the class's other cells stay: but slot 15, rows 14 and 16 -/
def pt_oth (F F' : Nat → Int32) (A A' : Nat → Nat → Int32) : Prop := (∀ j, j ≠ 15 → F' j = F j) ∧ ∀ j, j ≠ 14 → j ≠ 16 → A' j = A j
theorem pt_oth.rf {F : Nat → Int32} {A : Nat → Nat → Int32} : pt_oth F F A A := ⟨fun _ _ => rfl, fun _ _ _ => rfl⟩
theorem pt_oth.tr {F F' F'' : Nat → Int32} {A A' A'' : Nat → Nat → Int32} (h : pt_oth F F' A A') (g : pt_oth F' F'' A' A'') : pt_oth F F'' A A'' := ⟨fun j q => (g.1 j q).trans (h.1 j q), fun j q q2 => (g.2 j q q2).trans (h.2 j q q2)⟩
theorem pt_ask.c {fd fd' : Nat → Prop} {fc fc' : Nat} {F : Nat → Int32} {A : Nat → Nat → Int32} (h : pt_ask fd fc F A) (e : ∀ x, fd x ↔ fd' x) (ef : fc = fc') : pt_ask fd' fc' F A := by
  subst ef
  refine ⟨h.1, fun x hx => (h.2.1 x hx).c (e x), ?_⟩
  rw [← pt_cnt_c 64 (fun i _ => e i)]
  exact h.2.2
theorem pt_ask.m {fd : Nat → Prop} {fc : Nat} {F F' : Nat → Int32} {A A' : Nat → Nat → Int32} (h : pt_ask fd fc F A) (e : F' 15 = F 15) (ea : A' 14 = A 14) : pt_ask fd fc F' A' := ⟨by rw [e]; exact h.1, fun x hx => by rw [ea]; exact h.2.1 x hx, h.2.2⟩
theorem pt_cnt_one {fd : Nat → Prop} {t : Nat} : ∀ n, pt_cnt (fun x => fd x ∨ x = t) n ≤ pt_cnt fd n + pt_cb (t < n)
  | 0 => Nat.zero_le _
  | n + 1 => by
    have ih := pt_cnt_one (fd := fd) (t := t) n
    show pt_cnt (fun x => fd x ∨ x = t) n + pt_cb (fd n ∨ n = t) ≤ pt_cnt fd n + pt_cb (fd n) + pt_cb (t < n + 1)
    by_cases h : n = t
    · rw [pt_cb_t (P := t < n + 1) (by omega)]
      rw [pt_cb_f (P := t < n) (by omega)] at ih
      have := pt_cb_le (fd n ∨ n = t)
      omega
    · rw [pt_cb_c (P := fd n ∨ n = t) (Q := fd n) ⟨fun q => q.elim id (fun q => absurd q h), Or.inl⟩, pt_cb_c (P := t < n + 1) (Q := t < n) ⟨fun q => by omega, fun q => by omega⟩]
      omega
theorem pt_mark {fd : Nat → Prop} {fc t : Nat} {F : Nat → Int32} {A : Nat → Nat → Int32} (h : pt_ask fd fc F A) (ht : t < 64) : pt_ask (fun x => fd x ∨ x = t) (fc + 1) (upd F 15 (nI (fc + 1))) (va_up A 14 (upd (A 14) t 1)) ∧ pt_oth F (upd F 15 (nI (fc + 1))) A (va_up A 14 (upd (A 14) t 1)) ∧ va_up A 14 (upd (A 14) t 1) 16 = A 16 := by
  refine ⟨⟨pt_upd, fun x hx => ?_, ?_⟩, ⟨fun j hj => pt_upd_ne hj, fun j h1 _ => pt_up_ne h1⟩, pt_up_ne (by decide)⟩
  · rw [pt_up]
    by_cases q : x = t
    · subst q; rw [pt_upd]; exact pt_B.one (Or.inr rfl)
    · rw [pt_upd_ne q]; exact (h.2.1 x hx).c ⟨Or.inl, fun z => z.elim id (fun z => absurd z q)⟩
  · have h1 := pt_cnt_one (fd := fd) (t := t) 64
    rw [pt_cb_t ht] at h1
    have := h.2.2
    omega
theorem pt_ask.no {fd : Nat → Prop} {fc t : Nat} {P : Prop} {F : Nat → Int32} {A : Nat → Nat → Int32} (h : pt_ask fd fc F A) (hP : ¬ P) : pt_ask (fun x => fd x ∨ (x = t ∧ P)) (fc + pt_cb P) F A := h.c (fun _ => ⟨Or.inl, fun q => q.elim id (fun q => absurd q.2 hP)⟩) (by rw [pt_cb_f hP]; rfl)
theorem pt_ask.yes {fd : Nat → Prop} {fc t : Nat} {P : Prop} {F : Nat → Int32} {A : Nat → Nat → Int32} (h : pt_ask (fun x => fd x ∨ x = t) (fc + 1) F A) (hP : P) : pt_ask (fun x => fd x ∨ (x = t ∧ P)) (fc + pt_cb P) F A := h.c (fun _ => ⟨fun q => q.imp id (fun q => ⟨q, hP⟩), fun q => q.imp id (fun q => q.1)⟩) (by rw [pt_cb_t hP])
/-- a thing is there, and so -/
def pt_Px (ax rel : Nat) (th T B : Nat → Int32) (t : Nat) : Prop := ¬ th t = 0 ∧ pt_so rel (pt_mee ax T B t 0) (pt_wn ax T B t 0) (pt_wn ax B T 0 t)
/-- those of a run that are P, joined to fd -/
def pt_run (fd : Nat → Prop) (od : Nat → Nat) (P : Nat → Prop) (f i : Nat) (x : Nat) : Prop := fd x ∨ ∃ k, f ≤ k ∧ k < i ∧ x = od k ∧ P (od k)
theorem pt_run_0 {fd : Nat → Prop} {od : Nat → Nat} {P : Nat → Prop} {f x : Nat} : fd x ↔ pt_run fd od P f f x := ⟨Or.inl, fun q => q.elim id (fun ⟨k, h1, h2, _⟩ => by omega)⟩
theorem pt_run_s {fd : Nat → Prop} {od : Nat → Nat} {P : Nat → Prop} {f i x : Nat} (hi : f ≤ i) : (pt_run fd od P f i x ∨ (x = od i ∧ P (od i))) ↔ pt_run fd od P f (i + 1) x := by
  constructor
  · rintro ((h | ⟨k, h1, h2, h3⟩) | ⟨h1, h2⟩)
    · exact Or.inl h
    · exact Or.inr ⟨k, h1, by omega, h3⟩
    · exact Or.inr ⟨i, hi, by omega, h1, h2⟩
  · rintro (h | ⟨k, h1, h2, h3, h4⟩)
    · exact Or.inl (Or.inl h)
    · rcases Nat.lt_or_ge k i with q | q
      · exact Or.inl (Or.inr ⟨k, h1, q, h3, h4⟩)
      · have : k = i := by omega
        subst this
        exact Or.inr ⟨h3, h4⟩
theorem pt_cntr_0 {P : Nat → Prop} {f : Nat} : pt_cnt (fun k => f ≤ k ∧ P k) f = 0 := pt_cnt_none f (fun i hi q => by omega)
theorem pt_cntr_s {P : Nat → Prop} {f i : Nat} (hi : f ≤ i) : pt_cnt (fun k => f ≤ k ∧ P k) (i + 1) = pt_cnt (fun k => f ≤ k ∧ P k) i + pt_cb (P i) := by
  show _ + pt_cb (f ≤ i ∧ P i) = _
  rw [pt_cb_c (P := f ≤ i ∧ P i) (Q := P i) ⟨fun q => q.2, fun q => ⟨hi, q⟩⟩]

theorem wd_c_X1_markFound_X1_markFound_0 : Cond.fieldLink RX1 50 "PointTrees" "isFound" "[Z" ∈ wsX1_markFound := by decide +kernel
theorem wd_c_X1_markFound_X1_markFound_1 : Cond.fieldLink RX1 114 "PointTrees" "foundCount" "I" ∈ wsX1_markFound := by decide +kernel
theorem iw_c_X1_markFound_wsX10 : ∀ w ∈ wsX10, w ∈ wsX1_markFound := fun _ h => List.mem_cons_of_mem _ (List.mem_append_right _ h)
set_option maxHeartbeats 4000000 in
set_option maxRecDepth 100000 in
theorem c_X1_markFound (l : Launch) (dC : Nat → ClassId) (dI : Nat → Nat → Nat) (a : Nat → Nat) (c : Nat → ClassId) (F : Nat → Int32) (A : Nat → Nat → Int32) (Q : Nat → Int64) (sz : Nat) (t : Nat) (ht : t < 64) (fd : Nat → Prop) (fc : Nat) (hk : pt_ask fd fc F A) : Met l yX1_markFound wsX1_markFound (pt_rm 0) (pt_W (dC, dI) vwCl (pt_xt c) (pt_xw a c F A Q) pt_nw sz [.ref (a 0), .int (nI t)]) (va_Qv (fun (u : pt_XS) => pt_ask (fun x => fd x ∨ x = t) (fc + 1) u.1 u.2.1 ∧ pt_oth F u.1 A u.2.1 ∧ u.2.1 16 = A 16 ∧ u.2.2 = Q) (fun u t => va_P (dC, dI) vwCl (pt_xw a c u.1 u.2.1 u.2.2) t.heap) (va_A (pt_xw a c F A Q) sz)) 0 0 (va_A (pt_xw a c F A Q) sz) := by
  refine Met.ofW (cc := cX1_markFound) (maxL := 2) (ret := none) (by decide) rfl ?_
  intro p e s m args below meth cd s₁ B hml hv
  obtain ⟨rfl, hsz, hP, hK, hN, hD0⟩ := hv
  have hx := B.exec
  have hb := B.bytes
  have hr := B.returns
  have hts := atoms_spec (ws := wsX1_markFound) B.pre
  have hown : s.vm.findClass RX1 = some m.cls := findClass_of_methodNamed B.named
  have hlocks := B.notSynchronized
  subst hsz
  have hD := hD0.self (sz := s.heap.size)
  generalize hAe : va_A (pt_xw a c F A Q) s.heap.size = AA at hD ⊢
  have hA : ∀ q : Nat, s.heap.size ≤ q → AA q := fun q h => by rw [← hAe]; exact Or.inr h
  have hS : va_S AA s.heap s.heap [] := va_S.rf
  have hl := lv_entry ([.ref (a 0), .int (nI t)]) (n := 2) (Nat.le_of_ble_eq_true rfl)
  rw [lg_entry_eq]
  generalize (lg_sl ([.ref (a 0), .int (nI t)]) ++ List.replicate (2 - (lg_sl ([.ref (a 0), .int (nI t)])).length) Slot.unset).toArray = ls at hl ⊢
  have hl : lv_has ls 2 [(0, .ref (a 0)), (1, .int (nI t))] := hl
  refine lv_aload_n hx hb dX1_markFound_0 rfl (lv_at hl 0 rfl) ?_
  refine va_get (D := (dC, dI)) (ci := 1) (v := .ref (a 14)) (C := RX1) (T := TX1) (N := 18) hx hb hts iw_c_X1_markFound_wsX10 hown hK hP 0 rfl rfl 14 (by decide) (hts _ wd_c_X1_markFound_X1_markFound_0) (fun _ h9 => h9) rfl dX1_markFound_1 ?_
  refine lv_iload_n hx hb dX1_markFound_4 rfl (lv_at hl 1 rfl) ?_
  refine lv_iconst (v := 1) hx hb dX1_markFound_5 (by decide) ?_
  obtain ⟨A1, eA1⟩ : ∃ zz, zz = va_up A 14 (upd (A 14) t 1) := ⟨_, rfl⟩
  refine pt_zast hx hb hK hP hD hS 13 9 rfl rfl t rfl (by omega) (by decide) rfl (ws' := (pt_xw a c F A1 Q)) (by rw [eA1]; rfl) dX1_markFound_6 (fun H locs hP hD hS => ?_)
  refine lv_aload_n hx hb dX1_markFound_7 rfl (lv_at hl 0 rfl) ?_
  refine lv_dup hx hb dX1_markFound_8 rfl ?_
  refine va_get (D := (dC, dI)) (ci := 1) (v := .int (F 15)) (C := RX1) (T := TX1) (N := 18) hx hb hts iw_c_X1_markFound_wsX10 hown hK hP 0 rfl rfl 15 (by decide) (hts _ wd_c_X1_markFound_X1_markFound_1) (fun _ h9 => h9) rfl dX1_markFound_9 ?_
  refine pt_top (y := nI fc) hk.1 ?_
  refine lv_iconst (v := nI 1) hx hb dX1_markFound_12 (by decide) ?_
  refine lv_iadd hx hb dX1_markFound_13 ?_
  refine pt_top (y := nI (fc + 1)) (nI_add _ _) ?_
  obtain ⟨F2, eF2⟩ : ∃ zz, zz = upd F 15 (nI (fc + 1)) := ⟨_, rfl⟩
  refine va_put (D := (dC, dI)) (ci := 1) (v := .int (nI (fc + 1))) (ty := .int) (C := RX1) (T := TX1) (N := 18) hx hb hts iw_c_X1_markFound_wsX10 tyX1 tyX1_ok nmX1 hown hK hP hD hS 0 rfl rfl 15 (by decide) (hts _ wd_c_X1_markFound_X1_markFound_1) (fun _ h9 => h9) rfl (by decide +kernel) rfl rfl (Nat.le_of_ble_eq_true rfl) dX1_markFound_14 (fun H locs hP hD hS => ?_)
  have hP : va_P (dC, dI) vwCl (pt_xw a c F2 A1 Q) H := by rw [eF2]; exact hP
  have hD : va_D AA (pt_xw a c F2 A1 Q) := by rw [eF2]; exact hD
  have kF2_15 : F2 15 = nI (fc + 1) := by rw [eF2, pt_upd]
  exact W.vret hx hb hr (fun zt zh zW => ⟨⟨(F2, A1, Q), rfl, (by show pt_ask _ _ F2 A1 ∧ pt_oth F F2 A A1 ∧ A1 16 = A 16 ∧ Q = Q; rw [eF2, eA1]; exact ⟨(pt_mark hk ht).1, (pt_mark hk ht).2.1, (pt_mark hk ht).2.2, rfl⟩), by show va_P _ _ _ zt.heap; rw [zh]; exact hP⟩, hS.F zh⟩) hS.2.2 dX1_markFound_17

theorem wd_c_X1_askThing_X1_askThing_0 : Cond.fieldLink RX1 15 "PointTrees" "isThere" "[Z" ∈ wsX1_askThing := by decide +kernel
theorem iw_c_X1_askThing_wsX10 : ∀ w ∈ wsX10, w ∈ wsX1_askThing := fun _ h => List.mem_cons_of_mem _ (List.mem_append_left _ (List.mem_append_right _ h))
theorem iw_c_X1_askThing_wsX00 : ∀ w ∈ wsX00, w ∈ wsX1_askThing := fun _ h => List.mem_cons_of_mem _ (List.mem_append_right _ h)
set_option maxHeartbeats 4000000 in
set_option maxRecDepth 100000 in
theorem c_X1_askThing (l : Launch) (dC : Nat → ClassId) (dI : Nat → Nat → Nat) (a : Nat → Nat) (c : Nat → ClassId) (F : Nat → Int32) (A : Nat → Nat → Int32) (Q : Nat → Int64) (sz : Nat) (ax : Nat) (h0 : F 0 = nI ax) (hax : ax ≤ 3) (t rel : Nat) (ht : t < 64) (hrel : rel ≤ 3) (fd : Nat → Prop) (fc : Nat) (hk : pt_ask fd fc F A) : Met l yX1_askThing wsX1_askThing (pt_rm 3) (pt_W (dC, dI) vwCl (pt_xt c) (pt_xw a c F A Q) pt_nw sz [.ref (a 0), .int (nI t), .int (nI rel)]) (va_Qv (fun (u : pt_XS) => pt_ask (fun x => fd x ∨ (x = t ∧ pt_Px ax rel (A 3) (A 4) (A 13) t)) (fc + pt_cb (pt_Px ax rel (A 3) (A 4) (A 13) t)) u.1 u.2.1 ∧ pt_oth F u.1 A u.2.1 ∧ u.2.1 16 = A 16 ∧ u.2.2 = Q) (fun u t => va_P (dC, dI) vwCl (pt_xw a c u.1 u.2.1 u.2.2) t.heap) (va_A (pt_xw a c F A Q) sz)) 0 0 (va_A (pt_xw a c F A Q) sz) := by
  refine Met.ofW (cc := cX1_askThing) (maxL := 3) (ret := none) (by decide) rfl ?_
  intro p e s m args below meth cd s₁ B hml hv
  obtain ⟨rfl, hsz, hP, hK, hN, hD0⟩ := hv
  have hx := B.exec
  have hb := B.bytes
  have hr := B.returns
  have hts := atoms_spec (ws := wsX1_askThing) B.pre
  have hown : s.vm.findClass RX1 = some m.cls := findClass_of_methodNamed B.named
  have hlocks := B.notSynchronized
  subst hsz
  have hD := hD0.self (sz := s.heap.size)
  generalize hAe : va_A (pt_xw a c F A Q) s.heap.size = AA at hD ⊢
  have hA : ∀ q : Nat, s.heap.size ≤ q → AA q := fun q h => by rw [← hAe]; exact Or.inr h
  have hS : va_S AA s.heap s.heap [] := va_S.rf
  have hl := lv_entry ([.ref (a 0), .int (nI t), .int (nI rel)]) (n := 3) (Nat.le_of_ble_eq_true rfl)
  rw [lg_entry_eq]
  generalize (lg_sl ([.ref (a 0), .int (nI t), .int (nI rel)]) ++ List.replicate (3 - (lg_sl ([.ref (a 0), .int (nI t), .int (nI rel)])).length) Slot.unset).toArray = ls at hl ⊢
  have hl : lv_has ls 3 [(0, .ref (a 0)), (1, .int (nI t)), (2, .int (nI rel))] := hl
  refine lv_aload_n hx hb dX1_askThing_0 rfl (lv_at hl 0 rfl) ?_
  refine va_get (D := (dC, dI)) (ci := 1) (v := .ref (a 3)) (C := RX1) (T := TX1) (N := 18) hx hb hts iw_c_X1_askThing_wsX10 hown hK hP 0 rfl rfl 3 (by decide) (hts _ wd_c_X1_askThing_X1_askThing_0) (fun _ h9 => h9) rfl dX1_askThing_1 ?_
  refine lv_iload_n hx hb dX1_askThing_4 rfl (lv_at hl 1 rfl) ?_
  refine pt_zald hx hb hK hP 1 0 rfl rfl t rfl (by omega) (by decide) dX1_askThing_5 ?_
  refine lv_if_eq (tgt := 23) hx hb dX1_askThing_6 (by decide) (fun c6 => ?_) (fun c6 => ?_)
  · exact W.vret hx hb hr (fun zt zh zW => ⟨⟨(F, A, Q), rfl, ⟨hk.no (fun q => by first | exact d15 q.2 | exact q.1 c6), pt_oth.rf, rfl, rfl⟩, by show va_P _ _ _ zt.heap; rw [zh]; exact hP⟩, hS.F zh⟩) hS.2.2 dX1_askThing_23
  · refine lv_aload_n hx hb dX1_askThing_9 rfl (lv_at hl 0 rfl) ?_
    refine lv_iload_n hx hb dX1_askThing_10 rfl (lv_at hl 1 rfl) ?_
    refine lv_iload_n hx hb dX1_askThing_11 rfl (lv_at hl 2 rfl) ?_
    refine pt_rdi (va_runV (As := [.int (nI t), .int (nI rel)]) (rest := []) ⟨hx, hb, hml, hown, hts⟩ (c_X1_isSo l dC dI a c F A Q ax h0 hax t rel ht hrel) (cwV 2 hts gX1_askThing_X1_isSo rfl rfl rfl (by decide +kernel) ⟨Nat.le_of_ble_eq_true rfl, Nat.le_of_ble_eq_true rfl⟩) (pt_pv1 hP hK hN (q0 := 0) rfl) rfl rfl hl.1 rfl (lv_room (Nat.le_of_ble_eq_true rfl)) dX1_askThing_12 ⟨Nat.le_of_ble_eq_true rfl, Nat.le_of_ble_eq_true rfl⟩) (fun r12 hr12 => ?_)
    refine lv_if_eq (tgt := 23) hx hb dX1_askThing_15 (by decide) (fun c15 => ?_) (fun c15 => ?_)
    · have d15 := hr12.f c15
      exact W.vret hx hb hr (fun zt zh zW => ⟨⟨(F, A, Q), rfl, ⟨hk.no (fun q => by first | exact d15 q.2 | exact q.1 c6), pt_oth.rf, rfl, rfl⟩, by show va_P _ _ _ zt.heap; rw [zh]; exact hP⟩, hS.F zh⟩) hS.2.2 dX1_askThing_23
    · have d15 := hr12.t c15
      refine lv_aload_n hx hb dX1_askThing_18 rfl (lv_at hl 0 rfl) ?_
      refine lv_iload_n hx hb dX1_askThing_19 rfl (lv_at hl 1 rfl) ?_
      refine pt_callv (wf := (fun u : pt_XS => pt_xw a c u.1 u.2.1 u.2.2)) (va_runV (As := [.int (nI t)]) (rest := []) ⟨hx, hb, hml, hown, hts⟩ (c_X1_markFound l dC dI a c F A Q _ t (by omega) fd fc hk) (cwV 1 hts gX1_askThing_X1_markFound rfl rfl rfl (by decide +kernel) ⟨Nat.le_of_ble_eq_true rfl, Nat.le_of_ble_eq_true rfl⟩) (pt_wv1 hP hK hN hD (q0 := 0) rfl) rfl rfl hl.1 rfl (lv_room (Nat.le_of_ble_eq_true rfl)) dX1_askThing_20 ⟨Nat.le_of_ble_eq_true rfl, Nat.le_of_ble_eq_true rfl⟩) hD hS hA (fun _ => rfl) (fun u20 H locs hr20 hP hD hS => ?_)
      obtain ⟨F1, A1, Q1⟩ := u20
      obtain ⟨hm1, ho1, he1, hq1⟩ := hr20
      dsimp only at hm1 ho1 he1 hq1 hP hD
      have kF1_0 : F1 0 = nI ax := (ho1.1 0 (by decide)).trans h0
      exact W.vret hx hb hr (fun zt zh zW => ⟨⟨(F1, A1, Q1), rfl, ⟨hm1.yes ⟨c6, d15⟩, ho1, he1, hq1⟩, by show va_P _ _ _ zt.heap; rw [zh]; exact hP⟩, hS.F zh⟩) hS.2.2 dX1_askThing_23

theorem wd_c_X1_askThingsOf_X1_askThingsOf_0 : Cond.fieldLink RX1 32 "PointTrees" "blockFrom" "[I" ∈ wsX1_askThingsOf := by decide +kernel
theorem wd_c_X1_askThingsOf_X1_askThingsOf_1 : Cond.fieldLink RX1 35 "PointTrees" "blockTo" "[I" ∈ wsX1_askThingsOf := by decide +kernel
theorem wd_c_X1_askThingsOf_X1_askThingsOf_2 : Cond.fieldLink RX1 28 "PointTrees" "order" "[I" ∈ wsX1_askThingsOf := by decide +kernel
theorem iw_c_X1_askThingsOf_wsX10 : ∀ w ∈ wsX10, w ∈ wsX1_askThingsOf := fun _ h => List.mem_cons_of_mem _ (List.mem_append_left _ (List.mem_append_right _ h))
theorem iw_c_X1_askThingsOf_wsX00 : ∀ w ∈ wsX00, w ∈ wsX1_askThingsOf := fun _ h => List.mem_cons_of_mem _ (List.mem_append_right _ h)
set_option maxHeartbeats 4000000 in
set_option maxRecDepth 100000 in
theorem c_X1_askThingsOf (l : Launch) (dC : Nat → ClassId) (dI : Nat → Nat → Nat) (a : Nat → Nat) (c : Nat → ClassId) (F : Nat → Int32) (A : Nat → Nat → Int32) (Q : Nat → Int64) (sz : Nat) (ax : Nat) (h0 : F 0 = nI ax) (hax : ax ≤ 3) (b f t : Nat) (od : Nat → Nat) (hb1 : b < 31) (hf8 : A 8 b = nI f) (ht9 : A 9 b = nI t) (ht : t ≤ 64) (hft : f ≤ t) (hod : ∀ i, f ≤ i → i < t → A 7 i = nI (od i) ∧ od i < 64) (rel : Nat) (hrel : rel ≤ 3) (fd : Nat → Prop) (fc : Nat) (hk : pt_ask fd fc F A) : Met l yX1_askThingsOf wsX1_askThingsOf (pt_rm 4) (pt_W (dC, dI) vwCl (pt_xt c) (pt_xw a c F A Q) pt_nw sz [.ref (a 0), .int (nI b), .int (nI rel)]) (va_Qv (fun (u : pt_XS) => pt_ask (pt_run fd od (pt_Px ax rel (A 3) (A 4) (A 13)) f t) (fc + pt_cnt (fun k => f ≤ k ∧ (pt_Px ax rel (A 3) (A 4) (A 13)) (od k)) t) u.1 u.2.1 ∧ pt_oth F u.1 A u.2.1 ∧ u.2.1 16 = A 16 ∧ u.2.2 = Q) (fun u t => va_P (dC, dI) vwCl (pt_xw a c u.1 u.2.1 u.2.2) t.heap) (va_A (pt_xw a c F A Q) sz)) 0 0 (va_A (pt_xw a c F A Q) sz) := by
  refine Met.ofW (cc := cX1_askThingsOf) (maxL := 4) (ret := none) (by decide) rfl ?_
  intro p e s m args below meth cd s₁ B hml hv
  obtain ⟨rfl, hsz, hP, hK, hN, hD0⟩ := hv
  have hx := B.exec
  have hb := B.bytes
  have hr := B.returns
  have hts := atoms_spec (ws := wsX1_askThingsOf) B.pre
  have hown : s.vm.findClass RX1 = some m.cls := findClass_of_methodNamed B.named
  have hlocks := B.notSynchronized
  subst hsz
  have hD := hD0.self (sz := s.heap.size)
  generalize hAe : va_A (pt_xw a c F A Q) s.heap.size = AA at hD ⊢
  have hA : ∀ q : Nat, s.heap.size ≤ q → AA q := fun q h => by rw [← hAe]; exact Or.inr h
  have hS : va_S AA s.heap s.heap [] := va_S.rf
  have hl := lv_entry ([.ref (a 0), .int (nI b), .int (nI rel)]) (n := 4) (Nat.le_of_ble_eq_true rfl)
  rw [lg_entry_eq]
  generalize (lg_sl ([.ref (a 0), .int (nI b), .int (nI rel)]) ++ List.replicate (4 - (lg_sl ([.ref (a 0), .int (nI b), .int (nI rel)])).length) Slot.unset).toArray = ls at hl ⊢
  have hl : lv_has ls 4 [(0, .ref (a 0)), (1, .int (nI b)), (2, .int (nI rel))] := hl
  refine lv_aload_n hx hb dX1_askThingsOf_0 rfl (lv_at hl 0 rfl) ?_
  refine va_get (D := (dC, dI)) (ci := 1) (v := .ref (a 8)) (C := RX1) (T := TX1) (N := 18) hx hb hts iw_c_X1_askThingsOf_wsX10 hown hK hP 0 rfl rfl 8 (by decide) (hts _ wd_c_X1_askThingsOf_X1_askThingsOf_0) (fun _ h9 => h9) rfl dX1_askThingsOf_1 ?_
  refine lv_iload_n hx hb dX1_askThingsOf_4 rfl (lv_at hl 1 rfl) ?_
  refine pt_iald hx hb hK hP 5 3 rfl rfl b rfl (by omega) (by decide) dX1_askThingsOf_5 ?_
  refine pt_top (y := nI f) hf8 ?_
  refine lv_istore_n (lv' := [(3, .int (nI f)), (0, .ref (a 0)), (1, .int (nI b)), (2, .int (nI rel))]) hx hb dX1_askThingsOf_6 rfl hl (by decide) rfl (fun ls hl => ?_)
  refine pt_loopW (fun q : Nat × pt_XS => t - q.1) (fun q ls H locs => (f ≤ q.1 ∧ q.1 ≤ t) ∧ (pt_ask (pt_run fd od (pt_Px ax rel (A 3) (A 4) (A 13)) f q.1) (fc + pt_cnt (fun k => f ≤ k ∧ (pt_Px ax rel (A 3) (A 4) (A 13)) (od k)) q.1) q.2.1 q.2.2.1 ∧ pt_oth F q.2.1 A q.2.2.1 ∧ q.2.2.1 16 = A 16 ∧ q.2.2.2 = Q) ∧ va_P (dC, dI) vwCl (pt_xw a c q.2.1 q.2.2.1 q.2.2.2) H ∧ va_D AA (pt_xw a c q.2.1 q.2.2.1 q.2.2.2) ∧ va_S AA s.heap H locs ∧ lv_has ls 4 [(3, .int (nI q.1)), (0, .ref (a 0)), (1, .int (nI b)), (2, .int (nI rel))]) ?_ (f, F, A, Q) _ _ _ ⟨⟨Nat.le_refl _, hft⟩, ⟨hk.c (fun x => pt_run_0) (by show _ = _ + pt_cnt _ f; rw [pt_cntr_0]; rfl), pt_oth.rf, rfl, rfl⟩, hP, hD, hS, hl⟩
  intro ⟨i, Fi, Ai, Qi⟩ ls H locs ⟨⟨hfi, hit⟩, ⟨hki, hoi, hei, hqi⟩, hP, hD, hS, hl⟩ ih
  dsimp only at hfi hit hki hoi hei hqi hP hD hl ih
  have ki0 : Fi 0 = nI ax := (hoi.1 0 (by decide)).trans h0
  refine lv_iload_n hx hb dX1_askThingsOf_7 rfl (lv_at hl 0 rfl) ?_
  refine lv_aload_n hx hb dX1_askThingsOf_8 rfl (lv_at hl 1 rfl) ?_
  refine va_get (D := (dC, dI)) (ci := 1) (v := .ref (a 9)) (C := RX1) (T := TX1) (N := 18) hx hb hts iw_c_X1_askThingsOf_wsX10 hown hK hP 0 rfl rfl 9 (by decide) (hts _ wd_c_X1_askThingsOf_X1_askThingsOf_1) (fun _ h9 => h9) rfl dX1_askThingsOf_9 ?_
  refine lv_iload_n hx hb dX1_askThingsOf_12 rfl (lv_at hl 2 rfl) ?_
  refine pt_iald hx hb hK hP 6 4 rfl rfl b rfl (by omega) (by decide) dX1_askThingsOf_13 ?_
  refine pt_top (y := nI t) ((congrFun (hoi.2 9 (by decide) (by decide)) b).trans ht9) ?_
  refine lv_icmp_ge (tgt := 34) hx hb dX1_askThingsOf_14 (by decide) (fun c14 => ?_) (fun c14 => ?_)
  · have hie : i = t := by have := (nI_leI (by omega) (by omega)).mp c14; omega
    subst hie
    exact W.vret hx hb hr (fun zt zh zW => ⟨⟨(Fi, Ai, Qi), rfl, ⟨hki, hoi, hei, hqi⟩, by show va_P _ _ _ zt.heap; rw [zh]; exact hP⟩, hS.F zh⟩) hS.2.2 dX1_askThingsOf_34
  · have hlt : i < t := Nat.not_le.mp (fun q => c14 ((nI_leI (by omega) (by omega)).mpr q))
    have hoj := (hod i hfi hlt).2
    refine lv_aload_n hx hb dX1_askThingsOf_17 rfl (lv_at hl 1 rfl) ?_
    refine lv_aload_n hx hb dX1_askThingsOf_18 rfl (lv_at hl 1 rfl) ?_
    refine va_get (D := (dC, dI)) (ci := 1) (v := .ref (a 7)) (C := RX1) (T := TX1) (N := 18) hx hb hts iw_c_X1_askThingsOf_wsX10 hown hK hP 0 rfl rfl 7 (by decide) (hts _ wd_c_X1_askThingsOf_X1_askThingsOf_2) (fun _ h9 => h9) rfl dX1_askThingsOf_19 ?_
    refine lv_iload_n hx hb dX1_askThingsOf_22 rfl (lv_at hl 0 rfl) ?_
    refine pt_iald hx hb hK hP 4 2 rfl rfl i rfl (by omega) (by decide) dX1_askThingsOf_23 ?_
    refine pt_top (y := nI (od i)) ((congrFun (hoi.2 7 (by decide) (by decide)) i).trans (hod i hfi hlt).1) ?_
    refine lv_iload_n hx hb dX1_askThingsOf_24 rfl (lv_at hl 3 rfl) ?_
    refine pt_callv (wf := (fun u : pt_XS => pt_xw a c u.1 u.2.1 u.2.2)) (va_runV (As := [.int (nI (od i)), .int (nI rel)]) (rest := []) ⟨hx, hb, hml, hown, hts⟩ (c_X1_askThing l dC dI a c Fi Ai Qi _ ax ki0 hax (od i) rel (by omega) hrel _ _ hki) (cwV 2 hts gX1_askThingsOf_X1_askThing rfl rfl rfl (by decide +kernel) ⟨Nat.le_of_ble_eq_true rfl, Nat.le_of_ble_eq_true rfl⟩) (pt_wv1 hP hK hN hD (q0 := 0) rfl) rfl rfl hl.1 rfl (lv_room (Nat.le_of_ble_eq_true rfl)) dX1_askThingsOf_25 ⟨Nat.le_of_ble_eq_true rfl, Nat.le_of_ble_eq_true rfl⟩) hD hS hA (fun _ => rfl) (fun u25 H locs hr25 hP hD hS => ?_)
    obtain ⟨F1, A1, Q1⟩ := u25
    obtain ⟨hm1, ho1, he1, hq1⟩ := hr25
    dsimp only at hm1 ho1 he1 hq1 hP hD
    have kF1_0 : F1 0 = nI ax := (ho1.1 0 (by decide)).trans ki0
    refine lv_iinc (v := nI (i + 1)) (lv' := [(3, .int (nI (i + 1))), (0, .ref (a 0)), (1, .int (nI b)), (2, .int (nI rel))]) hx hb dX1_askThingsOf_28 hl (k := 0) rfl (nI_1 _) (by decide) rfl (fun ls hl => ?_)
    refine lv_goto (tgt := 7) hx hb dX1_askThingsOf_31 (by decide) ?_
    rw [hoi.2 3 (by decide) (by decide), hoi.2 4 (by decide) (by decide), hoi.2 13 (by decide) (by decide)] at hm1
    exact ih (i + 1, F1, A1, Q1) _ _ _ ⟨⟨by show f ≤ i + 1; omega, by show i + 1 ≤ t; omega⟩, ⟨hm1.c (fun x => pt_run_s hfi) (by show _ = fc + pt_cnt _ (i + 1); rw [pt_cntr_s hfi, Nat.add_assoc]), hoi.tr ho1, he1.trans hei, hq1.trans hqi⟩, hP, hD, hS, lv_sub hl [0, 1, 2, 3] rfl⟩ (by show t - (i + 1) < t - i; omega)

theorem wd_c_X1_findAllOf_X1_findAllOf_0 : Cond.fieldLink RX1 32 "PointTrees" "blockFrom" "[I" ∈ wsX1_findAllOf := by decide +kernel
theorem wd_c_X1_findAllOf_X1_findAllOf_1 : Cond.fieldLink RX1 35 "PointTrees" "blockTo" "[I" ∈ wsX1_findAllOf := by decide +kernel
theorem wd_c_X1_findAllOf_X1_findAllOf_2 : Cond.fieldLink RX1 15 "PointTrees" "isThere" "[Z" ∈ wsX1_findAllOf := by decide +kernel
theorem wd_c_X1_findAllOf_X1_findAllOf_3 : Cond.fieldLink RX1 28 "PointTrees" "order" "[I" ∈ wsX1_findAllOf := by decide +kernel
theorem wd_c_X1_findAllOf_X1_findAllOf_4 : Cond.fieldLink RX1 53 "PointTrees" "toldCounts" "[I" ∈ wsX1_findAllOf := by decide +kernel
theorem iw_c_X1_findAllOf_wsX10 : ∀ w ∈ wsX10, w ∈ wsX1_findAllOf := fun _ h => List.mem_cons_of_mem _ (List.mem_append_right _ h)
set_option maxHeartbeats 4000000 in
set_option maxRecDepth 100000 in
theorem c_X1_findAllOf (l : Launch) (dC : Nat → ClassId) (dI : Nat → Nat → Nat) (a : Nat → Nat) (c : Nat → ClassId) (F : Nat → Int32) (A : Nat → Nat → Int32) (Q : Nat → Int64) (sz : Nat) (b f t : Nat) (od : Nat → Nat) (hb1 : b < 31) (hf8 : A 8 b = nI f) (ht9 : A 9 b = nI t) (ht : t ≤ 64) (hft : f ≤ t) (hod : ∀ i, f ≤ i → i < t → A 7 i = nI (od i) ∧ od i < 64) (ft : Nat) (hf2 : A 16 2 = nI ft) (fd : Nat → Prop) (fc : Nat) (hk : pt_ask fd fc F A) : Met l yX1_findAllOf wsX1_findAllOf (pt_rm 1) (pt_W (dC, dI) vwCl (pt_xt c) (pt_xw a c F A Q) pt_nw sz [.ref (a 0), .int (nI b)]) (va_Qv (fun (u : pt_XS) => pt_ask (pt_run fd od (fun t => ¬ A 3 t = 0) f t) (fc + pt_cnt (fun k => f ≤ k ∧ (fun t => ¬ A 3 t = 0) (od k)) t) u.1 u.2.1 ∧ pt_oth F u.1 A u.2.1 ∧ u.2.1 16 = upd (A 16) 2 (nI (ft + pt_cnt (fun k => f ≤ k ∧ (fun t => ¬ A 3 t = 0) (od k)) t)) ∧ u.2.2 = Q) (fun u t => va_P (dC, dI) vwCl (pt_xw a c u.1 u.2.1 u.2.2) t.heap) (va_A (pt_xw a c F A Q) sz)) 0 0 (va_A (pt_xw a c F A Q) sz) := by
  refine Met.ofW (cc := cX1_findAllOf) (maxL := 3) (ret := none) (by decide) rfl ?_
  intro p e s m args below meth cd s₁ B hml hv
  obtain ⟨rfl, hsz, hP, hK, hN, hD0⟩ := hv
  have hx := B.exec
  have hb := B.bytes
  have hr := B.returns
  have hts := atoms_spec (ws := wsX1_findAllOf) B.pre
  have hown : s.vm.findClass RX1 = some m.cls := findClass_of_methodNamed B.named
  have hlocks := B.notSynchronized
  subst hsz
  have hD := hD0.self (sz := s.heap.size)
  generalize hAe : va_A (pt_xw a c F A Q) s.heap.size = AA at hD ⊢
  have hA : ∀ q : Nat, s.heap.size ≤ q → AA q := fun q h => by rw [← hAe]; exact Or.inr h
  have hS : va_S AA s.heap s.heap [] := va_S.rf
  have hl := lv_entry ([.ref (a 0), .int (nI b)]) (n := 3) (Nat.le_of_ble_eq_true rfl)
  rw [lg_entry_eq]
  generalize (lg_sl ([.ref (a 0), .int (nI b)]) ++ List.replicate (3 - (lg_sl ([.ref (a 0), .int (nI b)])).length) Slot.unset).toArray = ls at hl ⊢
  have hl : lv_has ls 3 [(0, .ref (a 0)), (1, .int (nI b))] := hl
  refine lv_aload_n hx hb dX1_findAllOf_0 rfl (lv_at hl 0 rfl) ?_
  refine va_get (D := (dC, dI)) (ci := 1) (v := .ref (a 8)) (C := RX1) (T := TX1) (N := 18) hx hb hts iw_c_X1_findAllOf_wsX10 hown hK hP 0 rfl rfl 8 (by decide) (hts _ wd_c_X1_findAllOf_X1_findAllOf_0) (fun _ h9 => h9) rfl dX1_findAllOf_1 ?_
  refine lv_iload_n hx hb dX1_findAllOf_4 rfl (lv_at hl 1 rfl) ?_
  refine pt_iald hx hb hK hP 5 3 rfl rfl b rfl (by omega) (by decide) dX1_findAllOf_5 ?_
  refine pt_top (y := nI f) hf8 ?_
  refine lv_istore_n (lv' := [(2, .int (nI f)), (0, .ref (a 0)), (1, .int (nI b))]) hx hb dX1_findAllOf_6 rfl hl (by decide) rfl (fun ls hl => ?_)
  have e16 : A 16 = upd (A 16) 2 (nI ft) := by funext z; unfold upd; split <;> first | rfl | (rename_i q; subst q; exact hf2)
  refine pt_loopW (fun q : Nat × pt_XS => t - q.1) (fun q ls H locs => (f ≤ q.1 ∧ q.1 ≤ t) ∧ (pt_ask (pt_run fd od (fun t => ¬ A 3 t = 0) f q.1) (fc + pt_cnt (fun k => f ≤ k ∧ (fun t => ¬ A 3 t = 0) (od k)) q.1) q.2.1 q.2.2.1 ∧ pt_oth F q.2.1 A q.2.2.1 ∧ q.2.2.1 16 = upd (A 16) 2 (nI (ft + pt_cnt (fun k => f ≤ k ∧ (fun t => ¬ A 3 t = 0) (od k)) q.1)) ∧ q.2.2.2 = Q) ∧ va_P (dC, dI) vwCl (pt_xw a c q.2.1 q.2.2.1 q.2.2.2) H ∧ va_D AA (pt_xw a c q.2.1 q.2.2.1 q.2.2.2) ∧ va_S AA s.heap H locs ∧ lv_has ls 3 [(2, .int (nI q.1)), (0, .ref (a 0)), (1, .int (nI b))]) ?_ (f, F, A, Q) _ _ _ ⟨⟨Nat.le_refl _, hft⟩, ⟨hk.c (fun x => pt_run_0) (by show _ = _ + pt_cnt _ f; rw [pt_cntr_0]; rfl), pt_oth.rf, by show A 16 = upd _ 2 (nI (ft + pt_cnt _ f)); rw [pt_cntr_0]; exact e16, rfl⟩, hP, hD, hS, hl⟩
  intro ⟨i, Fi, Ai, Qi⟩ ls H locs ⟨⟨hfi, hit⟩, ⟨hki, hoi, hei, hqi⟩, hP, hD, hS, hl⟩ ih
  dsimp only at hfi hit hki hoi hei hqi hP hD hl ih
  refine lv_iload_n hx hb dX1_findAllOf_7 rfl (lv_at hl 0 rfl) ?_
  refine lv_aload_n hx hb dX1_findAllOf_8 rfl (lv_at hl 1 rfl) ?_
  refine va_get (D := (dC, dI)) (ci := 1) (v := .ref (a 9)) (C := RX1) (T := TX1) (N := 18) hx hb hts iw_c_X1_findAllOf_wsX10 hown hK hP 0 rfl rfl 9 (by decide) (hts _ wd_c_X1_findAllOf_X1_findAllOf_1) (fun _ h9 => h9) rfl dX1_findAllOf_9 ?_
  refine lv_iload_n hx hb dX1_findAllOf_12 rfl (lv_at hl 2 rfl) ?_
  refine pt_iald hx hb hK hP 6 4 rfl rfl b rfl (by omega) (by decide) dX1_findAllOf_13 ?_
  refine pt_top (y := nI t) ((congrFun (hoi.2 9 (by decide) (by decide)) b).trans ht9) ?_
  refine lv_icmp_ge (tgt := 57) hx hb dX1_findAllOf_14 (by decide) (fun c14 => ?_) (fun c14 => ?_)
  · have hie : i = t := by have := (nI_leI (by omega) (by omega)).mp c14; omega
    subst hie
    exact W.vret hx hb hr (fun zt zh zW => ⟨⟨(Fi, Ai, Qi), rfl, ⟨hki, hoi, hei, hqi⟩, by show va_P _ _ _ zt.heap; rw [zh]; exact hP⟩, hS.F zh⟩) hS.2.2 dX1_findAllOf_57
  · have hlt : i < t := Nat.not_le.mp (fun q => c14 ((nI_leI (by omega) (by omega)).mpr q))
    have hoj := (hod i hfi hlt).2
    refine lv_aload_n hx hb dX1_findAllOf_17 rfl (lv_at hl 1 rfl) ?_
    refine va_get (D := (dC, dI)) (ci := 1) (v := .ref (a 3)) (C := RX1) (T := TX1) (N := 18) hx hb hts iw_c_X1_findAllOf_wsX10 hown hK hP 0 rfl rfl 3 (by decide) (hts _ wd_c_X1_findAllOf_X1_findAllOf_2) (fun _ h9 => h9) rfl dX1_findAllOf_18 ?_
    refine lv_aload_n hx hb dX1_findAllOf_21 rfl (lv_at hl 1 rfl) ?_
    refine va_get (D := (dC, dI)) (ci := 1) (v := .ref (a 7)) (C := RX1) (T := TX1) (N := 18) hx hb hts iw_c_X1_findAllOf_wsX10 hown hK hP 0 rfl rfl 7 (by decide) (hts _ wd_c_X1_findAllOf_X1_findAllOf_3) (fun _ h9 => h9) rfl dX1_findAllOf_22 ?_
    refine lv_iload_n hx hb dX1_findAllOf_25 rfl (lv_at hl 0 rfl) ?_
    refine pt_iald hx hb hK hP 4 2 rfl rfl i rfl (by omega) (by decide) dX1_findAllOf_26 ?_
    refine pt_top (y := nI (od i)) ((congrFun (hoi.2 7 (by decide) (by decide)) i).trans (hod i hfi hlt).1) ?_
    refine pt_zald hx hb hK hP 1 0 rfl rfl (od i) rfl (by omega) (by decide) dX1_findAllOf_27 ?_
    refine lv_if_eq (tgt := 51) hx hb dX1_findAllOf_28 (by decide) (fun c28 => ?_) (fun c28 => ?_)
    · refine lv_iinc (v := nI (i + 1)) (lv' := [(2, .int (nI (i + 1))), (0, .ref (a 0)), (1, .int (nI b))]) hx hb dX1_findAllOf_51 hl (k := 0) rfl (nI_1 _) (by decide) rfl (fun ls hl => ?_)
      refine lv_goto (tgt := 7) hx hb dX1_findAllOf_54 (by decide) ?_
      have hno : ¬ (fun t => ¬ A 3 t = 0) (od i) := fun q => q ((congrFun (hoi.2 3 (by decide) (by decide)) (od i)).symm.trans c28)
      exact ih (i + 1, Fi, Ai, Qi) _ _ _ ⟨⟨by show f ≤ i + 1; omega, by show i + 1 ≤ t; omega⟩, ⟨(hki.no (t := od i) hno).c (fun x => pt_run_s (P := (fun t => ¬ A 3 t = 0)) hfi) (by show _ = fc + pt_cnt _ (i + 1); rw [pt_cntr_s (P := fun k => (fun t => ¬ A 3 t = 0) (od k)) hfi, Nat.add_assoc]), hoi, by show Ai 16 = upd _ 2 (nI (ft + pt_cnt _ (i + 1))); rw [pt_cntr_s (P := fun k => (fun t => ¬ A 3 t = 0) (od k)) hfi, pt_cb_f hno]; exact hei, hqi⟩, hP, hD, hS, lv_sub hl [0, 1, 2] rfl⟩ (by show t - (i + 1) < t - i; omega)
    · refine lv_aload_n hx hb dX1_findAllOf_31 rfl (lv_at hl 1 rfl) ?_
      refine lv_aload_n hx hb dX1_findAllOf_32 rfl (lv_at hl 1 rfl) ?_
      refine va_get (D := (dC, dI)) (ci := 1) (v := .ref (a 7)) (C := RX1) (T := TX1) (N := 18) hx hb hts iw_c_X1_findAllOf_wsX10 hown hK hP 0 rfl rfl 7 (by decide) (hts _ wd_c_X1_findAllOf_X1_findAllOf_3) (fun _ h9 => h9) rfl dX1_findAllOf_33 ?_
      refine lv_iload_n hx hb dX1_findAllOf_36 rfl (lv_at hl 0 rfl) ?_
      refine pt_iald hx hb hK hP 4 2 rfl rfl i rfl (by omega) (by decide) dX1_findAllOf_37 ?_
      refine pt_top (y := nI (od i)) ((congrFun (hoi.2 7 (by decide) (by decide)) i).trans (hod i hfi hlt).1) ?_
      refine pt_callv (wf := (fun u : pt_XS => pt_xw a c u.1 u.2.1 u.2.2)) (va_runV (As := [.int (nI (od i))]) (rest := []) ⟨hx, hb, hml, hown, hts⟩ (c_X1_markFound l dC dI a c Fi Ai Qi _ (od i) (by omega) _ _ hki) (cwV 1 hts gX1_findAllOf_X1_markFound rfl rfl rfl (by decide +kernel) ⟨Nat.le_of_ble_eq_true rfl, Nat.le_of_ble_eq_true rfl⟩) (pt_wv1 hP hK hN hD (q0 := 0) rfl) rfl rfl hl.1 rfl (lv_room (Nat.le_of_ble_eq_true rfl)) dX1_findAllOf_38 ⟨Nat.le_of_ble_eq_true rfl, Nat.le_of_ble_eq_true rfl⟩) hD hS hA (fun _ => rfl) (fun u38 H locs hr38 hP hD hS => ?_)
      obtain ⟨F1, A1, Q1⟩ := u38
      obtain ⟨hm1, ho1, he1, hq1⟩ := hr38
      dsimp only at hm1 ho1 he1 hq1 hP hD
      refine lv_aload_n hx hb dX1_findAllOf_41 rfl (lv_at hl 1 rfl) ?_
      refine va_get (D := (dC, dI)) (ci := 1) (v := .ref (a 16)) (C := RX1) (T := TX1) (N := 18) hx hb hts iw_c_X1_findAllOf_wsX10 hown hK hP 0 rfl rfl 16 (by decide) (hts _ wd_c_X1_findAllOf_X1_findAllOf_4) (fun _ h9 => h9) rfl dX1_findAllOf_42 ?_
      refine lv_iconst (v := nI 2) hx hb dX1_findAllOf_45 (by decide) ?_
      refine lv_dup2_11 hx hb dX1_findAllOf_46 rfl rfl ?_
      refine pt_iald hx hb hK hP 14 10 rfl rfl 2 rfl (by decide) (by decide) dX1_findAllOf_47 ?_
      refine pt_top (y := nI (ft + pt_cnt (fun k => f ≤ k ∧ (fun t => ¬ A 3 t = 0) (od k)) i)) (by rw [he1, hei, pt_upd]) ?_
      refine lv_iconst (v := nI 1) hx hb dX1_findAllOf_48 (by decide) ?_
      refine lv_iadd hx hb dX1_findAllOf_49 ?_
      refine pt_top (y := nI ((ft + pt_cnt (fun k => f ≤ k ∧ (fun t => ¬ A 3 t = 0) (od k)) i) + 1)) (nI_add _ _) ?_
      obtain ⟨A2, eA2⟩ : ∃ zz, zz = va_up A1 16 (upd (A1 16) 2 (nI ((ft + pt_cnt (fun k => f ≤ k ∧ (fun t => ¬ A 3 t = 0) (od k)) i) + 1))) := ⟨_, rfl⟩
      refine pt_iast hx hb hK hP hD hS 14 10 rfl rfl 2 rfl (by decide) (by decide) (ws' := (pt_xw a c F1 A2 Q1)) (by rw [eA2]; rfl) dX1_findAllOf_50 (fun H locs hP hD hS => ?_)
      refine lv_iinc (v := nI (i + 1)) (lv' := [(2, .int (nI (i + 1))), (0, .ref (a 0)), (1, .int (nI b))]) hx hb dX1_findAllOf_51 hl (k := 0) rfl (nI_1 _) (by decide) rfl (fun ls hl => ?_)
      refine lv_goto (tgt := 7) hx hb dX1_findAllOf_54 (by decide) ?_
      have hyes : (fun t => ¬ A 3 t = 0) (od i) := fun q => c28 ((congrFun (hoi.2 3 (by decide) (by decide)) (od i)).trans q)
      have ea14 : A2 14 = A1 14 := by rw [eA2]; exact pt_up_ne (by decide)
      have eo : pt_oth F F1 A A2 := (hoi.tr ho1).tr ⟨fun _ _ => rfl, fun j _ h2 => by rw [eA2]; exact pt_up_ne h2⟩
      have e16n : A2 16 = upd (A 16) 2 (nI (ft + pt_cnt (fun k => f ≤ k ∧ (fun t => ¬ A 3 t = 0) (od k)) (i + 1))) := by rw [eA2, pt_up, pt_cntr_s (P := fun k => (fun t => ¬ A 3 t = 0) (od k)) hfi, pt_cb_t hyes, he1, hei]; funext z; unfold upd; split <;> rfl
      exact ih (i + 1, F1, A2, Q1) _ _ _ ⟨⟨by show f ≤ i + 1; omega, by show i + 1 ≤ t; omega⟩, ⟨((hm1.m rfl ea14).yes hyes).c (fun x => pt_run_s (P := (fun t => ¬ A 3 t = 0)) hfi) (by show _ = fc + pt_cnt _ (i + 1); rw [pt_cntr_s (P := fun k => (fun t => ¬ A 3 t = 0) (od k)) hfi, Nat.add_assoc]), eo, e16n, hq1.trans hqi⟩, hP, hD, hS, lv_sub hl [0, 1, 2] rfl⟩ (by show t - (i + 1) < t - i; omega)

theorem pt_ask_0 {F : Nat → Int32} {A : Nat → Nat → Int32} (h : F 15 = nI 0) (ha : ∀ x, x < 64 → A 14 x = 0) : pt_ask (fun _ => False) 0 F A := ⟨h, fun x hx => by rw [ha x hx]; exact pt_B.zero (fun q => q), by rw [pt_cnt_none 64 (fun _ _ q => q)]; exact Nat.le_refl 0⟩

theorem wd_c_X1_forgetAsked_X1_forgetAsked_0 : Cond.fieldLink RX1 114 "PointTrees" "foundCount" "I" ∈ wsX1_forgetAsked := by decide +kernel
theorem wd_c_X1_forgetAsked_X1_forgetAsked_1 : Cond.fieldLink RX1 53 "PointTrees" "toldCounts" "[I" ∈ wsX1_forgetAsked := by decide +kernel
theorem wd_c_X1_forgetAsked_X1_forgetAsked_2 : Cond.fieldLink RX1 50 "PointTrees" "isFound" "[Z" ∈ wsX1_forgetAsked := by decide +kernel
theorem iw_c_X1_forgetAsked_wsX10 : ∀ w ∈ wsX10, w ∈ wsX1_forgetAsked := fun _ h => List.mem_cons_of_mem _ (List.mem_append_right _ h)
set_option maxHeartbeats 4000000 in
set_option maxRecDepth 100000 in
theorem c_X1_forgetAsked (l : Launch) (dC : Nat → ClassId) (dI : Nat → Nat → Nat) (a : Nat → Nat) (c : Nat → ClassId) (F : Nat → Int32) (A : Nat → Nat → Int32) (Q : Nat → Int64) (sz : Nat) : Met l yX1_forgetAsked wsX1_forgetAsked (pt_rm 0) (pt_W (dC, dI) vwCl (pt_xt c) (pt_xw a c F A Q) pt_nw sz [.ref (a 0)]) (va_Qv (fun (u : pt_XS) => pt_ask (fun _ => False) 0 u.1 u.2.1 ∧ (∀ x, x < 3 → u.2.1 16 x = nI 0) ∧ pt_oth F u.1 A u.2.1 ∧ u.2.2 = Q) (fun u t => va_P (dC, dI) vwCl (pt_xw a c u.1 u.2.1 u.2.2) t.heap) (va_A (pt_xw a c F A Q) sz)) 0 0 (va_A (pt_xw a c F A Q) sz) := by
  refine Met.ofW (cc := cX1_forgetAsked) (maxL := 2) (ret := none) (by decide) rfl ?_
  intro p e s m args below meth cd s₁ B hml hv
  obtain ⟨rfl, hsz, hP, hK, hN, hD0⟩ := hv
  have hx := B.exec
  have hb := B.bytes
  have hr := B.returns
  have hts := atoms_spec (ws := wsX1_forgetAsked) B.pre
  have hown : s.vm.findClass RX1 = some m.cls := findClass_of_methodNamed B.named
  have hlocks := B.notSynchronized
  subst hsz
  have hD := hD0.self (sz := s.heap.size)
  generalize hAe : va_A (pt_xw a c F A Q) s.heap.size = AA at hD ⊢
  have hA : ∀ q : Nat, s.heap.size ≤ q → AA q := fun q h => by rw [← hAe]; exact Or.inr h
  have hS : va_S AA s.heap s.heap [] := va_S.rf
  have hl := lv_entry ([.ref (a 0)]) (n := 2) (Nat.le_of_ble_eq_true rfl)
  rw [lg_entry_eq]
  generalize (lg_sl ([.ref (a 0)]) ++ List.replicate (2 - (lg_sl ([.ref (a 0)])).length) Slot.unset).toArray = ls at hl ⊢
  have hl : lv_has ls 2 [(0, .ref (a 0))] := hl
  refine lv_iconst (v := nI 0) hx hb dX1_forgetAsked_0 (by decide) ?_
  refine lv_istore_n (lv' := [(1, .int (nI 0)), (0, .ref (a 0))]) hx hb dX1_forgetAsked_1 rfl hl (by decide) rfl (fun ls hl => ?_)
  refine pt_loopW (fun q : Nat × (Nat → Nat → Int32) => 64 - q.1) (fun q ls H locs => q.1 ≤ 64 ∧ ((∀ x, x < q.1 → q.2 14 x = 0) ∧ ∀ j, j ≠ 14 → q.2 j = A j) ∧ va_P (dC, dI) vwCl (pt_xw a c F q.2 Q) H ∧ va_D AA (pt_xw a c F q.2 Q) ∧ va_S AA s.heap H locs ∧ lv_has ls 2 [(1, .int (nI q.1)), (0, .ref (a 0))]) ?_ (0, A) _ _ _ ⟨Nat.zero_le _, ⟨fun x hx => absurd hx (Nat.not_lt_zero _), fun _ _ => rfl⟩, hP, hD, hS, hl⟩
  intro ⟨i, Ai⟩ ls H locs ⟨hi, ⟨hz, hsa⟩, hP, hD, hS, hl⟩ ih
  dsimp only at hi hz hsa hP hD hl ih
  refine lv_iload_n hx hb dX1_forgetAsked_2 rfl (lv_at hl 0 rfl) ?_
  refine lv_bipush (v := nI 64) hx hb dX1_forgetAsked_3 (by decide) ?_
  refine lv_icmp_ge (tgt := 21) hx hb dX1_forgetAsked_5 (by decide) (fun c5 => ?_) (fun c5 => ?_)
  · have hie : i = 64 := by have := (nI_leI (by omega) (by omega)).mp c5; omega
    subst hie
    refine lv_aload_n hx hb dX1_forgetAsked_21 rfl (lv_at hl 1 rfl) ?_
    refine lv_iconst (v := nI 0) hx hb dX1_forgetAsked_22 (by decide) ?_
    obtain ⟨F1, eF1⟩ : ∃ zz, zz = upd F 15 (nI 0) := ⟨_, rfl⟩
    refine va_put (D := (dC, dI)) (ci := 1) (v := .int (nI 0)) (ty := .int) (C := RX1) (T := TX1) (N := 18) hx hb hts iw_c_X1_forgetAsked_wsX10 tyX1 tyX1_ok nmX1 hown hK hP hD hS 0 rfl rfl 15 (by decide) (hts _ wd_c_X1_forgetAsked_X1_forgetAsked_0) (fun _ h9 => h9) rfl (by decide +kernel) rfl rfl (Nat.le_of_ble_eq_true rfl) dX1_forgetAsked_23 (fun H locs hP hD hS => ?_)
    have hP : va_P (dC, dI) vwCl (pt_xw a c F1 Ai Q) H := by rw [eF1]; exact hP
    have hD : va_D AA (pt_xw a c F1 Ai Q) := by rw [eF1]; exact hD
    have kF1_15 : F1 15 = nI 0 := by rw [eF1, pt_upd]
    refine lv_iconst (v := nI 0) hx hb dX1_forgetAsked_26 (by decide) ?_
    refine lv_istore_n (lv' := [(1, .int (nI 0)), (0, .ref (a 0))]) hx hb dX1_forgetAsked_27 rfl hl (by decide) rfl (fun ls hl => ?_)
    refine pt_loopW (fun q : Nat × (Nat → Nat → Int32) => 3 - q.1) (fun q ls H locs => q.1 ≤ 3 ∧ ((∀ x, x < q.1 → q.2 16 x = nI 0) ∧ ∀ j, j ≠ 16 → q.2 j = Ai j) ∧ va_P (dC, dI) vwCl (pt_xw a c F1 q.2 Q) H ∧ va_D AA (pt_xw a c F1 q.2 Q) ∧ va_S AA s.heap H locs ∧ lv_has ls 2 [(1, .int (nI q.1)), (0, .ref (a 0))]) ?_ (0, Ai) _ _ _ ⟨Nat.zero_le _, ⟨fun x hx => absurd hx (Nat.not_lt_zero _), fun _ _ => rfl⟩, hP, hD, hS, hl⟩
    intro ⟨k, Ak⟩ ls H locs ⟨hk, ⟨hzk, hsk⟩, hP, hD, hS, hl⟩ ihk
    dsimp only at hk hzk hsk hP hD hl ihk
    refine lv_iload_n hx hb dX1_forgetAsked_28 rfl (lv_at hl 0 rfl) ?_
    refine lv_iconst (v := nI 3) hx hb dX1_forgetAsked_29 (by decide) ?_
    refine lv_icmp_ge (tgt := 46) hx hb dX1_forgetAsked_30 (by decide) (fun c30 => ?_) (fun c30 => ?_)
    · have hke : k = 3 := by have := (nI_leI (by omega) (by omega)).mp c30; omega
      subst hke
      exact W.vret hx hb hr (fun zt zh zW => ⟨⟨(F1, Ak, Q), rfl, ⟨pt_ask_0 (by show F1 15 = nI 0; rw [eF1]; exact pt_upd) (fun x hx => by show Ak 14 x = 0; rw [hsk 14 (by decide)]; exact hz x hx), hzk, ⟨fun j hj => by show F1 j = F j; rw [eF1]; exact pt_upd_ne hj, fun j h1 h2 => (hsk j h2).trans (hsa j h1)⟩, rfl⟩, by show va_P _ _ _ zt.heap; rw [zh]; exact hP⟩, hS.F zh⟩) hS.2.2 dX1_forgetAsked_46
    · have hltk : k < 3 := Nat.not_le.mp (fun q => c30 ((nI_leI (by omega) (by omega)).mpr q))
      refine lv_aload_n hx hb dX1_forgetAsked_33 rfl (lv_at hl 1 rfl) ?_
      refine va_get (D := (dC, dI)) (ci := 1) (v := .ref (a 16)) (C := RX1) (T := TX1) (N := 18) hx hb hts iw_c_X1_forgetAsked_wsX10 hown hK hP 0 rfl rfl 16 (by decide) (hts _ wd_c_X1_forgetAsked_X1_forgetAsked_1) (fun _ h9 => h9) rfl dX1_forgetAsked_34 ?_
      refine lv_iload_n hx hb dX1_forgetAsked_37 rfl (lv_at hl 0 rfl) ?_
      refine lv_iconst (v := nI 0) hx hb dX1_forgetAsked_38 (by decide) ?_
      obtain ⟨A2, eA2⟩ : ∃ zz, zz = va_up Ak 16 (upd (Ak 16) k (nI 0)) := ⟨_, rfl⟩
      refine pt_iast hx hb hK hP hD hS 14 10 rfl rfl k rfl (by omega) (by decide) (ws' := (pt_xw a c F1 A2 Q)) (by rw [eA2]; rfl) dX1_forgetAsked_39 (fun H locs hP hD hS => ?_)
      refine lv_iinc (v := nI (k + 1)) (lv' := [(1, .int (nI (k + 1))), (0, .ref (a 0))]) hx hb dX1_forgetAsked_40 hl (k := 0) rfl (nI_1 _) (by decide) rfl (fun ls hl => ?_)
      refine lv_goto (tgt := 28) hx hb dX1_forgetAsked_43 (by decide) ?_
      exact ihk (k + 1, A2) _ _ _ ⟨by show k + 1 ≤ 3; omega, ⟨fun x hx => by show A2 16 x = nI 0; rw [eA2, pt_up]; exact pt_upd_s (g := fun _ => nI 0) hzk rfl x hx, fun j hj => by show A2 j = Ai j; rw [eA2, pt_up_ne hj]; exact hsk j hj⟩, hP, hD, hS, lv_sub hl [0, 1] rfl⟩ (by show 3 - (k + 1) < 3 - k; omega)
  · have hlt : i < 64 := Nat.not_le.mp (fun q => c5 ((nI_leI (by omega) (by omega)).mpr q))
    refine lv_aload_n hx hb dX1_forgetAsked_8 rfl (lv_at hl 1 rfl) ?_
    refine va_get (D := (dC, dI)) (ci := 1) (v := .ref (a 14)) (C := RX1) (T := TX1) (N := 18) hx hb hts iw_c_X1_forgetAsked_wsX10 hown hK hP 0 rfl rfl 14 (by decide) (hts _ wd_c_X1_forgetAsked_X1_forgetAsked_2) (fun _ h9 => h9) rfl dX1_forgetAsked_9 ?_
    refine lv_iload_n hx hb dX1_forgetAsked_12 rfl (lv_at hl 0 rfl) ?_
    refine lv_iconst (v := 0) hx hb dX1_forgetAsked_13 (by decide) ?_
    obtain ⟨A3, eA3⟩ : ∃ zz, zz = va_up Ai 14 (upd (Ai 14) i 0) := ⟨_, rfl⟩
    refine pt_zast hx hb hK hP hD hS 13 9 rfl rfl i rfl (by omega) (by decide) rfl (ws' := (pt_xw a c F A3 Q)) (by rw [eA3]; rfl) dX1_forgetAsked_14 (fun H locs hP hD hS => ?_)
    refine lv_iinc (v := nI (i + 1)) (lv' := [(1, .int (nI (i + 1))), (0, .ref (a 0))]) hx hb dX1_forgetAsked_15 hl (k := 0) rfl (nI_1 _) (by decide) rfl (fun ls hl => ?_)
    refine lv_goto (tgt := 2) hx hb dX1_forgetAsked_18 (by decide) ?_
    exact ih (i + 1, A3) _ _ _ ⟨by show i + 1 ≤ 64; omega, ⟨fun x hx => by show A3 14 x = 0; rw [eA3, pt_up]; exact pt_upd_s (g := fun _ => 0) hz rfl x hx, fun j hj => by show A3 j = A j; rw [eA3, pt_up_ne hj]; exact hsa j hj⟩, hP, hD, hS, lv_sub hl [0, 1] rfl⟩ (by show 64 - (i + 1) < 64 - i; omega)
end
section
/-! range() in words: dn n: up to where the row of things is done behind the first n blocks; vis: a block is looked at -/
noncomputable def pt_dn (tO ot vd : Nat → Nat) : Nat → Nat
  | 0 => 0
  | b + 1 => pt_if (tO b ≤ pt_dn tO ot vd b) (pt_dn tO ot vd b) (pt_if (vd b = 2 ∧ ¬ ot b = 0) (pt_dn tO ot vd b) (tO b))
def pt_vis (tO ot vd : Nat → Nat) (b : Nat) : Prop := ¬ tO b ≤ pt_dn tO ot vd b
def pt_FB (fr tO ot od vd : Nat → Nat) (th P : Nat → Prop) (b x : Nat) : Prop := pt_vis tO ot vd b ∧ ((vd b = 1 ∧ ∃ k, fr b ≤ k ∧ k < tO b ∧ x = od k ∧ th (od k)) ∨ (vd b = 2 ∧ ot b = 0 ∧ ∃ k, fr b ≤ k ∧ k < tO b ∧ x = od k ∧ P (od k)))
def pt_FD (fr tO ot od vd : Nat → Nat) (th P : Nat → Prop) (n x : Nat) : Prop := ∃ b, b < n ∧ pt_FB fr tO ot od vd th P b x
noncomputable def pt_nA (fr tO od : Nat → Nat) (th : Nat → Prop) (b : Nat) : Nat := pt_cnt (fun k => fr b ≤ k ∧ th (od k)) (tO b)
noncomputable def pt_FC (fr tO ot od vd : Nat → Nat) (th P : Nat → Prop) (n : Nat) : Nat := pt_sum (fun b => pt_if (pt_vis tO ot vd b ∧ vd b = 1) (pt_nA fr tO od th b) (pt_if (pt_vis tO ot vd b ∧ vd b = 2 ∧ ot b = 0) (pt_nA fr tO od P b) 0)) n
noncomputable def pt_FT (fr tO ot od vd : Nat → Nat) (th P : Nat → Prop) (n : Nat) : Nat := pt_sum (fun b => pt_if (pt_vis tO ot vd b ∧ vd b = 1) (pt_nA fr tO od th b) 0) n
noncomputable def pt_OP (tO ot vd : Nat → Nat) (n : Nat) : Nat := pt_cnt (fun b => pt_vis tO ot vd b ∧ vd b = 2) n
noncomputable def pt_SE (tO ot vd : Nat → Nat) (n : Nat) : Nat := pt_cnt (fun b => pt_vis tO ot vd b ∧ ¬ vd b = 2) n
theorem pt_FD_s {fr tO ot od vd : Nat → Nat} {th P : Nat → Prop} {n x : Nat} : pt_FD fr tO ot od vd th P (n + 1) x ↔ pt_FD fr tO ot od vd th P n x ∨ pt_FB fr tO ot od vd th P n x := by
  constructor
  · rintro ⟨b, hb, h⟩
    rcases Nat.lt_or_ge b n with q | q
    · exact Or.inl ⟨b, q, h⟩
    · have : b = n := by omega
      subst this; exact Or.inr h
  · rintro (⟨b, hb, h⟩ | h)
    · exact ⟨b, by omega, h⟩
    · exact ⟨n, by omega, h⟩
theorem pt_FC_s {fr tO ot od vd : Nat → Nat} {th P : Nat → Prop} {n : Nat} : pt_FC fr tO ot od vd th P (n + 1) = pt_FC fr tO ot od vd th P n + pt_if (pt_vis tO ot vd n ∧ vd n = 1) (pt_nA fr tO od th n) (pt_if (pt_vis tO ot vd n ∧ vd n = 2 ∧ ot n = 0) (pt_nA fr tO od P n) 0) := rfl
theorem pt_FT_s {fr tO ot od vd : Nat → Nat} {th P : Nat → Prop} {n : Nat} : pt_FT fr tO ot od vd th P (n + 1) = pt_FT fr tO ot od vd th P n + pt_if (pt_vis tO ot vd n ∧ vd n = 1) (pt_nA fr tO od th n) 0 := rfl
/-- the class's cells behind the first n blocks -/
def pt_AB (fr tO ot od vd : Nat → Nat) (th P : Nat → Prop) (n : Nat) (F : Nat → Int32) (A : Nat → Nat → Int32) : Prop := pt_ask (pt_FD fr tO ot od vd th P n) (pt_FC fr tO ot od vd th P n) F A ∧ A 16 0 = nI (pt_OP tO ot vd n) ∧ A 16 1 = nI (pt_SE tO ot vd n) ∧ A 16 2 = nI (pt_FT fr tO ot od vd th P n)
section PTAB
variable {fr tO ot od vd : Nat → Nat} {th P : Nat → Prop} {n : Nat} {F F' : Nat → Int32} {A A' : Nat → Nat → Int32}
theorem pt_AB_0 (h : pt_ask (fun _ => False) 0 F A) (h3 : ∀ x, x < 3 → A 16 x = nI 0) : pt_AB fr tO ot od vd th P 0 F A :=
  ⟨h.c (fun x => ⟨fun q => q.elim, fun ⟨b, hb, _⟩ => absurd hb (Nat.not_lt_zero _)⟩) rfl, h3 0 (by decide), h3 1 (by decide), h3 2 (by decide)⟩
theorem pt_AB.skip (h : pt_AB fr tO ot od vd th P n F A) (hv : ¬ pt_vis tO ot vd n) : pt_AB fr tO ot od vd th P (n + 1) F A := by
  obtain ⟨ha, h0, h1, h2⟩ := h
  refine ⟨ha.c (fun x => ⟨fun q => pt_FD_s.mpr (Or.inl q), fun q => (pt_FD_s.mp q).elim id (fun q => absurd q.1 hv)⟩) ?_, ?_, ?_, ?_⟩
  · rw [pt_FC_s, pt_if_f (fun q => hv q.1), pt_if_f (fun q => hv q.1)]; rfl
  · rw [h0]; unfold pt_OP; rw [pt_cnt_f (fun q => hv q.1)]
  · rw [h1]; unfold pt_SE; rw [pt_cnt_f (fun q => hv q.1)]
  · rw [h2, pt_FT_s, pt_if_f (fun q => hv q.1)]; rfl
theorem pt_AB.none (h : pt_AB fr tO ot od vd th P n F A) (hv : pt_vis tO ot vd n) (g1 : ¬ vd n = 1) (g2 : ¬ vd n = 2) (e14 : A' 14 = A 14) (e16 : A' 16 = upd (A 16) 1 (nI (pt_SE tO ot vd n + 1))) : pt_AB fr tO ot od vd th P (n + 1) F A' := by
  obtain ⟨ha, h0, h1, h2⟩ := h
  refine ⟨(ha.m rfl e14).c (fun x => ⟨fun q => pt_FD_s.mpr (Or.inl q), fun q => (pt_FD_s.mp q).elim id (fun q => q.2.elim (fun q => absurd q.1 g1) (fun q => absurd q.1 g2))⟩) ?_, ?_, ?_, ?_⟩
  · rw [pt_FC_s, pt_if_f (fun q => g1 q.2), pt_if_f (fun q => g2 q.2.1)]; rfl
  · rw [e16, pt_upd_ne (by decide), h0]; unfold pt_OP; rw [pt_cnt_f (fun q => g2 q.2)]
  · rw [e16, pt_upd]; unfold pt_SE; rw [pt_cnt_t ⟨hv, g2⟩]
  · rw [e16, pt_upd_ne (by decide), h2, pt_FT_s, pt_if_f (fun q => g1 q.2)]; rfl
theorem pt_AB.all (h : pt_AB fr tO ot od vd th P n F A) (hv : pt_vis tO ot vd n) (g1 : vd n = 1) (ha : pt_ask (pt_run (pt_FD fr tO ot od vd th P n) od th (fr n) (tO n)) (pt_FC fr tO ot od vd th P n + pt_cnt (fun k => fr n ≤ k ∧ th (od k)) (tO n)) F' A') (e16 : A' 16 = upd (upd (A 16) 1 (nI (pt_SE tO ot vd n + 1))) 2 (nI (pt_FT fr tO ot od vd th P n + pt_cnt (fun k => fr n ≤ k ∧ th (od k)) (tO n)))) : pt_AB fr tO ot od vd th P (n + 1) F' A' := by
  obtain ⟨_, h0, h1, h2⟩ := h
  have g2 : ¬ vd n = 2 := by omega
  refine ⟨ha.c (fun x => ?_) ?_, ?_, ?_, ?_⟩
  · rw [pt_FD_s]
    constructor
    · rintro (q | ⟨k, k1, k2, k3, k4⟩)
      · exact Or.inl q
      · exact Or.inr ⟨hv, Or.inl ⟨g1, k, k1, k2, k3, k4⟩⟩
    · rintro (q | ⟨_, ⟨_, q⟩ | ⟨q, _⟩⟩)
      · exact Or.inl q
      · exact Or.inr q
      · exact absurd q g2
  · rw [pt_FC_s, pt_if_t ⟨hv, g1⟩]; rfl
  · rw [e16, pt_upd_ne (by decide), pt_upd_ne (by decide), h0]; unfold pt_OP; rw [pt_cnt_f (fun q => g2 q.2)]
  · rw [e16, pt_upd_ne (by decide), pt_upd]; unfold pt_SE; rw [pt_cnt_t ⟨hv, g2⟩]
  · rw [e16, pt_upd, pt_FT_s, pt_if_t ⟨hv, g1⟩]; rfl
theorem pt_AB.part (h : pt_AB fr tO ot od vd th P n F A) (hv : pt_vis tO ot vd n) (g2 : vd n = 2) (go : ¬ ot n = 0) (e14 : A' 14 = A 14) (e16 : A' 16 = upd (A 16) 0 (nI (pt_OP tO ot vd n + 1))) : pt_AB fr tO ot od vd th P (n + 1) F A' := by
  obtain ⟨ha, h0, h1, h2⟩ := h
  have g1 : ¬ vd n = 1 := by omega
  refine ⟨(ha.m rfl e14).c (fun x => ⟨fun q => pt_FD_s.mpr (Or.inl q), fun q => (pt_FD_s.mp q).elim id (fun q => q.2.elim (fun q => absurd q.1 g1) (fun q => absurd q.2.1 go))⟩) ?_, ?_, ?_, ?_⟩
  · rw [pt_FC_s, pt_if_f (fun q => g1 q.2), pt_if_f (fun q => go q.2.2)]; rfl
  · rw [e16, pt_upd]; unfold pt_OP; rw [pt_cnt_t ⟨hv, g2⟩]
  · rw [e16, pt_upd_ne (by decide), h1]; unfold pt_SE; rw [pt_cnt_f (fun q => q.2 g2)]
  · rw [e16, pt_upd_ne (by decide), h2, pt_FT_s, pt_if_f (fun q => g1 q.2)]; rfl
theorem pt_AB.leaf (h : pt_AB fr tO ot od vd th P n F A) (hv : pt_vis tO ot vd n) (g2 : vd n = 2) (go : ot n = 0) (ha : pt_ask (pt_run (pt_FD fr tO ot od vd th P n) od P (fr n) (tO n)) (pt_FC fr tO ot od vd th P n + pt_cnt (fun k => fr n ≤ k ∧ P (od k)) (tO n)) F' A') (e16 : A' 16 = upd (A 16) 0 (nI (pt_OP tO ot vd n + 1))) : pt_AB fr tO ot od vd th P (n + 1) F' A' := by
  obtain ⟨_, h0, h1, h2⟩ := h
  have g1 : ¬ vd n = 1 := by omega
  refine ⟨ha.c (fun x => ?_) ?_, ?_, ?_, ?_⟩
  · rw [pt_FD_s]
    constructor
    · rintro (q | ⟨k, k1, k2, k3, k4⟩)
      · exact Or.inl q
      · exact Or.inr ⟨hv, Or.inr ⟨g2, go, k, k1, k2, k3, k4⟩⟩
    · rintro (q | ⟨_, ⟨q, _⟩ | ⟨_, _, q⟩⟩)
      · exact Or.inl q
      · exact absurd q g1
      · exact Or.inr q
  · rw [pt_FC_s, pt_if_f (fun q => g1 q.2), pt_if_t ⟨hv, g2, go⟩]; rfl
  · rw [e16, pt_upd]; unfold pt_OP; rw [pt_cnt_t ⟨hv, g2⟩]
  · rw [e16, pt_upd_ne (by decide), h1]; unfold pt_SE; rw [pt_cnt_f (fun q => q.2 g2)]
  · rw [e16, pt_upd_ne (by decide), h2, pt_FT_s, pt_if_f (fun q => g1 q.2)]; rfl
theorem pt_dn_skip (hv : ¬ pt_vis tO ot vd n) : pt_dn tO ot vd (n + 1) = pt_dn tO ot vd n := by
  show pt_if _ _ _ = _
  rw [pt_if_t (Classical.not_not.mp hv)]
theorem pt_dn_part (hv : pt_vis tO ot vd n) (g2 : vd n = 2) (go : ¬ ot n = 0) : pt_dn tO ot vd (n + 1) = pt_dn tO ot vd n := by
  show pt_if _ _ _ = _
  rw [pt_if_f hv, pt_if_t ⟨g2, go⟩]
theorem pt_dn_to (hv : pt_vis tO ot vd n) (g : ¬ (vd n = 2 ∧ ¬ ot n = 0)) : pt_dn tO ot vd (n + 1) = tO n := by
  show pt_if _ _ _ = _
  rw [pt_if_f hv, pt_if_f g]
end PTAB
theorem pt_dn_le {tO ot vd : Nat → Nat} {m : Nat} : ∀ n, (∀ b, b < n → tO b ≤ m) → pt_dn tO ot vd n ≤ m
  | 0, _ => Nat.zero_le _
  | n + 1, h => by
    have h1 := pt_dn_le (ot := ot) (vd := vd) n (fun b hb => h b (by omega))
    by_cases hv : pt_vis tO ot vd n
    · by_cases g : vd n = 2 ∧ ¬ ot n = 0
      · rw [pt_dn_part hv g.1 g.2]; exact h1
      · rw [pt_dn_to hv g]; exact h n (by omega)
    · rw [pt_dn_skip hv]; exact h1
theorem pt_vd_le (rel : Nat) (mt wi ho : Prop) : pt_vd rel mt wi ho ≤ 2 := by
  unfold pt_vd pt_if
  split
  · split <;> decide
  · split
    · split
      · split <;> decide
      · decide
    · split <;> decide

theorem wd_c_X1_askBlocks_X1_askBlocks_0 : Cond.fieldLink RX1 66 "PointTrees" "blocks" "I" ∈ wsX1_askBlocks := by decide +kernel
theorem wd_c_X1_askBlocks_X1_askBlocks_1 : Cond.fieldLink RX1 35 "PointTrees" "blockTo" "[I" ∈ wsX1_askBlocks := by decide +kernel
theorem wd_c_X1_askBlocks_X1_askBlocks_2 : Cond.fieldLink RX1 53 "PointTrees" "toldCounts" "[I" ∈ wsX1_askBlocks := by decide +kernel
theorem iw_c_X1_askBlocks_wsX10 : ∀ w ∈ wsX10, w ∈ wsX1_askBlocks := fun _ h => List.mem_cons_of_mem _ (List.mem_append_left _ (List.mem_append_right _ h))
theorem iw_c_X1_askBlocks_wsX00 : ∀ w ∈ wsX00, w ∈ wsX1_askBlocks := fun _ h => List.mem_cons_of_mem _ (List.mem_append_right _ h)
set_option maxHeartbeats 4000000 in
set_option maxRecDepth 100000 in
theorem c_X1_askBlocks (l : Launch) (dC : Nat → ClassId) (dI : Nat → Nat → Nat) (a : Nat → Nat) (c : Nat → ClassId) (F : Nat → Int32) (A : Nat → Nat → Int32) (Q : Nat → Int64) (sz : Nat) (ax : Nat) (h0 : F 0 = nI ax) (hax : ax ≤ 3) (nb : Nat) (h5 : F 5 = nI nb) (hnb : nb ≤ 31) (fr tO ot od : Nat → Nat) (N : Nat) (hN64 : N ≤ 64) (htr : ∀ b, b < nb → A 8 b = nI (fr b) ∧ A 9 b = nI (tO b) ∧ A 10 b = nI (ot b) ∧ fr b ≤ tO b ∧ tO b ≤ N ∧ ot b ≤ 31) (hod : ∀ i, i < N → A 7 i = nI (od i) ∧ od i < 64) (rel : Nat) (hrel : rel ≤ 3) (hk : pt_AB fr tO ot od (fun b => pt_vd rel (pt_mee ax (A 12) (A 13) b 0) (pt_wn ax (A 12) (A 13) b 0) (pt_wn ax (A 13) (A 12) 0 b)) (fun t => ¬ A 3 t = 0) (pt_Px ax rel (A 3) (A 4) (A 13)) 0 F A) : Met l yX1_askBlocks wsX1_askBlocks (pt_rm 5) (pt_W (dC, dI) vwCl (pt_xt c) (pt_xw a c F A Q) pt_nw sz [.ref (a 0), .int (nI rel)]) (va_Qv (fun (u : pt_XS) => pt_AB fr tO ot od (fun b => pt_vd rel (pt_mee ax (A 12) (A 13) b 0) (pt_wn ax (A 12) (A 13) b 0) (pt_wn ax (A 13) (A 12) 0 b)) (fun t => ¬ A 3 t = 0) (pt_Px ax rel (A 3) (A 4) (A 13)) nb u.1 u.2.1 ∧ pt_oth F u.1 A u.2.1 ∧ u.2.2 = Q) (fun u t => va_P (dC, dI) vwCl (pt_xw a c u.1 u.2.1 u.2.2) t.heap) (va_A (pt_xw a c F A Q) sz)) 0 0 (va_A (pt_xw a c F A Q) sz) := by
  refine Met.ofW (cc := cX1_askBlocks) (maxL := 5) (ret := none) (by decide) rfl ?_
  intro p e s m args below meth cd s₁ B hml hv
  obtain ⟨rfl, hsz, hP, hK, hN, hD0⟩ := hv
  have hx := B.exec
  have hb := B.bytes
  have hr := B.returns
  have hts := atoms_spec (ws := wsX1_askBlocks) B.pre
  have hown : s.vm.findClass RX1 = some m.cls := findClass_of_methodNamed B.named
  have hlocks := B.notSynchronized
  subst hsz
  have hD := hD0.self (sz := s.heap.size)
  generalize hAe : va_A (pt_xw a c F A Q) s.heap.size = AA at hD ⊢
  have hA : ∀ q : Nat, s.heap.size ≤ q → AA q := fun q h => by rw [← hAe]; exact Or.inr h
  have hS : va_S AA s.heap s.heap [] := va_S.rf
  have hl := lv_entry ([.ref (a 0), .int (nI rel)]) (n := 5) (Nat.le_of_ble_eq_true rfl)
  rw [lg_entry_eq]
  generalize (lg_sl ([.ref (a 0), .int (nI rel)]) ++ List.replicate (5 - (lg_sl ([.ref (a 0), .int (nI rel)])).length) Slot.unset).toArray = ls at hl ⊢
  have hl : lv_has ls 5 [(0, .ref (a 0)), (1, .int (nI rel))] := hl
  refine lv_iconst (v := nI 0) hx hb dX1_askBlocks_0 (by decide) ?_
  refine lv_istore_n (lv' := [(2, .int (nI 0)), (0, .ref (a 0)), (1, .int (nI rel))]) hx hb dX1_askBlocks_1 rfl hl (by decide) rfl (fun ls hl => ?_)
  refine lv_iconst (v := nI 0) hx hb dX1_askBlocks_2 (by decide) ?_
  refine lv_istore_n (lv' := [(3, .int (nI 0)), (2, .int (nI 0)), (0, .ref (a 0)), (1, .int (nI rel))]) hx hb dX1_askBlocks_3 rfl hl (by decide) rfl (fun ls hl => ?_)
  have hdl : ∀ n, n ≤ nb → pt_dn tO ot (fun b => pt_vd rel (pt_mee ax (A 12) (A 13) b 0) (pt_wn ax (A 12) (A 13) b 0) (pt_wn ax (A 13) (A 12) 0 b)) n ≤ 64 := fun n hn => pt_dn_le n (fun b hb => by have := htr b (by omega); omega)
  have hvl : ∀ b, (fun b => pt_vd rel (pt_mee ax (A 12) (A 13) b 0) (pt_wn ax (A 12) (A 13) b 0) (pt_wn ax (A 13) (A 12) 0 b)) b ≤ 2 := fun b => pt_vd_le _ _ _ _
  refine pt_loopW (fun q : Nat × pt_XS => nb - q.1) (fun q ls H locs => q.1 ≤ nb ∧ (pt_AB fr tO ot od (fun b => pt_vd rel (pt_mee ax (A 12) (A 13) b 0) (pt_wn ax (A 12) (A 13) b 0) (pt_wn ax (A 13) (A 12) 0 b)) (fun t => ¬ A 3 t = 0) (pt_Px ax rel (A 3) (A 4) (A 13)) q.1 q.2.1 q.2.2.1 ∧ pt_oth F q.2.1 A q.2.2.1 ∧ q.2.2.2 = Q) ∧ va_P (dC, dI) vwCl (pt_xw a c q.2.1 q.2.2.1 q.2.2.2) H ∧ va_D AA (pt_xw a c q.2.1 q.2.2.1 q.2.2.2) ∧ va_S AA s.heap H locs ∧ lv_has ls 5 [(3, .int (nI q.1)), (2, .int (nI (pt_dn tO ot (fun b => pt_vd rel (pt_mee ax (A 12) (A 13) b 0) (pt_wn ax (A 12) (A 13) b 0) (pt_wn ax (A 13) (A 12) 0 b)) q.1))), (0, .ref (a 0)), (1, .int (nI rel))]) ?_ (0, F, A, Q) _ _ _ ⟨Nat.zero_le _, ⟨hk, pt_oth.rf, rfl⟩, hP, hD, hS, hl⟩
  intro ⟨i, Fi, Ai, Qi⟩ ls H locs ⟨hi, ⟨hki, hoi, hqi⟩, hP, hD, hS, hl⟩ ih
  dsimp only at hi hki hoi hqi hP hD hl ih
  have ki0 : Fi 0 = nI ax := (hoi.1 0 (by decide)).trans h0
  have ki5 : Fi 5 = nI nb := (hoi.1 5 (by decide)).trans h5
  have hdi := hdl i hi
  have hvi := hvl i
  refine lv_iload_n hx hb dX1_askBlocks_4 rfl (lv_at hl 0 rfl) ?_
  refine lv_aload_n hx hb dX1_askBlocks_5 rfl (lv_at hl 2 rfl) ?_
  refine va_get (D := (dC, dI)) (ci := 1) (v := .int (Fi 5)) (C := RX1) (T := TX1) (N := 18) hx hb hts iw_c_X1_askBlocks_wsX10 hown hK hP 0 rfl rfl 5 (by decide) (hts _ wd_c_X1_askBlocks_X1_askBlocks_0) (fun _ h9 => h9) rfl dX1_askBlocks_6 ?_
  refine pt_top (y := nI nb) ki5 ?_
  refine lv_icmp_ge (tgt := 107) hx hb dX1_askBlocks_9 (by decide) (fun c9 => ?_) (fun c9 => ?_)
  · have hie : i = nb := by have := (nI_leI (by omega) (by omega)).mp c9; omega
    subst hie
    exact W.vret hx hb hr (fun zt zh zW => ⟨⟨(Fi, Ai, Qi), rfl, ⟨hki, hoi, hqi⟩, by show va_P _ _ _ zt.heap; rw [zh]; exact hP⟩, hS.F zh⟩) hS.2.2 dX1_askBlocks_107
  · have hlt : i < nb := Nat.not_le.mp (fun q => c9 ((nI_leI (by omega) (by omega)).mpr q))
    obtain ⟨t8, t9, t10, tft, ttN, tot⟩ := htr i hlt
    refine lv_aload_n hx hb dX1_askBlocks_12 rfl (lv_at hl 2 rfl) ?_
    refine va_get (D := (dC, dI)) (ci := 1) (v := .ref (a 9)) (C := RX1) (T := TX1) (N := 18) hx hb hts iw_c_X1_askBlocks_wsX10 hown hK hP 0 rfl rfl 9 (by decide) (hts _ wd_c_X1_askBlocks_X1_askBlocks_1) (fun _ h9 => h9) rfl dX1_askBlocks_13 ?_
    refine lv_iload_n hx hb dX1_askBlocks_16 rfl (lv_at hl 0 rfl) ?_
    refine pt_iald hx hb hK hP 6 4 rfl rfl i rfl (by omega) (by decide) dX1_askBlocks_17 ?_
    refine pt_top (y := nI (tO i)) ((congrFun (hoi.2 9 (by decide) (by decide)) i).trans t9) ?_
    refine lv_iload_n hx hb dX1_askBlocks_18 rfl (lv_at hl 1 rfl) ?_
    refine lv_icmp_gt (tgt := 25) hx hb dX1_askBlocks_19 (by decide) (fun c19 => ?_) (fun c19 => ?_)
    · have hv : pt_vis tO ot (fun b => pt_vd rel (pt_mee ax (A 12) (A 13) b 0) (pt_wn ax (A 12) (A 13) b 0) (pt_wn ax (A 13) (A 12) 0 b)) i := Nat.not_le.mpr ((nI_ltI (by omega) (by omega)).mp c19)
      refine lv_aload_n hx hb dX1_askBlocks_25 rfl (lv_at hl 2 rfl) ?_
      refine lv_iload_n hx hb dX1_askBlocks_26 rfl (lv_at hl 0 rfl) ?_
      refine lv_iload_n hx hb dX1_askBlocks_27 rfl (lv_at hl 3 rfl) ?_
      refine pt_rdi (va_runV (As := [.int (nI i), .int (nI rel)]) (rest := []) ⟨hx, hb, hml, hown, hts⟩ (c_X1_verdictOn l dC dI a c Fi Ai Qi ax ki0 hax i rel (by omega) hrel) (cwV 2 hts gX1_askBlocks_X1_verdictOn rfl rfl rfl (by decide +kernel) ⟨Nat.le_of_ble_eq_true rfl, Nat.le_of_ble_eq_true rfl⟩) (pt_pv1 hP hK hN (q0 := 0) rfl) rfl rfl hl.1 rfl (lv_room (Nat.le_of_ble_eq_true rfl)) dX1_askBlocks_28 ⟨Nat.le_of_ble_eq_true rfl, Nat.le_of_ble_eq_true rfl⟩) (fun r28 hr28 => ?_)
      have hvd : r28 = nI ((fun b => pt_vd rel (pt_mee ax (A 12) (A 13) b 0) (pt_wn ax (A 12) (A 13) b 0) (pt_wn ax (A 13) (A 12) 0 b)) i) := hr28.trans (by rw [hoi.2 12 (by decide) (by decide), hoi.2 13 (by decide) (by decide)])
      refine pt_top (y := nI ((fun b => pt_vd rel (pt_mee ax (A 12) (A 13) b 0) (pt_wn ax (A 12) (A 13) b 0) (pt_wn ax (A 13) (A 12) 0 b)) i)) hvd ?_
      refine lv_istore (lv' := [(4, .int (nI ((fun b => pt_vd rel (pt_mee ax (A 12) (A 13) b 0) (pt_wn ax (A 12) (A 13) b 0) (pt_wn ax (A 13) (A 12) 0 b)) i))), (3, .int (nI i)), (2, .int (nI (pt_dn tO ot (fun b => pt_vd rel (pt_mee ax (A 12) (A 13) b 0) (pt_wn ax (A 12) (A 13) b 0) (pt_wn ax (A 13) (A 12) 0 b)) i))), (0, .ref (a 0)), (1, .int (nI rel))]) hx hb dX1_askBlocks_31 hl (by decide) rfl (fun ls hl => ?_)
      refine lv_iload hx hb dX1_askBlocks_33 (lv_at hl 0 rfl) ?_
      refine lv_iconst (v := nI 2) hx hb dX1_askBlocks_35 (by decide) ?_
      refine lv_icmp_eq (tgt := 70) hx hb dX1_askBlocks_36 (by decide) (fun c36 => ?_) (fun c36 => ?_)
      · have d36 : (fun b => pt_vd rel (pt_mee ax (A 12) (A 13) b 0) (pt_wn ax (A 12) (A 13) b 0) (pt_wn ax (A 13) (A 12) 0 b)) i = 2 := (nI_eq (by omega) (by omega)).mp c36
        refine lv_aload_n hx hb dX1_askBlocks_70 rfl (lv_at hl 3 rfl) ?_
        refine va_get (D := (dC, dI)) (ci := 1) (v := .ref (a 16)) (C := RX1) (T := TX1) (N := 18) hx hb hts iw_c_X1_askBlocks_wsX10 hown hK hP 0 rfl rfl 16 (by decide) (hts _ wd_c_X1_askBlocks_X1_askBlocks_2) (fun _ h9 => h9) rfl dX1_askBlocks_71 ?_
        refine lv_iconst (v := nI 0) hx hb dX1_askBlocks_74 (by decide) ?_
        refine lv_dup2_11 hx hb dX1_askBlocks_75 rfl rfl ?_
        refine pt_iald hx hb hK hP 14 10 rfl rfl 0 rfl (by decide) (by decide) dX1_askBlocks_76 ?_
        refine pt_top (y := nI (pt_OP tO ot (fun b => pt_vd rel (pt_mee ax (A 12) (A 13) b 0) (pt_wn ax (A 12) (A 13) b 0) (pt_wn ax (A 13) (A 12) 0 b)) i)) hki.2.1 ?_
        refine lv_iconst (v := nI 1) hx hb dX1_askBlocks_77 (by decide) ?_
        refine lv_iadd hx hb dX1_askBlocks_78 ?_
        refine pt_top (y := nI ((pt_OP tO ot (fun b => pt_vd rel (pt_mee ax (A 12) (A 13) b 0) (pt_wn ax (A 12) (A 13) b 0) (pt_wn ax (A 13) (A 12) 0 b)) i) + 1)) (nI_add _ _) ?_
        obtain ⟨A1, eA1⟩ : ∃ zz, zz = va_up Ai 16 (upd (Ai 16) 0 (nI ((pt_OP tO ot (fun b => pt_vd rel (pt_mee ax (A 12) (A 13) b 0) (pt_wn ax (A 12) (A 13) b 0) (pt_wn ax (A 13) (A 12) 0 b)) i) + 1))) := ⟨_, rfl⟩
        refine pt_iast hx hb hK hP hD hS 14 10 rfl rfl 0 rfl (by decide) (by decide) (ws' := (pt_xw a c Fi A1 Qi)) (by rw [eA1]; rfl) dX1_askBlocks_79 (fun H locs hP hD hS => ?_)
        have q7 : ∀ j, j ≠ 14 → j ≠ 16 → A1 j = A j := fun j h1 h2 => by rw [eA1, pt_up_ne h2]; exact hoi.2 j h1 h2
        refine lv_aload_n hx hb dX1_askBlocks_80 rfl (lv_at hl 3 rfl) ?_
        refine lv_iload_n hx hb dX1_askBlocks_81 rfl (lv_at hl 1 rfl) ?_
        refine pt_rdi (va_runV (As := [.int (nI i)]) (rest := []) ⟨hx, hb, hml, hown, hts⟩ (c_X1_isParted l dC dI a c Fi A1 Qi i (by omega)) (cwV 1 hts gX1_askBlocks_X1_isParted rfl rfl rfl (by decide +kernel) ⟨Nat.le_of_ble_eq_true rfl, Nat.le_of_ble_eq_true rfl⟩) (pt_pv1 hP hK hN (q0 := 0) rfl) rfl rfl hl.1 rfl (lv_room (Nat.le_of_ble_eq_true rfl)) dX1_askBlocks_82 ⟨Nat.le_of_ble_eq_true rfl, Nat.le_of_ble_eq_true rfl⟩) (fun r82 hr82 => ?_)
        refine lv_if_ne (tgt := 101) hx hb dX1_askBlocks_85 (by decide) (fun c85 => ?_) (fun c85 => ?_)
        · have d85 : ¬ ot i = 0 := fun q => (hr82.t c85) (by rw [q7 10 (by decide) (by decide), t10, q]; rfl)
          refine lv_iinc (v := nI (i + 1)) (lv' := [(3, .int (nI (i + 1))), (4, .int (nI ((fun b => pt_vd rel (pt_mee ax (A 12) (A 13) b 0) (pt_wn ax (A 12) (A 13) b 0) (pt_wn ax (A 13) (A 12) 0 b)) i))), (2, .int (nI (pt_dn tO ot (fun b => pt_vd rel (pt_mee ax (A 12) (A 13) b 0) (pt_wn ax (A 12) (A 13) b 0) (pt_wn ax (A 13) (A 12) 0 b)) i))), (0, .ref (a 0)), (1, .int (nI rel))]) hx hb dX1_askBlocks_101 hl (k := 1) rfl (nI_1 _) (by decide) rfl (fun ls hl => ?_)
          refine lv_goto (tgt := 4) hx hb dX1_askBlocks_104 (by decide) ?_
          have hab := hki.part (A' := A1) hv d36 d85 (by rw [eA1]; exact pt_up_ne (by decide)) (by rw [eA1]; exact pt_up)
          have hdn := pt_dn_part hv d36 d85
          exact ih (i + 1, Fi, A1, Qi) _ _ _ ⟨by show i + 1 ≤ nb; omega, ⟨hab, (hoi.tr ⟨fun _ _ => rfl, fun j _ h2 => by show A1 j = Ai j; rw [eA1]; exact pt_up_ne h2⟩), hqi⟩, hP, hD, hS, by rw [hdn]; exact lv_sub hl [0, 2, 3, 4] rfl⟩ (by show nb - (i + 1) < nb - i; omega)
        · have d85 : ot i = 0 := Classical.byContradiction (fun q => hr82.f c85 (by rw [q7 10 (by decide) (by decide), t10]; exact fun z => q ((nI_eq (b := 0) (by omega) (by omega)).mp z)))
          refine lv_aload_n hx hb dX1_askBlocks_88 rfl (lv_at hl 3 rfl) ?_
          refine lv_iload_n hx hb dX1_askBlocks_89 rfl (lv_at hl 1 rfl) ?_
          refine lv_iload_n hx hb dX1_askBlocks_90 rfl (lv_at hl 4 rfl) ?_
          refine pt_callv (wf := (fun u : pt_XS => pt_xw a c u.1 u.2.1 u.2.2)) (va_runV (As := [.int (nI i), .int (nI rel)]) (rest := []) ⟨hx, hb, hml, hown, hts⟩ (c_X1_askThingsOf l dC dI a c Fi A1 Qi _ ax ki0 hax i (fr i) (tO i) od (by omega) (by rw [q7 8 (by decide) (by decide)]; exact t8) (by rw [q7 9 (by decide) (by decide)]; exact t9) (by omega) tft (fun k _ k2 => by rw [q7 7 (by decide) (by decide)]; exact hod k (by omega)) rel hrel _ _ (hki.1.m rfl (by rw [eA1]; exact pt_up_ne (by decide)))) (cwV 2 hts gX1_askBlocks_X1_askThingsOf rfl rfl rfl (by decide +kernel) ⟨Nat.le_of_ble_eq_true rfl, Nat.le_of_ble_eq_true rfl⟩) (pt_wv1 hP hK hN hD (q0 := 0) rfl) rfl rfl hl.1 rfl (lv_room (Nat.le_of_ble_eq_true rfl)) dX1_askBlocks_91 ⟨Nat.le_of_ble_eq_true rfl, Nat.le_of_ble_eq_true rfl⟩) hD hS hA (fun _ => rfl) (fun u91 H locs hr91 hP hD hS => ?_)
          obtain ⟨F2, A2, Q2⟩ := u91
          obtain ⟨hm2, ho2, he2, hq2⟩ := hr91
          dsimp only at hm2 ho2 he2 hq2 hP hD
          have kF2_0 : F2 0 = nI ax := (ho2.1 0 (by decide)).trans ki0
          have kF2_5 : F2 5 = nI nb := (ho2.1 5 (by decide)).trans ki5
          rw [q7 3 (by decide) (by decide), q7 4 (by decide) (by decide), q7 13 (by decide) (by decide)] at hm2
          refine lv_aload_n hx hb dX1_askBlocks_94 rfl (lv_at hl 3 rfl) ?_
          refine va_get (D := (dC, dI)) (ci := 1) (v := .ref (a 9)) (C := RX1) (T := TX1) (N := 18) hx hb hts iw_c_X1_askBlocks_wsX10 hown hK hP 0 rfl rfl 9 (by decide) (hts _ wd_c_X1_askBlocks_X1_askBlocks_1) (fun _ h9 => h9) rfl dX1_askBlocks_95 ?_
          refine lv_iload_n hx hb dX1_askBlocks_98 rfl (lv_at hl 1 rfl) ?_
          refine pt_iald hx hb hK hP 6 4 rfl rfl i rfl (by omega) (by decide) dX1_askBlocks_99 ?_
          refine pt_top (y := nI (tO i)) ((congrFun (ho2.2 9 (by decide) (by decide)) i).trans (by rw [q7 9 (by decide) (by decide)]; exact t9)) ?_
          refine lv_istore_n (lv' := [(2, .int (nI (tO i))), (4, .int (nI ((fun b => pt_vd rel (pt_mee ax (A 12) (A 13) b 0) (pt_wn ax (A 12) (A 13) b 0) (pt_wn ax (A 13) (A 12) 0 b)) i))), (3, .int (nI i)), (0, .ref (a 0)), (1, .int (nI rel))]) hx hb dX1_askBlocks_100 rfl hl (by decide) rfl (fun ls hl => ?_)
          refine lv_iinc (v := nI (i + 1)) (lv' := [(3, .int (nI (i + 1))), (2, .int (nI (tO i))), (4, .int (nI ((fun b => pt_vd rel (pt_mee ax (A 12) (A 13) b 0) (pt_wn ax (A 12) (A 13) b 0) (pt_wn ax (A 13) (A 12) 0 b)) i))), (0, .ref (a 0)), (1, .int (nI rel))]) hx hb dX1_askBlocks_101 hl (k := 2) rfl (nI_1 _) (by decide) rfl (fun ls hl => ?_)
          refine lv_goto (tgt := 4) hx hb dX1_askBlocks_104 (by decide) ?_
          have hab := hki.leaf hv d36 d85 hm2 (by rw [he2, eA1, pt_up])
          have hdn := pt_dn_to hv (fun q => q.2 d85)
          exact ih (i + 1, F2, A2, Q2) _ _ _ ⟨by show i + 1 ≤ nb; omega, ⟨hab, ((hoi.tr ⟨fun _ _ => rfl, fun j _ h2 => by show A1 j = Ai j; rw [eA1]; exact pt_up_ne h2⟩).tr ho2), (hq2.trans hqi)⟩, hP, hD, hS, by rw [hdn]; exact lv_sub hl [0, 1, 3, 4] rfl⟩ (by show nb - (i + 1) < nb - i; omega)
      · have d36 : ¬ (fun b => pt_vd rel (pt_mee ax (A 12) (A 13) b 0) (pt_wn ax (A 12) (A 13) b 0) (pt_wn ax (A 13) (A 12) 0 b)) i = 2 := fun q => c36 (by rw [q])
        refine lv_aload_n hx hb dX1_askBlocks_39 rfl (lv_at hl 3 rfl) ?_
        refine va_get (D := (dC, dI)) (ci := 1) (v := .ref (a 16)) (C := RX1) (T := TX1) (N := 18) hx hb hts iw_c_X1_askBlocks_wsX10 hown hK hP 0 rfl rfl 16 (by decide) (hts _ wd_c_X1_askBlocks_X1_askBlocks_2) (fun _ h9 => h9) rfl dX1_askBlocks_40 ?_
        refine lv_iconst (v := nI 1) hx hb dX1_askBlocks_43 (by decide) ?_
        refine lv_dup2_11 hx hb dX1_askBlocks_44 rfl rfl ?_
        refine pt_iald hx hb hK hP 14 10 rfl rfl 1 rfl (by decide) (by decide) dX1_askBlocks_45 ?_
        refine pt_top (y := nI (pt_SE tO ot (fun b => pt_vd rel (pt_mee ax (A 12) (A 13) b 0) (pt_wn ax (A 12) (A 13) b 0) (pt_wn ax (A 13) (A 12) 0 b)) i)) hki.2.2.1 ?_
        refine lv_iconst (v := nI 1) hx hb dX1_askBlocks_46 (by decide) ?_
        refine lv_iadd hx hb dX1_askBlocks_47 ?_
        refine pt_top (y := nI ((pt_SE tO ot (fun b => pt_vd rel (pt_mee ax (A 12) (A 13) b 0) (pt_wn ax (A 12) (A 13) b 0) (pt_wn ax (A 13) (A 12) 0 b)) i) + 1)) (nI_add _ _) ?_
        obtain ⟨A3, eA3⟩ : ∃ zz, zz = va_up Ai 16 (upd (Ai 16) 1 (nI ((pt_SE tO ot (fun b => pt_vd rel (pt_mee ax (A 12) (A 13) b 0) (pt_wn ax (A 12) (A 13) b 0) (pt_wn ax (A 13) (A 12) 0 b)) i) + 1))) := ⟨_, rfl⟩
        refine pt_iast hx hb hK hP hD hS 14 10 rfl rfl 1 rfl (by decide) (by decide) (ws' := (pt_xw a c Fi A3 Qi)) (by rw [eA3]; rfl) dX1_askBlocks_48 (fun H locs hP hD hS => ?_)
        refine lv_iload hx hb dX1_askBlocks_49 (lv_at hl 0 rfl) ?_
        refine lv_iconst (v := nI 1) hx hb dX1_askBlocks_51 (by decide) ?_
        refine lv_icmp_ne (tgt := 60) hx hb dX1_askBlocks_52 (by decide) (fun c52 => ?_) (fun c52 => ?_)
        · have d52 : ¬ (fun b => pt_vd rel (pt_mee ax (A 12) (A 13) b 0) (pt_wn ax (A 12) (A 13) b 0) (pt_wn ax (A 13) (A 12) 0 b)) i = 1 := fun q => c52 (by rw [q])
          refine lv_aload_n hx hb dX1_askBlocks_60 rfl (lv_at hl 3 rfl) ?_
          refine va_get (D := (dC, dI)) (ci := 1) (v := .ref (a 9)) (C := RX1) (T := TX1) (N := 18) hx hb hts iw_c_X1_askBlocks_wsX10 hown hK hP 0 rfl rfl 9 (by decide) (hts _ wd_c_X1_askBlocks_X1_askBlocks_1) (fun _ h9 => h9) rfl dX1_askBlocks_61 ?_
          refine lv_iload_n hx hb dX1_askBlocks_64 rfl (lv_at hl 1 rfl) ?_
          refine pt_iald hx hb hK hP 6 4 rfl rfl i rfl (by omega) (by decide) dX1_askBlocks_65 ?_
          refine pt_top (y := nI (tO i)) (by rw [eA3, pt_up_ne (by decide), hoi.2 9 (by decide) (by decide)]; exact t9) ?_
          refine lv_istore_n (lv' := [(2, .int (nI (tO i))), (4, .int (nI ((fun b => pt_vd rel (pt_mee ax (A 12) (A 13) b 0) (pt_wn ax (A 12) (A 13) b 0) (pt_wn ax (A 13) (A 12) 0 b)) i))), (3, .int (nI i)), (0, .ref (a 0)), (1, .int (nI rel))]) hx hb dX1_askBlocks_66 rfl hl (by decide) rfl (fun ls hl => ?_)
          refine lv_goto (tgt := 101) hx hb dX1_askBlocks_67 (by decide) ?_
          refine lv_iinc (v := nI (i + 1)) (lv' := [(3, .int (nI (i + 1))), (2, .int (nI (tO i))), (4, .int (nI ((fun b => pt_vd rel (pt_mee ax (A 12) (A 13) b 0) (pt_wn ax (A 12) (A 13) b 0) (pt_wn ax (A 13) (A 12) 0 b)) i))), (0, .ref (a 0)), (1, .int (nI rel))]) hx hb dX1_askBlocks_101 hl (k := 2) rfl (nI_1 _) (by decide) rfl (fun ls hl => ?_)
          refine lv_goto (tgt := 4) hx hb dX1_askBlocks_104 (by decide) ?_
          have hab := hki.none (A' := A3) hv d52 d36 (by rw [eA3]; exact pt_up_ne (by decide)) (by rw [eA3]; exact pt_up)
          have hdn := pt_dn_to hv (fun q => d36 q.1)
          exact ih (i + 1, Fi, A3, Qi) _ _ _ ⟨by show i + 1 ≤ nb; omega, ⟨hab, (hoi.tr ⟨fun _ _ => rfl, fun j _ h2 => by show A3 j = Ai j; rw [eA3]; exact pt_up_ne h2⟩), hqi⟩, hP, hD, hS, by rw [hdn]; exact lv_sub hl [0, 1, 3, 4] rfl⟩ (by show nb - (i + 1) < nb - i; omega)
        · have d52 : (fun b => pt_vd rel (pt_mee ax (A 12) (A 13) b 0) (pt_wn ax (A 12) (A 13) b 0) (pt_wn ax (A 13) (A 12) 0 b)) i = 1 := (nI_eq (by omega) (by omega)).mp c52
          have q7 : ∀ j, j ≠ 14 → j ≠ 16 → A3 j = A j := fun j h1 h2 => by rw [eA3, pt_up_ne h2]; exact hoi.2 j h1 h2
          refine lv_aload_n hx hb dX1_askBlocks_55 rfl (lv_at hl 3 rfl) ?_
          refine lv_iload_n hx hb dX1_askBlocks_56 rfl (lv_at hl 1 rfl) ?_
          refine pt_callv (wf := (fun u : pt_XS => pt_xw a c u.1 u.2.1 u.2.2)) (va_runV (As := [.int (nI i)]) (rest := []) ⟨hx, hb, hml, hown, hts⟩ (c_X1_findAllOf l dC dI a c Fi A3 Qi _ i (fr i) (tO i) od (by omega) (by rw [q7 8 (by decide) (by decide)]; exact t8) (by rw [q7 9 (by decide) (by decide)]; exact t9) (by omega) tft (fun k _ k2 => by rw [q7 7 (by decide) (by decide)]; exact hod k (by omega)) (pt_FT fr tO ot od (fun b => pt_vd rel (pt_mee ax (A 12) (A 13) b 0) (pt_wn ax (A 12) (A 13) b 0) (pt_wn ax (A 13) (A 12) 0 b)) (fun t => ¬ A 3 t = 0) (pt_Px ax rel (A 3) (A 4) (A 13)) i) (by rw [eA3, pt_up, pt_upd_ne (by decide)]; exact hki.2.2.2) _ _ (hki.1.m rfl (by rw [eA3]; exact pt_up_ne (by decide)))) (cwV 1 hts gX1_askBlocks_X1_findAllOf rfl rfl rfl (by decide +kernel) ⟨Nat.le_of_ble_eq_true rfl, Nat.le_of_ble_eq_true rfl⟩) (pt_wv1 hP hK hN hD (q0 := 0) rfl) rfl rfl hl.1 rfl (lv_room (Nat.le_of_ble_eq_true rfl)) dX1_askBlocks_57 ⟨Nat.le_of_ble_eq_true rfl, Nat.le_of_ble_eq_true rfl⟩) hD hS hA (fun _ => rfl) (fun u57 H locs hr57 hP hD hS => ?_)
          obtain ⟨F4, A4, Q4⟩ := u57
          obtain ⟨hm4, ho4, he4, hq4⟩ := hr57
          dsimp only at hm4 ho4 he4 hq4 hP hD
          have kF4_0 : F4 0 = nI ax := (ho4.1 0 (by decide)).trans ki0
          have kF4_5 : F4 5 = nI nb := (ho4.1 5 (by decide)).trans ki5
          rw [q7 3 (by decide) (by decide)] at hm4 he4
          refine lv_aload_n hx hb dX1_askBlocks_60 rfl (lv_at hl 3 rfl) ?_
          refine va_get (D := (dC, dI)) (ci := 1) (v := .ref (a 9)) (C := RX1) (T := TX1) (N := 18) hx hb hts iw_c_X1_askBlocks_wsX10 hown hK hP 0 rfl rfl 9 (by decide) (hts _ wd_c_X1_askBlocks_X1_askBlocks_1) (fun _ h9 => h9) rfl dX1_askBlocks_61 ?_
          refine lv_iload_n hx hb dX1_askBlocks_64 rfl (lv_at hl 1 rfl) ?_
          refine pt_iald hx hb hK hP 6 4 rfl rfl i rfl (by omega) (by decide) dX1_askBlocks_65 ?_
          refine pt_top (y := nI (tO i)) ((congrFun (ho4.2 9 (by decide) (by decide)) i).trans (by rw [q7 9 (by decide) (by decide)]; exact t9)) ?_
          refine lv_istore_n (lv' := [(2, .int (nI (tO i))), (4, .int (nI ((fun b => pt_vd rel (pt_mee ax (A 12) (A 13) b 0) (pt_wn ax (A 12) (A 13) b 0) (pt_wn ax (A 13) (A 12) 0 b)) i))), (3, .int (nI i)), (0, .ref (a 0)), (1, .int (nI rel))]) hx hb dX1_askBlocks_66 rfl hl (by decide) rfl (fun ls hl => ?_)
          refine lv_goto (tgt := 101) hx hb dX1_askBlocks_67 (by decide) ?_
          refine lv_iinc (v := nI (i + 1)) (lv' := [(3, .int (nI (i + 1))), (2, .int (nI (tO i))), (4, .int (nI ((fun b => pt_vd rel (pt_mee ax (A 12) (A 13) b 0) (pt_wn ax (A 12) (A 13) b 0) (pt_wn ax (A 13) (A 12) 0 b)) i))), (0, .ref (a 0)), (1, .int (nI rel))]) hx hb dX1_askBlocks_101 hl (k := 2) rfl (nI_1 _) (by decide) rfl (fun ls hl => ?_)
          refine lv_goto (tgt := 4) hx hb dX1_askBlocks_104 (by decide) ?_
          have hab := hki.all hv d52 hm4 (by rw [he4, eA3, pt_up])
          have hdn := pt_dn_to hv (fun q => absurd (d52.symm.trans q.1) (by decide))
          exact ih (i + 1, F4, A4, Q4) _ _ _ ⟨by show i + 1 ≤ nb; omega, ⟨hab, ((hoi.tr ⟨fun _ _ => rfl, fun j _ h2 => by show A3 j = Ai j; rw [eA3]; exact pt_up_ne h2⟩).tr ho4), (hq4.trans hqi)⟩, hP, hD, hS, by rw [hdn]; exact lv_sub hl [0, 1, 3, 4] rfl⟩ (by show nb - (i + 1) < nb - i; omega)
    · have hnv : ¬ pt_vis tO ot (fun b => pt_vd rel (pt_mee ax (A 12) (A 13) b 0) (pt_wn ax (A 12) (A 13) b 0) (pt_wn ax (A 13) (A 12) 0 b)) i := fun q => c19 ((nI_ltI (by omega) (by omega)).mpr (Nat.not_le.mp q))
      refine lv_goto (tgt := 101) hx hb dX1_askBlocks_22 (by decide) ?_
      refine lv_iinc (v := nI (i + 1)) (lv' := [(3, .int (nI (i + 1))), (2, .int (nI (pt_dn tO ot (fun b => pt_vd rel (pt_mee ax (A 12) (A 13) b 0) (pt_wn ax (A 12) (A 13) b 0) (pt_wn ax (A 13) (A 12) 0 b)) i))), (0, .ref (a 0)), (1, .int (nI rel))]) hx hb dX1_askBlocks_101 hl (k := 0) rfl (nI_1 _) (by decide) rfl (fun ls hl => ?_)
      refine lv_goto (tgt := 4) hx hb dX1_askBlocks_104 (by decide) ?_
      have hab := hki.skip hnv
      have hdn := pt_dn_skip hnv
      exact ih (i + 1, Fi, Ai, Qi) _ _ _ ⟨by show i + 1 ≤ nb; omega, ⟨hab, hoi, hqi⟩, hP, hD, hS, by rw [hdn]; exact lv_sub hl [0, 1, 2, 3] rfl⟩ (by show nb - (i + 1) < nb - i; omega)

def pt_pt6 (f : Nat → Int32) (x : Nat) (x0 x1 y0 y1 z0 z1 : Int32) : Nat → Int32 := upd (upd (upd (upd (upd (upd f (x * 6 + 0 * 2 + 0) x0) (x * 6 + 0 * 2 + 1) x1) (x * 6 + 1 * 2 + 0) y0) (x * 6 + 1 * 2 + 1) y1) (x * 6 + 2 * 2 + 0) z0) (x * 6 + 2 * 2 + 1) z1
theorem pt_ix3 {k : Int32} (h0 : ¬ k < 0) (h1 : ¬ nI 3 < k) : ∃ t, t < 4 ∧ k = nI t := by
  rcases pk_ix k (n := 4) (by decide) with h | h | h
  · exact absurd h h0
  · exact absurd (Int32.lt_of_lt_of_le (show nI 3 < nI 4 by decide) h) h1
  · exact h

theorem wd_c_X1_range_X1_range_0 : Cond.fieldLink RX1 47 "PointTrees" "asked" "LPointTrees$Boxes;" ∈ wsX1_range := by decide +kernel
theorem wd_c_X1_range_X1_range_1 : Cond.initialized RX0 ∈ wsX1_range := by decide +kernel
theorem wd_c_X1_range_X1_range_2 : Cond.instanceMethod yX0_put ∈ wsX1_range := by decide +kernel
theorem wd_c_X1_range_X1_range_3 : Cond.selects RX0 yX0_put yX0_put ∈ wsX1_range := by decide +kernel
theorem wd_c_X1_range_X1_range_4 : Cond.fieldLink RX1 69 "PointTrees" "firstLoose" "I" ∈ wsX1_range := by decide +kernel
theorem wd_c_X1_range_X1_range_5 : Cond.fieldLink RX1 60 "PointTrees" "made" "I" ∈ wsX1_range := by decide +kernel
theorem wd_c_X1_range_X1_range_6 : Cond.fieldLink RX1 114 "PointTrees" "foundCount" "I" ∈ wsX1_range := by decide +kernel
theorem iw_c_X1_range_wsX10 : ∀ w ∈ wsX10, w ∈ wsX1_range := fun _ h => List.mem_cons_of_mem _ (List.mem_append_left _ (List.mem_append_right _ h))
theorem iw_c_X1_range_wsX00 : ∀ w ∈ wsX00, w ∈ wsX1_range := fun _ h => List.mem_cons_of_mem _ (List.mem_append_right _ h)
set_option maxHeartbeats 4000000 in
set_option maxRecDepth 100000 in
theorem c_X1_range (l : Launch) (dC : Nat → ClassId) (dI : Nat → Nat → Nat) (a : Nat → Nat) (c : Nat → ClassId) (F : Nat → Int32) (A : Nat → Nat → Int32) (Q : Nat → Int64) (sz : Nat) (ax : Nat) (h0 : F 0 = nI ax) (hax : ax ≤ 3) (md : Nat) (h1 : F 1 = nI md) (hmd : md ≤ 64) (nb : Nat) (h5 : F 5 = nI nb) (hnb : nb ≤ 31) (lz : Nat) (h6 : F 6 = nI lz) (hlz : lz ≤ md) (fr tO ot od : Nat → Nat) (N : Nat) (hN64 : N ≤ 64) (htr : ∀ b, b < nb → A 8 b = nI (fr b) ∧ A 9 b = nI (tO b) ∧ A 10 b = nI (ot b) ∧ fr b ≤ tO b ∧ tO b ≤ N ∧ ot b ≤ 31) (hod : ∀ i, i < N → A 7 i = nI (od i) ∧ od i < 64) (rel : Int32) (x0 x1 y0 y1 z0 z1 : Int32) : Met l yX1_range wsX1_range (pt_rm 6) (pt_W (dC, dI) vwCl (pt_xt c) (pt_xw a c F A Q) pt_nw sz [.ref (a 0), .int rel, .int x0, .int x1, .int y0, .int y1, .int z0, .int z1]) (va_Qi (fun (r : Int32) (u : pt_XS) => (¬ (pt_in 4 (fun _ => True) rel ∧ pt_box ax x0 x1 y0 y1 z0 z1) ∧ r = -2 ∧ u = (F, A, Q)) ∨ ∃ rl, rl < 4 ∧ rel = nI rl ∧ pt_box ax x0 x1 y0 y1 z0 z1 ∧ r = nI (pt_FC fr tO ot od (fun b => pt_vd rl (pt_mee ax (A 12) (pt_pt6 (A 13) 0 x0 x1 y0 y1 z0 z1) b 0) (pt_wn ax (A 12) (pt_pt6 (A 13) 0 x0 x1 y0 y1 z0 z1) b 0) (pt_wn ax (pt_pt6 (A 13) 0 x0 x1 y0 y1 z0 z1) (A 12) 0 b)) (fun t => ¬ A 3 t = 0) (pt_Px ax rl (A 3) (A 4) (pt_pt6 (A 13) 0 x0 x1 y0 y1 z0 z1)) nb + pt_cnt (fun k => lz ≤ k ∧ (pt_Px ax rl (A 3) (A 4) (pt_pt6 (A 13) 0 x0 x1 y0 y1 z0 z1)) k) md) ∧ pt_ask (pt_run (pt_FD fr tO ot od (fun b => pt_vd rl (pt_mee ax (A 12) (pt_pt6 (A 13) 0 x0 x1 y0 y1 z0 z1) b 0) (pt_wn ax (A 12) (pt_pt6 (A 13) 0 x0 x1 y0 y1 z0 z1) b 0) (pt_wn ax (pt_pt6 (A 13) 0 x0 x1 y0 y1 z0 z1) (A 12) 0 b)) (fun t => ¬ A 3 t = 0) (pt_Px ax rl (A 3) (A 4) (pt_pt6 (A 13) 0 x0 x1 y0 y1 z0 z1)) nb) (fun k => k) (pt_Px ax rl (A 3) (A 4) (pt_pt6 (A 13) 0 x0 x1 y0 y1 z0 z1)) lz md) (pt_FC fr tO ot od (fun b => pt_vd rl (pt_mee ax (A 12) (pt_pt6 (A 13) 0 x0 x1 y0 y1 z0 z1) b 0) (pt_wn ax (A 12) (pt_pt6 (A 13) 0 x0 x1 y0 y1 z0 z1) b 0) (pt_wn ax (pt_pt6 (A 13) 0 x0 x1 y0 y1 z0 z1) (A 12) 0 b)) (fun t => ¬ A 3 t = 0) (pt_Px ax rl (A 3) (A 4) (pt_pt6 (A 13) 0 x0 x1 y0 y1 z0 z1)) nb + pt_cnt (fun k => lz ≤ k ∧ (pt_Px ax rl (A 3) (A 4) (pt_pt6 (A 13) 0 x0 x1 y0 y1 z0 z1)) k) md) u.1 u.2.1 ∧ (u.2.1 16 0 = nI (pt_OP tO ot (fun b => pt_vd rl (pt_mee ax (A 12) (pt_pt6 (A 13) 0 x0 x1 y0 y1 z0 z1) b 0) (pt_wn ax (A 12) (pt_pt6 (A 13) 0 x0 x1 y0 y1 z0 z1) b 0) (pt_wn ax (pt_pt6 (A 13) 0 x0 x1 y0 y1 z0 z1) (A 12) 0 b)) nb) ∧ u.2.1 16 1 = nI (pt_SE tO ot (fun b => pt_vd rl (pt_mee ax (A 12) (pt_pt6 (A 13) 0 x0 x1 y0 y1 z0 z1) b 0) (pt_wn ax (A 12) (pt_pt6 (A 13) 0 x0 x1 y0 y1 z0 z1) b 0) (pt_wn ax (pt_pt6 (A 13) 0 x0 x1 y0 y1 z0 z1) (A 12) 0 b)) nb) ∧ u.2.1 16 2 = nI (pt_FT fr tO ot od (fun b => pt_vd rl (pt_mee ax (A 12) (pt_pt6 (A 13) 0 x0 x1 y0 y1 z0 z1) b 0) (pt_wn ax (A 12) (pt_pt6 (A 13) 0 x0 x1 y0 y1 z0 z1) b 0) (pt_wn ax (pt_pt6 (A 13) 0 x0 x1 y0 y1 z0 z1) (A 12) 0 b)) (fun t => ¬ A 3 t = 0) (pt_Px ax rl (A 3) (A 4) (pt_pt6 (A 13) 0 x0 x1 y0 y1 z0 z1)) nb)) ∧ (∀ j, j ≠ 15 → u.1 j = F j) ∧ (∀ j, j ≠ 13 → j ≠ 14 → j ≠ 16 → u.2.1 j = A j) ∧ u.2.2 = Q) (fun u t => va_P (dC, dI) vwCl (pt_xw a c u.1 u.2.1 u.2.2) t.heap) (va_A (pt_xw a c F A Q) sz)) 0 0 (va_A (pt_xw a c F A Q) sz) := by
  refine Met.ofW (cc := cX1_range) (maxL := 9) (ret := (some .int)) (by decide) rfl ?_
  intro p e s m args below meth cd s₁ B hml hv
  obtain ⟨rfl, hsz, hP, hK, hN, hD0⟩ := hv
  have hx := B.exec
  have hb := B.bytes
  have hr := B.returns
  have hts := atoms_spec (ws := wsX1_range) B.pre
  have hown : s.vm.findClass RX1 = some m.cls := findClass_of_methodNamed B.named
  have hlocks := B.notSynchronized
  subst hsz
  have hD := hD0.self (sz := s.heap.size)
  generalize hAe : va_A (pt_xw a c F A Q) s.heap.size = AA at hD ⊢
  have hA : ∀ q : Nat, s.heap.size ≤ q → AA q := fun q h => by rw [← hAe]; exact Or.inr h
  have hS : va_S AA s.heap s.heap [] := va_S.rf
  have hl := lv_entry ([.ref (a 0), .int rel, .int x0, .int x1, .int y0, .int y1, .int z0, .int z1]) (n := 9) (Nat.le_of_ble_eq_true rfl)
  rw [lg_entry_eq]
  generalize (lg_sl ([.ref (a 0), .int rel, .int x0, .int x1, .int y0, .int y1, .int z0, .int z1]) ++ List.replicate (9 - (lg_sl ([.ref (a 0), .int rel, .int x0, .int x1, .int y0, .int y1, .int z0, .int z1])).length) Slot.unset).toArray = ls at hl ⊢
  have hl : lv_has ls 9 [(0, .ref (a 0)), (1, .int rel), (2, .int x0), (3, .int x1), (4, .int y0), (5, .int y1), (6, .int z0), (7, .int z1)] := hl
  refine lv_iload_n hx hb dX1_range_0 rfl (lv_at hl 1 rfl) ?_
  refine lv_if_lt (tgt := 26) hx hb dX1_range_1 (by decide) (fun c1 => ?_) (fun c1 => ?_)
  · refine lv_bipush (v := (-2)) hx hb dX1_range_26 (by decide) ?_
    exact W.iret (v := (-2)) hx hb hr (fun zt zh zW => ⟨⟨_, (F, A, Q), rfl, (Or.inl ⟨fun q => by first | exact d23 q.2 | (obtain ⟨t, ht, et, _⟩ := q.1; subst et; first | exact nI_pos (by omega) c1 | exact Int32.not_lt.mpr (nI_le (show t ≤ 3 by omega) (by decide)) c6), rfl, rfl⟩), by show va_P _ _ _ zt.heap; rw [zh]; exact hP⟩, hS.F zh⟩) hS.2.2 dX1_range_28
  · refine lv_iload_n hx hb dX1_range_4 rfl (lv_at hl 1 rfl) ?_
    refine lv_iconst (v := nI 3) hx hb dX1_range_5 (by decide) ?_
    refine lv_icmp_gt (tgt := 26) hx hb dX1_range_6 (by decide) (fun c6 => ?_) (fun c6 => ?_)
    · refine lv_bipush (v := (-2)) hx hb dX1_range_26 (by decide) ?_
      exact W.iret (v := (-2)) hx hb hr (fun zt zh zW => ⟨⟨_, (F, A, Q), rfl, (Or.inl ⟨fun q => by first | exact d23 q.2 | (obtain ⟨t, ht, et, _⟩ := q.1; subst et; first | exact nI_pos (by omega) c1 | exact Int32.not_lt.mpr (nI_le (show t ≤ 3 by omega) (by decide)) c6), rfl, rfl⟩), by show va_P _ _ _ zt.heap; rw [zh]; exact hP⟩, hS.F zh⟩) hS.2.2 dX1_range_28
    · refine lv_aload_n hx hb dX1_range_9 rfl (lv_at hl 0 rfl) ?_
      refine lv_iload_n hx hb dX1_range_10 rfl (lv_at hl 2 rfl) ?_
      refine lv_iload_n hx hb dX1_range_11 rfl (lv_at hl 3 rfl) ?_
      refine lv_iload hx hb dX1_range_12 (lv_at hl 4 rfl) ?_
      refine lv_iload hx hb dX1_range_14 (lv_at hl 5 rfl) ?_
      refine lv_iload hx hb dX1_range_16 (lv_at hl 6 rfl) ?_
      refine lv_iload hx hb dX1_range_18 (lv_at hl 7 rfl) ?_
      refine pt_rdi (va_runV (As := [.int x0, .int x1, .int y0, .int y1, .int z0, .int z1]) (rest := []) ⟨hx, hb, hml, hown, hts⟩ (c_X1_isBox l dC dI a c F A Q ax h0 hax x0 x1 y0 y1 z0 z1) (cwV 6 hts gX1_range_X1_isBox rfl rfl rfl (by decide +kernel) ⟨Nat.le_of_ble_eq_true rfl, Nat.le_of_ble_eq_true rfl⟩) (pt_pv1 hP hK hN (q0 := 0) rfl) rfl rfl hl.1 rfl (lv_room (Nat.le_of_ble_eq_true rfl)) dX1_range_20 ⟨Nat.le_of_ble_eq_true rfl, Nat.le_of_ble_eq_true rfl⟩) (fun r20 hr20 => ?_)
      refine lv_if_ne (tgt := 29) hx hb dX1_range_23 (by decide) (fun c23 => ?_) (fun c23 => ?_)
      · have d23 := hr20.t c23
        obtain ⟨rl, hrl, er⟩ := pt_ix3 c1 c6
        subst er
        refine lv_aload_n hx hb dX1_range_29 rfl (lv_at hl 0 rfl) ?_
        refine va_get (D := (dC, dI)) (ci := 1) (v := .ref (a 13)) (C := RX1) (T := TX1) (N := 18) hx hb hts iw_c_X1_range_wsX10 hown hK hP 0 rfl rfl 13 (by decide) (hts _ wd_c_X1_range_X1_range_0) (fun _ h9 => h9) rfl dX1_range_30 ?_
        refine lv_iconst (v := nI 0) hx hb dX1_range_33 (by decide) ?_
        refine lv_iload_n hx hb dX1_range_34 rfl (lv_at hl 2 rfl) ?_
        refine lv_iload_n hx hb dX1_range_35 rfl (lv_at hl 3 rfl) ?_
        refine lv_iload hx hb dX1_range_36 (lv_at hl 4 rfl) ?_
        refine lv_iload hx hb dX1_range_38 (lv_at hl 5 rfl) ?_
        refine lv_iload hx hb dX1_range_40 (lv_at hl 6 rfl) ?_
        refine lv_iload hx hb dX1_range_42 (lv_at hl 7 rfl) ?_
        refine pt_callv (wf := (fun u => (pt_xw a c F A Q).set 12 (a 33, .inl (c 13, 6, .inl u)))) (va_runVN (As := [.int (nI 0), .int x0, .int x1, .int y0, .int y1, .int z0, .int z1]) (rest := []) ⟨hx, hb, hml, hown, hts⟩ (c_X0_put l dC dI (pt_xt c) (pt_xw a c F A Q) 11 12 8 (a 13) (a 33) (c 13) 6 (A 13) rfl rfl rfl (by decide) _ 0 x0 x1 y0 y1 z0 z1 (by omega)) ⟨va_cnB 7 hts gX1_range_X0_put_n79 rfl rfl rfl (pt_nest hN 1 rfl) (hts _ wd_c_X1_range_X1_range_1) (by decide +kernel) ⟨Nat.le_of_ble_eq_true rfl, Nat.le_of_ble_eq_true rfl⟩, (hts _ wd_c_X1_range_X1_range_2), (hts _ wd_c_X1_range_X1_range_3)⟩ (pt_wv0 hP hK hN hD (q0 := 11) rfl) rfl rfl hl.1 rfl (lv_room (Nat.le_of_ble_eq_true rfl)) dX1_range_44 ⟨Nat.le_of_ble_eq_true rfl, Nat.le_of_ble_eq_true rfl⟩) hD hS hA (fun _ => rfl) (fun u44 H locs hr44 hP hD hS => ?_)
        obtain ⟨A1, eA1⟩ : ∃ zz, zz = va_up A 13 u44 := ⟨_, rfl⟩
        have hP : va_P (dC, dI) vwCl (pt_xw a c F A1 Q) H := by rw [eA1]; exact hP
        have hD : va_D AA (pt_xw a c F A1 Q) := by rw [eA1]; exact hD
        refine lv_aload_n hx hb dX1_range_47 rfl (lv_at hl 0 rfl) ?_
        refine pt_callv (wf := (fun u : pt_XS => pt_xw a c u.1 u.2.1 u.2.2)) (va_runV (As := []) (rest := []) ⟨hx, hb, hml, hown, hts⟩ (c_X1_forgetAsked l dC dI a c F A1 Q _) (cwV 0 hts gX1_range_X1_forgetAsked rfl rfl rfl (by decide +kernel) ⟨Nat.le_of_ble_eq_true rfl, Nat.le_of_ble_eq_true rfl⟩) (pt_wv1 hP hK hN hD (q0 := 0) rfl) rfl rfl hl.1 rfl (lv_room (Nat.le_of_ble_eq_true rfl)) dX1_range_48 ⟨Nat.le_of_ble_eq_true rfl, Nat.le_of_ble_eq_true rfl⟩) hD hS hA (fun _ => rfl) (fun u48 H locs hr48 hP hD hS => ?_)
        obtain ⟨F2, A2, Q2⟩ := u48
        obtain ⟨hm2, hz2, ho2, hq2⟩ := hr48
        dsimp only at hm2 hz2 ho2 hq2 hP hD
        have kF2_0 : F2 0 = nI ax := (ho2.1 0 (by decide)).trans h0
        have kF2_1 : F2 1 = nI md := (ho2.1 1 (by decide)).trans h1
        have kF2_5 : F2 5 = nI nb := (ho2.1 5 (by decide)).trans h5
        have kF2_6 : F2 6 = nI lz := (ho2.1 6 (by decide)).trans h6
        have x13 : A2 13 = (pt_pt6 (A 13) 0 x0 x1 y0 y1 z0 z1) := (ho2.2 13 (by decide) (by decide)).trans (by rw [eA1, pt_up]; exact hr44)
        have xj : ∀ j, j ≠ 13 → j ≠ 14 → j ≠ 16 → A2 j = A j := fun j j1 j2 j3 => (ho2.2 j j2 j3).trans (by rw [eA1]; exact pt_up_ne j1)
        refine lv_aload_n hx hb dX1_range_51 rfl (lv_at hl 0 rfl) ?_
        refine lv_iload_n hx hb dX1_range_52 rfl (lv_at hl 1 rfl) ?_
        refine pt_callv (wf := (fun u : pt_XS => pt_xw a c u.1 u.2.1 u.2.2)) (va_runV (As := [.int (nI rl)]) (rest := []) ⟨hx, hb, hml, hown, hts⟩ (c_X1_askBlocks l dC dI a c F2 A2 Q2 _ ax kF2_0 hax nb kF2_5 hnb fr tO ot od N hN64 (fun b hb9 => by rw [xj 8 (by decide) (by decide) (by decide), xj 9 (by decide) (by decide) (by decide), xj 10 (by decide) (by decide) (by decide)]; exact htr b hb9) (fun i hi => by rw [xj 7 (by decide) (by decide) (by decide)]; exact hod i hi) rl (by omega) (pt_AB_0 hm2 hz2)) (cwV 1 hts gX1_range_X1_askBlocks rfl rfl rfl (by decide +kernel) ⟨Nat.le_of_ble_eq_true rfl, Nat.le_of_ble_eq_true rfl⟩) (pt_wv1 hP hK hN hD (q0 := 0) rfl) rfl rfl hl.1 rfl (lv_room (Nat.le_of_ble_eq_true rfl)) dX1_range_53 ⟨Nat.le_of_ble_eq_true rfl, Nat.le_of_ble_eq_true rfl⟩) hD hS hA (fun _ => rfl) (fun u53 H locs hr53 hP hD hS => ?_)
        obtain ⟨F3, A3, Q3⟩ := u53
        obtain ⟨hm3, ho3, hq3⟩ := hr53
        dsimp only at hm3 ho3 hq3 hP hD
        have kF3_0 : F3 0 = nI ax := (ho3.1 0 (by decide)).trans kF2_0
        have kF3_1 : F3 1 = nI md := (ho3.1 1 (by decide)).trans kF2_1
        have kF3_5 : F3 5 = nI nb := (ho3.1 5 (by decide)).trans kF2_5
        have kF3_6 : F3 6 = nI lz := (ho3.1 6 (by decide)).trans kF2_6
        rw [x13, xj 12 (by decide) (by decide) (by decide), xj 3 (by decide) (by decide) (by decide), xj 4 (by decide) (by decide) (by decide)] at hm3
        refine lv_aload_n hx hb dX1_range_56 rfl (lv_at hl 0 rfl) ?_
        refine va_get (D := (dC, dI)) (ci := 1) (v := .int (F3 6)) (C := RX1) (T := TX1) (N := 18) hx hb hts iw_c_X1_range_wsX10 hown hK hP 0 rfl rfl 6 (by decide) (hts _ wd_c_X1_range_X1_range_4) (fun _ h9 => h9) rfl dX1_range_57 ?_
        refine pt_top (y := nI lz) kF3_6 ?_
        refine lv_istore (lv' := [(8, .int (nI lz)), (0, .ref (a 0)), (1, .int (nI rl)), (2, .int x0), (3, .int x1), (4, .int y0), (5, .int y1), (6, .int z0), (7, .int z1)]) hx hb dX1_range_60 hl (by decide) rfl (fun ls hl => ?_)
        refine pt_loopW (fun q : Nat × pt_XS => md - q.1) (fun q ls H locs => (lz ≤ q.1 ∧ q.1 ≤ md) ∧ (pt_ask (pt_run (pt_FD fr tO ot od (fun b => pt_vd rl (pt_mee ax (A 12) (pt_pt6 (A 13) 0 x0 x1 y0 y1 z0 z1) b 0) (pt_wn ax (A 12) (pt_pt6 (A 13) 0 x0 x1 y0 y1 z0 z1) b 0) (pt_wn ax (pt_pt6 (A 13) 0 x0 x1 y0 y1 z0 z1) (A 12) 0 b)) (fun t => ¬ A 3 t = 0) (pt_Px ax rl (A 3) (A 4) (pt_pt6 (A 13) 0 x0 x1 y0 y1 z0 z1)) nb) (fun k => k) (pt_Px ax rl (A 3) (A 4) (pt_pt6 (A 13) 0 x0 x1 y0 y1 z0 z1)) lz q.1) (pt_FC fr tO ot od (fun b => pt_vd rl (pt_mee ax (A 12) (pt_pt6 (A 13) 0 x0 x1 y0 y1 z0 z1) b 0) (pt_wn ax (A 12) (pt_pt6 (A 13) 0 x0 x1 y0 y1 z0 z1) b 0) (pt_wn ax (pt_pt6 (A 13) 0 x0 x1 y0 y1 z0 z1) (A 12) 0 b)) (fun t => ¬ A 3 t = 0) (pt_Px ax rl (A 3) (A 4) (pt_pt6 (A 13) 0 x0 x1 y0 y1 z0 z1)) nb + pt_cnt (fun k => lz ≤ k ∧ (pt_Px ax rl (A 3) (A 4) (pt_pt6 (A 13) 0 x0 x1 y0 y1 z0 z1)) k) q.1) q.2.1 q.2.2.1 ∧ pt_oth F3 q.2.1 A3 q.2.2.1 ∧ q.2.2.1 16 = A3 16 ∧ q.2.2.2 = Q3) ∧ va_P (dC, dI) vwCl (pt_xw a c q.2.1 q.2.2.1 q.2.2.2) H ∧ va_D AA (pt_xw a c q.2.1 q.2.2.1 q.2.2.2) ∧ va_S AA s.heap H locs ∧ lv_has ls 9 [(8, .int (nI q.1)), (0, .ref (a 0)), (1, .int (nI rl)), (2, .int x0), (3, .int x1), (4, .int y0), (5, .int y1), (6, .int z0), (7, .int z1)]) ?_ (lz, F3, A3, Q3) _ _ _ ⟨⟨Nat.le_refl _, hlz⟩, ⟨hm3.1.c (fun x => pt_run_0) (by show _ = _ + pt_cnt _ lz; rw [pt_cntr_0]; rfl), pt_oth.rf, rfl, rfl⟩, hP, hD, hS, hl⟩
        intro ⟨i, Fi, Ai, Qi⟩ ls H locs ⟨⟨hfi, hit⟩, ⟨hki, hoi, hei, hqi⟩, hP, hD, hS, hl⟩ ih
        dsimp only at hfi hit hki hoi hei hqi hP hD hl ih
        have ki0 : Fi 0 = nI ax := (hoi.1 0 (by decide)).trans kF3_0
        have ki1 : Fi 1 = nI md := (hoi.1 1 (by decide)).trans kF3_1
        have xi : ∀ j, j ≠ 13 → j ≠ 14 → j ≠ 16 → Ai j = A j := fun j j1 j2 j3 => ((hoi.2 j j2 j3).trans (ho3.2 j j2 j3)).trans (xj j j1 j2 j3)
        have xi13 : Ai 13 = (pt_pt6 (A 13) 0 x0 x1 y0 y1 z0 z1) := ((hoi.2 13 (by decide) (by decide)).trans (ho3.2 13 (by decide) (by decide))).trans x13
        refine lv_iload hx hb dX1_range_62 (lv_at hl 0 rfl) ?_
        refine lv_aload_n hx hb dX1_range_64 rfl (lv_at hl 1 rfl) ?_
        refine va_get (D := (dC, dI)) (ci := 1) (v := .int (Fi 1)) (C := RX1) (T := TX1) (N := 18) hx hb hts iw_c_X1_range_wsX10 hown hK hP 0 rfl rfl 1 (by decide) (hts _ wd_c_X1_range_X1_range_5) (fun _ h9 => h9) rfl dX1_range_65 ?_
        refine pt_top (y := nI md) ki1 ?_
        refine lv_icmp_ge (tgt := 84) hx hb dX1_range_68 (by decide) (fun c68 => ?_) (fun c68 => ?_)
        · have hie : i = md := by have := (nI_leI (by omega) (by omega)).mp c68; omega
          rw [hie] at hki
          refine lv_aload_n hx hb dX1_range_84 rfl (lv_at hl 1 rfl) ?_
          refine va_get (D := (dC, dI)) (ci := 1) (v := .int (Fi 15)) (C := RX1) (T := TX1) (N := 18) hx hb hts iw_c_X1_range_wsX10 hown hK hP 0 rfl rfl 15 (by decide) (hts _ wd_c_X1_range_X1_range_6) (fun _ h9 => h9) rfl dX1_range_85 ?_
          exact W.iret (v := (Fi 15)) hx hb hr (fun zt zh zW => ⟨⟨_, (Fi, Ai, Qi), rfl, (Or.inr ⟨rl, hrl, rfl, d23, hki.1, hki, ⟨by show Ai 16 0 = _; rw [hei]; exact hm3.2.1, by show Ai 16 1 = _; rw [hei]; exact hm3.2.2.1, by show Ai 16 2 = _; rw [hei]; exact hm3.2.2.2⟩, fun j hj => ((hoi.1 j hj).trans (ho3.1 j hj)).trans (ho2.1 j hj), xi, hqi.trans (hq3.trans hq2)⟩), by show va_P _ _ _ zt.heap; rw [zh]; exact hP⟩, hS.F zh⟩) hS.2.2 dX1_range_88
        · have hlt : i < md := Nat.not_le.mp (fun q => c68 ((nI_leI (by omega) (by omega)).mpr q))
          refine lv_aload_n hx hb dX1_range_71 rfl (lv_at hl 1 rfl) ?_
          refine lv_iload hx hb dX1_range_72 (lv_at hl 0 rfl) ?_
          refine lv_iload_n hx hb dX1_range_74 rfl (lv_at hl 2 rfl) ?_
          refine pt_callv (wf := (fun u : pt_XS => pt_xw a c u.1 u.2.1 u.2.2)) (va_runV (As := [.int (nI i), .int (nI rl)]) (rest := []) ⟨hx, hb, hml, hown, hts⟩ (c_X1_askThing l dC dI a c Fi Ai Qi _ ax ki0 hax i rl (by omega) (by omega) _ _ hki) (cwV 2 hts gX1_range_X1_askThing rfl rfl rfl (by decide +kernel) ⟨Nat.le_of_ble_eq_true rfl, Nat.le_of_ble_eq_true rfl⟩) (pt_wv1 hP hK hN hD (q0 := 0) rfl) rfl rfl hl.1 rfl (lv_room (Nat.le_of_ble_eq_true rfl)) dX1_range_75 ⟨Nat.le_of_ble_eq_true rfl, Nat.le_of_ble_eq_true rfl⟩) hD hS hA (fun _ => rfl) (fun u75 H locs hr75 hP hD hS => ?_)
          obtain ⟨F4, A4, Q4⟩ := u75
          obtain ⟨hm4, ho4, he4, hq4⟩ := hr75
          dsimp only at hm4 ho4 he4 hq4 hP hD
          have kF4_0 : F4 0 = nI ax := (ho4.1 0 (by decide)).trans ki0
          have kF4_1 : F4 1 = nI md := (ho4.1 1 (by decide)).trans ki1
          refine lv_iinc (v := nI (i + 1)) (lv' := [(8, .int (nI (i + 1))), (0, .ref (a 0)), (1, .int (nI rl)), (2, .int x0), (3, .int x1), (4, .int y0), (5, .int y1), (6, .int z0), (7, .int z1)]) hx hb dX1_range_78 hl (k := 0) rfl (nI_1 _) (by decide) rfl (fun ls hl => ?_)
          refine lv_goto (tgt := 62) hx hb dX1_range_81 (by decide) ?_
          rw [xi13, xi 3 (by decide) (by decide) (by decide), xi 4 (by decide) (by decide) (by decide)] at hm4
          exact ih (i + 1, F4, A4, Q4) _ _ _ ⟨⟨by show lz ≤ i + 1; omega, by show i + 1 ≤ md; omega⟩, ⟨hm4.c (fun x => pt_run_s (od := fun k => k) hfi) (by show _ = _ + pt_cnt _ (i + 1); rw [pt_cntr_s hfi, Nat.add_assoc]), hoi.tr ho4, he4.trans hei, hq4.trans hqi⟩, hP, hD, hS, lv_sub hl [0, 1, 2, 3, 4, 5, 6, 7, 8] rfl⟩ (by show md - (i + 1) < md - i; omega)
      · have d23 := hr20.f c23
        refine lv_bipush (v := (-2)) hx hb dX1_range_26 (by decide) ?_
        exact W.iret (v := (-2)) hx hb hr (fun zt zh zW => ⟨⟨_, (F, A, Q), rfl, (Or.inl ⟨fun q => by first | exact d23 q.2 | (obtain ⟨t, ht, et, _⟩ := q.1; subst et; first | exact nI_pos (by omega) c1 | exact Int32.not_lt.mpr (nI_le (show t ≤ 3 by omega) (by decide)) c6), rfl, rfl⟩), by show va_P _ _ _ zt.heap; rw [zh]; exact hP⟩, hS.F zh⟩) hS.2.2 dX1_range_28
end
section
/-! the sort of a run: one by one let down to its place -/
def pt_swp (od : Nat → Nat) (j : Nat) : Nat → Nat := va_up (va_up od j (od (j + 1))) (j + 1) (od j)
noncomputable def pt_sink (bf : Nat → Nat → Prop) (f : Nat) : Nat → (Nat → Nat) → (Nat → Nat)
  | 0, od => od
  | n + 1, od => pt_if (bf (od (f + (n + 1))) (od (f + n))) (pt_sink bf f n (pt_swp od (f + n))) od
noncomputable def pt_srt (bf : Nat → Nat → Prop) (f : Nat) : Nat → (Nat → Nat) → (Nat → Nat)
  | 0, od => od
  | m + 1, od => pt_sink bf f (m + 1) (pt_srt bf f m od)
/-- the row holds od, below N, of numbers below md -/
def pt_row (N md : Nat) (od : Nat → Nat) (r : Nat → Int32) : Prop := ∀ k, k < N → r k = nI (od k) ∧ od k < md
theorem pt_row_swp {N md j : Nat} {od : Nat → Nat} {r : Nat → Int32} (h : pt_row N md od r) (hj : j + 1 < N) : pt_row N md (pt_swp od j) (upd (upd r j (nI (od (j + 1)))) (j + 1) (nI (od j))) := by
  intro k hk
  unfold pt_swp
  by_cases h1 : k = j + 1
  · subst h1
    rw [pt_upd, pt_up]
    exact ⟨rfl, (h j (by omega)).2⟩
  · rw [pt_upd_ne h1, pt_up_ne h1]
    by_cases h2 : k = j
    · subst h2
      rw [pt_upd, pt_up]
      exact ⟨rfl, (h (k + 1) hj).2⟩
    · rw [pt_upd_ne h2, pt_up_ne h2]
      exact h k hk

theorem wd_c_X1_sortRun_X1_sortRun_0 : Cond.fieldLink RX1 28 "PointTrees" "order" "[I" ∈ wsX1_sortRun := by decide +kernel
theorem iw_c_X1_sortRun_wsX10 : ∀ w ∈ wsX10, w ∈ wsX1_sortRun := fun _ h => List.mem_cons_of_mem _ (List.mem_append_left _ (List.mem_append_right _ h))
theorem iw_c_X1_sortRun_wsX00 : ∀ w ∈ wsX00, w ∈ wsX1_sortRun := fun _ h => List.mem_cons_of_mem _ (List.mem_append_right _ h)
set_option maxHeartbeats 4000000 in
set_option maxRecDepth 100000 in
theorem c_X1_sortRun (l : Launch) (dC : Nat → ClassId) (dI : Nat → Nat → Nat) (a : Nat → Nat) (c : Nat → ClassId) (F : Nat → Int32) (A : Nat → Nat → Int32) (Q : Nat → Int64) (sz : Nat) (f t x N : Nat) (md : Nat) (od : Nat → Nat) (hft : f < t) (htN : t ≤ N) (hN64 : N ≤ 64) (hmd : md ≤ 64) (hx1 : x < 3) (hrow : pt_row N md od (A 7)) : Met l yX1_sortRun wsX1_sortRun (pt_rm 3) (pt_W (dC, dI) vwCl (pt_xt c) (pt_xw a c F A Q) pt_nw sz [.ref (a 0), .int (nI f), .int (nI t), .int (nI x)]) (va_Qv (fun (u : pt_XS) => pt_row N md (pt_srt (pt_bf (pt_sm (A 4) x)) f (t - f - 1) od) (u.2.1 7) ∧ u.1 = F ∧ (∀ j, j ≠ 7 → u.2.1 j = A j) ∧ u.2.2 = Q) (fun u t => va_P (dC, dI) vwCl (pt_xw a c u.1 u.2.1 u.2.2) t.heap) (va_A (pt_xw a c F A Q) sz)) 0 0 (va_A (pt_xw a c F A Q) sz) := by
  refine Met.ofW (cc := cX1_sortRun) (maxL := 7) (ret := none) (by decide) rfl ?_
  intro p e s m args below meth cd s₁ B hml hv
  obtain ⟨rfl, hsz, hP, hK, hN, hD0⟩ := hv
  have hx := B.exec
  have hb := B.bytes
  have hr := B.returns
  have hts := atoms_spec (ws := wsX1_sortRun) B.pre
  have hown : s.vm.findClass RX1 = some m.cls := findClass_of_methodNamed B.named
  have hlocks := B.notSynchronized
  subst hsz
  have hD := hD0.self (sz := s.heap.size)
  generalize hAe : va_A (pt_xw a c F A Q) s.heap.size = AA at hD ⊢
  have hA : ∀ q : Nat, s.heap.size ≤ q → AA q := fun q h => by rw [← hAe]; exact Or.inr h
  have hS : va_S AA s.heap s.heap [] := va_S.rf
  have hl := lv_entry ([.ref (a 0), .int (nI f), .int (nI t), .int (nI x)]) (n := 7) (Nat.le_of_ble_eq_true rfl)
  rw [lg_entry_eq]
  generalize (lg_sl ([.ref (a 0), .int (nI f), .int (nI t), .int (nI x)]) ++ List.replicate (7 - (lg_sl ([.ref (a 0), .int (nI f), .int (nI t), .int (nI x)])).length) Slot.unset).toArray = ls at hl ⊢
  have hl : lv_has ls 7 [(0, .ref (a 0)), (1, .int (nI f)), (2, .int (nI t)), (3, .int (nI x))] := hl
  refine lv_iload_n hx hb dX1_sortRun_0 rfl (lv_at hl 1 rfl) ?_
  refine lv_iconst (v := nI 1) hx hb dX1_sortRun_1 (by decide) ?_
  refine lv_iadd hx hb dX1_sortRun_2 ?_
  refine pt_top (y := nI (f + 1)) (nI_add _ _) ?_
  refine lv_istore (lv' := [(4, .int (nI (f + 1))), (0, .ref (a 0)), (1, .int (nI f)), (2, .int (nI t)), (3, .int (nI x))]) hx hb dX1_sortRun_3 hl (by decide) rfl (fun ls hl => ?_)
  refine pt_loopW (fun q : Nat × (Nat → Nat → Int32) => t - (f + (q.1 + 1))) (fun q ls H locs => f + (q.1 + 1) ≤ t ∧ (pt_row N md (pt_srt (pt_bf (pt_sm (A 4) x)) f q.1 od) (q.2 7) ∧ ∀ j, j ≠ 7 → q.2 j = A j) ∧ va_P (dC, dI) vwCl (pt_xw a c F q.2 Q) H ∧ va_D AA (pt_xw a c F q.2 Q) ∧ va_S AA s.heap H locs ∧ lv_has ls 7 [(4, .int (nI (f + (q.1 + 1)))), (0, .ref (a 0)), (1, .int (nI f)), (2, .int (nI t)), (3, .int (nI x))]) ?_ (0, A) _ _ _ ⟨by show f + (0 + 1) ≤ t; omega, ⟨hrow, fun _ _ => rfl⟩, hP, hD, hS, hl⟩
  intro ⟨m2, Am⟩ ls H locs ⟨hm, ⟨hrm, hsm⟩, hP, hD, hS, hl⟩ ih
  dsimp only at hm hrm hsm hP hD hl ih
  refine lv_iload hx hb dX1_sortRun_5 (lv_at hl 0 rfl) ?_
  refine lv_iload_n hx hb dX1_sortRun_7 rfl (lv_at hl 3 rfl) ?_
  refine lv_icmp_ge (tgt := 93) hx hb dX1_sortRun_8 (by decide) (fun c8 => ?_) (fun c8 => ?_)
  · have hme : m2 = t - f - 1 := by have := (nI_leI (by omega) (by omega)).mp c8; omega
    exact W.vret hx hb hr (fun zt zh zW => ⟨⟨(F, Am, Q), rfl, ⟨by rw [← hme]; exact hrm, rfl, hsm, rfl⟩, by show va_P _ _ _ zt.heap; rw [zh]; exact hP⟩, hS.F zh⟩) hS.2.2 dX1_sortRun_93
  · have hlt : f + (m2 + 1) < t := Nat.not_le.mp (fun q => c8 ((nI_leI (by omega) (by omega)).mpr q))
    refine lv_iload hx hb dX1_sortRun_11 (lv_at hl 0 rfl) ?_
    refine lv_istore (lv' := [(5, .int (nI (f + (m2 + 1)))), (4, .int (nI (f + (m2 + 1)))), (0, .ref (a 0)), (1, .int (nI f)), (2, .int (nI t)), (3, .int (nI x))]) hx hb dX1_sortRun_13 hl (by decide) rfl (fun ls hl => ?_)
    refine pt_loopW (fun q : Nat × (Nat → Nat) × (Nat → Nat → Int32) => q.1) (fun q ls H locs => q.1 ≤ m2 + 1 ∧ (pt_sink (pt_bf (pt_sm (A 4) x)) f q.1 q.2.1 = pt_srt (pt_bf (pt_sm (A 4) x)) f (m2 + 1) od ∧ pt_row N md q.2.1 (q.2.2 7) ∧ ∀ j, j ≠ 7 → q.2.2 j = A j) ∧ va_P (dC, dI) vwCl (pt_xw a c F q.2.2 Q) H ∧ va_D AA (pt_xw a c F q.2.2 Q) ∧ va_S AA s.heap H locs ∧ lv_has ls 7 [(5, .int (nI (f + q.1))), (4, .int (nI (f + (m2 + 1)))), (0, .ref (a 0)), (1, .int (nI f)), (2, .int (nI t)), (3, .int (nI x))]) ?_ (m2 + 1, pt_srt (pt_bf (pt_sm (A 4) x)) f m2 od, Am) _ _ _ ⟨Nat.le_refl _, ⟨rfl, hrm, hsm⟩, hP, hD, hS, hl⟩
    intro ⟨n, odn, An⟩ ls H locs ⟨hn, ⟨hsk, hrn, hsn⟩, hP, hD, hS, hl⟩ ihn
    dsimp only at hn hsk hrn hsn hP hD hl ihn
    refine lv_iload hx hb dX1_sortRun_15 (lv_at hl 0 rfl) ?_
    refine lv_iload_n hx hb dX1_sortRun_17 rfl (lv_at hl 3 rfl) ?_
    refine lv_icmp_le (tgt := 87) hx hb dX1_sortRun_18 (by decide) (fun c18 => ?_) (fun c18 => ?_)
    · have hn0 : n = 0 := by have := (nI_leI (by omega) (by omega)).mp c18; omega
      have hod2 : odn = pt_srt (pt_bf (pt_sm (A 4) x)) f (m2 + 1) od := by rw [← hsk, hn0]; rfl
      refine lv_iinc (v := nI ((f + (m2 + 1)) + 1)) (lv' := [(4, .int (nI ((f + (m2 + 1)) + 1))), (5, .int (nI (f + n))), (0, .ref (a 0)), (1, .int (nI f)), (2, .int (nI t)), (3, .int (nI x))]) hx hb dX1_sortRun_87 hl (k := 1) rfl (nI_1 _) (by decide) rfl (fun ls hl => ?_)
      refine lv_goto (tgt := 5) hx hb dX1_sortRun_90 (by decide) ?_
      exact ih (m2 + 1, An) _ _ _ ⟨by show f + (m2 + 1 + 1) ≤ t; omega, ⟨by show pt_row N md _ _; rw [← hod2]; exact hrn, hsn⟩, hP, hD, hS, lv_sub hl [0, 2, 3, 4, 5] rfl⟩ (by show t - (f + (m2 + 1 + 1)) < t - (f + (m2 + 1)); omega)
    · obtain ⟨n, rfl⟩ : ∃ zz, n = zz + 1 := ⟨n - 1, by have : ¬ f + n ≤ f := fun q => c18 ((nI_leI (by omega) (by omega)).mpr q); omega⟩
      have ra := hrn (f + (n + 1)) (by omega)
      have rb := hrn (f + n) (by omega)
      refine lv_aload_n hx hb dX1_sortRun_21 rfl (lv_at hl 2 rfl) ?_
      refine lv_aload_n hx hb dX1_sortRun_22 rfl (lv_at hl 2 rfl) ?_
      refine va_get (D := (dC, dI)) (ci := 1) (v := .ref (a 7)) (C := RX1) (T := TX1) (N := 18) hx hb hts iw_c_X1_sortRun_wsX10 hown hK hP 0 rfl rfl 7 (by decide) (hts _ wd_c_X1_sortRun_X1_sortRun_0) (fun _ h9 => h9) rfl dX1_sortRun_23 ?_
      refine lv_iload hx hb dX1_sortRun_26 (lv_at hl 0 rfl) ?_
      refine pt_iald hx hb hK hP 4 2 rfl rfl (f + (n + 1)) rfl (by omega) (by decide) dX1_sortRun_28 ?_
      refine pt_top (y := nI (odn (f + (n + 1)))) ra.1 ?_
      refine lv_aload_n hx hb dX1_sortRun_29 rfl (lv_at hl 2 rfl) ?_
      refine va_get (D := (dC, dI)) (ci := 1) (v := .ref (a 7)) (C := RX1) (T := TX1) (N := 18) hx hb hts iw_c_X1_sortRun_wsX10 hown hK hP 0 rfl rfl 7 (by decide) (hts _ wd_c_X1_sortRun_X1_sortRun_0) (fun _ h9 => h9) rfl dX1_sortRun_30 ?_
      refine lv_iload hx hb dX1_sortRun_33 (lv_at hl 0 rfl) ?_
      refine lv_iconst (v := nI 1) hx hb dX1_sortRun_35 (by decide) ?_
      refine lv_isub hx hb dX1_sortRun_36 ?_
      refine pt_top (y := nI (f + n)) (nI_pred (f + n)) ?_
      refine pt_iald hx hb hK hP 4 2 rfl rfl (f + n) rfl (by omega) (by decide) dX1_sortRun_37 ?_
      refine pt_top (y := nI (odn (f + n))) rb.1 ?_
      refine lv_iload_n hx hb dX1_sortRun_38 rfl (lv_at hl 5 rfl) ?_
      refine pt_rdi (va_runV (As := [.int (nI (odn (f + (n + 1)))), .int (nI (odn (f + n))), .int (nI x)]) (rest := []) ⟨hx, hb, hml, hown, hts⟩ (c_X1_comesBefore l dC dI a c F An Q (odn (f + (n + 1))) (odn (f + n)) x (by omega) (by omega) hx1) (cwV 3 hts gX1_sortRun_X1_comesBefore rfl rfl rfl (by decide +kernel) ⟨Nat.le_of_ble_eq_true rfl, Nat.le_of_ble_eq_true rfl⟩) (pt_pv1 hP hK hN (q0 := 0) rfl) rfl rfl hl.1 rfl (lv_room (Nat.le_of_ble_eq_true rfl)) dX1_sortRun_39 ⟨Nat.le_of_ble_eq_true rfl, Nat.le_of_ble_eq_true rfl⟩) (fun r39 hr39 => ?_)
      refine lv_if_eq (tgt := 87) hx hb dX1_sortRun_42 (by decide) (fun c42 => ?_) (fun c42 => ?_)
      · have d42 : ¬ (pt_bf (pt_sm (A 4) x)) (odn (f + (n + 1))) (odn (f + n)) := by have := hr39.f c42; rw [hsn 4 (by decide)] at this; exact this
        have hod2 : odn = pt_srt (pt_bf (pt_sm (A 4) x)) f (m2 + 1) od := by rw [← hsk]; exact (pt_if_f d42).symm
        refine lv_iinc (v := nI ((f + (m2 + 1)) + 1)) (lv' := [(4, .int (nI ((f + (m2 + 1)) + 1))), (5, .int (nI (f + (n + 1)))), (0, .ref (a 0)), (1, .int (nI f)), (2, .int (nI t)), (3, .int (nI x))]) hx hb dX1_sortRun_87 hl (k := 1) rfl (nI_1 _) (by decide) rfl (fun ls hl => ?_)
        refine lv_goto (tgt := 5) hx hb dX1_sortRun_90 (by decide) ?_
        exact ih (m2 + 1, An) _ _ _ ⟨by show f + (m2 + 1 + 1) ≤ t; omega, ⟨by show pt_row N md _ _; rw [← hod2]; exact hrn, hsn⟩, hP, hD, hS, lv_sub hl [0, 2, 3, 4, 5] rfl⟩ (by show t - (f + (m2 + 1 + 1)) < t - (f + (m2 + 1)); omega)
      · have d42 : (pt_bf (pt_sm (A 4) x)) (odn (f + (n + 1))) (odn (f + n)) := by have := hr39.t c42; rw [hsn 4 (by decide)] at this; exact this
        refine lv_aload_n hx hb dX1_sortRun_45 rfl (lv_at hl 2 rfl) ?_
        refine va_get (D := (dC, dI)) (ci := 1) (v := .ref (a 7)) (C := RX1) (T := TX1) (N := 18) hx hb hts iw_c_X1_sortRun_wsX10 hown hK hP 0 rfl rfl 7 (by decide) (hts _ wd_c_X1_sortRun_X1_sortRun_0) (fun _ h9 => h9) rfl dX1_sortRun_46 ?_
        refine lv_iload hx hb dX1_sortRun_49 (lv_at hl 0 rfl) ?_
        refine lv_iconst (v := nI 1) hx hb dX1_sortRun_51 (by decide) ?_
        refine lv_isub hx hb dX1_sortRun_52 ?_
        refine pt_top (y := nI (f + n)) (nI_pred (f + n)) ?_
        refine pt_iald hx hb hK hP 4 2 rfl rfl (f + n) rfl (by omega) (by decide) dX1_sortRun_53 ?_
        refine pt_top (y := nI (odn (f + n))) rb.1 ?_
        refine lv_istore (lv' := [(6, .int (nI (odn (f + n)))), (5, .int (nI (f + (n + 1)))), (4, .int (nI (f + (m2 + 1)))), (0, .ref (a 0)), (1, .int (nI f)), (2, .int (nI t)), (3, .int (nI x))]) hx hb dX1_sortRun_54 hl (by decide) rfl (fun ls hl => ?_)
        refine lv_aload_n hx hb dX1_sortRun_56 rfl (lv_at hl 3 rfl) ?_
        refine va_get (D := (dC, dI)) (ci := 1) (v := .ref (a 7)) (C := RX1) (T := TX1) (N := 18) hx hb hts iw_c_X1_sortRun_wsX10 hown hK hP 0 rfl rfl 7 (by decide) (hts _ wd_c_X1_sortRun_X1_sortRun_0) (fun _ h9 => h9) rfl dX1_sortRun_57 ?_
        refine lv_iload hx hb dX1_sortRun_60 (lv_at hl 1 rfl) ?_
        refine lv_iconst (v := nI 1) hx hb dX1_sortRun_62 (by decide) ?_
        refine lv_isub hx hb dX1_sortRun_63 ?_
        refine pt_top (y := nI (f + n)) (nI_pred (f + n)) ?_
        refine lv_aload_n hx hb dX1_sortRun_64 rfl (lv_at hl 3 rfl) ?_
        refine va_get (D := (dC, dI)) (ci := 1) (v := .ref (a 7)) (C := RX1) (T := TX1) (N := 18) hx hb hts iw_c_X1_sortRun_wsX10 hown hK hP 0 rfl rfl 7 (by decide) (hts _ wd_c_X1_sortRun_X1_sortRun_0) (fun _ h9 => h9) rfl dX1_sortRun_65 ?_
        refine lv_iload hx hb dX1_sortRun_68 (lv_at hl 1 rfl) ?_
        refine pt_iald hx hb hK hP 4 2 rfl rfl (f + (n + 1)) rfl (by omega) (by decide) dX1_sortRun_70 ?_
        refine pt_top (y := nI (odn (f + (n + 1)))) ra.1 ?_
        obtain ⟨A1, eA1⟩ : ∃ zz, zz = va_up An 7 (upd (An 7) (f + n) (nI (odn (f + (n + 1))))) := ⟨_, rfl⟩
        refine pt_iast hx hb hK hP hD hS 4 2 rfl rfl (f + n) rfl (by omega) (by decide) (ws' := (pt_xw a c F A1 Q)) (by rw [eA1]; rfl) dX1_sortRun_71 (fun H locs hP hD hS => ?_)
        refine lv_aload_n hx hb dX1_sortRun_72 rfl (lv_at hl 3 rfl) ?_
        refine va_get (D := (dC, dI)) (ci := 1) (v := .ref (a 7)) (C := RX1) (T := TX1) (N := 18) hx hb hts iw_c_X1_sortRun_wsX10 hown hK hP 0 rfl rfl 7 (by decide) (hts _ wd_c_X1_sortRun_X1_sortRun_0) (fun _ h9 => h9) rfl dX1_sortRun_73 ?_
        refine lv_iload hx hb dX1_sortRun_76 (lv_at hl 1 rfl) ?_
        refine lv_iload hx hb dX1_sortRun_78 (lv_at hl 0 rfl) ?_
        obtain ⟨A2, eA2⟩ : ∃ zz, zz = va_up A1 7 (upd (A1 7) (f + (n + 1)) (nI (odn (f + n)))) := ⟨_, rfl⟩
        refine pt_iast hx hb hK hP hD hS 4 2 rfl rfl (f + (n + 1)) rfl (by omega) (by decide) (ws' := (pt_xw a c F A2 Q)) (by rw [eA2]; rfl) dX1_sortRun_80 (fun H locs hP hD hS => ?_)
        refine lv_iinc (v := nI (f + n)) (lv' := [(5, .int (nI (f + n))), (6, .int (nI (odn (f + n)))), (4, .int (nI (f + (m2 + 1)))), (0, .ref (a 0)), (1, .int (nI f)), (2, .int (nI t)), (3, .int (nI x))]) hx hb dX1_sortRun_81 hl (k := 1) rfl (pk_m1 (f + n)) (by decide) rfl (fun ls hl => ?_)
        refine lv_goto (tgt := 15) hx hb dX1_sortRun_84 (by decide) ?_
        have e7 : A2 7 = upd (upd (An 7) (f + n) (nI (odn (f + n + 1)))) (f + n + 1) (nI (odn (f + n))) := by rw [eA2, pt_up, eA1, pt_up]; rfl
        exact ihn (n, pt_swp odn (f + n), A2) _ _ _ ⟨by show n ≤ m2 + 1; omega, ⟨by show pt_sink _ f n _ = _; rw [← hsk]; exact (pt_if_t d42).symm, by show pt_row N md _ (A2 7); rw [e7]; exact pt_row_swp hrn (by omega), fun j hj => by show A2 j = A j; rw [eA2, pt_up_ne hj, eA1, pt_up_ne hj]; exact hsn j hj⟩, hP, hD, hS, lv_sub hl [0, 2, 3, 4, 5, 6] rfl⟩ (by show n < n + 1; omega)

/-- a block's bounds: the first thing's box, widened by the others -/
def pt_bds (T : Nat → Int32) (od : Nat → Nat) (b f : Nat) (base : Nat → Int32) : Nat → (Nat → Int32)
  | 0 => va_cpy T base (od f * 6) (b * 6) (3 * 2)
  | n + 1 => pt_wd (pt_bds T od b f base n) T (od (f + 1 + n) * 6) (b * 6) (3 * 2)

theorem wd_c_X1_setBounds_X1_setBounds_0 : Cond.fieldLink RX1 44 "PointTrees" "bounds" "LPointTrees$Boxes;" ∈ wsX1_setBounds := by decide +kernel
theorem wd_c_X1_setBounds_X1_setBounds_1 : Cond.fieldLink RX1 24 "PointTrees" "things" "LPointTrees$Boxes;" ∈ wsX1_setBounds := by decide +kernel
theorem wd_c_X1_setBounds_X1_setBounds_2 : Cond.fieldLink RX1 28 "PointTrees" "order" "[I" ∈ wsX1_setBounds := by decide +kernel
theorem wd_c_X1_setBounds_X1_setBounds_3 : Cond.fieldLink RX1 32 "PointTrees" "blockFrom" "[I" ∈ wsX1_setBounds := by decide +kernel
theorem wd_c_X1_setBounds_X1_setBounds_4 : Cond.initialized RX0 ∈ wsX1_setBounds := by decide +kernel
theorem wd_c_X1_setBounds_X1_setBounds_5 : Cond.instanceMethod yX0_copyFrom ∈ wsX1_setBounds := by decide +kernel
theorem wd_c_X1_setBounds_X1_setBounds_6 : Cond.selects RX0 yX0_copyFrom yX0_copyFrom ∈ wsX1_setBounds := by decide +kernel
theorem wd_c_X1_setBounds_X1_setBounds_7 : Cond.fieldLink RX1 35 "PointTrees" "blockTo" "[I" ∈ wsX1_setBounds := by decide +kernel
theorem wd_c_X1_setBounds_X1_setBounds_8 : Cond.instanceMethod yX0_widen ∈ wsX1_setBounds := by decide +kernel
theorem wd_c_X1_setBounds_X1_setBounds_9 : Cond.selects RX0 yX0_widen yX0_widen ∈ wsX1_setBounds := by decide +kernel
theorem iw_c_X1_setBounds_wsX10 : ∀ w ∈ wsX10, w ∈ wsX1_setBounds := fun _ h => List.mem_cons_of_mem _ (List.mem_append_left _ (List.mem_append_right _ h))
theorem iw_c_X1_setBounds_wsX00 : ∀ w ∈ wsX00, w ∈ wsX1_setBounds := fun _ h => List.mem_cons_of_mem _ (List.mem_append_right _ h)
set_option maxHeartbeats 4000000 in
set_option maxRecDepth 100000 in
theorem c_X1_setBounds (l : Launch) (dC : Nat → ClassId) (dI : Nat → Nat → Nat) (a : Nat → Nat) (c : Nat → ClassId) (F : Nat → Int32) (A : Nat → Nat → Int32) (Q : Nat → Int64) (sz : Nat) (b f t N md : Nat) (od : Nat → Nat) (hb1 : b < 31) (hft : f < t) (htN : t ≤ N) (hN64 : N ≤ 64) (hmd : md ≤ 64) (h8 : A 8 b = nI f) (h9 : A 9 b = nI t) (hrow : pt_row N md od (A 7)) : Met l yX1_setBounds wsX1_setBounds (pt_rm 2) (pt_W (dC, dI) vwCl (pt_xt c) (pt_xw a c F A Q) pt_nw sz [.ref (a 0), .int (nI b)]) (va_Qv (fun (u : pt_XS) => u.2.1 12 = pt_bds (A 4) od b f (A 12) (t - f - 1) ∧ u.1 = F ∧ (∀ j, j ≠ 12 → u.2.1 j = A j) ∧ u.2.2 = Q) (fun u t => va_P (dC, dI) vwCl (pt_xw a c u.1 u.2.1 u.2.2) t.heap) (va_A (pt_xw a c F A Q) sz)) 0 0 (va_A (pt_xw a c F A Q) sz) := by
  refine Met.ofW (cc := cX1_setBounds) (maxL := 3) (ret := none) (by decide) rfl ?_
  intro p e s m args below meth cd s₁ B hml hv
  obtain ⟨rfl, hsz, hP, hK, hN, hD0⟩ := hv
  have hx := B.exec
  have hb := B.bytes
  have hr := B.returns
  have hts := atoms_spec (ws := wsX1_setBounds) B.pre
  have hown : s.vm.findClass RX1 = some m.cls := findClass_of_methodNamed B.named
  have hlocks := B.notSynchronized
  subst hsz
  have hD := hD0.self (sz := s.heap.size)
  generalize hAe : va_A (pt_xw a c F A Q) s.heap.size = AA at hD ⊢
  have hA : ∀ q : Nat, s.heap.size ≤ q → AA q := fun q h => by rw [← hAe]; exact Or.inr h
  have hS : va_S AA s.heap s.heap [] := va_S.rf
  have hl := lv_entry ([.ref (a 0), .int (nI b)]) (n := 3) (Nat.le_of_ble_eq_true rfl)
  rw [lg_entry_eq]
  generalize (lg_sl ([.ref (a 0), .int (nI b)]) ++ List.replicate (3 - (lg_sl ([.ref (a 0), .int (nI b)])).length) Slot.unset).toArray = ls at hl ⊢
  have hl : lv_has ls 3 [(0, .ref (a 0)), (1, .int (nI b))] := hl
  have rf := hrow f (by omega)
  refine lv_aload_n hx hb dX1_setBounds_0 rfl (lv_at hl 0 rfl) ?_
  refine va_get (D := (dC, dI)) (ci := 1) (v := .ref (a 12)) (C := RX1) (T := TX1) (N := 18) hx hb hts iw_c_X1_setBounds_wsX10 hown hK hP 0 rfl rfl 12 (by decide) (hts _ wd_c_X1_setBounds_X1_setBounds_0) (fun _ h9 => h9) rfl dX1_setBounds_1 ?_
  refine lv_iload_n hx hb dX1_setBounds_4 rfl (lv_at hl 1 rfl) ?_
  refine lv_aload_n hx hb dX1_setBounds_5 rfl (lv_at hl 0 rfl) ?_
  refine va_get (D := (dC, dI)) (ci := 1) (v := .ref (a 4)) (C := RX1) (T := TX1) (N := 18) hx hb hts iw_c_X1_setBounds_wsX10 hown hK hP 0 rfl rfl 4 (by decide) (hts _ wd_c_X1_setBounds_X1_setBounds_1) (fun _ h9 => h9) rfl dX1_setBounds_6 ?_
  refine lv_aload_n hx hb dX1_setBounds_9 rfl (lv_at hl 0 rfl) ?_
  refine va_get (D := (dC, dI)) (ci := 1) (v := .ref (a 7)) (C := RX1) (T := TX1) (N := 18) hx hb hts iw_c_X1_setBounds_wsX10 hown hK hP 0 rfl rfl 7 (by decide) (hts _ wd_c_X1_setBounds_X1_setBounds_2) (fun _ h9 => h9) rfl dX1_setBounds_10 ?_
  refine lv_aload_n hx hb dX1_setBounds_13 rfl (lv_at hl 0 rfl) ?_
  refine va_get (D := (dC, dI)) (ci := 1) (v := .ref (a 8)) (C := RX1) (T := TX1) (N := 18) hx hb hts iw_c_X1_setBounds_wsX10 hown hK hP 0 rfl rfl 8 (by decide) (hts _ wd_c_X1_setBounds_X1_setBounds_3) (fun _ h9 => h9) rfl dX1_setBounds_14 ?_
  refine lv_iload_n hx hb dX1_setBounds_17 rfl (lv_at hl 1 rfl) ?_
  refine pt_iald hx hb hK hP 5 3 rfl rfl b rfl (by omega) (by decide) dX1_setBounds_18 ?_
  refine pt_top (y := nI f) h8 ?_
  refine pt_iald hx hb hK hP 4 2 rfl rfl f rfl (by omega) (by decide) dX1_setBounds_19 ?_
  refine pt_top (y := nI (od f)) rf.1 ?_
  refine pt_callv (wf := (fun u => (pt_xw a c F A Q).set 10 (a 32, .inl (c 12, 186, .inl u)))) (va_runVN (As := [.int (nI b), .ref (a 4), .int (nI (od f))]) (rest := []) ⟨hx, hb, hml, hown, hts⟩ (c_X0_copyFrom l dC dI (pt_xt c) (pt_xw a c F A Q) 9 10 7 (a 12) (a 32) (c 12) 186 (A 12) rfl rfl rfl (by decide) 2 3 1 (a 4) (a 24) (c 4) 384 (A 4) rfl rfl rfl (by decide) (by decide) _ b (od f) (by omega) (by omega)) ⟨va_cnB 3 hts gX1_setBounds_X0_copyFrom_n161 rfl rfl rfl (pt_nest hN 3 rfl) (hts _ wd_c_X1_setBounds_X1_setBounds_4) (by decide +kernel) ⟨Nat.le_of_ble_eq_true rfl, Nat.le_of_ble_eq_true rfl⟩, (hts _ wd_c_X1_setBounds_X1_setBounds_5), (hts _ wd_c_X1_setBounds_X1_setBounds_6)⟩ (pt_wv0 hP hK hN hD (q0 := 9) rfl) rfl rfl hl.1 rfl (lv_room (Nat.le_of_ble_eq_true rfl)) dX1_setBounds_20 ⟨Nat.le_of_ble_eq_true rfl, Nat.le_of_ble_eq_true rfl⟩) hD hS hA (fun _ => rfl) (fun u20 H locs hr20 hP hD hS => ?_)
  obtain ⟨A1, eA1⟩ : ∃ zz, zz = va_up A 12 u20 := ⟨_, rfl⟩
  have hP : va_P (dC, dI) vwCl (pt_xw a c F A1 Q) H := by rw [eA1]; exact hP
  have hD : va_D AA (pt_xw a c F A1 Q) := by rw [eA1]; exact hD
  have wA1 : A1 12 = u20 := by rw [eA1, pt_up]
  have oA1 : ∀ j, j ≠ 12 → A1 j = A j := fun j hj => by rw [eA1]; exact pt_up_ne hj
  have gA1 := hr20
  refine lv_aload_n hx hb dX1_setBounds_23 rfl (lv_at hl 0 rfl) ?_
  refine va_get (D := (dC, dI)) (ci := 1) (v := .ref (a 8)) (C := RX1) (T := TX1) (N := 18) hx hb hts iw_c_X1_setBounds_wsX10 hown hK hP 0 rfl rfl 8 (by decide) (hts _ wd_c_X1_setBounds_X1_setBounds_3) (fun _ h9 => h9) rfl dX1_setBounds_24 ?_
  refine lv_iload_n hx hb dX1_setBounds_27 rfl (lv_at hl 1 rfl) ?_
  refine pt_iald hx hb hK hP 5 3 rfl rfl b rfl (by omega) (by decide) dX1_setBounds_28 ?_
  refine pt_top (y := nI f) (by rw [oA1 8 (by decide)]; exact h8) ?_
  refine lv_iconst (v := nI 1) hx hb dX1_setBounds_29 (by decide) ?_
  refine lv_iadd hx hb dX1_setBounds_30 ?_
  refine pt_top (y := nI (f + 1)) (nI_add _ _) ?_
  refine lv_istore_n (lv' := [(2, .int (nI (f + 1))), (0, .ref (a 0)), (1, .int (nI b))]) hx hb dX1_setBounds_31 rfl hl (by decide) rfl (fun ls hl => ?_)
  refine pt_loopW (fun q : Nat × (Nat → Nat → Int32) => t - (f + 1 + q.1)) (fun q ls H locs => f + 1 + q.1 ≤ t ∧ (q.2 12 = pt_bds (A 4) od b f (A 12) q.1 ∧ ∀ j, j ≠ 12 → q.2 j = A j) ∧ va_P (dC, dI) vwCl (pt_xw a c F q.2 Q) H ∧ va_D AA (pt_xw a c F q.2 Q) ∧ va_S AA s.heap H locs ∧ lv_has ls 3 [(2, .int (nI (f + 1 + q.1))), (0, .ref (a 0)), (1, .int (nI b))]) ?_ (0, A1) _ _ _ ⟨by show f + 1 + 0 ≤ t; omega, ⟨by show A1 12 = _; rw [wA1, gA1]; rfl, oA1⟩, hP, hD, hS, hl⟩
  intro ⟨n, An⟩ ls H locs ⟨hn, ⟨hbn, hsn⟩, hP, hD, hS, hl⟩ ih
  dsimp only at hn hbn hsn hP hD hl ih
  refine lv_iload_n hx hb dX1_setBounds_32 rfl (lv_at hl 0 rfl) ?_
  refine lv_aload_n hx hb dX1_setBounds_33 rfl (lv_at hl 1 rfl) ?_
  refine va_get (D := (dC, dI)) (ci := 1) (v := .ref (a 9)) (C := RX1) (T := TX1) (N := 18) hx hb hts iw_c_X1_setBounds_wsX10 hown hK hP 0 rfl rfl 9 (by decide) (hts _ wd_c_X1_setBounds_X1_setBounds_7) (fun _ h9 => h9) rfl dX1_setBounds_34 ?_
  refine lv_iload_n hx hb dX1_setBounds_37 rfl (lv_at hl 2 rfl) ?_
  refine pt_iald hx hb hK hP 6 4 rfl rfl b rfl (by omega) (by decide) dX1_setBounds_38 ?_
  refine pt_top (y := nI t) (by rw [hsn 9 (by decide)]; exact h9) ?_
  refine lv_icmp_ge (tgt := 66) hx hb dX1_setBounds_39 (by decide) (fun c39 => ?_) (fun c39 => ?_)
  · have hne : n = t - f - 1 := by have := (nI_leI (by omega) (by omega)).mp c39; omega
    exact W.vret hx hb hr (fun zt zh zW => ⟨⟨(F, An, Q), rfl, ⟨by rw [← hne]; exact hbn, rfl, hsn, rfl⟩, by show va_P _ _ _ zt.heap; rw [zh]; exact hP⟩, hS.F zh⟩) hS.2.2 dX1_setBounds_66
  · have hlt : f + 1 + n < t := Nat.not_le.mp (fun q => c39 ((nI_leI (by omega) (by omega)).mpr q))
    have ri := hrow (f + 1 + n) (by omega)
    refine lv_aload_n hx hb dX1_setBounds_42 rfl (lv_at hl 1 rfl) ?_
    refine va_get (D := (dC, dI)) (ci := 1) (v := .ref (a 12)) (C := RX1) (T := TX1) (N := 18) hx hb hts iw_c_X1_setBounds_wsX10 hown hK hP 0 rfl rfl 12 (by decide) (hts _ wd_c_X1_setBounds_X1_setBounds_0) (fun _ h9 => h9) rfl dX1_setBounds_43 ?_
    refine lv_iload_n hx hb dX1_setBounds_46 rfl (lv_at hl 2 rfl) ?_
    refine lv_aload_n hx hb dX1_setBounds_47 rfl (lv_at hl 1 rfl) ?_
    refine va_get (D := (dC, dI)) (ci := 1) (v := .ref (a 4)) (C := RX1) (T := TX1) (N := 18) hx hb hts iw_c_X1_setBounds_wsX10 hown hK hP 0 rfl rfl 4 (by decide) (hts _ wd_c_X1_setBounds_X1_setBounds_1) (fun _ h9 => h9) rfl dX1_setBounds_48 ?_
    refine lv_aload_n hx hb dX1_setBounds_51 rfl (lv_at hl 1 rfl) ?_
    refine va_get (D := (dC, dI)) (ci := 1) (v := .ref (a 7)) (C := RX1) (T := TX1) (N := 18) hx hb hts iw_c_X1_setBounds_wsX10 hown hK hP 0 rfl rfl 7 (by decide) (hts _ wd_c_X1_setBounds_X1_setBounds_2) (fun _ h9 => h9) rfl dX1_setBounds_52 ?_
    refine lv_iload_n hx hb dX1_setBounds_55 rfl (lv_at hl 0 rfl) ?_
    refine pt_iald hx hb hK hP 4 2 rfl rfl (f + 1 + n) rfl (by omega) (by decide) dX1_setBounds_56 ?_
    refine pt_top (y := nI (od (f + 1 + n))) (by rw [hsn 7 (by decide)]; exact ri.1) ?_
    refine pt_callv (wf := (fun u => (pt_xw a c F An Q).set 10 (a 32, .inl (c 12, 186, .inl u)))) (va_runVN (As := [.int (nI b), .ref (a 4), .int (nI (od (f + 1 + n)))]) (rest := []) ⟨hx, hb, hml, hown, hts⟩ (c_X0_widen l dC dI (pt_xt c) (pt_xw a c F An Q) 9 10 7 (a 12) (a 32) (c 12) 186 (An 12) rfl rfl rfl (by decide) 2 3 1 (a 4) (a 24) (c 4) 384 (An 4) rfl rfl rfl (by decide) (by decide) _ b (od (f + 1 + n)) (by omega) (by omega)) ⟨va_cnB 3 hts gX1_setBounds_X0_widen_n165 rfl rfl rfl (pt_nest hN 4 rfl) (hts _ wd_c_X1_setBounds_X1_setBounds_4) (by decide +kernel) ⟨Nat.le_of_ble_eq_true rfl, Nat.le_of_ble_eq_true rfl⟩, (hts _ wd_c_X1_setBounds_X1_setBounds_8), (hts _ wd_c_X1_setBounds_X1_setBounds_9)⟩ (pt_wv0 hP hK hN hD (q0 := 9) rfl) rfl rfl hl.1 rfl (lv_room (Nat.le_of_ble_eq_true rfl)) dX1_setBounds_57 ⟨Nat.le_of_ble_eq_true rfl, Nat.le_of_ble_eq_true rfl⟩) hD hS hA (fun _ => rfl) (fun u57 H locs hr57 hP hD hS => ?_)
    obtain ⟨A2, eA2⟩ : ∃ zz, zz = va_up An 12 u57 := ⟨_, rfl⟩
    have hP : va_P (dC, dI) vwCl (pt_xw a c F A2 Q) H := by rw [eA2]; exact hP
    have hD : va_D AA (pt_xw a c F A2 Q) := by rw [eA2]; exact hD
    have wA2 : A2 12 = u57 := by rw [eA2, pt_up]
    have oA2 : ∀ j, j ≠ 12 → A2 j = An j := fun j hj => by rw [eA2]; exact pt_up_ne hj
    have gA2 := hr57
    refine lv_iinc (v := nI ((f + 1 + n) + 1)) (lv' := [(2, .int (nI ((f + 1 + n) + 1))), (0, .ref (a 0)), (1, .int (nI b))]) hx hb dX1_setBounds_60 hl (k := 0) rfl (nI_1 _) (by decide) rfl (fun ls hl => ?_)
    refine lv_goto (tgt := 32) hx hb dX1_setBounds_63 (by decide) ?_
    exact ih (n + 1, A2) _ _ _ ⟨by show f + 1 + (n + 1) ≤ t; omega, ⟨by show A2 12 = _; rw [wA2, gA2, hbn, hsn 4 (by decide)]; rfl, fun j hj => by show A2 j = A j; rw [oA2 j hj]; exact hsn j hj⟩, hP, hD, hS, lv_sub hl [0, 1, 2] rfl⟩ (by show t - (f + 1 + (n + 1)) < t - (f + 1 + n); omega)
end
section
/-! the tree in words: how many blocks, the row of things, of each block from (0), to (1), other half (2), depth (3); bounds: least (0), greatest (1) by block and axis -/
abbrev pt_TS : Type := Nat × (Nat → Nat) × (Nat → Nat → Nat) × (Nat → Nat → Nat → Int32)
def pt_new (lo hi : Nat → Nat → Int32) (f t d : Nat) (s : pt_TS) : pt_TS := (s.1 + 1, s.2.1, fun q => va_up (s.2.2.1 q) s.1 (if q = 0 then f else if q = 1 then t else if q = 2 then 0 else d), fun q => va_up (s.2.2.2 q) s.1 (fun x => if q = 0 then pt_mn (fun i => lo (s.2.1 i) x) f (t - f - 1) else pt_mx (fun i => hi (s.2.1 i) x) f (t - f - 1)))
def pt_wx (ax : Nat) (lo hi : Nat → Nat → Int32) (f t : Nat) (od : Nat → Nat) : Nat := pt_wa (fun x => pt_spr (fun i => lo (od i) x + hi (od i) x) f t) ax
noncomputable def pt_std (ax : Nat) (lo hi : Nat → Nat → Int32) (f t : Nat) (s : pt_TS) : pt_TS := (s.1, pt_srt (pt_bf (fun v => lo v (pt_wx ax lo hi f t s.2.1) + hi v (pt_wx ax lo hi f t s.2.1))) f (t - f - 1) s.2.1, s.2.2.1, s.2.2.2)
def pt_seto (b : Nat) (s : pt_TS) : pt_TS := (s.1, s.2.1, va_up s.2.2.1 2 (va_up (s.2.2.1 2) b s.1), s.2.2.2)
noncomputable def pt_mk (ax : Nat) (lo hi : Nat → Nat → Int32) : Nat → Nat → Nat → Nat → pt_TS → pt_TS
  | 0, _, _, _, s => s
  | k + 1, f, t, d, s => if t - f ≤ 4 then pt_new lo hi f t d s else pt_mk ax lo hi k (f + (t - f + 1) / 2) t (d + 1) (pt_seto s.1 (pt_mk ax lo hi k f (f + (t - f + 1) / 2) (d + 1) (pt_std ax lo hi f t (pt_new lo hi f t d s))))
theorem pt_mk_leaf {ax : Nat} {lo hi : Nat → Nat → Int32} {k f t d : Nat} {s : pt_TS} (h : t - f ≤ 4) : pt_mk ax lo hi (k + 1) f t d s = pt_new lo hi f t d s := if_pos h
theorem pt_mk_part {ax : Nat} {lo hi : Nat → Nat → Int32} {k f t d : Nat} {s : pt_TS} (h : ¬ t - f ≤ 4) : pt_mk ax lo hi (k + 1) f t d s = pt_mk ax lo hi k (f + (t - f + 1) / 2) t (d + 1) (pt_seto s.1 (pt_mk ax lo hi k f (f + (t - f + 1) / 2) (d + 1) (pt_std ax lo hi f t (pt_new lo hi f t d s)))) := if_neg h
theorem pt_mk_nb {ax : Nat} {lo hi : Nat → Nat → Int32} : ∀ (k f t d : Nat) (s : pt_TS), (pt_mk ax lo hi k f t d s).1 + 1 ≤ s.1 + 2 ^ k
  | 0, _, _, _, s => Nat.le_refl _
  | k + 1, f, t, d, s => by
    have hp : 2 ^ (k + 1) = 2 * 2 ^ k := by rw [Nat.pow_succ]; omega
    have hq : 1 ≤ 2 ^ k := Nat.one_le_two_pow
    by_cases h : t - f ≤ 4
    · rw [pt_mk_leaf h]
      show s.1 + 1 + 1 ≤ _
      omega
    · rw [pt_mk_part h]
      have h1 := pt_mk_nb (ax := ax) (lo := lo) (hi := hi) k f (f + (t - f + 1) / 2) (d + 1) (pt_std ax lo hi f t (pt_new lo hi f t d s))
      have h2 := pt_mk_nb (ax := ax) (lo := lo) (hi := hi) k (f + (t - f + 1) / 2) t (d + 1) (pt_seto s.1 (pt_mk ax lo hi k f (f + (t - f + 1) / 2) (d + 1) (pt_std ax lo hi f t (pt_new lo hi f t d s))))
      have e1 : (pt_std ax lo hi f t (pt_new lo hi f t d s)).1 = s.1 + 1 := rfl
      have e2 : (pt_seto s.1 (pt_mk ax lo hi k f (f + (t - f + 1) / 2) (d + 1) (pt_std ax lo hi f t (pt_new lo hi f t d s)))).1 = (pt_mk ax lo hi k f (f + (t - f + 1) / 2) (d + 1) (pt_std ax lo hi f t (pt_new lo hi f t d s))).1 := rfl
      rw [e1] at h1
      rw [e2] at h2
      omega
theorem pt_mk_mono {ax : Nat} {lo hi : Nat → Nat → Int32} : ∀ (k f t d : Nat) (s : pt_TS), s.1 ≤ (pt_mk ax lo hi k f t d s).1
  | 0, _, _, _, s => Nat.le_refl _
  | k + 1, f, t, d, s => by
    by_cases h : t - f ≤ 4
    · rw [pt_mk_leaf h]; exact Nat.le_succ _
    · rw [pt_mk_part h]
      have h1 := pt_mk_mono (ax := ax) (lo := lo) (hi := hi) k f (f + (t - f + 1) / 2) (d + 1) (pt_std ax lo hi f t (pt_new lo hi f t d s))
      have h2 := pt_mk_mono (ax := ax) (lo := lo) (hi := hi) k (f + (t - f + 1) / 2) t (d + 1) (pt_seto s.1 (pt_mk ax lo hi k f (f + (t - f + 1) / 2) (d + 1) (pt_std ax lo hi f t (pt_new lo hi f t d s))))
      exact Nat.le_trans (Nat.le_trans (Nat.le_succ _) h1) h2
/-! the same sums, the same order -/
theorem pt_mn_c {g h : Nat → Int32} {f : Nat} : ∀ n, (∀ i, f ≤ i → i < f + 1 + n → g i = h i) → pt_mn g f n = pt_mn h f n
  | 0, e => e f (Nat.le_refl _) (by omega)
  | n + 1, e => by
    show (if _ then _ else _) = (if _ then _ else _)
    rw [pt_mn_c n (fun i h1 h2 => e i h1 (by omega)), e (f + 1 + n) (by omega) (by omega)]
theorem pt_mx_c {g h : Nat → Int32} {f : Nat} : ∀ n, (∀ i, f ≤ i → i < f + 1 + n → g i = h i) → pt_mx g f n = pt_mx h f n
  | 0, e => e f (Nat.le_refl _) (by omega)
  | n + 1, e => by
    show (if _ then _ else _) = (if _ then _ else _)
    rw [pt_mx_c n (fun i h1 h2 => e i h1 (by omega)), e (f + 1 + n) (by omega) (by omega)]
theorem pt_spr_c {g h : Nat → Int32} {f t : Nat} (hft : f < t) (e : ∀ i, f ≤ i → i < t → g i = h i) : pt_spr g f t = pt_spr h f t := by
  unfold pt_spr
  rw [pt_mn_c _ (fun i h1 h2 => e i h1 (by omega)), pt_mx_c _ (fun i h1 h2 => e i h1 (by omega))]
theorem pt_wa_c {p q : Nat → Int32} : ∀ n, (∀ x, x < n → p x = q x) → pt_wa p n = pt_wa q n
  | 0, _ => rfl
  | 1, e => by
    show (if _ then 0 else 0) = (if _ then 0 else 0)
    split <;> split <;> rfl
  | n + 2, e => by
    have h1 := pt_wa_c (n + 1) (fun x hx => e x (by omega))
    have h2 := pt_wa_le q n
    show (if p (pt_wa p (n + 1)) < p (n + 1) then n + 1 else pt_wa p (n + 1)) = (if q (pt_wa q (n + 1)) < q (n + 1) then n + 1 else pt_wa q (n + 1))
    rw [h1, e _ (by omega), e (n + 1) (by omega)]
theorem pt_sink_c {bf bg : Nat → Nat → Prop} {f N md : Nat} (e : ∀ t v, t < md → v < md → (bf t v ↔ bg t v)) : ∀ n od, f + n < N → (∀ k, k < N → od k < md) → pt_sink bf f n od = pt_sink bg f n od ∧ ∀ k, k < N → pt_sink bf f n od k < md
  | 0, od, _, h => ⟨rfl, h⟩
  | n + 1, od, hn, h => by
    have hb := e (od (f + (n + 1))) (od (f + n)) (h _ hn) (h _ (by omega))
    by_cases q : bf (od (f + (n + 1))) (od (f + n))
    · have h2 : ∀ k, k < N → pt_swp od (f + n) k < md := by
        intro k hk
        unfold pt_swp
        by_cases q1 : k = f + n + 1
        · subst q1; rw [pt_up]; exact h _ (by omega)
        · rw [pt_up_ne q1]
          by_cases q2 : k = f + n
          · subst q2; rw [pt_up]; exact h _ hn
          · rw [pt_up_ne q2]; exact h k hk
      have ih := pt_sink_c (f := f) e n (pt_swp od (f + n)) (by omega) h2
      constructor
      · show pt_if _ _ _ = pt_if _ _ _
        rw [pt_if_t q, pt_if_t (hb.mp q)]; exact ih.1
      · show ∀ k, k < N → (pt_if (α := Nat → Nat) _ _ _) k < md
        rw [pt_if_t q]; exact ih.2
    · constructor
      · show pt_if _ _ _ = pt_if _ _ _
        rw [pt_if_f q, pt_if_f (fun z => q (hb.mpr z))]
      · show ∀ k, k < N → (pt_if (α := Nat → Nat) _ _ _) k < md
        rw [pt_if_f q]; exact h
theorem pt_srt_c {bf bg : Nat → Nat → Prop} {f N md : Nat} (e : ∀ t v, t < md → v < md → (bf t v ↔ bg t v)) : ∀ n od, f + n < N → (∀ k, k < N → od k < md) → pt_srt bf f n od = pt_srt bg f n od ∧ ∀ k, k < N → pt_srt bf f n od k < md
  | 0, od, _, h => ⟨rfl, h⟩
  | n + 1, od, hn, h => by
    have ih := pt_srt_c (f := f) e n od (by omega) h
    have ih2 := pt_sink_c (f := f) e (n + 1) (pt_srt bf f n od) hn ih.2
    constructor
    · show pt_sink _ _ _ _ = pt_sink _ _ _ _
      rw [ih2.1, ih.1]
    · exact ih2.2
/-! bounds by axes -/
theorem pt_bds_out {T : Nat → Int32} {od : Nat → Nat} {b f k : Nat} {base : Nat → Int32} (h : ¬ (b * 6 ≤ k ∧ k < b * 6 + 6)) : ∀ n, pt_bds T od b f base n k = base k
  | 0 => pk_cpy_out (by omega)
  | n + 1 => by
    show pt_wd _ _ _ _ _ k = _
    rw [pt_wd_out (by omega)]; exact pt_bds_out h n
theorem pt_bds_lo {T : Nat → Int32} {od : Nat → Nat} {b f x : Nat} {base : Nat → Int32} (hx : x < 3) : ∀ n, pt_bds T od b f base n (b * 6 + x * 2 + 0) = pt_mn (fun i => T (od i * 6 + x * 2 + 0)) f n
  | 0 => by
    show va_cpy _ _ _ _ _ _ = _
    rw [pk_cpy_in (by omega) (by omega), show b * 6 + x * 2 + 0 - b * 6 = x * 2 + 0 by omega]; rfl
  | n + 1 => by
    have ih := pt_bds_lo (T := T) (od := od) (b := b) (f := f) (base := base) hx n
    show pt_wd _ _ _ _ _ _ = (if _ then _ else _)
    unfold pt_wd
    rw [if_pos (show b * 6 ≤ b * 6 + x * 2 + 0 ∧ b * 6 + x * 2 + 0 < b * 6 + 3 * 2 from ⟨by omega, by omega⟩), show b * 6 + x * 2 + 0 - b * 6 = x * 2 + 0 by omega, if_pos (show (x * 2 + 0) % 2 = 0 by omega), ih, ← Nat.add_assoc]
theorem pt_bds_hi {T : Nat → Int32} {od : Nat → Nat} {b f x : Nat} {base : Nat → Int32} (hx : x < 3) : ∀ n, pt_bds T od b f base n (b * 6 + x * 2 + 1) = pt_mx (fun i => T (od i * 6 + x * 2 + 1)) f n
  | 0 => by
    show va_cpy _ _ _ _ _ _ = _
    rw [pk_cpy_in (by omega) (by omega), show b * 6 + x * 2 + 1 - b * 6 = x * 2 + 1 by omega]; rfl
  | n + 1 => by
    have ih := pt_bds_hi (T := T) (od := od) (b := b) (f := f) (base := base) hx n
    show pt_wd _ _ _ _ _ _ = (if _ then _ else _)
    unfold pt_wd
    rw [if_pos (show b * 6 ≤ b * 6 + x * 2 + 1 ∧ b * 6 + x * 2 + 1 < b * 6 + 3 * 2 from ⟨by omega, by omega⟩), show b * 6 + x * 2 + 1 - b * 6 = x * 2 + 1 by omega, if_neg (show ¬ (x * 2 + 1) % 2 = 0 by omega), ih, ← Nat.add_assoc]
/-- the class's cells hold the tree s -/
def pt_XT (ax N md : Nat) (s : pt_TS) (F : Nat → Int32) (A : Nat → Nat → Int32) : Prop := F 5 = nI s.1 ∧ pt_row N md s.2.1 (A 7) ∧ ∀ b, b < s.1 → A 8 b = nI (s.2.2.1 0 b) ∧ A 9 b = nI (s.2.2.1 1 b) ∧ A 10 b = nI (s.2.2.1 2 b) ∧ A 11 b = nI (s.2.2.1 3 b) ∧ ∀ x, x < ax → A 12 (b * 6 + x * 2 + 0) = s.2.2.2 0 b x ∧ A 12 (b * 6 + x * 2 + 1) = s.2.2.2 1 b x
/-- the things' boxes -/
def pt_XB (ax md : Nat) (lo hi : Nat → Nat → Int32) (T : Nat → Int32) : Prop := ∀ v x, v < md → x < ax → T (v * 6 + x * 2 + 0) = lo v x ∧ T (v * 6 + x * 2 + 1) = hi v x
theorem pt_XT_new {ax N md f t d : Nat} {lo hi : Nat → Nat → Int32} {s : pt_TS} {F F' : Nat → Int32} {A A' : Nat → Nat → Int32} (hax : ax ≤ 3) (hft : f < t) (htN : t ≤ N) (h : pt_XT ax N md s F A) (hB : pt_XB ax md lo hi (A 4)) (h5 : F' 5 = nI (s.1 + 1)) (e7 : A' 7 = A 7) (e8 : A' 8 = upd (A 8) s.1 (nI f)) (e9 : A' 9 = upd (A 9) s.1 (nI t)) (e10 : A' 10 = upd (A 10) s.1 (nI 0)) (e11 : A' 11 = upd (A 11) s.1 (nI d)) (e12 : A' 12 = pt_bds (A 4) s.2.1 s.1 f (A 12) (t - f - 1)) : pt_XT ax N md (pt_new lo hi f t d s) F' A' := by
  obtain ⟨_, hr, hb⟩ := h
  refine ⟨h5, by rw [e7]; exact hr, fun b hb2 => ?_⟩
  have hb3 : b < s.1 + 1 := hb2
  by_cases q : b = s.1
  · subst q
    rw [e8, e9, e10, e11, e12]
    refine ⟨?_, ?_, ?_, ?_, fun x hx => ⟨?_, ?_⟩⟩
    · rw [pt_upd]; show _ = nI (va_up _ _ _ _); rw [pt_up]; rfl
    · rw [pt_upd]; show _ = nI (va_up _ _ _ _); rw [pt_up]; rfl
    · rw [pt_upd]; show _ = nI (va_up _ _ _ _); rw [pt_up]; rfl
    · rw [pt_upd]; show _ = nI (va_up _ _ _ _); rw [pt_up]; rfl
    · rw [pt_bds_lo (by omega)]; show _ = (va_up (α := Nat → Int32) _ _ _ _) x; rw [pt_up]
      exact pt_mn_c _ (fun i h1 h2 => (hB _ x (hr i (by omega)).2 hx).1)
    · rw [pt_bds_hi (by omega)]; show _ = (va_up (α := Nat → Int32) _ _ _ _) x; rw [pt_up]
      exact pt_mx_c _ (fun i h1 h2 => (hB _ x (hr i (by omega)).2 hx).2)
  · have hb4 : b < s.1 := by omega
    obtain ⟨g8, g9, g10, g11, g12⟩ := hb b hb4
    rw [e8, e9, e10, e11, e12, pt_upd_ne q, pt_upd_ne q, pt_upd_ne q, pt_upd_ne q]
    refine ⟨?_, ?_, ?_, ?_, fun x hx => ⟨?_, ?_⟩⟩
    · show _ = nI (va_up _ _ _ _); rw [pt_up_ne q]; exact g8
    · show _ = nI (va_up _ _ _ _); rw [pt_up_ne q]; exact g9
    · show _ = nI (va_up _ _ _ _); rw [pt_up_ne q]; exact g10
    · show _ = nI (va_up _ _ _ _); rw [pt_up_ne q]; exact g11
    · rw [pt_bds_out (by omega)]; show _ = (va_up (α := Nat → Int32) _ _ _ _) x; rw [pt_up_ne q]; exact (g12 x hx).1
    · rw [pt_bds_out (by omega)]; show _ = (va_up (α := Nat → Int32) _ _ _ _) x; rw [pt_up_ne q]; exact (g12 x hx).2
theorem pt_XT_row {ax N md : Nat} {s : pt_TS} {od : Nat → Nat} {F F' : Nat → Int32} {A A' : Nat → Nat → Int32} (h : pt_XT ax N md s F A) (h5 : F' 5 = F 5) (hr : pt_row N md od (A' 7)) (ho : ∀ j, j ≠ 7 → A' j = A j) : pt_XT ax N md (s.1, od, s.2.2.1, s.2.2.2) F' A' := by
  obtain ⟨h0, _, hb⟩ := h
  refine ⟨by rw [h5]; exact h0, hr, fun b hb2 => ?_⟩
  rw [ho 8 (by decide), ho 9 (by decide), ho 10 (by decide), ho 11 (by decide), ho 12 (by decide)]
  exact hb b hb2
theorem pt_XT_seto {ax N md b0 : Nat} {s : pt_TS} {F : Nat → Int32} {A A' : Nat → Nat → Int32} (h : pt_XT ax N md s F A) (e10 : A' 10 = upd (A 10) b0 (nI s.1)) (ho : ∀ j, j ≠ 10 → A' j = A j) : pt_XT ax N md (pt_seto b0 s) F A' := by
  obtain ⟨h0, hr, hb⟩ := h
  refine ⟨h0, by rw [ho 7 (by decide)]; exact hr, fun b hb2 => ?_⟩
  obtain ⟨g8, g9, g10, g11, g12⟩ := hb b hb2
  rw [ho 8 (by decide), ho 9 (by decide), ho 11 (by decide), ho 12 (by decide), e10]
  refine ⟨g8, g9, ?_, g11, g12⟩
  show _ = nI (va_up s.2.2.1 2 (va_up (s.2.2.1 2) b0 s.1) 2 b)
  rw [pt_up]
  by_cases q : b = b0
  · subst q; rw [pt_upd, pt_up]
  · rw [pt_upd_ne q, pt_up_ne q]; exact g10

def pt_MB (l : Launch) (dC : Nat → ClassId) (dI : Nat → Nat → Nat) (a : Nat → Nat) (c : Nat → ClassId) (ax N md : Nat) (lo hi : Nat → Nat → Int32) (k : Nat) : Prop := ∀ (F : Nat → Int32) (A : Nat → Nat → Int32) (Q : Nat → Int64) (sz f t d : Nat) (ts : pt_TS), F 0 = nI ax → f < t → t ≤ N → N ≤ 64 → md ≤ 64 → 1 ≤ ax → ax ≤ 3 → d + k = 5 → t - f ≤ 2 ^ (k + 1) → ts.1 + 2 ^ k ≤ 32 → pt_XT ax N md ts F A → pt_XB ax md lo hi (A 4) → Met l yX1_makeBlock wsX1_makeBlock (pt_rm (4 + k)) (pt_W (dC, dI) vwCl (pt_xt c) (pt_xw a c F A Q) pt_nw sz [.ref (a 0), .int (nI f), .int (nI t), .int (nI d)]) (va_Qv (fun (u : pt_XS) => pt_XT ax N md (pt_mk ax lo hi k f t d ts) u.1 u.2.1 ∧ (∀ j, j ≠ 5 → u.1 j = F j) ∧ (∀ j, j < 7 ∨ 12 < j → u.2.1 j = A j) ∧ u.2.2 = Q) (fun u t => va_P (dC, dI) vwCl (pt_xw a c u.1 u.2.1 u.2.2) t.heap) (va_A (pt_xw a c F A Q) sz)) 0 0 (va_A (pt_xw a c F A Q) sz)

theorem wd_c_X1_makeBlock_s_X1_makeBlock_0 : Cond.fieldLink RX1 66 "PointTrees" "blocks" "I" ∈ wsX1_makeBlock := by decide +kernel
theorem wd_c_X1_makeBlock_s_X1_makeBlock_1 : Cond.fieldLink RX1 32 "PointTrees" "blockFrom" "[I" ∈ wsX1_makeBlock := by decide +kernel
theorem wd_c_X1_makeBlock_s_X1_makeBlock_2 : Cond.fieldLink RX1 35 "PointTrees" "blockTo" "[I" ∈ wsX1_makeBlock := by decide +kernel
theorem wd_c_X1_makeBlock_s_X1_makeBlock_3 : Cond.fieldLink RX1 38 "PointTrees" "otherHalf" "[I" ∈ wsX1_makeBlock := by decide +kernel
theorem wd_c_X1_makeBlock_s_X1_makeBlock_4 : Cond.fieldLink RX1 41 "PointTrees" "blockDepth" "[I" ∈ wsX1_makeBlock := by decide +kernel
theorem iw_c_X1_makeBlock_s_wsX10 : ∀ w ∈ wsX10, w ∈ wsX1_makeBlock := fun _ h => List.mem_cons_of_mem _ (List.mem_append_left _ (List.mem_append_right _ h))
theorem iw_c_X1_makeBlock_s_wsX00 : ∀ w ∈ wsX00, w ∈ wsX1_makeBlock := fun _ h => List.mem_cons_of_mem _ (List.mem_append_right _ h)
set_option maxHeartbeats 4000000 in
set_option maxRecDepth 100000 in
theorem c_X1_makeBlock_s (l : Launch) (dC : Nat → ClassId) (dI : Nat → Nat → Nat) (a : Nat → Nat) (c : Nat → ClassId) (F : Nat → Int32) (A : Nat → Nat → Int32) (Q : Nat → Int64) (sz : Nat) (ax N md : Nat) (lo hi : Nat → Nat → Int32) (k : Nat) (ih : 1 ≤ k → pt_MB l dC dI a c ax N md lo hi k) (f t d : Nat) (ts : pt_TS) (h0 : F 0 = nI ax) (hft : f < t) (htN : t ≤ N) (hN64 : N ≤ 64) (hmd : md ≤ 64) (hax1 : 1 ≤ ax) (hax : ax ≤ 3) (hdk : d + (k + 1) = 5) (hsz2 : t - f ≤ 2 ^ ((k + 1) + 1)) (hnb : ts.1 + 2 ^ (k + 1) ≤ 32) (hT : pt_XT ax N md ts F A) (hB : pt_XB ax md lo hi (A 4)) : Met l yX1_makeBlock wsX1_makeBlock (pt_rm (4 + (k + 1))) (pt_W (dC, dI) vwCl (pt_xt c) (pt_xw a c F A Q) pt_nw sz [.ref (a 0), .int (nI f), .int (nI t), .int (nI d)]) (va_Qv (fun (u : pt_XS) => pt_XT ax N md (pt_mk ax lo hi (k + 1) f t d ts) u.1 u.2.1 ∧ (∀ j, j ≠ 5 → u.1 j = F j) ∧ (∀ j, j < 7 ∨ 12 < j → u.2.1 j = A j) ∧ u.2.2 = Q) (fun u t => va_P (dC, dI) vwCl (pt_xw a c u.1 u.2.1 u.2.2) t.heap) (va_A (pt_xw a c F A Q) sz)) 0 0 (va_A (pt_xw a c F A Q) sz) := by
  have hp1 : 2 ^ (k + 1) = 2 * 2 ^ k := by rw [Nat.pow_succ]; omega
  have hp2 : 2 ^ (k + 1 + 1) = 2 * 2 ^ (k + 1) := by rw [Nat.pow_succ]; omega
  have hq : 1 ≤ 2 ^ k := Nat.one_le_two_pow
  refine Met.ofW (cc := cX1_makeBlock) (maxL := 6) (ret := none) (by decide) rfl ?_
  intro p e s m args below meth cd s₁ B hml hv
  obtain ⟨rfl, hsz, hP, hK, hN, hD0⟩ := hv
  have hx := B.exec
  have hb := B.bytes
  have hr := B.returns
  have hts := atoms_spec (ws := wsX1_makeBlock) B.pre
  have hown : s.vm.findClass RX1 = some m.cls := findClass_of_methodNamed B.named
  have hlocks := B.notSynchronized
  subst hsz
  have hD := hD0.self (sz := s.heap.size)
  generalize hAe : va_A (pt_xw a c F A Q) s.heap.size = AA at hD ⊢
  have hA : ∀ q : Nat, s.heap.size ≤ q → AA q := fun q h => by rw [← hAe]; exact Or.inr h
  have hS : va_S AA s.heap s.heap [] := va_S.rf
  have hl := lv_entry ([.ref (a 0), .int (nI f), .int (nI t), .int (nI d)]) (n := 6) (Nat.le_of_ble_eq_true rfl)
  rw [lg_entry_eq]
  generalize (lg_sl ([.ref (a 0), .int (nI f), .int (nI t), .int (nI d)]) ++ List.replicate (6 - (lg_sl ([.ref (a 0), .int (nI f), .int (nI t), .int (nI d)])).length) Slot.unset).toArray = ls at hl ⊢
  have hl : lv_has ls 6 [(0, .ref (a 0)), (1, .int (nI f)), (2, .int (nI t)), (3, .int (nI d))] := hl
  refine lv_iload_n hx hb dX1_makeBlock_0 rfl (lv_at hl 1 rfl) ?_
  refine lv_iload_n hx hb dX1_makeBlock_1 rfl (lv_at hl 2 rfl) ?_
  refine lv_icmp_ge (tgt := 19) hx hb dX1_makeBlock_2 (by decide) (fun c2 => absurd c2 (nI_ge hft (by omega))) (fun c2 => ?_)
  refine lv_iload_n hx hb dX1_makeBlock_5 rfl (lv_at hl 3 rfl) ?_
  refine lv_iconst (v := nI 4) hx hb dX1_makeBlock_6 (by decide) ?_
  refine lv_icmp_gt (tgt := 19) hx hb dX1_makeBlock_7 (by decide) (fun c7 => absurd c7 (nI_nlt (by omega) (by omega))) (fun c7 => ?_)
  refine lv_aload_n hx hb dX1_makeBlock_10 rfl (lv_at hl 0 rfl) ?_
  refine va_get (D := (dC, dI)) (ci := 1) (v := .int (F 5)) (C := RX1) (T := TX1) (N := 18) hx hb hts iw_c_X1_makeBlock_s_wsX10 hown hK hP 0 rfl rfl 5 (by decide) (hts _ wd_c_X1_makeBlock_s_X1_makeBlock_0) (fun _ h9 => h9) rfl dX1_makeBlock_11 ?_
  refine pt_top (y := nI ts.1) hT.1 ?_
  refine lv_bipush (v := nI 31) hx hb dX1_makeBlock_14 (by decide) ?_
  refine lv_icmp_lt (tgt := 20) hx hb dX1_makeBlock_16 (by decide) (fun c16 => ?_) (fun c16 => absurd (nI_lt (by omega) (by decide)) c16)
  refine lv_aload_n hx hb dX1_makeBlock_20 rfl (lv_at hl 0 rfl) ?_
  refine va_get (D := (dC, dI)) (ci := 1) (v := .int (F 5)) (C := RX1) (T := TX1) (N := 18) hx hb hts iw_c_X1_makeBlock_s_wsX10 hown hK hP 0 rfl rfl 5 (by decide) (hts _ wd_c_X1_makeBlock_s_X1_makeBlock_0) (fun _ h9 => h9) rfl dX1_makeBlock_21 ?_
  refine pt_top (y := nI ts.1) hT.1 ?_
  refine lv_istore (lv' := [(4, .int (nI ts.1)), (0, .ref (a 0)), (1, .int (nI f)), (2, .int (nI t)), (3, .int (nI d))]) hx hb dX1_makeBlock_24 hl (by decide) rfl (fun ls hl => ?_)
  refine lv_aload_n hx hb dX1_makeBlock_26 rfl (lv_at hl 1 rfl) ?_
  refine lv_dup hx hb dX1_makeBlock_27 rfl ?_
  refine va_get (D := (dC, dI)) (ci := 1) (v := .int (F 5)) (C := RX1) (T := TX1) (N := 18) hx hb hts iw_c_X1_makeBlock_s_wsX10 hown hK hP 0 rfl rfl 5 (by decide) (hts _ wd_c_X1_makeBlock_s_X1_makeBlock_0) (fun _ h9 => h9) rfl dX1_makeBlock_28 ?_
  refine pt_top (y := nI ts.1) hT.1 ?_
  refine lv_iconst (v := nI 1) hx hb dX1_makeBlock_31 (by decide) ?_
  refine lv_iadd hx hb dX1_makeBlock_32 ?_
  refine pt_top (y := nI (ts.1 + 1)) (nI_add _ _) ?_
  obtain ⟨F1, eF1⟩ : ∃ zz, zz = upd F 5 (nI (ts.1 + 1)) := ⟨_, rfl⟩
  refine va_put (D := (dC, dI)) (ci := 1) (v := .int (nI (ts.1 + 1))) (ty := .int) (C := RX1) (T := TX1) (N := 18) hx hb hts iw_c_X1_makeBlock_s_wsX10 tyX1 tyX1_ok nmX1 hown hK hP hD hS 0 rfl rfl 5 (by decide) (hts _ wd_c_X1_makeBlock_s_X1_makeBlock_0) (fun _ h9 => h9) rfl (by decide +kernel) rfl rfl (Nat.le_of_ble_eq_true rfl) dX1_makeBlock_33 (fun H locs hP hD hS => ?_)
  have hP : va_P (dC, dI) vwCl (pt_xw a c F1 A Q) H := by rw [eF1]; exact hP
  have hD : va_D AA (pt_xw a c F1 A Q) := by rw [eF1]; exact hD
  have kF1_0 : F1 0 = nI ax := by rw [eF1, pt_upd_ne (by decide)]; exact h0
  have kF1_5 : F1 5 = nI (ts.1 + 1) := by rw [eF1, pt_upd]
  refine lv_aload_n hx hb dX1_makeBlock_36 rfl (lv_at hl 1 rfl) ?_
  refine va_get (D := (dC, dI)) (ci := 1) (v := .ref (a 8)) (C := RX1) (T := TX1) (N := 18) hx hb hts iw_c_X1_makeBlock_s_wsX10 hown hK hP 0 rfl rfl 8 (by decide) (hts _ wd_c_X1_makeBlock_s_X1_makeBlock_1) (fun _ h9 => h9) rfl dX1_makeBlock_37 ?_
  refine lv_iload hx hb dX1_makeBlock_40 (lv_at hl 0 rfl) ?_
  refine lv_iload_n hx hb dX1_makeBlock_42 rfl (lv_at hl 2 rfl) ?_
  obtain ⟨A2, eA2⟩ : ∃ zz, zz = va_up A 8 (upd (A 8) ts.1 (nI f)) := ⟨_, rfl⟩
  refine pt_iast hx hb hK hP hD hS 5 3 rfl rfl ts.1 rfl (by omega) (by decide) (ws' := (pt_xw a c F1 A2 Q)) (by rw [eA2]; rfl) dX1_makeBlock_43 (fun H locs hP hD hS => ?_)
  refine lv_aload_n hx hb dX1_makeBlock_44 rfl (lv_at hl 1 rfl) ?_
  refine va_get (D := (dC, dI)) (ci := 1) (v := .ref (a 9)) (C := RX1) (T := TX1) (N := 18) hx hb hts iw_c_X1_makeBlock_s_wsX10 hown hK hP 0 rfl rfl 9 (by decide) (hts _ wd_c_X1_makeBlock_s_X1_makeBlock_2) (fun _ h9 => h9) rfl dX1_makeBlock_45 ?_
  refine lv_iload hx hb dX1_makeBlock_48 (lv_at hl 0 rfl) ?_
  refine lv_iload_n hx hb dX1_makeBlock_50 rfl (lv_at hl 3 rfl) ?_
  obtain ⟨A3, eA3⟩ : ∃ zz, zz = va_up A2 9 (upd (A2 9) ts.1 (nI t)) := ⟨_, rfl⟩
  refine pt_iast hx hb hK hP hD hS 6 4 rfl rfl ts.1 rfl (by omega) (by decide) (ws' := (pt_xw a c F1 A3 Q)) (by rw [eA3]; rfl) dX1_makeBlock_51 (fun H locs hP hD hS => ?_)
  refine lv_aload_n hx hb dX1_makeBlock_52 rfl (lv_at hl 1 rfl) ?_
  refine va_get (D := (dC, dI)) (ci := 1) (v := .ref (a 10)) (C := RX1) (T := TX1) (N := 18) hx hb hts iw_c_X1_makeBlock_s_wsX10 hown hK hP 0 rfl rfl 10 (by decide) (hts _ wd_c_X1_makeBlock_s_X1_makeBlock_3) (fun _ h9 => h9) rfl dX1_makeBlock_53 ?_
  refine lv_iload hx hb dX1_makeBlock_56 (lv_at hl 0 rfl) ?_
  refine lv_iconst (v := nI 0) hx hb dX1_makeBlock_58 (by decide) ?_
  obtain ⟨A4, eA4⟩ : ∃ zz, zz = va_up A3 10 (upd (A3 10) ts.1 (nI 0)) := ⟨_, rfl⟩
  refine pt_iast hx hb hK hP hD hS 7 5 rfl rfl ts.1 rfl (by omega) (by decide) (ws' := (pt_xw a c F1 A4 Q)) (by rw [eA4]; rfl) dX1_makeBlock_59 (fun H locs hP hD hS => ?_)
  refine lv_aload_n hx hb dX1_makeBlock_60 rfl (lv_at hl 1 rfl) ?_
  refine va_get (D := (dC, dI)) (ci := 1) (v := .ref (a 11)) (C := RX1) (T := TX1) (N := 18) hx hb hts iw_c_X1_makeBlock_s_wsX10 hown hK hP 0 rfl rfl 11 (by decide) (hts _ wd_c_X1_makeBlock_s_X1_makeBlock_4) (fun _ h9 => h9) rfl dX1_makeBlock_61 ?_
  refine lv_iload hx hb dX1_makeBlock_64 (lv_at hl 0 rfl) ?_
  refine lv_iload_n hx hb dX1_makeBlock_66 rfl (lv_at hl 4 rfl) ?_
  obtain ⟨A5, eA5⟩ : ∃ zz, zz = va_up A4 11 (upd (A4 11) ts.1 (nI d)) := ⟨_, rfl⟩
  refine pt_iast hx hb hK hP hD hS 8 6 rfl rfl ts.1 rfl (by omega) (by decide) (ws' := (pt_xw a c F1 A5 Q)) (by rw [eA5]; rfl) dX1_makeBlock_67 (fun H locs hP hD hS => ?_)
  have y8 : A5 8 = upd (A 8) ts.1 (nI f) := by rw [eA5, pt_up_ne (by decide), eA4, pt_up_ne (by decide), eA3, pt_up_ne (by decide), eA2, pt_up]
  have y9 : A5 9 = upd (A 9) ts.1 (nI t) := by rw [eA5, pt_up_ne (by decide), eA4, pt_up_ne (by decide), eA3, pt_up, eA2, pt_up_ne (by decide)]
  have y10 : A5 10 = upd (A 10) ts.1 (nI 0) := by rw [eA5, pt_up_ne (by decide), eA4, pt_up, eA3, pt_up_ne (by decide), eA2, pt_up_ne (by decide)]
  have y11 : A5 11 = upd (A 11) ts.1 (nI d) := by rw [eA5, pt_up, eA4, pt_up_ne (by decide), eA3, pt_up_ne (by decide), eA2, pt_up_ne (by decide)]
  have yo : ∀ j, j ≠ 8 → j ≠ 9 → j ≠ 10 → j ≠ 11 → A5 j = A j := fun j j1 j2 j3 j4 => by rw [eA5, pt_up_ne j4, eA4, pt_up_ne j3, eA3, pt_up_ne j2, eA2, pt_up_ne j1]
  refine lv_aload_n hx hb dX1_makeBlock_68 rfl (lv_at hl 1 rfl) ?_
  refine lv_iload hx hb dX1_makeBlock_69 (lv_at hl 0 rfl) ?_
  refine pt_callv (wf := (fun u : pt_XS => pt_xw a c u.1 u.2.1 u.2.2)) (va_runV (As := [.int (nI ts.1)]) (rest := []) ⟨hx, hb, hml, hown, hts⟩ (c_X1_setBounds l dC dI a c F1 A5 Q _ ts.1 f t N md ts.2.1 (by omega) hft htN hN64 hmd (by rw [y8, pt_upd]) (by rw [y9, pt_upd]) (by rw [yo 7 (by decide) (by decide) (by decide) (by decide)]; exact hT.2.1)) (cwV 1 hts gX1_makeBlock_X1_setBounds rfl rfl rfl (by decide +kernel) ⟨by show 2 + 1 ≤ 4 + (k + 1); omega, by show 8 + (3 + 11) + 40 * (2) ≤ 40 * (4 + (k + 1)); omega⟩) (pt_wv1 hP hK hN hD (q0 := 0) rfl) rfl rfl hl.1 rfl (lv_room (Nat.le_of_ble_eq_true rfl)) dX1_makeBlock_71 ⟨Nat.le_of_ble_eq_true rfl, Nat.le_of_ble_eq_true rfl⟩) hD hS hA (fun _ => rfl) (fun u71 H locs hr71 hP hD hS => ?_)
  obtain ⟨F6, A6, Q6⟩ := u71
  obtain ⟨hbd, hfB, hoB, hqB⟩ := hr71
  dsimp only at hbd hfB hoB hqB hP hD
  have kF6_0 : F6 0 = nI ax := by rw [hfB]; exact kF1_0
  have kF6_5 : F6 5 = nI (ts.1 + 1) := by rw [hfB]; exact kF1_5
  have hT1 : pt_XT ax N md (pt_new lo hi f t d ts) F6 A6 := pt_XT_new hax hft htN hT hB kF6_5 ((hoB 7 (by decide)).trans (yo 7 (by decide) (by decide) (by decide) (by decide))) ((hoB 8 (by decide)).trans y8) ((hoB 9 (by decide)).trans y9) ((hoB 10 (by decide)).trans y10) ((hoB 11 (by decide)).trans y11) (by rw [hbd, yo 4 (by decide) (by decide) (by decide) (by decide), yo 12 (by decide) (by decide) (by decide) (by decide)])
  have hF1 : ∀ j, j ≠ 5 → F6 j = F j := fun j hj => by rw [hfB, eF1]; exact pt_upd_ne hj
  have hA1 : ∀ j, j < 7 ∨ 12 < j → A6 j = A j := fun j hj => by rw [hoB j (by omega)]; exact yo j (by omega) (by omega) (by omega) (by omega)
  refine lv_iload_n hx hb dX1_makeBlock_74 rfl (lv_at hl 3 rfl) ?_
  refine lv_iload_n hx hb dX1_makeBlock_75 rfl (lv_at hl 2 rfl) ?_
  refine lv_isub hx hb dX1_makeBlock_76 ?_
  refine pt_top (y := nI (t - f)) (pk_sub (by omega)) ?_
  refine lv_iconst (v := nI 4) hx hb dX1_makeBlock_77 (by decide) ?_
  refine lv_icmp_gt (tgt := 82) hx hb dX1_makeBlock_78 (by decide) (fun c78 => ?_) (fun c78 => ?_)
  · have d78 : ¬ t - f ≤ 4 := Nat.not_le.mpr ((nI_ltI (by omega) (by omega)).mp c78)
    have hk1 : 1 ≤ k := by
      rcases k with _ | k
      · exact absurd hsz2 (by show ¬ t - f ≤ 4; exact d78)
      · omega
    refine lv_aload_n hx hb dX1_makeBlock_82 rfl (lv_at hl 1 rfl) ?_
    refine lv_iload_n hx hb dX1_makeBlock_83 rfl (lv_at hl 2 rfl) ?_
    refine lv_iload_n hx hb dX1_makeBlock_84 rfl (lv_at hl 3 rfl) ?_
    refine lv_aload_n hx hb dX1_makeBlock_85 rfl (lv_at hl 1 rfl) ?_
    refine lv_iload_n hx hb dX1_makeBlock_86 rfl (lv_at hl 2 rfl) ?_
    refine lv_iload_n hx hb dX1_makeBlock_87 rfl (lv_at hl 3 rfl) ?_
    refine pt_rdi (va_runV (As := [.int (nI f), .int (nI t)]) (rest := [.int (nI t), .int (nI f), .ref (a 0)]) ⟨hx, hb, hml, hown, hts⟩ (c_X1_widestAxis l dC dI a c F6 A6 Q6 ax kF6_0 hax hax1 ts.2.1 f t hft (by omega) (fun i h1 h2 => by have := hT1.2.1 i (by omega); exact ⟨this.1, Nat.lt_of_lt_of_le this.2 hmd⟩)) (cwV 2 hts gX1_makeBlock_X1_widestAxis rfl rfl rfl (by decide +kernel) ⟨by show 3 + 1 ≤ 4 + (k + 1); omega, by show 8 + (5 + 11) + 40 * (3) ≤ 40 * (4 + (k + 1)); omega⟩) (pt_pv1 hP hK hN (q0 := 0) rfl) rfl rfl hl.1 rfl (lv_room (Nat.le_of_ble_eq_true rfl)) dX1_makeBlock_88 ⟨Nat.le_of_ble_eq_true rfl, Nat.le_of_ble_eq_true rfl⟩) (fun r88 hr88 => ?_)
    have hB1 : pt_XB ax md lo hi (A6 4) := by rw [hA1 4 (by omega)]; exact hB
    have ewx : r88 = nI (pt_wx ax lo hi f t ts.2.1) := hr88.trans (congrArg nI (pt_wa_c ax (fun x hx9 => pt_spr_c hft (fun i h1 h2 => by have h3 := hB1 (ts.2.1 i) x (hT1.2.1 i (by omega)).2 hx9; show pt_sm _ _ _ = _; unfold pt_sm; rw [h3.1, h3.2]))))
    have hwx : (pt_wx ax lo hi f t ts.2.1) < ax := by have := pt_wa_le (fun x => pt_spr (fun i => lo (ts.2.1 i) x + hi (ts.2.1 i) x) f t) (ax - 1); rw [show ax - 1 + 1 = ax by omega] at this; exact Nat.lt_of_le_of_lt this (by omega)
    refine pt_top (y := nI (pt_wx ax lo hi f t ts.2.1)) ewx ?_
    refine pt_callv (wf := (fun u : pt_XS => pt_xw a c u.1 u.2.1 u.2.2)) (va_runV (As := [.int (nI f), .int (nI t), .int (nI (pt_wx ax lo hi f t ts.2.1))]) (rest := []) ⟨hx, hb, hml, hown, hts⟩ (c_X1_sortRun l dC dI a c F6 A6 Q6 _ f t (pt_wx ax lo hi f t ts.2.1) N md ts.2.1 hft htN hN64 hmd (by omega) hT1.2.1) (cwV 3 hts gX1_makeBlock_X1_sortRun rfl rfl rfl (by decide +kernel) ⟨by show 3 + 1 ≤ 4 + (k + 1); omega, by show 8 + (7 + 11) + 40 * (3) ≤ 40 * (4 + (k + 1)); omega⟩) (pt_wv1 hP hK hN hD (q0 := 0) rfl) rfl rfl hl.1 rfl (lv_room (Nat.le_of_ble_eq_true rfl)) dX1_makeBlock_91 ⟨Nat.le_of_ble_eq_true rfl, Nat.le_of_ble_eq_true rfl⟩) hD hS hA (fun _ => rfl) (fun u91 H locs hr91 hP hD hS => ?_)
    obtain ⟨F7, A7, Q7⟩ := u91
    obtain ⟨hrS, hfS, hoS, hqS⟩ := hr91
    dsimp only at hrS hfS hoS hqS hP hD
    have kF7_0 : F7 0 = nI ax := by rw [hfS]; exact kF6_0
    have kF7_5 : F7 5 = nI (ts.1 + 1) := by rw [hfS]; exact kF6_5
    have hsr := pt_srt_c (f := f) (N := N) (md := md) (bf := pt_bf (pt_sm (A6 4) (pt_wx ax lo hi f t ts.2.1))) (bg := pt_bf (fun v => lo v (pt_wx ax lo hi f t ts.2.1) + hi v (pt_wx ax lo hi f t ts.2.1))) (fun v y hv hy => by have h1 := hB1 v _ hv hwx; have h2 := hB1 y _ hy hwx; unfold pt_bf pt_sm; rw [h1.1, h1.2, h2.1, h2.2]) (t - f - 1) ts.2.1 (by omega) (fun i hi => (hT1.2.1 i hi).2)
    rw [hsr.1] at hrS
    have hT2 : pt_XT ax N md (pt_std ax lo hi f t (pt_new lo hi f t d ts)) F7 A7 := pt_XT_row hT1 (by rw [hfS]) hrS hoS
    have hF2 : ∀ j, j ≠ 5 → F7 j = F j := fun j hj => by rw [hfS]; exact hF1 j hj
    have hA2 : ∀ j, j < 7 ∨ 12 < j → A7 j = A j := fun j hj => by rw [hoS j (by omega)]; exact hA1 j hj
    have hB2 : pt_XB ax md lo hi (A7 4) := by rw [hA2 4 (by omega)]; exact hB
    refine lv_iload_n hx hb dX1_makeBlock_94 rfl (lv_at hl 2 rfl) ?_
    refine lv_iload_n hx hb dX1_makeBlock_95 rfl (lv_at hl 3 rfl) ?_
    refine lv_iload_n hx hb dX1_makeBlock_96 rfl (lv_at hl 2 rfl) ?_
    refine lv_isub hx hb dX1_makeBlock_97 ?_
    refine pt_top (y := nI (t - f)) (pk_sub (by omega)) ?_
    refine lv_iconst (v := nI 1) hx hb dX1_makeBlock_98 (by decide) ?_
    refine lv_iadd hx hb dX1_makeBlock_99 ?_
    refine pt_top (y := nI ((t - f) + 1)) (nI_add _ _) ?_
    refine lv_iconst (v := nI 2) hx hb dX1_makeBlock_100 (by decide) ?_
    refine lv_idiv hx hb dX1_makeBlock_101 (by decide) ?_
    refine pt_top (y := nI ((t - f + 1) / 2)) (pk_div (by omega) (by decide) (by decide)) ?_
    refine lv_iadd hx hb dX1_makeBlock_102 ?_
    refine pt_top (y := nI (f + ((t - f + 1) / 2))) (nI_add _ _) ?_
    refine lv_istore (lv' := [(5, .int (nI (f + ((t - f + 1) / 2)))), (4, .int (nI ts.1)), (0, .ref (a 0)), (1, .int (nI f)), (2, .int (nI t)), (3, .int (nI d))]) hx hb dX1_makeBlock_103 hl (by decide) rfl (fun ls hl => ?_)
    refine lv_aload_n hx hb dX1_makeBlock_105 rfl (lv_at hl 2 rfl) ?_
    refine lv_iload_n hx hb dX1_makeBlock_106 rfl (lv_at hl 3 rfl) ?_
    refine lv_iload hx hb dX1_makeBlock_107 (lv_at hl 0 rfl) ?_
    refine lv_iload_n hx hb dX1_makeBlock_109 rfl (lv_at hl 5 rfl) ?_
    refine lv_iconst (v := nI 1) hx hb dX1_makeBlock_110 (by decide) ?_
    refine lv_iadd hx hb dX1_makeBlock_111 ?_
    refine pt_top (y := nI (d + 1)) (nI_add _ _) ?_
    refine pt_callv (wf := (fun u : pt_XS => pt_xw a c u.1 u.2.1 u.2.2)) (va_runV (As := [.int (nI f), .int (nI (f + ((t - f + 1) / 2))), .int (nI (d + 1))]) (rest := []) ⟨hx, hb, hml, hown, hts⟩ (ih hk1 F7 A7 Q7 _ f (f + (t - f + 1) / 2) (d + 1) (pt_std ax lo hi f t (pt_new lo hi f t d ts)) kF7_0 (by omega) (by omega) hN64 hmd hax1 hax (by omega) (by omega) (by show ts.1 + 1 + 2 ^ k ≤ 32; omega) hT2 hB2) (cwV 3 hts gX1_makeBlock_X1_makeBlock rfl rfl rfl (by decide +kernel) ⟨by show 4 + k + 1 ≤ 4 + (k + 1); omega, by show 8 + (6 + 11) + 40 * (4 + k) ≤ 40 * (4 + (k + 1)); omega⟩) (pt_wv1 hP hK hN hD (q0 := 0) rfl) rfl rfl hl.1 rfl (lv_room (Nat.le_of_ble_eq_true rfl)) dX1_makeBlock_112 ⟨Nat.le_of_ble_eq_true rfl, Nat.le_of_ble_eq_true rfl⟩) hD hS hA (fun _ => rfl) (fun u112 H locs hr112 hP hD hS => ?_)
    obtain ⟨F8, A8, Q8⟩ := u112
    obtain ⟨hT3, hfM3, haM3, hqM3⟩ := hr112
    dsimp only at hT3 hfM3 haM3 hqM3 hP hD
    have hF3 : ∀ j, j ≠ 5 → F8 j = F j := fun j hj => (hfM3 j hj).trans (hF2 j hj)
    have hA3 : ∀ j, j < 7 ∨ 12 < j → A8 j = A j := fun j hj => (haM3 j hj).trans (hA2 j hj)
    have kF8_0 : F8 0 = nI ax := (hF3 0 (by decide)).trans h0
    have hm3 := pt_mk_nb (ax := ax) (lo := lo) (hi := hi) k f (f + (t - f + 1) / 2) (d + 1) (pt_std ax lo hi f t (pt_new lo hi f t d ts))
    have hm4 : ((pt_std ax lo hi f t (pt_new lo hi f t d ts))).1 = ts.1 + 1 := rfl
    rw [hm4] at hm3
    refine lv_aload_n hx hb dX1_makeBlock_115 rfl (lv_at hl 2 rfl) ?_
    refine va_get (D := (dC, dI)) (ci := 1) (v := .ref (a 10)) (C := RX1) (T := TX1) (N := 18) hx hb hts iw_c_X1_makeBlock_s_wsX10 hown hK hP 0 rfl rfl 10 (by decide) (hts _ wd_c_X1_makeBlock_s_X1_makeBlock_3) (fun _ h9 => h9) rfl dX1_makeBlock_116 ?_
    refine lv_iload hx hb dX1_makeBlock_119 (lv_at hl 1 rfl) ?_
    refine lv_aload_n hx hb dX1_makeBlock_121 rfl (lv_at hl 2 rfl) ?_
    refine va_get (D := (dC, dI)) (ci := 1) (v := .int (F8 5)) (C := RX1) (T := TX1) (N := 18) hx hb hts iw_c_X1_makeBlock_s_wsX10 hown hK hP 0 rfl rfl 5 (by decide) (hts _ wd_c_X1_makeBlock_s_X1_makeBlock_0) (fun _ h9 => h9) rfl dX1_makeBlock_122 ?_
    refine pt_top (y := nI ((pt_mk ax lo hi k f (f + (t - f + 1) / 2) (d + 1) (pt_std ax lo hi f t (pt_new lo hi f t d ts))).1)) hT3.1 ?_
    obtain ⟨A9, eA9⟩ : ∃ zz, zz = va_up A8 10 (upd (A8 10) ts.1 (nI ((pt_mk ax lo hi k f (f + (t - f + 1) / 2) (d + 1) (pt_std ax lo hi f t (pt_new lo hi f t d ts))).1))) := ⟨_, rfl⟩
    refine pt_iast hx hb hK hP hD hS 7 5 rfl rfl ts.1 rfl (by omega) (by decide) (ws' := (pt_xw a c F8 A9 Q8)) (by rw [eA9]; rfl) dX1_makeBlock_125 (fun H locs hP hD hS => ?_)
    have hT4 : pt_XT ax N md (pt_seto ts.1 (pt_mk ax lo hi k f (f + (t - f + 1) / 2) (d + 1) (pt_std ax lo hi f t (pt_new lo hi f t d ts)))) F8 A9 := pt_XT_seto hT3 (by rw [eA9]; exact pt_up) (fun j hj => by rw [eA9]; exact pt_up_ne hj)
    have hA4 : ∀ j, j < 7 ∨ 12 < j → A9 j = A j := fun j hj => by rw [eA9, pt_up_ne (by omega)]; exact hA3 j hj
    refine lv_aload_n hx hb dX1_makeBlock_126 rfl (lv_at hl 2 rfl) ?_
    refine lv_iload hx hb dX1_makeBlock_127 (lv_at hl 0 rfl) ?_
    refine lv_iload_n hx hb dX1_makeBlock_129 rfl (lv_at hl 4 rfl) ?_
    refine lv_iload_n hx hb dX1_makeBlock_130 rfl (lv_at hl 5 rfl) ?_
    refine lv_iconst (v := nI 1) hx hb dX1_makeBlock_131 (by decide) ?_
    refine lv_iadd hx hb dX1_makeBlock_132 ?_
    refine pt_top (y := nI (d + 1)) (nI_add _ _) ?_
    refine pt_callv (wf := (fun u : pt_XS => pt_xw a c u.1 u.2.1 u.2.2)) (va_runV (As := [.int (nI (f + ((t - f + 1) / 2))), .int (nI t), .int (nI (d + 1))]) (rest := []) ⟨hx, hb, hml, hown, hts⟩ (ih hk1 F8 A9 Q8 _ (f + (t - f + 1) / 2) t (d + 1) (pt_seto ts.1 (pt_mk ax lo hi k f (f + (t - f + 1) / 2) (d + 1) (pt_std ax lo hi f t (pt_new lo hi f t d ts)))) kF8_0 (by omega) htN hN64 hmd hax1 hax (by omega) (by omega) (by show (pt_mk ax lo hi k f (f + (t - f + 1) / 2) (d + 1) (pt_std ax lo hi f t (pt_new lo hi f t d ts))).1 + 2 ^ k ≤ 32; omega) hT4 (by rw [hA4 4 (by omega)]; exact hB)) (cwV 3 hts gX1_makeBlock_X1_makeBlock rfl rfl rfl (by decide +kernel) ⟨by show 4 + k + 1 ≤ 4 + (k + 1); omega, by show 8 + (6 + 11) + 40 * (4 + k) ≤ 40 * (4 + (k + 1)); omega⟩) (pt_wv1 hP hK hN hD (q0 := 0) rfl) rfl rfl hl.1 rfl (lv_room (Nat.le_of_ble_eq_true rfl)) dX1_makeBlock_133 ⟨Nat.le_of_ble_eq_true rfl, Nat.le_of_ble_eq_true rfl⟩) hD hS hA (fun _ => rfl) (fun u133 H locs hr133 hP hD hS => ?_)
    obtain ⟨F10, A10, Q10⟩ := u133
    obtain ⟨hT5, hfM5, haM5, hqM5⟩ := hr133
    dsimp only at hT5 hfM5 haM5 hqM5 hP hD
    have hF5 : ∀ j, j ≠ 5 → F10 j = F j := fun j hj => (hfM5 j hj).trans (hF3 j hj)
    have hA5 : ∀ j, j < 7 ∨ 12 < j → A10 j = A j := fun j hj => (haM5 j hj).trans (hA4 j hj)
    have kF10_0 : F10 0 = nI ax := (hF5 0 (by decide)).trans h0
    exact W.vret hx hb hr (fun zt zh zW => ⟨⟨(F10, A10, Q10), rfl, ⟨by rw [pt_mk_part d78]; exact hT5, hF5, hA5, hqM5.trans (hqM3.trans (hqS.trans hqB))⟩, by show va_P _ _ _ zt.heap; rw [zh]; exact hP⟩, hS.F zh⟩) hS.2.2 dX1_makeBlock_136
  · have d78 : t - f ≤ 4 := Nat.not_lt.mp (fun q => c78 ((nI_ltI (by omega) (by omega)).mpr q))
    exact W.vret hx hb hr (fun zt zh zW => ⟨⟨(F6, A6, Q6), rfl, ⟨by rw [pt_mk_leaf d78]; exact hT1, hF1, hA1, hqB⟩, by show va_P _ _ _ zt.heap; rw [zh]; exact hP⟩, hS.F zh⟩) hS.2.2 dX1_makeBlock_81

theorem c_X1_makeBlock (l : Launch) (dC : Nat → ClassId) (dI : Nat → Nat → Nat) (a : Nat → Nat) (c : Nat → ClassId) (ax N md : Nat) (lo hi : Nat → Nat → Int32) : ∀ k, 1 ≤ k → pt_MB l dC dI a c ax N md lo hi k
  | 0, h => absurd h (by decide)
  | k + 1, _ => fun F A Q sz f t d ts h0 hft htN hN64 hmd hax1 hax hdk hsz2 hnb hT hB => c_X1_makeBlock_s l dC dI a c F A Q sz ax N md lo hi k (c_X1_makeBlock l dC dI a c ax N md lo hi k) f t d ts h0 hft htN hN64 hmd hax1 hax hdk hsz2 hnb hT hB
end
section
theorem iw_c_X1_makeBlock_0_wsX10 : ∀ w ∈ wsX10, w ∈ wsX1_makeBlock := fun _ h => List.mem_cons_of_mem _ (List.mem_append_left _ (List.mem_append_right _ h))
theorem iw_c_X1_makeBlock_0_wsX00 : ∀ w ∈ wsX00, w ∈ wsX1_makeBlock := fun _ h => List.mem_cons_of_mem _ (List.mem_append_right _ h)
set_option maxHeartbeats 4000000 in
set_option maxRecDepth 100000 in
theorem c_X1_makeBlock_0 (l : Launch) (dC : Nat → ClassId) (dI : Nat → Nat → Nat) (a : Nat → Nat) (c : Nat → ClassId) (F : Nat → Int32) (A : Nat → Nat → Int32) (Q : Nat → Int64) (sz : Nat) (f t d : Nat) (hft : t ≤ f) (hf : f ≤ 64) : Met l yX1_makeBlock wsX1_makeBlock (pt_rm 0) (pt_W (dC, dI) vwCl (pt_xt c) (pt_xw a c F A Q) pt_nw sz [.ref (a 0), .int (nI f), .int (nI t), .int (nI d)]) (va_Qv (fun (u : pt_XS) => u = (F, A, Q)) (fun u t => va_P (dC, dI) vwCl (pt_xw a c u.1 u.2.1 u.2.2) t.heap) (va_A (pt_xw a c F A Q) sz)) 0 0 (va_A (pt_xw a c F A Q) sz) := by
  refine Met.ofW (cc := cX1_makeBlock) (maxL := 6) (ret := none) (by decide) rfl ?_
  intro p e s m args below meth cd s₁ B hml hv
  obtain ⟨rfl, hsz, hP, hK, hN, hD0⟩ := hv
  have hx := B.exec
  have hb := B.bytes
  have hr := B.returns
  have hts := atoms_spec (ws := wsX1_makeBlock) B.pre
  have hown : s.vm.findClass RX1 = some m.cls := findClass_of_methodNamed B.named
  have hlocks := B.notSynchronized
  subst hsz
  have hD := hD0.self (sz := s.heap.size)
  generalize hAe : va_A (pt_xw a c F A Q) s.heap.size = AA at hD ⊢
  have hA : ∀ q : Nat, s.heap.size ≤ q → AA q := fun q h => by rw [← hAe]; exact Or.inr h
  have hS : va_S AA s.heap s.heap [] := va_S.rf
  have hl := lv_entry ([.ref (a 0), .int (nI f), .int (nI t), .int (nI d)]) (n := 6) (Nat.le_of_ble_eq_true rfl)
  rw [lg_entry_eq]
  generalize (lg_sl ([.ref (a 0), .int (nI f), .int (nI t), .int (nI d)]) ++ List.replicate (6 - (lg_sl ([.ref (a 0), .int (nI f), .int (nI t), .int (nI d)])).length) Slot.unset).toArray = ls at hl ⊢
  have hl : lv_has ls 6 [(0, .ref (a 0)), (1, .int (nI f)), (2, .int (nI t)), (3, .int (nI d))] := hl
  refine lv_iload_n hx hb dX1_makeBlock_0 rfl (lv_at hl 1 rfl) ?_
  refine lv_iload_n hx hb dX1_makeBlock_1 rfl (lv_at hl 2 rfl) ?_
  refine lv_icmp_ge (tgt := 19) hx hb dX1_makeBlock_2 (by decide) (fun c2 => ?_) (fun c2 => absurd (nI_le hft (by omega)) c2)
  exact W.vret hx hb hr (fun zt zh zW => ⟨⟨(F, A, Q), rfl, rfl, by show va_P _ _ _ zt.heap; rw [zh]; exact hP⟩, hS.F zh⟩) hS.2.2 dX1_makeBlock_19

/-- the things that are there, one behind the other -/
noncomputable def pt_ord (th : Nat → Prop) : Nat → (Nat → Nat)
  | 0 => fun _ => 0
  | t + 1 => pt_if (th t) (va_up (pt_ord th t) (pt_cnt th t) t) (pt_ord th t)
/-- the tree of the things that are there -/
noncomputable def pt_tree (ax : Nat) (lo hi : Nat → Nat → Int32) (th : Nat → Prop) (md : Nat) : pt_TS := if pt_cnt th md = 0 then (0, pt_ord th md, fun _ _ => 0, fun _ _ _ => 0) else pt_mk ax lo hi 5 0 (pt_cnt th md) 0 (0, pt_ord th md, fun _ _ => 0, fun _ _ _ => 0)
theorem pt_ix13 {d : Int32} (h1 : ¬ d < nI 1) (h3 : d ≤ nI 3) : ∃ k, 1 ≤ k ∧ k ≤ 3 ∧ d = nI k := by
  rcases pk_ix d (n := 4) (by decide) with h | h | ⟨k, hk, e⟩
  · exact absurd (Int32.lt_trans h (by decide)) h1
  · exact absurd (Int32.le_trans h h3) (by decide)
  · refine ⟨k, ?_, by omega, e⟩
    rcases k with _ | k
    · exact absurd (by rw [e]; decide) h1
    · omega

theorem pt_row_add {n md v : Nat} {od : Nat → Nat} {r : Nat → Int32} (h : pt_row n md od r) (hv : v < md) : pt_row (n + 1) md (va_up od n v) (upd r n (nI v)) := by
  intro k hk
  by_cases q : k = n
  · subst q; rw [pt_upd, pt_up]; exact ⟨rfl, hv⟩
  · rw [pt_upd_ne q, pt_up_ne q]; exact h k (by omega)

theorem wd_c_X1_build_X1_build_0 : Cond.fieldLink RX1 66 "PointTrees" "blocks" "I" ∈ wsX1_build := by decide +kernel
theorem wd_c_X1_build_X1_build_1 : Cond.fieldLink RX1 60 "PointTrees" "made" "I" ∈ wsX1_build := by decide +kernel
theorem wd_c_X1_build_X1_build_2 : Cond.fieldLink RX1 69 "PointTrees" "firstLoose" "I" ∈ wsX1_build := by decide +kernel
theorem wd_c_X1_build_X1_build_3 : Cond.fieldLink RX1 15 "PointTrees" "isThere" "[Z" ∈ wsX1_build := by decide +kernel
theorem wd_c_X1_build_X1_build_4 : Cond.fieldLink RX1 28 "PointTrees" "order" "[I" ∈ wsX1_build := by decide +kernel
theorem iw_c_X1_build_wsX10 : ∀ w ∈ wsX10, w ∈ wsX1_build := fun _ h => List.mem_cons_of_mem _ (List.mem_append_left _ (List.mem_append_right _ h))
theorem iw_c_X1_build_wsX00 : ∀ w ∈ wsX00, w ∈ wsX1_build := fun _ h => List.mem_cons_of_mem _ (List.mem_append_right _ h)
set_option maxHeartbeats 4000000 in
set_option maxRecDepth 100000 in
theorem c_X1_build (l : Launch) (dC : Nat → ClassId) (dI : Nat → Nat → Nat) (a : Nat → Nat) (c : Nat → ClassId) (F : Nat → Int32) (A : Nat → Nat → Int32) (Q : Nat → Int64) (sz : Nat) (ax : Nat) (h0 : F 0 = nI ax) (hax1 : 1 ≤ ax) (hax : ax ≤ 3) (md : Nat) (h1 : F 1 = nI md) (hmd : md ≤ 64) (lo hi : Nat → Nat → Int32) (hB : pt_XB ax md lo hi (A 4)) : Met l yX1_build wsX1_build (pt_rm 10) (pt_W (dC, dI) vwCl (pt_xt c) (pt_xw a c F A Q) pt_nw sz [.ref (a 0)]) (va_Qi (fun (r : Int32) (u : pt_XS) => r = nI (pt_tree ax lo hi (fun t => ¬ A 3 t = 0) md).1 ∧ pt_XT ax (pt_cnt (fun t => ¬ A 3 t = 0) md) md (pt_tree ax lo hi (fun t => ¬ A 3 t = 0) md) u.1 u.2.1 ∧ u.1 6 = nI md ∧ (∀ j, j ≠ 5 → j ≠ 6 → u.1 j = F j) ∧ (∀ j, j < 7 ∨ 12 < j → u.2.1 j = A j) ∧ u.2.2 = Q) (fun u t => va_P (dC, dI) vwCl (pt_xw a c u.1 u.2.1 u.2.2) t.heap) (va_A (pt_xw a c F A Q) sz)) 0 0 (va_A (pt_xw a c F A Q) sz) := by
  refine Met.ofW (cc := cX1_build) (maxL := 3) (ret := (some .int)) (by decide) rfl ?_
  intro p e s m args below meth cd s₁ B hml hv
  obtain ⟨rfl, hsz, hP, hK, hN, hD0⟩ := hv
  have hx := B.exec
  have hb := B.bytes
  have hr := B.returns
  have hts := atoms_spec (ws := wsX1_build) B.pre
  have hown : s.vm.findClass RX1 = some m.cls := findClass_of_methodNamed B.named
  have hlocks := B.notSynchronized
  subst hsz
  have hD := hD0.self (sz := s.heap.size)
  generalize hAe : va_A (pt_xw a c F A Q) s.heap.size = AA at hD ⊢
  have hA : ∀ q : Nat, s.heap.size ≤ q → AA q := fun q h => by rw [← hAe]; exact Or.inr h
  have hS : va_S AA s.heap s.heap [] := va_S.rf
  have hl := lv_entry ([.ref (a 0)]) (n := 3) (Nat.le_of_ble_eq_true rfl)
  rw [lg_entry_eq]
  generalize (lg_sl ([.ref (a 0)]) ++ List.replicate (3 - (lg_sl ([.ref (a 0)])).length) Slot.unset).toArray = ls at hl ⊢
  have hl : lv_has ls 3 [(0, .ref (a 0))] := hl
  refine lv_aload_n hx hb dX1_build_0 rfl (lv_at hl 0 rfl) ?_
  refine lv_iconst (v := nI 0) hx hb dX1_build_1 (by decide) ?_
  obtain ⟨F1, eF1⟩ : ∃ zz, zz = upd F 5 (nI 0) := ⟨_, rfl⟩
  refine va_put (D := (dC, dI)) (ci := 1) (v := .int (nI 0)) (ty := .int) (C := RX1) (T := TX1) (N := 18) hx hb hts iw_c_X1_build_wsX10 tyX1 tyX1_ok nmX1 hown hK hP hD hS 0 rfl rfl 5 (by decide) (hts _ wd_c_X1_build_X1_build_0) (fun _ h9 => h9) rfl (by decide +kernel) rfl rfl (Nat.le_of_ble_eq_true rfl) dX1_build_2 (fun H locs hP hD hS => ?_)
  have hP : va_P (dC, dI) vwCl (pt_xw a c F1 A Q) H := by rw [eF1]; exact hP
  have hD : va_D AA (pt_xw a c F1 A Q) := by rw [eF1]; exact hD
  have kF1_0 : F1 0 = nI ax := by rw [eF1, pt_upd_ne (by decide)]; exact h0
  have kF1_1 : F1 1 = nI md := by rw [eF1, pt_upd_ne (by decide)]; exact h1
  have kF1_5 : F1 5 = nI 0 := by rw [eF1, pt_upd]
  refine lv_aload_n hx hb dX1_build_5 rfl (lv_at hl 0 rfl) ?_
  refine lv_aload_n hx hb dX1_build_6 rfl (lv_at hl 0 rfl) ?_
  refine va_get (D := (dC, dI)) (ci := 1) (v := .int (F1 1)) (C := RX1) (T := TX1) (N := 18) hx hb hts iw_c_X1_build_wsX10 hown hK hP 0 rfl rfl 1 (by decide) (hts _ wd_c_X1_build_X1_build_1) (fun _ h9 => h9) rfl dX1_build_7 ?_
  refine pt_top (y := nI md) kF1_1 ?_
  obtain ⟨F2, eF2⟩ : ∃ zz, zz = upd F1 6 (nI md) := ⟨_, rfl⟩
  refine va_put (D := (dC, dI)) (ci := 1) (v := .int (nI md)) (ty := .int) (C := RX1) (T := TX1) (N := 18) hx hb hts iw_c_X1_build_wsX10 tyX1 tyX1_ok nmX1 hown hK hP hD hS 0 rfl rfl 6 (by decide) (hts _ wd_c_X1_build_X1_build_2) (fun _ h9 => h9) rfl (by decide +kernel) rfl rfl (Nat.le_of_ble_eq_true rfl) dX1_build_10 (fun H locs hP hD hS => ?_)
  have hP : va_P (dC, dI) vwCl (pt_xw a c F2 A Q) H := by rw [eF2]; exact hP
  have hD : va_D AA (pt_xw a c F2 A Q) := by rw [eF2]; exact hD
  have kF2_0 : F2 0 = nI ax := by rw [eF2, pt_upd_ne (by decide)]; exact kF1_0
  have kF2_1 : F2 1 = nI md := by rw [eF2, pt_upd_ne (by decide)]; exact kF1_1
  have kF2_5 : F2 5 = nI 0 := by rw [eF2, pt_upd_ne (by decide)]; exact kF1_5
  have kF2_6 : F2 6 = nI md := by rw [eF2, pt_upd]
  refine lv_iconst (v := nI 0) hx hb dX1_build_13 (by decide) ?_
  refine lv_istore_n (lv' := [(1, .int (nI 0)), (0, .ref (a 0))]) hx hb dX1_build_14 rfl hl (by decide) rfl (fun ls hl => ?_)
  refine lv_iconst (v := nI 0) hx hb dX1_build_15 (by decide) ?_
  refine lv_istore_n (lv' := [(2, .int (nI 0)), (1, .int (nI 0)), (0, .ref (a 0))]) hx hb dX1_build_16 rfl hl (by decide) rfl (fun ls hl => ?_)
  refine pt_loopW (fun q : Nat × (Nat → Nat → Int32) => md - q.1) (fun q ls H locs => q.1 ≤ md ∧ (pt_row (pt_cnt (fun t => ¬ A 3 t = 0) q.1) md (pt_ord (fun t => ¬ A 3 t = 0) q.1) (q.2 7) ∧ ∀ j, j ≠ 7 → q.2 j = A j) ∧ va_P (dC, dI) vwCl (pt_xw a c F2 q.2 Q) H ∧ va_D AA (pt_xw a c F2 q.2 Q) ∧ va_S AA s.heap H locs ∧ lv_has ls 3 [(2, .int (nI q.1)), (1, .int (nI (pt_cnt (fun t => ¬ A 3 t = 0) q.1))), (0, .ref (a 0))]) ?_ (0, A) _ _ _ ⟨Nat.zero_le _, ⟨fun k hk => absurd hk (Nat.not_lt_zero _), fun _ _ => rfl⟩, hP, hD, hS, hl⟩
  intro ⟨i, Ai⟩ ls H locs ⟨hii, ⟨hri, hsi⟩, hP, hD, hS, hl⟩ ih
  dsimp only at hii hri hsi hP hD hl ih
  have hci := pt_cnt_le (fun t => ¬ A 3 t = 0) i
  refine lv_iload_n hx hb dX1_build_17 rfl (lv_at hl 0 rfl) ?_
  refine lv_aload_n hx hb dX1_build_18 rfl (lv_at hl 2 rfl) ?_
  refine va_get (D := (dC, dI)) (ci := 1) (v := .int (F2 1)) (C := RX1) (T := TX1) (N := 18) hx hb hts iw_c_X1_build_wsX10 hown hK hP 0 rfl rfl 1 (by decide) (hts _ wd_c_X1_build_X1_build_1) (fun _ h9 => h9) rfl dX1_build_19 ?_
  refine pt_top (y := nI md) kF2_1 ?_
  refine lv_icmp_ge (tgt := 50) hx hb dX1_build_22 (by decide) (fun c22 => ?_) (fun c22 => ?_)
  · have hie : i = md := by have := (nI_leI (by omega) (by omega)).mp c22; omega
    rw [hie] at hri hci hl
    refine lv_aload_n hx hb dX1_build_50 rfl (lv_at hl 2 rfl) ?_
    refine lv_iconst (v := nI 0) hx hb dX1_build_51 (by decide) ?_
    refine lv_iload_n hx hb dX1_build_52 rfl (lv_at hl 1 rfl) ?_
    refine lv_iconst (v := nI 0) hx hb dX1_build_53 (by decide) ?_
    have hsi5 : pt_XT ax (pt_cnt (fun t => ¬ A 3 t = 0) md) md (0, pt_ord (fun t => ¬ A 3 t = 0) md, fun _ _ => 0, fun _ _ _ => 0) F2 Ai := ⟨kF2_5, hri, fun b hb => absurd hb (Nat.not_lt_zero _)⟩
    have hBi : pt_XB ax md lo hi (Ai 4) := by rw [hsi 4 (by decide)]; exact hB
    have hFo : ∀ j, j ≠ 5 → j ≠ 6 → F2 j = F j := fun j j1 j2 => by rw [eF2, pt_upd_ne j2, eF1, pt_upd_ne j1]
    by_cases hn0 : pt_cnt (fun t => ¬ A 3 t = 0) md = 0
    · refine pt_callv (wf := (fun u : pt_XS => pt_xw a c u.1 u.2.1 u.2.2)) (va_runV (As := [.int (nI 0), .int (nI (pt_cnt (fun t => ¬ A 3 t = 0) md)), .int (nI 0)]) (rest := []) ⟨hx, hb, hml, hown, hts⟩ (c_X1_makeBlock_0 l dC dI a c F2 Ai Q _ 0 (pt_cnt (fun t => ¬ A 3 t = 0) md) 0 (by omega) (by decide)) (cwV 3 hts gX1_build_X1_makeBlock rfl rfl rfl (by decide +kernel) ⟨Nat.le_of_ble_eq_true rfl, Nat.le_of_ble_eq_true rfl⟩) (pt_wv1 hP hK hN hD (q0 := 0) rfl) rfl rfl hl.1 rfl (lv_room (Nat.le_of_ble_eq_true rfl)) dX1_build_54 ⟨Nat.le_of_ble_eq_true rfl, Nat.le_of_ble_eq_true rfl⟩) hD hS hA (fun _ => rfl) (fun u54 H locs hr54 hP hD hS => ?_)
      subst hr54
      have et : (pt_tree ax lo hi (fun t => ¬ A 3 t = 0) md) = (0, pt_ord (fun t => ¬ A 3 t = 0) md, fun _ _ => 0, fun _ _ _ => 0) := if_pos hn0
      have et5 : F2 5 = nI (pt_tree ax lo hi (fun t => ¬ A 3 t = 0) md).1 := by rw [et]; exact kF2_5
      dsimp only at hP hD
      have hT9 : pt_XT ax (pt_cnt (fun t => ¬ A 3 t = 0) md) md (pt_tree ax lo hi (fun t => ¬ A 3 t = 0) md) F2 Ai := by rw [et]; exact hsi5
      have h69 : F2 6 = nI md := kF2_6
      have hFo9 := hFo
      have hAo9 : ∀ j, j < 7 ∨ 12 < j → Ai j = A j := fun j hj => hsi j (by omega)
      have hQ9 : Q = Q := rfl
      refine lv_aload_n hx hb dX1_build_57 rfl (lv_at hl 2 rfl) ?_
      refine va_get (D := (dC, dI)) (ci := 1) (v := .int (F2 5)) (C := RX1) (T := TX1) (N := 18) hx hb hts iw_c_X1_build_wsX10 hown hK hP 0 rfl rfl 5 (by decide) (hts _ wd_c_X1_build_X1_build_0) (fun _ h9 => h9) rfl dX1_build_58 ?_
      refine pt_top (y := nI ((pt_tree ax lo hi (fun t => ¬ A 3 t = 0) md).1)) et5 ?_
      exact W.iret (v := nI ((pt_tree ax lo hi (fun t => ¬ A 3 t = 0) md).1)) hx hb hr (fun zt zh zW => ⟨⟨_, (F2, Ai, Q), rfl, ⟨rfl, hT9, h69, hFo9, hAo9, hQ9⟩, by show va_P _ _ _ zt.heap; rw [zh]; exact hP⟩, hS.F zh⟩) hS.2.2 dX1_build_61
    · refine pt_callv (wf := (fun u : pt_XS => pt_xw a c u.1 u.2.1 u.2.2)) (va_runV (As := [.int (nI 0), .int (nI (pt_cnt (fun t => ¬ A 3 t = 0) md)), .int (nI 0)]) (rest := []) ⟨hx, hb, hml, hown, hts⟩ (c_X1_makeBlock l dC dI a c ax (pt_cnt (fun t => ¬ A 3 t = 0) md) md lo hi 5 (by decide) F2 Ai Q _ 0 (pt_cnt (fun t => ¬ A 3 t = 0) md) 0 (0, pt_ord (fun t => ¬ A 3 t = 0) md, fun _ _ => 0, fun _ _ _ => 0) kF2_0 (by omega) (Nat.le_refl _) (by omega) hmd hax1 hax rfl (by show _ ≤ 64; omega) (by show 0 + 2 ^ 5 ≤ 32; decide) hsi5 hBi) (cwV 3 hts gX1_build_X1_makeBlock rfl rfl rfl (by decide +kernel) ⟨Nat.le_of_ble_eq_true rfl, Nat.le_of_ble_eq_true rfl⟩) (pt_wv1 hP hK hN hD (q0 := 0) rfl) rfl rfl hl.1 rfl (lv_room (Nat.le_of_ble_eq_true rfl)) dX1_build_54 ⟨Nat.le_of_ble_eq_true rfl, Nat.le_of_ble_eq_true rfl⟩) hD hS hA (fun _ => rfl) (fun u54 H locs hr54 hP hD hS => ?_)
      obtain ⟨F4, A4, Q4⟩ := u54
      obtain ⟨hT8, hfM, haM, hQ9⟩ := hr54
      dsimp only at hT8 hfM haM hQ9 hP hD
      have et : (pt_tree ax lo hi (fun t => ¬ A 3 t = 0) md) = pt_mk ax lo hi 5 0 (pt_cnt (fun t => ¬ A 3 t = 0) md) 0 (0, pt_ord (fun t => ¬ A 3 t = 0) md, fun _ _ => 0, fun _ _ _ => 0) := if_neg hn0
      have hT9 : pt_XT ax (pt_cnt (fun t => ¬ A 3 t = 0) md) md (pt_tree ax lo hi (fun t => ¬ A 3 t = 0) md) F4 A4 := by rw [et]; exact hT8
      have h69 : F4 6 = nI md := (hfM 6 (by decide)).trans kF2_6
      have hFo9 : ∀ j, j ≠ 5 → j ≠ 6 → F4 j = F j := fun j j1 j2 => (hfM j j1).trans (hFo j j1 j2)
      have hAo9 : ∀ j, j < 7 ∨ 12 < j → A4 j = A j := fun j hj => (haM j hj).trans (hsi j (by omega))
      refine lv_aload_n hx hb dX1_build_57 rfl (lv_at hl 2 rfl) ?_
      refine va_get (D := (dC, dI)) (ci := 1) (v := .int (F4 5)) (C := RX1) (T := TX1) (N := 18) hx hb hts iw_c_X1_build_wsX10 hown hK hP 0 rfl rfl 5 (by decide) (hts _ wd_c_X1_build_X1_build_0) (fun _ h9 => h9) rfl dX1_build_58 ?_
      refine pt_top (y := nI ((pt_tree ax lo hi (fun t => ¬ A 3 t = 0) md).1)) hT9.1 ?_
      exact W.iret (v := nI ((pt_tree ax lo hi (fun t => ¬ A 3 t = 0) md).1)) hx hb hr (fun zt zh zW => ⟨⟨_, (F4, A4, Q4), rfl, ⟨rfl, hT9, h69, hFo9, hAo9, hQ9⟩, by show va_P _ _ _ zt.heap; rw [zh]; exact hP⟩, hS.F zh⟩) hS.2.2 dX1_build_61
  · have hlt : i < md := Nat.not_le.mp (fun q => c22 ((nI_leI (by omega) (by omega)).mpr q))
    refine lv_aload_n hx hb dX1_build_25 rfl (lv_at hl 2 rfl) ?_
    refine va_get (D := (dC, dI)) (ci := 1) (v := .ref (a 3)) (C := RX1) (T := TX1) (N := 18) hx hb hts iw_c_X1_build_wsX10 hown hK hP 0 rfl rfl 3 (by decide) (hts _ wd_c_X1_build_X1_build_3) (fun _ h9 => h9) rfl dX1_build_26 ?_
    refine lv_iload_n hx hb dX1_build_29 rfl (lv_at hl 0 rfl) ?_
    refine pt_zald hx hb hK hP 1 0 rfl rfl i rfl (by omega) (by decide) dX1_build_30 ?_
    refine lv_if_eq (tgt := 44) hx hb dX1_build_31 (by decide) (fun c31 => ?_) (fun c31 => ?_)
    · refine lv_iinc (v := nI (i + 1)) (lv' := [(2, .int (nI (i + 1))), (1, .int (nI (pt_cnt (fun t => ¬ A 3 t = 0) i))), (0, .ref (a 0))]) hx hb dX1_build_44 hl (k := 0) rfl (nI_1 _) (by decide) rfl (fun ls hl => ?_)
      refine lv_goto (tgt := 17) hx hb dX1_build_47 (by decide) ?_
      have d31 : ¬ (fun t => ¬ A 3 t = 0) i := fun q => q ((congrFun (hsi 3 (by decide)) i).symm.trans c31)
      have ec := pt_cnt_f (p := (fun t => ¬ A 3 t = 0)) d31
      have eo : pt_ord (fun t => ¬ A 3 t = 0) (i + 1) = pt_ord (fun t => ¬ A 3 t = 0) i := pt_if_f d31
      exact ih (i + 1, Ai) _ _ _ ⟨by show i + 1 ≤ md; omega, ⟨by show pt_row (pt_cnt _ (i + 1)) md (pt_ord _ (i + 1)) _; rw [ec, eo]; exact hri, hsi⟩, hP, hD, hS, by show lv_has ls 3 [(2, .int (nI (i + 1))), (1, .int (nI (pt_cnt _ (i + 1)))), _]; rw [ec]; exact lv_sub hl [0, 1, 2] rfl⟩ (by show md - (i + 1) < md - i; omega)
    · refine lv_aload_n hx hb dX1_build_34 rfl (lv_at hl 2 rfl) ?_
      refine va_get (D := (dC, dI)) (ci := 1) (v := .ref (a 7)) (C := RX1) (T := TX1) (N := 18) hx hb hts iw_c_X1_build_wsX10 hown hK hP 0 rfl rfl 7 (by decide) (hts _ wd_c_X1_build_X1_build_4) (fun _ h9 => h9) rfl dX1_build_35 ?_
      refine lv_iload_n hx hb dX1_build_38 rfl (lv_at hl 1 rfl) ?_
      refine lv_iload_n hx hb dX1_build_39 rfl (lv_at hl 0 rfl) ?_
      obtain ⟨A5, eA5⟩ : ∃ zz, zz = va_up Ai 7 (upd (Ai 7) (pt_cnt (fun t => ¬ A 3 t = 0) i) (nI i)) := ⟨_, rfl⟩
      refine pt_iast hx hb hK hP hD hS 4 2 rfl rfl (pt_cnt (fun t => ¬ A 3 t = 0) i) rfl (by omega) (by decide) (ws' := (pt_xw a c F2 A5 Q)) (by rw [eA5]; rfl) dX1_build_40 (fun H locs hP hD hS => ?_)
      refine lv_iinc (v := nI ((pt_cnt (fun t => ¬ A 3 t = 0) i) + 1)) (lv' := [(1, .int (nI ((pt_cnt (fun t => ¬ A 3 t = 0) i) + 1))), (2, .int (nI i)), (0, .ref (a 0))]) hx hb dX1_build_41 hl (k := 1) rfl (nI_1 _) (by decide) rfl (fun ls hl => ?_)
      refine lv_iinc (v := nI (i + 1)) (lv' := [(2, .int (nI (i + 1))), (1, .int (nI ((pt_cnt (fun t => ¬ A 3 t = 0) i) + 1))), (0, .ref (a 0))]) hx hb dX1_build_44 hl (k := 1) rfl (nI_1 _) (by decide) rfl (fun ls hl => ?_)
      refine lv_goto (tgt := 17) hx hb dX1_build_47 (by decide) ?_
      have d31 : (fun t => ¬ A 3 t = 0) i := fun q => c31 ((congrFun (hsi 3 (by decide)) i).trans q)
      have ec := pt_cnt_t (p := (fun t => ¬ A 3 t = 0)) d31
      have eo : pt_ord (fun t => ¬ A 3 t = 0) (i + 1) = va_up (pt_ord (fun t => ¬ A 3 t = 0) i) (pt_cnt (fun t => ¬ A 3 t = 0) i) i := pt_if_t d31
      exact ih (i + 1, A5) _ _ _ ⟨by show i + 1 ≤ md; omega, ⟨by show pt_row (pt_cnt _ (i + 1)) md (pt_ord _ (i + 1)) (A5 7); rw [ec, eo, eA5, pt_up]; exact pt_row_add hri (by omega), fun j hj => by show A5 j = A j; rw [eA5, pt_up_ne hj]; exact hsi j hj⟩, hP, hD, hS, by show lv_has ls 3 [(2, .int (nI (i + 1))), (1, .int (nI (pt_cnt _ (i + 1)))), _]; rw [ec]; exact lv_sub hl [0, 1, 2] rfl⟩ (by show md - (i + 1) < md - i; omega)

theorem wd_c_X1_dimensions_X1_dimensions_0 : Cond.fieldLink RX1 9 "PointTrees" "axes" "I" ∈ wsX1_dimensions := by decide +kernel
theorem wd_c_X1_dimensions_X1_dimensions_1 : Cond.fieldLink RX1 60 "PointTrees" "made" "I" ∈ wsX1_dimensions := by decide +kernel
theorem wd_c_X1_dimensions_X1_dimensions_2 : Cond.fieldLink RX1 63 "PointTrees" "present" "I" ∈ wsX1_dimensions := by decide +kernel
theorem wd_c_X1_dimensions_X1_dimensions_3 : Cond.fieldLink RX1 66 "PointTrees" "blocks" "I" ∈ wsX1_dimensions := by decide +kernel
theorem wd_c_X1_dimensions_X1_dimensions_4 : Cond.fieldLink RX1 69 "PointTrees" "firstLoose" "I" ∈ wsX1_dimensions := by decide +kernel
theorem iw_c_X1_dimensions_wsX10 : ∀ w ∈ wsX10, w ∈ wsX1_dimensions := fun _ h => List.mem_cons_of_mem _ (List.mem_append_right _ h)
set_option maxHeartbeats 4000000 in
set_option maxRecDepth 100000 in
theorem c_X1_dimensions (l : Launch) (dC : Nat → ClassId) (dI : Nat → Nat → Nat) (a : Nat → Nat) (c : Nat → ClassId) (F : Nat → Int32) (A : Nat → Nat → Int32) (Q : Nat → Int64) (sz : Nat) (d : Int32) : Met l yX1_dimensions wsX1_dimensions (pt_rm 1) (pt_W (dC, dI) vwCl (pt_xt c) (pt_xw a c F A Q) pt_nw sz [.ref (a 0), .int d]) (va_Qi (fun (r : Int32) (u : pt_XS) => ((∀ k, 1 ≤ k → k ≤ 3 → ¬ d = nI k) ∧ r = -2 ∧ u = (F, A, Q)) ∨ ∃ k, 1 ≤ k ∧ k ≤ 3 ∧ d = nI k ∧ r = F 0 ∧ u.1 0 = nI k ∧ u.1 1 = nI 0 ∧ u.1 2 = nI 0 ∧ u.1 5 = nI 0 ∧ u.1 6 = nI 0 ∧ pt_ask (fun _ => False) 0 u.1 u.2.1 ∧ (∀ x, x < 3 → u.2.1 16 x = nI 0)) (fun u t => va_P (dC, dI) vwCl (pt_xw a c u.1 u.2.1 u.2.2) t.heap) (va_A (pt_xw a c F A Q) sz)) 0 0 (va_A (pt_xw a c F A Q) sz) := by
  refine Met.ofW (cc := cX1_dimensions) (maxL := 3) (ret := (some .int)) (by decide) rfl ?_
  intro p e s m args below meth cd s₁ B hml hv
  obtain ⟨rfl, hsz, hP, hK, hN, hD0⟩ := hv
  have hx := B.exec
  have hb := B.bytes
  have hr := B.returns
  have hts := atoms_spec (ws := wsX1_dimensions) B.pre
  have hown : s.vm.findClass RX1 = some m.cls := findClass_of_methodNamed B.named
  have hlocks := B.notSynchronized
  subst hsz
  have hD := hD0.self (sz := s.heap.size)
  generalize hAe : va_A (pt_xw a c F A Q) s.heap.size = AA at hD ⊢
  have hA : ∀ q : Nat, s.heap.size ≤ q → AA q := fun q h => by rw [← hAe]; exact Or.inr h
  have hS : va_S AA s.heap s.heap [] := va_S.rf
  have hl := lv_entry ([.ref (a 0), .int d]) (n := 3) (Nat.le_of_ble_eq_true rfl)
  rw [lg_entry_eq]
  generalize (lg_sl ([.ref (a 0), .int d]) ++ List.replicate (3 - (lg_sl ([.ref (a 0), .int d])).length) Slot.unset).toArray = ls at hl ⊢
  have hl : lv_has ls 3 [(0, .ref (a 0)), (1, .int d)] := hl
  refine lv_iload_n hx hb dX1_dimensions_0 rfl (lv_at hl 1 rfl) ?_
  refine lv_iconst (v := nI 1) hx hb dX1_dimensions_1 (by decide) ?_
  refine lv_icmp_lt (tgt := 10) hx hb dX1_dimensions_2 (by decide) (fun c2 => ?_) (fun c2 => ?_)
  · refine lv_bipush (v := (-2)) hx hb dX1_dimensions_10 (by decide) ?_
    exact W.iret (v := (-2)) hx hb hr (fun zt zh zW => ⟨⟨_, (F, A, Q), rfl, (Or.inl ⟨fun k k1 k3 e => by subst e; first | exact c7 (nI_le k3 (by decide)) | exact nI_nlt k1 (by omega) c2, rfl, rfl⟩), by show va_P _ _ _ zt.heap; rw [zh]; exact hP⟩, hS.F zh⟩) hS.2.2 dX1_dimensions_12
  · refine lv_iload_n hx hb dX1_dimensions_5 rfl (lv_at hl 1 rfl) ?_
    refine lv_iconst (v := nI 3) hx hb dX1_dimensions_6 (by decide) ?_
    refine lv_icmp_le (tgt := 13) hx hb dX1_dimensions_7 (by decide) (fun c7 => ?_) (fun c7 => ?_)
    · obtain ⟨k, hk1, hk3, ek⟩ := pt_ix13 c2 c7
      subst ek
      refine lv_aload_n hx hb dX1_dimensions_13 rfl (lv_at hl 0 rfl) ?_
      refine va_get (D := (dC, dI)) (ci := 1) (v := .int (F 0)) (C := RX1) (T := TX1) (N := 18) hx hb hts iw_c_X1_dimensions_wsX10 hown hK hP 0 rfl rfl 0 (by decide) (hts _ wd_c_X1_dimensions_X1_dimensions_0) (fun _ h9 => h9) rfl dX1_dimensions_14 ?_
      refine lv_istore_n (lv' := [(2, .int (F 0)), (0, .ref (a 0)), (1, .int (nI k))]) hx hb dX1_dimensions_17 rfl hl (by decide) rfl (fun ls hl => ?_)
      refine lv_aload_n hx hb dX1_dimensions_18 rfl (lv_at hl 1 rfl) ?_
      refine lv_iload_n hx hb dX1_dimensions_19 rfl (lv_at hl 2 rfl) ?_
      obtain ⟨F1, eF1⟩ : ∃ zz, zz = upd F 0 (nI k) := ⟨_, rfl⟩
      refine va_put (D := (dC, dI)) (ci := 1) (v := .int (nI k)) (ty := .int) (C := RX1) (T := TX1) (N := 18) hx hb hts iw_c_X1_dimensions_wsX10 tyX1 tyX1_ok nmX1 hown hK hP hD hS 0 rfl rfl 0 (by decide) (hts _ wd_c_X1_dimensions_X1_dimensions_0) (fun _ h9 => h9) rfl (by decide +kernel) rfl rfl (Nat.le_of_ble_eq_true rfl) dX1_dimensions_20 (fun H locs hP hD hS => ?_)
      have hP : va_P (dC, dI) vwCl (pt_xw a c F1 A Q) H := by rw [eF1]; exact hP
      have hD : va_D AA (pt_xw a c F1 A Q) := by rw [eF1]; exact hD
      have kF1_0 : F1 0 = nI k := by rw [eF1, pt_upd]
      refine lv_aload_n hx hb dX1_dimensions_23 rfl (lv_at hl 1 rfl) ?_
      refine lv_iconst (v := nI 0) hx hb dX1_dimensions_24 (by decide) ?_
      obtain ⟨F2, eF2⟩ : ∃ zz, zz = upd F1 1 (nI 0) := ⟨_, rfl⟩
      refine va_put (D := (dC, dI)) (ci := 1) (v := .int (nI 0)) (ty := .int) (C := RX1) (T := TX1) (N := 18) hx hb hts iw_c_X1_dimensions_wsX10 tyX1 tyX1_ok nmX1 hown hK hP hD hS 0 rfl rfl 1 (by decide) (hts _ wd_c_X1_dimensions_X1_dimensions_1) (fun _ h9 => h9) rfl (by decide +kernel) rfl rfl (Nat.le_of_ble_eq_true rfl) dX1_dimensions_25 (fun H locs hP hD hS => ?_)
      have hP : va_P (dC, dI) vwCl (pt_xw a c F2 A Q) H := by rw [eF2]; exact hP
      have hD : va_D AA (pt_xw a c F2 A Q) := by rw [eF2]; exact hD
      have kF2_0 : F2 0 = nI k := by rw [eF2, pt_upd_ne (by decide)]; exact kF1_0
      have kF2_1 : F2 1 = nI 0 := by rw [eF2, pt_upd]
      refine lv_aload_n hx hb dX1_dimensions_28 rfl (lv_at hl 1 rfl) ?_
      refine lv_iconst (v := nI 0) hx hb dX1_dimensions_29 (by decide) ?_
      obtain ⟨F3, eF3⟩ : ∃ zz, zz = upd F2 2 (nI 0) := ⟨_, rfl⟩
      refine va_put (D := (dC, dI)) (ci := 1) (v := .int (nI 0)) (ty := .int) (C := RX1) (T := TX1) (N := 18) hx hb hts iw_c_X1_dimensions_wsX10 tyX1 tyX1_ok nmX1 hown hK hP hD hS 0 rfl rfl 2 (by decide) (hts _ wd_c_X1_dimensions_X1_dimensions_2) (fun _ h9 => h9) rfl (by decide +kernel) rfl rfl (Nat.le_of_ble_eq_true rfl) dX1_dimensions_30 (fun H locs hP hD hS => ?_)
      have hP : va_P (dC, dI) vwCl (pt_xw a c F3 A Q) H := by rw [eF3]; exact hP
      have hD : va_D AA (pt_xw a c F3 A Q) := by rw [eF3]; exact hD
      have kF3_0 : F3 0 = nI k := by rw [eF3, pt_upd_ne (by decide)]; exact kF2_0
      have kF3_1 : F3 1 = nI 0 := by rw [eF3, pt_upd_ne (by decide)]; exact kF2_1
      have kF3_2 : F3 2 = nI 0 := by rw [eF3, pt_upd]
      refine lv_aload_n hx hb dX1_dimensions_33 rfl (lv_at hl 1 rfl) ?_
      refine lv_iconst (v := nI 0) hx hb dX1_dimensions_34 (by decide) ?_
      obtain ⟨F4, eF4⟩ : ∃ zz, zz = upd F3 5 (nI 0) := ⟨_, rfl⟩
      refine va_put (D := (dC, dI)) (ci := 1) (v := .int (nI 0)) (ty := .int) (C := RX1) (T := TX1) (N := 18) hx hb hts iw_c_X1_dimensions_wsX10 tyX1 tyX1_ok nmX1 hown hK hP hD hS 0 rfl rfl 5 (by decide) (hts _ wd_c_X1_dimensions_X1_dimensions_3) (fun _ h9 => h9) rfl (by decide +kernel) rfl rfl (Nat.le_of_ble_eq_true rfl) dX1_dimensions_35 (fun H locs hP hD hS => ?_)
      have hP : va_P (dC, dI) vwCl (pt_xw a c F4 A Q) H := by rw [eF4]; exact hP
      have hD : va_D AA (pt_xw a c F4 A Q) := by rw [eF4]; exact hD
      have kF4_0 : F4 0 = nI k := by rw [eF4, pt_upd_ne (by decide)]; exact kF3_0
      have kF4_1 : F4 1 = nI 0 := by rw [eF4, pt_upd_ne (by decide)]; exact kF3_1
      have kF4_2 : F4 2 = nI 0 := by rw [eF4, pt_upd_ne (by decide)]; exact kF3_2
      have kF4_5 : F4 5 = nI 0 := by rw [eF4, pt_upd]
      refine lv_aload_n hx hb dX1_dimensions_38 rfl (lv_at hl 1 rfl) ?_
      refine lv_iconst (v := nI 0) hx hb dX1_dimensions_39 (by decide) ?_
      obtain ⟨F5, eF5⟩ : ∃ zz, zz = upd F4 6 (nI 0) := ⟨_, rfl⟩
      refine va_put (D := (dC, dI)) (ci := 1) (v := .int (nI 0)) (ty := .int) (C := RX1) (T := TX1) (N := 18) hx hb hts iw_c_X1_dimensions_wsX10 tyX1 tyX1_ok nmX1 hown hK hP hD hS 0 rfl rfl 6 (by decide) (hts _ wd_c_X1_dimensions_X1_dimensions_4) (fun _ h9 => h9) rfl (by decide +kernel) rfl rfl (Nat.le_of_ble_eq_true rfl) dX1_dimensions_40 (fun H locs hP hD hS => ?_)
      have hP : va_P (dC, dI) vwCl (pt_xw a c F5 A Q) H := by rw [eF5]; exact hP
      have hD : va_D AA (pt_xw a c F5 A Q) := by rw [eF5]; exact hD
      have kF5_0 : F5 0 = nI k := by rw [eF5, pt_upd_ne (by decide)]; exact kF4_0
      have kF5_1 : F5 1 = nI 0 := by rw [eF5, pt_upd_ne (by decide)]; exact kF4_1
      have kF5_2 : F5 2 = nI 0 := by rw [eF5, pt_upd_ne (by decide)]; exact kF4_2
      have kF5_5 : F5 5 = nI 0 := by rw [eF5, pt_upd_ne (by decide)]; exact kF4_5
      have kF5_6 : F5 6 = nI 0 := by rw [eF5, pt_upd]
      refine lv_aload_n hx hb dX1_dimensions_43 rfl (lv_at hl 1 rfl) ?_
      refine pt_callv (wf := (fun u : pt_XS => pt_xw a c u.1 u.2.1 u.2.2)) (va_runV (As := []) (rest := []) ⟨hx, hb, hml, hown, hts⟩ (c_X1_forgetAsked l dC dI a c F5 A Q _) (cwV 0 hts gX1_dimensions_X1_forgetAsked rfl rfl rfl (by decide +kernel) ⟨Nat.le_of_ble_eq_true rfl, Nat.le_of_ble_eq_true rfl⟩) (pt_wv1 hP hK hN hD (q0 := 0) rfl) rfl rfl hl.1 rfl (lv_room (Nat.le_of_ble_eq_true rfl)) dX1_dimensions_44 ⟨Nat.le_of_ble_eq_true rfl, Nat.le_of_ble_eq_true rfl⟩) hD hS hA (fun _ => rfl) (fun u44 H locs hr44 hP hD hS => ?_)
      obtain ⟨F6, A6, Q6⟩ := u44
      obtain ⟨hm6, hz6, ho6, hq6⟩ := hr44
      dsimp only at hm6 hz6 ho6 hq6 hP hD
      have kF6_0 : F6 0 = nI k := (ho6.1 0 (by decide)).trans kF5_0
      have kF6_1 : F6 1 = nI 0 := (ho6.1 1 (by decide)).trans kF5_1
      have kF6_2 : F6 2 = nI 0 := (ho6.1 2 (by decide)).trans kF5_2
      have kF6_5 : F6 5 = nI 0 := (ho6.1 5 (by decide)).trans kF5_5
      have kF6_6 : F6 6 = nI 0 := (ho6.1 6 (by decide)).trans kF5_6
      refine lv_iload_n hx hb dX1_dimensions_47 rfl (lv_at hl 0 rfl) ?_
      exact W.iret (v := (F 0)) hx hb hr (fun zt zh zW => ⟨⟨_, (F6, A6, Q6), rfl, (Or.inr ⟨k, hk1, hk3, rfl, rfl, kF6_0, kF6_1, kF6_2, kF6_5, kF6_6, hm6, hz6⟩), by show va_P _ _ _ zt.heap; rw [zh]; exact hP⟩, hS.F zh⟩) hS.2.2 dX1_dimensions_48
    · refine lv_bipush (v := (-2)) hx hb dX1_dimensions_10 (by decide) ?_
      exact W.iret (v := (-2)) hx hb hr (fun zt zh zW => ⟨⟨_, (F, A, Q), rfl, (Or.inl ⟨fun k k1 k3 e => by subst e; first | exact c7 (nI_le k3 (by decide)) | exact nI_nlt k1 (by omega) c2, rfl, rfl⟩), by show va_P _ _ _ zt.heap; rw [zh]; exact hP⟩, hS.F zh⟩) hS.2.2 dX1_dimensions_12

theorem wd_c_X1_thing_X1_thing_0 : Cond.fieldLink RX1 60 "PointTrees" "made" "I" ∈ wsX1_thing := by decide +kernel
theorem wd_c_X1_thing_X1_thing_1 : Cond.fieldLink RX1 24 "PointTrees" "things" "LPointTrees$Boxes;" ∈ wsX1_thing := by decide +kernel
theorem wd_c_X1_thing_X1_thing_2 : Cond.initialized RX0 ∈ wsX1_thing := by decide +kernel
theorem wd_c_X1_thing_X1_thing_3 : Cond.instanceMethod yX0_put ∈ wsX1_thing := by decide +kernel
theorem wd_c_X1_thing_X1_thing_4 : Cond.selects RX0 yX0_put yX0_put ∈ wsX1_thing := by decide +kernel
theorem wd_c_X1_thing_X1_thing_5 : Cond.fieldLink RX1 15 "PointTrees" "isThere" "[Z" ∈ wsX1_thing := by decide +kernel
theorem wd_c_X1_thing_X1_thing_6 : Cond.fieldLink RX1 63 "PointTrees" "present" "I" ∈ wsX1_thing := by decide +kernel
theorem iw_c_X1_thing_wsX10 : ∀ w ∈ wsX10, w ∈ wsX1_thing := fun _ h => List.mem_cons_of_mem _ (List.mem_append_left _ (List.mem_append_right _ h))
theorem iw_c_X1_thing_wsX00 : ∀ w ∈ wsX00, w ∈ wsX1_thing := fun _ h => List.mem_cons_of_mem _ (List.mem_append_right _ h)
set_option maxHeartbeats 4000000 in
set_option maxRecDepth 100000 in
theorem c_X1_thing (l : Launch) (dC : Nat → ClassId) (dI : Nat → Nat → Nat) (a : Nat → Nat) (c : Nat → ClassId) (F : Nat → Int32) (A : Nat → Nat → Int32) (Q : Nat → Int64) (sz : Nat) (ax : Nat) (h0 : F 0 = nI ax) (hax : ax ≤ 3) (md : Nat) (h1 : F 1 = nI md) (hmd : md ≤ 64) (pr : Nat) (h2 : F 2 = nI pr) (x0 x1 y0 y1 z0 z1 : Int32) : Met l yX1_thing wsX1_thing (pt_rm 3) (pt_W (dC, dI) vwCl (pt_xt c) (pt_xw a c F A Q) pt_nw sz [.ref (a 0), .int x0, .int x1, .int y0, .int y1, .int z0, .int z1]) (va_Qi (fun (r : Int32) (u : pt_XS) => (¬ pt_box ax x0 x1 y0 y1 z0 z1 ∧ r = -2 ∧ u = (F, A, Q)) ∨ (pt_box ax x0 x1 y0 y1 z0 z1 ∧ md = 64 ∧ r = -4 ∧ u = (F, A, Q)) ∨ (pt_box ax x0 x1 y0 y1 z0 z1 ∧ md < 64 ∧ r = nI md ∧ u.1 1 = nI (md + 1) ∧ u.1 2 = nI (pr + 1) ∧ (∀ j, j ≠ 1 → j ≠ 2 → u.1 j = F j) ∧ u.2.1 3 = upd (A 3) md 1 ∧ u.2.1 4 = pt_pt6 (A 4) md x0 x1 y0 y1 z0 z1 ∧ (∀ j, j ≠ 3 → j ≠ 4 → u.2.1 j = A j) ∧ u.2.2 = Q)) (fun u t => va_P (dC, dI) vwCl (pt_xw a c u.1 u.2.1 u.2.2) t.heap) (va_A (pt_xw a c F A Q) sz)) 0 0 (va_A (pt_xw a c F A Q) sz) := by
  refine Met.ofW (cc := cX1_thing) (maxL := 8) (ret := (some .int)) (by decide) rfl ?_
  intro p e s m args below meth cd s₁ B hml hv
  obtain ⟨rfl, hsz, hP, hK, hN, hD0⟩ := hv
  have hx := B.exec
  have hb := B.bytes
  have hr := B.returns
  have hts := atoms_spec (ws := wsX1_thing) B.pre
  have hown : s.vm.findClass RX1 = some m.cls := findClass_of_methodNamed B.named
  have hlocks := B.notSynchronized
  subst hsz
  have hD := hD0.self (sz := s.heap.size)
  generalize hAe : va_A (pt_xw a c F A Q) s.heap.size = AA at hD ⊢
  have hA : ∀ q : Nat, s.heap.size ≤ q → AA q := fun q h => by rw [← hAe]; exact Or.inr h
  have hS : va_S AA s.heap s.heap [] := va_S.rf
  have hl := lv_entry ([.ref (a 0), .int x0, .int x1, .int y0, .int y1, .int z0, .int z1]) (n := 8) (Nat.le_of_ble_eq_true rfl)
  rw [lg_entry_eq]
  generalize (lg_sl ([.ref (a 0), .int x0, .int x1, .int y0, .int y1, .int z0, .int z1]) ++ List.replicate (8 - (lg_sl ([.ref (a 0), .int x0, .int x1, .int y0, .int y1, .int z0, .int z1])).length) Slot.unset).toArray = ls at hl ⊢
  have hl : lv_has ls 8 [(0, .ref (a 0)), (1, .int x0), (2, .int x1), (3, .int y0), (4, .int y1), (5, .int z0), (6, .int z1)] := hl
  refine lv_aload_n hx hb dX1_thing_0 rfl (lv_at hl 0 rfl) ?_
  refine lv_iload_n hx hb dX1_thing_1 rfl (lv_at hl 1 rfl) ?_
  refine lv_iload_n hx hb dX1_thing_2 rfl (lv_at hl 2 rfl) ?_
  refine lv_iload_n hx hb dX1_thing_3 rfl (lv_at hl 3 rfl) ?_
  refine lv_iload hx hb dX1_thing_4 (lv_at hl 4 rfl) ?_
  refine lv_iload hx hb dX1_thing_6 (lv_at hl 5 rfl) ?_
  refine lv_iload hx hb dX1_thing_8 (lv_at hl 6 rfl) ?_
  refine pt_rdi (va_runV (As := [.int x0, .int x1, .int y0, .int y1, .int z0, .int z1]) (rest := []) ⟨hx, hb, hml, hown, hts⟩ (c_X1_isBox l dC dI a c F A Q ax h0 hax x0 x1 y0 y1 z0 z1) (cwV 6 hts gX1_thing_X1_isBox rfl rfl rfl (by decide +kernel) ⟨Nat.le_of_ble_eq_true rfl, Nat.le_of_ble_eq_true rfl⟩) (pt_pv1 hP hK hN (q0 := 0) rfl) rfl rfl hl.1 rfl (lv_room (Nat.le_of_ble_eq_true rfl)) dX1_thing_10 ⟨Nat.le_of_ble_eq_true rfl, Nat.le_of_ble_eq_true rfl⟩) (fun r10 hr10 => ?_)
  refine lv_if_ne (tgt := 19) hx hb dX1_thing_13 (by decide) (fun c13 => ?_) (fun c13 => ?_)
  · have d13 := hr10.t c13
    refine lv_aload_n hx hb dX1_thing_19 rfl (lv_at hl 0 rfl) ?_
    refine va_get (D := (dC, dI)) (ci := 1) (v := .int (F 1)) (C := RX1) (T := TX1) (N := 18) hx hb hts iw_c_X1_thing_wsX10 hown hK hP 0 rfl rfl 1 (by decide) (hts _ wd_c_X1_thing_X1_thing_0) (fun _ h9 => h9) rfl dX1_thing_20 ?_
    refine pt_top (y := nI md) h1 ?_
    refine lv_bipush (v := nI 64) hx hb dX1_thing_23 (by decide) ?_
    refine lv_icmp_lt (tgt := 31) hx hb dX1_thing_25 (by decide) (fun c25 => ?_) (fun c25 => ?_)
    · have d25 : md < 64 := (nI_ltI (by omega) (by omega)).mp c25
      refine lv_aload_n hx hb dX1_thing_31 rfl (lv_at hl 0 rfl) ?_
      refine va_get (D := (dC, dI)) (ci := 1) (v := .int (F 1)) (C := RX1) (T := TX1) (N := 18) hx hb hts iw_c_X1_thing_wsX10 hown hK hP 0 rfl rfl 1 (by decide) (hts _ wd_c_X1_thing_X1_thing_0) (fun _ h9 => h9) rfl dX1_thing_32 ?_
      refine pt_top (y := nI md) h1 ?_
      refine lv_istore (lv' := [(7, .int (nI md)), (0, .ref (a 0)), (1, .int x0), (2, .int x1), (3, .int y0), (4, .int y1), (5, .int z0), (6, .int z1)]) hx hb dX1_thing_35 hl (by decide) rfl (fun ls hl => ?_)
      refine lv_aload_n hx hb dX1_thing_37 rfl (lv_at hl 1 rfl) ?_
      refine va_get (D := (dC, dI)) (ci := 1) (v := .ref (a 4)) (C := RX1) (T := TX1) (N := 18) hx hb hts iw_c_X1_thing_wsX10 hown hK hP 0 rfl rfl 4 (by decide) (hts _ wd_c_X1_thing_X1_thing_1) (fun _ h9 => h9) rfl dX1_thing_38 ?_
      refine lv_iload hx hb dX1_thing_41 (lv_at hl 0 rfl) ?_
      refine lv_iload_n hx hb dX1_thing_43 rfl (lv_at hl 2 rfl) ?_
      refine lv_iload_n hx hb dX1_thing_44 rfl (lv_at hl 3 rfl) ?_
      refine lv_iload_n hx hb dX1_thing_45 rfl (lv_at hl 4 rfl) ?_
      refine lv_iload hx hb dX1_thing_46 (lv_at hl 5 rfl) ?_
      refine lv_iload hx hb dX1_thing_48 (lv_at hl 6 rfl) ?_
      refine lv_iload hx hb dX1_thing_50 (lv_at hl 7 rfl) ?_
      refine pt_callv (wf := (fun u => (pt_xw a c F A Q).set 3 (a 24, .inl (c 4, 384, .inl u)))) (va_runVN (As := [.int (nI md), .int x0, .int x1, .int y0, .int y1, .int z0, .int z1]) (rest := []) ⟨hx, hb, hml, hown, hts⟩ (c_X0_put l dC dI (pt_xt c) (pt_xw a c F A Q) 2 3 1 (a 4) (a 24) (c 4) 384 (A 4) rfl rfl rfl (by decide) _ md x0 x1 y0 y1 z0 z1 (by omega)) ⟨va_cnB 7 hts gX1_thing_X0_put_n79 rfl rfl rfl (pt_nest hN 1 rfl) (hts _ wd_c_X1_thing_X1_thing_2) (by decide +kernel) ⟨Nat.le_of_ble_eq_true rfl, Nat.le_of_ble_eq_true rfl⟩, (hts _ wd_c_X1_thing_X1_thing_3), (hts _ wd_c_X1_thing_X1_thing_4)⟩ (pt_wv0 hP hK hN hD (q0 := 2) rfl) rfl rfl hl.1 rfl (lv_room (Nat.le_of_ble_eq_true rfl)) dX1_thing_52 ⟨Nat.le_of_ble_eq_true rfl, Nat.le_of_ble_eq_true rfl⟩) hD hS hA (fun _ => rfl) (fun u52 H locs hr52 hP hD hS => ?_)
      obtain ⟨A1, eA1⟩ : ∃ zz, zz = va_up A 4 u52 := ⟨_, rfl⟩
      have hP : va_P (dC, dI) vwCl (pt_xw a c F A1 Q) H := by rw [eA1]; exact hP
      have hD : va_D AA (pt_xw a c F A1 Q) := by rw [eA1]; exact hD
      have hu4 : A1 4 = pt_pt6 (A 4) md x0 x1 y0 y1 z0 z1 := by rw [eA1, pt_up]; exact hr52
      refine lv_aload_n hx hb dX1_thing_55 rfl (lv_at hl 1 rfl) ?_
      refine va_get (D := (dC, dI)) (ci := 1) (v := .ref (a 3)) (C := RX1) (T := TX1) (N := 18) hx hb hts iw_c_X1_thing_wsX10 hown hK hP 0 rfl rfl 3 (by decide) (hts _ wd_c_X1_thing_X1_thing_5) (fun _ h9 => h9) rfl dX1_thing_56 ?_
      refine lv_iload hx hb dX1_thing_59 (lv_at hl 0 rfl) ?_
      refine lv_iconst (v := 1) hx hb dX1_thing_61 (by decide) ?_
      obtain ⟨A2, eA2⟩ : ∃ zz, zz = va_up A1 3 (upd (A1 3) md 1) := ⟨_, rfl⟩
      refine pt_zast hx hb hK hP hD hS 1 0 rfl rfl md rfl (by omega) (by decide) rfl (ws' := (pt_xw a c F A2 Q)) (by rw [eA2]; rfl) dX1_thing_62 (fun H locs hP hD hS => ?_)
      refine lv_aload_n hx hb dX1_thing_63 rfl (lv_at hl 1 rfl) ?_
      refine lv_dup hx hb dX1_thing_64 rfl ?_
      refine va_get (D := (dC, dI)) (ci := 1) (v := .int (F 1)) (C := RX1) (T := TX1) (N := 18) hx hb hts iw_c_X1_thing_wsX10 hown hK hP 0 rfl rfl 1 (by decide) (hts _ wd_c_X1_thing_X1_thing_0) (fun _ h9 => h9) rfl dX1_thing_65 ?_
      refine pt_top (y := nI md) h1 ?_
      refine lv_iconst (v := nI 1) hx hb dX1_thing_68 (by decide) ?_
      refine lv_iadd hx hb dX1_thing_69 ?_
      refine pt_top (y := nI (md + 1)) (nI_add _ _) ?_
      obtain ⟨F3, eF3⟩ : ∃ zz, zz = upd F 1 (nI (md + 1)) := ⟨_, rfl⟩
      refine va_put (D := (dC, dI)) (ci := 1) (v := .int (nI (md + 1))) (ty := .int) (C := RX1) (T := TX1) (N := 18) hx hb hts iw_c_X1_thing_wsX10 tyX1 tyX1_ok nmX1 hown hK hP hD hS 0 rfl rfl 1 (by decide) (hts _ wd_c_X1_thing_X1_thing_0) (fun _ h9 => h9) rfl (by decide +kernel) rfl rfl (Nat.le_of_ble_eq_true rfl) dX1_thing_70 (fun H locs hP hD hS => ?_)
      have hP : va_P (dC, dI) vwCl (pt_xw a c F3 A2 Q) H := by rw [eF3]; exact hP
      have hD : va_D AA (pt_xw a c F3 A2 Q) := by rw [eF3]; exact hD
      have kF3_0 : F3 0 = nI ax := by rw [eF3, pt_upd_ne (by decide)]; exact h0
      have kF3_2 : F3 2 = nI pr := by rw [eF3, pt_upd_ne (by decide)]; exact h2
      have kF3_1 : F3 1 = nI (md + 1) := by rw [eF3, pt_upd]
      refine lv_aload_n hx hb dX1_thing_73 rfl (lv_at hl 1 rfl) ?_
      refine lv_dup hx hb dX1_thing_74 rfl ?_
      refine va_get (D := (dC, dI)) (ci := 1) (v := .int (F3 2)) (C := RX1) (T := TX1) (N := 18) hx hb hts iw_c_X1_thing_wsX10 hown hK hP 0 rfl rfl 2 (by decide) (hts _ wd_c_X1_thing_X1_thing_6) (fun _ h9 => h9) rfl dX1_thing_75 ?_
      refine pt_top (y := nI pr) kF3_2 ?_
      refine lv_iconst (v := nI 1) hx hb dX1_thing_78 (by decide) ?_
      refine lv_iadd hx hb dX1_thing_79 ?_
      refine pt_top (y := nI (pr + 1)) (nI_add _ _) ?_
      obtain ⟨F4, eF4⟩ : ∃ zz, zz = upd F3 2 (nI (pr + 1)) := ⟨_, rfl⟩
      refine va_put (D := (dC, dI)) (ci := 1) (v := .int (nI (pr + 1))) (ty := .int) (C := RX1) (T := TX1) (N := 18) hx hb hts iw_c_X1_thing_wsX10 tyX1 tyX1_ok nmX1 hown hK hP hD hS 0 rfl rfl 2 (by decide) (hts _ wd_c_X1_thing_X1_thing_6) (fun _ h9 => h9) rfl (by decide +kernel) rfl rfl (Nat.le_of_ble_eq_true rfl) dX1_thing_80 (fun H locs hP hD hS => ?_)
      have hP : va_P (dC, dI) vwCl (pt_xw a c F4 A2 Q) H := by rw [eF4]; exact hP
      have hD : va_D AA (pt_xw a c F4 A2 Q) := by rw [eF4]; exact hD
      have kF4_0 : F4 0 = nI ax := by rw [eF4, pt_upd_ne (by decide)]; exact kF3_0
      have kF4_1 : F4 1 = nI (md + 1) := by rw [eF4, pt_upd_ne (by decide)]; exact kF3_1
      have kF4_2 : F4 2 = nI (pr + 1) := by rw [eF4, pt_upd]
      refine lv_iload hx hb dX1_thing_83 (lv_at hl 0 rfl) ?_
      exact W.iret (v := nI md) hx hb hr (fun zt zh zW => ⟨⟨_, (F4, A2, Q), rfl, (Or.inr (Or.inr ⟨d13, d25, rfl, kF4_1, kF4_2, fun j j1 j2 => by show F4 j = F j; rw [eF4, pt_upd_ne j2, eF3, pt_upd_ne j1], by show A2 3 = _; rw [eA2, pt_up, eA1, pt_up_ne (by decide)], by show A2 4 = _; rw [eA2, pt_up_ne (by decide)]; exact hu4, fun j j3 j4 => by show A2 j = A j; rw [eA2, pt_up_ne j3, eA1, pt_up_ne j4], rfl⟩)), by show va_P _ _ _ zt.heap; rw [zh]; exact hP⟩, hS.F zh⟩) hS.2.2 dX1_thing_85
    · have d25 : md = 64 := by have : ¬ md < 64 := fun q => c25 ((nI_ltI (by omega) (by omega)).mpr q); omega
      refine lv_bipush (v := (-4)) hx hb dX1_thing_28 (by decide) ?_
      exact W.iret (v := (-4)) hx hb hr (fun zt zh zW => ⟨⟨_, (F, A, Q), rfl, (Or.inr (Or.inl ⟨d13, d25, rfl, rfl⟩)), by show va_P _ _ _ zt.heap; rw [zh]; exact hP⟩, hS.F zh⟩) hS.2.2 dX1_thing_30
  · have d13 := hr10.f c13
    refine lv_bipush (v := (-2)) hx hb dX1_thing_16 (by decide) ?_
    exact W.iret (v := (-2)) hx hb hr (fun zt zh zW => ⟨⟨_, (F, A, Q), rfl, (Or.inl ⟨d13, rfl, rfl⟩), by show va_P _ _ _ zt.heap; rw [zh]; exact hP⟩, hS.F zh⟩) hS.2.2 dX1_thing_18

theorem wd_c_X1_drop_X1_drop_0 : Cond.fieldLink RX1 15 "PointTrees" "isThere" "[Z" ∈ wsX1_drop := by decide +kernel
theorem wd_c_X1_drop_X1_drop_1 : Cond.fieldLink RX1 63 "PointTrees" "present" "I" ∈ wsX1_drop := by decide +kernel
theorem iw_c_X1_drop_wsX10 : ∀ w ∈ wsX10, w ∈ wsX1_drop := fun _ h => List.mem_cons_of_mem _ (List.mem_append_right _ h)
set_option maxHeartbeats 4000000 in
set_option maxRecDepth 100000 in
theorem c_X1_drop (l : Launch) (dC : Nat → ClassId) (dI : Nat → Nat → Nat) (a : Nat → Nat) (c : Nat → ClassId) (F : Nat → Int32) (A : Nat → Nat → Int32) (Q : Nat → Int64) (sz : Nat) (md : Nat) (h1 : F 1 = nI md) (hmd : md ≤ 64) (pr : Nat) (h2 : F 2 = nI pr) (hpr : ∀ t, t < md → ¬ A 3 t = 0 → 1 ≤ pr) (k : Int32) : Met l yX1_drop wsX1_drop (pt_rm 1) (pt_W (dC, dI) vwCl (pt_xt c) (pt_xw a c F A Q) pt_nw sz [.ref (a 0), .int k]) (va_Qi (fun (r : Int32) (u : pt_XS) => (¬ pt_in md (fun t => ¬ A 3 t = 0) k ∧ r = -1 ∧ u = (F, A, Q)) ∨ ∃ t, t < md ∧ k = nI t ∧ ¬ A 3 t = 0 ∧ r = nI (pr - 1) ∧ u = (upd F 2 (nI (pr - 1)), va_up A 3 (upd (A 3) t 0), Q)) (fun u t => va_P (dC, dI) vwCl (pt_xw a c u.1 u.2.1 u.2.2) t.heap) (va_A (pt_xw a c F A Q) sz)) 0 0 (va_A (pt_xw a c F A Q) sz) := by
  refine Met.ofW (cc := cX1_drop) (maxL := 2) (ret := (some .int)) (by decide) rfl ?_
  intro p e s m args below meth cd s₁ B hml hv
  obtain ⟨rfl, hsz, hP, hK, hN, hD0⟩ := hv
  have hx := B.exec
  have hb := B.bytes
  have hr := B.returns
  have hts := atoms_spec (ws := wsX1_drop) B.pre
  have hown : s.vm.findClass RX1 = some m.cls := findClass_of_methodNamed B.named
  have hlocks := B.notSynchronized
  subst hsz
  have hD := hD0.self (sz := s.heap.size)
  generalize hAe : va_A (pt_xw a c F A Q) s.heap.size = AA at hD ⊢
  have hA : ∀ q : Nat, s.heap.size ≤ q → AA q := fun q h => by rw [← hAe]; exact Or.inr h
  have hS : va_S AA s.heap s.heap [] := va_S.rf
  have hl := lv_entry ([.ref (a 0), .int k]) (n := 2) (Nat.le_of_ble_eq_true rfl)
  rw [lg_entry_eq]
  generalize (lg_sl ([.ref (a 0), .int k]) ++ List.replicate (2 - (lg_sl ([.ref (a 0), .int k])).length) Slot.unset).toArray = ls at hl ⊢
  have hl : lv_has ls 2 [(0, .ref (a 0)), (1, .int k)] := hl
  refine lv_aload_n hx hb dX1_drop_0 rfl (lv_at hl 0 rfl) ?_
  refine lv_iload_n hx hb dX1_drop_1 rfl (lv_at hl 1 rfl) ?_
  refine pt_rdi (va_runV (As := [.int k]) (rest := []) ⟨hx, hb, hml, hown, hts⟩ (c_X1_hasThing l dC dI a c F A Q md h1 hmd k) (cwV 1 hts gX1_drop_X1_hasThing rfl rfl rfl (by decide +kernel) ⟨Nat.le_of_ble_eq_true rfl, Nat.le_of_ble_eq_true rfl⟩) (pt_pv1 hP hK hN (q0 := 0) rfl) rfl rfl hl.1 rfl (lv_room (Nat.le_of_ble_eq_true rfl)) dX1_drop_2 ⟨Nat.le_of_ble_eq_true rfl, Nat.le_of_ble_eq_true rfl⟩) (fun r2 hr2 => ?_)
  refine lv_if_ne (tgt := 10) hx hb dX1_drop_5 (by decide) (fun c5 => ?_) (fun c5 => ?_)
  · have d5 := hr2.t c5
    obtain ⟨t, ht, ek, hT⟩ := d5
    have hp1 := hpr t ht hT
    refine lv_aload_n hx hb dX1_drop_10 rfl (lv_at hl 0 rfl) ?_
    refine va_get (D := (dC, dI)) (ci := 1) (v := .ref (a 3)) (C := RX1) (T := TX1) (N := 18) hx hb hts iw_c_X1_drop_wsX10 hown hK hP 0 rfl rfl 3 (by decide) (hts _ wd_c_X1_drop_X1_drop_0) (fun _ h9 => h9) rfl dX1_drop_11 ?_
    refine lv_iload_n hx hb dX1_drop_14 rfl (lv_at hl 1 rfl) ?_
    refine lv_iconst (v := 0) hx hb dX1_drop_15 (by decide) ?_
    obtain ⟨A1, eA1⟩ : ∃ zz, zz = va_up A 3 (upd (A 3) t 0) := ⟨_, rfl⟩
    refine pt_zast hx hb hK hP hD hS 1 0 rfl rfl t ek (by omega) (by decide) rfl (ws' := (pt_xw a c F A1 Q)) (by rw [eA1]; rfl) dX1_drop_16 (fun H locs hP hD hS => ?_)
    refine lv_aload_n hx hb dX1_drop_17 rfl (lv_at hl 0 rfl) ?_
    refine lv_dup hx hb dX1_drop_18 rfl ?_
    refine va_get (D := (dC, dI)) (ci := 1) (v := .int (F 2)) (C := RX1) (T := TX1) (N := 18) hx hb hts iw_c_X1_drop_wsX10 hown hK hP 0 rfl rfl 2 (by decide) (hts _ wd_c_X1_drop_X1_drop_1) (fun _ h9 => h9) rfl dX1_drop_19 ?_
    refine pt_top (y := nI pr) h2 ?_
    refine lv_iconst (v := nI 1) hx hb dX1_drop_22 (by decide) ?_
    refine lv_isub hx hb dX1_drop_23 ?_
    refine pt_top (y := nI (pr - 1)) (pk_sub hp1) ?_
    obtain ⟨F2, eF2⟩ : ∃ zz, zz = upd F 2 (nI (pr - 1)) := ⟨_, rfl⟩
    refine va_put (D := (dC, dI)) (ci := 1) (v := .int (nI (pr - 1))) (ty := .int) (C := RX1) (T := TX1) (N := 18) hx hb hts iw_c_X1_drop_wsX10 tyX1 tyX1_ok nmX1 hown hK hP hD hS 0 rfl rfl 2 (by decide) (hts _ wd_c_X1_drop_X1_drop_1) (fun _ h9 => h9) rfl (by decide +kernel) rfl rfl (Nat.le_of_ble_eq_true rfl) dX1_drop_24 (fun H locs hP hD hS => ?_)
    have hP : va_P (dC, dI) vwCl (pt_xw a c F2 A1 Q) H := by rw [eF2]; exact hP
    have hD : va_D AA (pt_xw a c F2 A1 Q) := by rw [eF2]; exact hD
    have kF2_1 : F2 1 = nI md := by rw [eF2, pt_upd_ne (by decide)]; exact h1
    have kF2_2 : F2 2 = nI (pr - 1) := by rw [eF2, pt_upd]
    refine lv_aload_n hx hb dX1_drop_27 rfl (lv_at hl 0 rfl) ?_
    refine va_get (D := (dC, dI)) (ci := 1) (v := .int (F2 2)) (C := RX1) (T := TX1) (N := 18) hx hb hts iw_c_X1_drop_wsX10 hown hK hP 0 rfl rfl 2 (by decide) (hts _ wd_c_X1_drop_X1_drop_1) (fun _ h9 => h9) rfl dX1_drop_28 ?_
    refine pt_top (y := nI (pr - 1)) kF2_2 ?_
    exact W.iret (v := nI (pr - 1)) hx hb hr (fun zt zh zW => ⟨⟨_, (F2, A1, Q), rfl, (Or.inr ⟨t, ht, ek, hT, rfl, by rw [eF2, eA1]⟩), by show va_P _ _ _ zt.heap; rw [zh]; exact hP⟩, hS.F zh⟩) hS.2.2 dX1_drop_31
  · have d5 := hr2.f c5
    refine lv_iconst (v := (-1)) hx hb dX1_drop_8 (by decide) ?_
    exact W.iret (v := (-1)) hx hb hr (fun zt zh zW => ⟨⟨_, (F, A, Q), rfl, (Or.inl ⟨d5, rfl, rfl⟩), by show va_P _ _ _ zt.heap; rw [zh]; exact hP⟩, hS.F zh⟩) hS.2.2 dX1_drop_9
end
