section
-- ===== PART A: goes FIRST, ahead of the names: the tables' words, and 'selects' of the private methods out of them =====
/-- a private method of a class that the tables say can be made, by its rows of tables_1 -/
def lw_okq (q : MethodName × Nat) : Prop := (q.1.cls ≠ "java/lang/invoke/MethodHandle" ∧ q.1.cls ≠ "java/lang/invoke/VarHandle") ∧ Cond.instantiable q.1.cls q.2 ∈ tables_1 ∧ Cond.privateMethod q.1 ∈ tables_1 ∧ Cond.instanceMethod q.1 ∈ tables_1
theorem lw_p0 : lw_okq (⟨"LeastPlaces", "cheapDefinitions", "()I"⟩, 7) := ⟨⟨by decide +kernel, by decide +kernel⟩, List.mem_of_getElem? (i := 11) (by decide +kernel), List.mem_of_getElem? (i := 202) (by decide +kernel), List.mem_of_getElem? (i := 203) (by decide +kernel)⟩
theorem lw_p1 : lw_okq (⟨"LeastPlaces", "nodesAsRead", "()I"⟩, 7) := ⟨⟨by decide +kernel, by decide +kernel⟩, List.mem_of_getElem? (i := 11) (by decide +kernel), List.mem_of_getElem? (i := 206) (by decide +kernel), List.mem_of_getElem? (i := 207) (by decide +kernel)⟩
theorem lw_p2 : lw_okq (⟨"LeastPlaces", "greatestNeed", "()I"⟩, 7) := ⟨⟨by decide +kernel, by decide +kernel⟩, List.mem_of_getElem? (i := 11) (by decide +kernel), List.mem_of_getElem? (i := 210) (by decide +kernel), List.mem_of_getElem? (i := 211) (by decide +kernel)⟩
theorem lw_p3 : lw_okq (⟨"LeastPlaces$Expanded", "needOf", "(I)I"⟩, 7) := ⟨⟨by decide +kernel, by decide +kernel⟩, List.mem_of_getElem? (i := 143) (by decide +kernel), List.mem_of_getElem? (i := 214) (by decide +kernel), List.mem_of_getElem? (i := 215) (by decide +kernel)⟩
theorem lw_p4 : lw_okq (⟨"LeastPlaces$Reader", "take", "(I)Z"⟩, 4) := ⟨⟨by decide +kernel, by decide +kernel⟩, List.mem_of_getElem? (i := 19) (by decide +kernel), List.mem_of_getElem? (i := 258) (by decide +kernel), List.mem_of_getElem? (i := 259) (by decide +kernel)⟩
theorem lw_p5 : lw_okq (⟨"LeastPlaces$Reader", "readSheet", "()Z"⟩, 4) := ⟨⟨by decide +kernel, by decide +kernel⟩, List.mem_of_getElem? (i := 19) (by decide +kernel), List.mem_of_getElem? (i := 270) (by decide +kernel), List.mem_of_getElem? (i := 271) (by decide +kernel)⟩
theorem lw_p6 : lw_okq (⟨"LeastPlaces$Reader", "pass", "(I)Z"⟩, 4) := ⟨⟨by decide +kernel, by decide +kernel⟩, List.mem_of_getElem? (i := 19) (by decide +kernel), List.mem_of_getElem? (i := 274) (by decide +kernel), List.mem_of_getElem? (i := 275) (by decide +kernel)⟩
theorem lw_p7 : lw_okq (⟨"LeastPlaces$Reader", "sign", "()I"⟩, 4) := ⟨⟨by decide +kernel, by decide +kernel⟩, List.mem_of_getElem? (i := 19) (by decide +kernel), List.mem_of_getElem? (i := 278) (by decide +kernel), List.mem_of_getElem? (i := 279) (by decide +kernel)⟩
theorem lw_p8 : lw_okq (⟨"LeastPlaces$Reader", "readSum", "(LLeastPlaces$Form;II)Z"⟩, 4) := ⟨⟨by decide +kernel, by decide +kernel⟩, List.mem_of_getElem? (i := 19) (by decide +kernel), List.mem_of_getElem? (i := 282) (by decide +kernel), List.mem_of_getElem? (i := 283) (by decide +kernel)⟩
theorem lw_p9 : lw_okq (⟨"LeastPlaces$Reader", "readProduct", "(LLeastPlaces$Form;II)Z"⟩, 4) := ⟨⟨by decide +kernel, by decide +kernel⟩, List.mem_of_getElem? (i := 19) (by decide +kernel), List.mem_of_getElem? (i := 286) (by decide +kernel), List.mem_of_getElem? (i := 287) (by decide +kernel)⟩
theorem lw_p10 : lw_okq (⟨"LeastPlaces$Reader", "readFactor", "(LLeastPlaces$Form;II)Z"⟩, 4) := ⟨⟨by decide +kernel, by decide +kernel⟩, List.mem_of_getElem? (i := 19) (by decide +kernel), List.mem_of_getElem? (i := 290) (by decide +kernel), List.mem_of_getElem? (i := 291) (by decide +kernel)⟩
theorem lw_p11 : lw_okq (⟨"LeastPlaces$Reader", "readNested", "(LLeastPlaces$Form;II)Z"⟩, 4) := ⟨⟨by decide +kernel, by decide +kernel⟩, List.mem_of_getElem? (i := 19) (by decide +kernel), List.mem_of_getElem? (i := 294) (by decide +kernel), List.mem_of_getElem? (i := 295) (by decide +kernel)⟩
theorem lw_p12 : lw_okq (⟨"LeastPlaces$Form", "isFull", "()Z"⟩, 3) := ⟨⟨by decide +kernel, by decide +kernel⟩, List.mem_of_getElem? (i := 32) (by decide +kernel), List.mem_of_getElem? (i := 298) (by decide +kernel), List.mem_of_getElem? (i := 299) (by decide +kernel)⟩
theorem lw_p13 : lw_okq (⟨"LeastPlaces$Form", "add", "(II)Z"⟩, 3) := ⟨⟨by decide +kernel, by decide +kernel⟩, List.mem_of_getElem? (i := 32) (by decide +kernel), List.mem_of_getElem? (i := 302) (by decide +kernel), List.mem_of_getElem? (i := 303) (by decide +kernel)⟩
theorem lw_p14 : lw_okq (⟨"LeastPlaces$Reader", "readLeaf", "(LLeastPlaces$Form;I)Z"⟩, 4) := ⟨⟨by decide +kernel, by decide +kernel⟩, List.mem_of_getElem? (i := 19) (by decide +kernel), List.mem_of_getElem? (i := 307) (by decide +kernel), List.mem_of_getElem? (i := 308) (by decide +kernel)⟩
theorem lw_p15 : lw_okq (⟨"LeastPlaces$Reader", "readNumber", "()I"⟩, 4) := ⟨⟨by decide +kernel, by decide +kernel⟩, List.mem_of_getElem? (i := 19) (by decide +kernel), List.mem_of_getElem? (i := 314) (by decide +kernel), List.mem_of_getElem? (i := 315) (by decide +kernel)⟩
def lw_privs_1 : List (MethodName × Nat) := [(⟨"LeastPlaces", "cheapDefinitions", "()I"⟩, 7), (⟨"LeastPlaces", "nodesAsRead", "()I"⟩, 7), (⟨"LeastPlaces", "greatestNeed", "()I"⟩, 7), (⟨"LeastPlaces$Expanded", "needOf", "(I)I"⟩, 7), (⟨"LeastPlaces$Reader", "take", "(I)Z"⟩, 4), (⟨"LeastPlaces$Reader", "readSheet", "()Z"⟩, 4), (⟨"LeastPlaces$Reader", "pass", "(I)Z"⟩, 4), (⟨"LeastPlaces$Reader", "sign", "()I"⟩, 4), (⟨"LeastPlaces$Reader", "readSum", "(LLeastPlaces$Form;II)Z"⟩, 4), (⟨"LeastPlaces$Reader", "readProduct", "(LLeastPlaces$Form;II)Z"⟩, 4), (⟨"LeastPlaces$Reader", "readFactor", "(LLeastPlaces$Form;II)Z"⟩, 4), (⟨"LeastPlaces$Reader", "readNested", "(LLeastPlaces$Form;II)Z"⟩, 4), (⟨"LeastPlaces$Form", "isFull", "()Z"⟩, 3), (⟨"LeastPlaces$Form", "add", "(II)Z"⟩, 3), (⟨"LeastPlaces$Reader", "readLeaf", "(LLeastPlaces$Form;I)Z"⟩, 4), (⟨"LeastPlaces$Reader", "readNumber", "()I"⟩, 4)]
theorem lw_r1 : ∀ q ∈ lw_privs_1, lw_okq q := List.forall_mem_cons.mpr ⟨lw_p0, List.forall_mem_cons.mpr ⟨lw_p1, List.forall_mem_cons.mpr ⟨lw_p2, List.forall_mem_cons.mpr ⟨lw_p3, List.forall_mem_cons.mpr ⟨lw_p4, List.forall_mem_cons.mpr ⟨lw_p5, List.forall_mem_cons.mpr ⟨lw_p6, List.forall_mem_cons.mpr ⟨lw_p7, List.forall_mem_cons.mpr ⟨lw_p8, List.forall_mem_cons.mpr ⟨lw_p9, List.forall_mem_cons.mpr ⟨lw_p10, List.forall_mem_cons.mpr ⟨lw_p11, List.forall_mem_cons.mpr ⟨lw_p12, List.forall_mem_cons.mpr ⟨lw_p13, List.forall_mem_cons.mpr ⟨lw_p14, List.forall_mem_cons.mpr ⟨lw_p15, fun _ h => absurd h List.not_mem_nil⟩⟩⟩⟩⟩⟩⟩⟩⟩⟩⟩⟩⟩⟩⟩⟩
theorem lw_p16 : lw_okq (⟨"LeastPlaces$Reader", "readOperation", "(LLeastPlaces$Form;II)Z"⟩, 4) := ⟨⟨by decide +kernel, by decide +kernel⟩, List.mem_of_getElem? (i := 19) (by decide +kernel), List.mem_of_getElem? (i := 318) (by decide +kernel), List.mem_of_getElem? (i := 319) (by decide +kernel)⟩
theorem lw_p17 : lw_okq (⟨"LeastPlaces$Form", "insert", "(III)Z"⟩, 3) := ⟨⟨by decide +kernel, by decide +kernel⟩, List.mem_of_getElem? (i := 32) (by decide +kernel), List.mem_of_getElem? (i := 322) (by decide +kernel), List.mem_of_getElem? (i := 323) (by decide +kernel)⟩
theorem lw_p18 : lw_okq (⟨"LeastPlaces", "recordState", "()V"⟩, 7) := ⟨⟨by decide +kernel, by decide +kernel⟩, List.mem_of_getElem? (i := 11) (by decide +kernel), List.mem_of_getElem? (i := 329) (by decide +kernel), List.mem_of_getElem? (i := 330) (by decide +kernel)⟩
theorem lw_p19 : lw_okq (⟨"LeastPlaces", "dropOldestState", "()V"⟩, 7) := ⟨⟨by decide +kernel, by decide +kernel⟩, List.mem_of_getElem? (i := 11) (by decide +kernel), List.mem_of_getElem? (i := 333) (by decide +kernel), List.mem_of_getElem? (i := 334) (by decide +kernel)⟩
theorem lw_p20 : lw_okq (⟨"LeastPlaces$Sheet", "copyState", "(LLeastPlaces$Sheet;)V"⟩, 4) := ⟨⟨by decide +kernel, by decide +kernel⟩, List.mem_of_getElem? (i := 25) (by decide +kernel), List.mem_of_getElem? (i := 337) (by decide +kernel), List.mem_of_getElem? (i := 338) (by decide +kernel)⟩
theorem lw_p21 : lw_okq (⟨"LeastPlaces$Sheet", "copyFormulas", "(LLeastPlaces$Sheet;)V"⟩, 4) := ⟨⟨by decide +kernel, by decide +kernel⟩, List.mem_of_getElem? (i := 25) (by decide +kernel), List.mem_of_getElem? (i := 341) (by decide +kernel), List.mem_of_getElem? (i := 342) (by decide +kernel)⟩
theorem lw_p22 : lw_okq (⟨"LeastPlaces$Form", "copy", "(LLeastPlaces$Form;)V"⟩, 3) := ⟨⟨by decide +kernel, by decide +kernel⟩, List.mem_of_getElem? (i := 32) (by decide +kernel), List.mem_of_getElem? (i := 345) (by decide +kernel), List.mem_of_getElem? (i := 346) (by decide +kernel)⟩
theorem lw_p23 : lw_okq (⟨"LeastPlaces$Form", "addAll", "(LLeastPlaces$Form;)V"⟩, 3) := ⟨⟨by decide +kernel, by decide +kernel⟩, List.mem_of_getElem? (i := 32) (by decide +kernel), List.mem_of_getElem? (i := 349) (by decide +kernel), List.mem_of_getElem? (i := 350) (by decide +kernel)⟩
theorem lw_p24 : lw_okq (⟨"LeastPlaces$Form", "kindOf", "(I)I"⟩, 3) := ⟨⟨by decide +kernel, by decide +kernel⟩, List.mem_of_getElem? (i := 32) (by decide +kernel), List.mem_of_getElem? (i := 353) (by decide +kernel), List.mem_of_getElem? (i := 354) (by decide +kernel)⟩
theorem lw_p25 : lw_okq (⟨"LeastPlaces$Form", "has", "(I)Z"⟩, 3) := ⟨⟨by decide +kernel, by decide +kernel⟩, List.mem_of_getElem? (i := 32) (by decide +kernel), List.mem_of_getElem? (i := 357) (by decide +kernel), List.mem_of_getElem? (i := 358) (by decide +kernel)⟩
theorem lw_p26 : lw_okq (⟨"LeastPlaces$Form", "contentOf", "(I)I"⟩, 3) := ⟨⟨by decide +kernel, by decide +kernel⟩, List.mem_of_getElem? (i := 32) (by decide +kernel), List.mem_of_getElem? (i := 361) (by decide +kernel), List.mem_of_getElem? (i := 362) (by decide +kernel)⟩
theorem lw_p27 : lw_okq (⟨"LeastPlaces", "workAnew", "()V"⟩, 7) := ⟨⟨by decide +kernel, by decide +kernel⟩, List.mem_of_getElem? (i := 11) (by decide +kernel), List.mem_of_getElem? (i := 368) (by decide +kernel), List.mem_of_getElem? (i := 369) (by decide +kernel)⟩
theorem lw_p28 : lw_okq (⟨"LeastPlaces$Expanded", "make", "(LLeastPlaces$Form;Z[LLeastPlaces$Expanded;)V"⟩, 7) := ⟨⟨by decide +kernel, by decide +kernel⟩, List.mem_of_getElem? (i := 143) (by decide +kernel), List.mem_of_getElem? (i := 372) (by decide +kernel), List.mem_of_getElem? (i := 373) (by decide +kernel)⟩
theorem lw_p29 : lw_okq (⟨"LeastPlaces$Form", "hasKind", "(I)Z"⟩, 3) := ⟨⟨by decide +kernel, by decide +kernel⟩, List.mem_of_getElem? (i := 32) (by decide +kernel), List.mem_of_getElem? (i := 380) (by decide +kernel), List.mem_of_getElem? (i := 381) (by decide +kernel)⟩
theorem lw_p30 : lw_okq (⟨"LeastPlaces$Expanded", "measure", "([I[LLeastPlaces$Expanded;)V"⟩, 7) := ⟨⟨by decide +kernel, by decide +kernel⟩, List.mem_of_getElem? (i := 143) (by decide +kernel), List.mem_of_getElem? (i := 384) (by decide +kernel), List.mem_of_getElem? (i := 385) (by decide +kernel)⟩
theorem lw_p31 : lw_okq (⟨"LeastPlaces$Expanded", "put", "(IIII)V"⟩, 7) := ⟨⟨by decide +kernel, by decide +kernel⟩, List.mem_of_getElem? (i := 143) (by decide +kernel), List.mem_of_getElem? (i := 394) (by decide +kernel), List.mem_of_getElem? (i := 395) (by decide +kernel)⟩
def lw_privs_2 : List (MethodName × Nat) := [(⟨"LeastPlaces$Reader", "readOperation", "(LLeastPlaces$Form;II)Z"⟩, 4), (⟨"LeastPlaces$Form", "insert", "(III)Z"⟩, 3), (⟨"LeastPlaces", "recordState", "()V"⟩, 7), (⟨"LeastPlaces", "dropOldestState", "()V"⟩, 7), (⟨"LeastPlaces$Sheet", "copyState", "(LLeastPlaces$Sheet;)V"⟩, 4), (⟨"LeastPlaces$Sheet", "copyFormulas", "(LLeastPlaces$Sheet;)V"⟩, 4), (⟨"LeastPlaces$Form", "copy", "(LLeastPlaces$Form;)V"⟩, 3), (⟨"LeastPlaces$Form", "addAll", "(LLeastPlaces$Form;)V"⟩, 3), (⟨"LeastPlaces$Form", "kindOf", "(I)I"⟩, 3), (⟨"LeastPlaces$Form", "has", "(I)Z"⟩, 3), (⟨"LeastPlaces$Form", "contentOf", "(I)I"⟩, 3), (⟨"LeastPlaces", "workAnew", "()V"⟩, 7), (⟨"LeastPlaces$Expanded", "make", "(LLeastPlaces$Form;Z[LLeastPlaces$Expanded;)V"⟩, 7), (⟨"LeastPlaces$Form", "hasKind", "(I)Z"⟩, 3), (⟨"LeastPlaces$Expanded", "measure", "([I[LLeastPlaces$Expanded;)V"⟩, 7), (⟨"LeastPlaces$Expanded", "put", "(IIII)V"⟩, 7)]
theorem lw_r2 : ∀ q ∈ lw_privs_2, lw_okq q := List.forall_mem_cons.mpr ⟨lw_p16, List.forall_mem_cons.mpr ⟨lw_p17, List.forall_mem_cons.mpr ⟨lw_p18, List.forall_mem_cons.mpr ⟨lw_p19, List.forall_mem_cons.mpr ⟨lw_p20, List.forall_mem_cons.mpr ⟨lw_p21, List.forall_mem_cons.mpr ⟨lw_p22, List.forall_mem_cons.mpr ⟨lw_p23, List.forall_mem_cons.mpr ⟨lw_p24, List.forall_mem_cons.mpr ⟨lw_p25, List.forall_mem_cons.mpr ⟨lw_p26, List.forall_mem_cons.mpr ⟨lw_p27, List.forall_mem_cons.mpr ⟨lw_p28, List.forall_mem_cons.mpr ⟨lw_p29, List.forall_mem_cons.mpr ⟨lw_p30, List.forall_mem_cons.mpr ⟨lw_p31, fun _ h => absurd h List.not_mem_nil⟩⟩⟩⟩⟩⟩⟩⟩⟩⟩⟩⟩⟩⟩⟩⟩
theorem lw_p32 : lw_okq (⟨"LeastPlaces$Expanded", "leafValue", "(I[I[LLeastPlaces$Expanded;)I"⟩, 7) := ⟨⟨by decide +kernel, by decide +kernel⟩, List.mem_of_getElem? (i := 143) (by decide +kernel), List.mem_of_getElem? (i := 398) (by decide +kernel), List.mem_of_getElem? (i := 399) (by decide +kernel)⟩
theorem lw_p33 : lw_okq (⟨"LeastPlaces$Expanded", "valueOf", "(I)I"⟩, 7) := ⟨⟨by decide +kernel, by decide +kernel⟩, List.mem_of_getElem? (i := 143) (by decide +kernel), List.mem_of_getElem? (i := 402) (by decide +kernel), List.mem_of_getElem? (i := 403) (by decide +kernel)⟩
theorem lw_p34 : lw_okq (⟨"LeastPlaces$Expanded", "sizeOf", "(I)I"⟩, 7) := ⟨⟨by decide +kernel, by decide +kernel⟩, List.mem_of_getElem? (i := 143) (by decide +kernel), List.mem_of_getElem? (i := 406) (by decide +kernel), List.mem_of_getElem? (i := 407) (by decide +kernel)⟩
theorem lw_p35 : lw_okq (⟨"LeastPlaces$Expanded", "depthOf", "(I)I"⟩, 7) := ⟨⟨by decide +kernel, by decide +kernel⟩, List.mem_of_getElem? (i := 143) (by decide +kernel), List.mem_of_getElem? (i := 411) (by decide +kernel), List.mem_of_getElem? (i := 412) (by decide +kernel)⟩
theorem lw_p36 : lw_okq (⟨"LeastPlaces$Expanded", "rightOf", "(I)I"⟩, 7) := ⟨⟨by decide +kernel, by decide +kernel⟩, List.mem_of_getElem? (i := 143) (by decide +kernel), List.mem_of_getElem? (i := 415) (by decide +kernel), List.mem_of_getElem? (i := 416) (by decide +kernel)⟩
theorem lw_p37 : lw_okq (⟨"LeastPlaces", "isFormula", "(I)Z"⟩, 7) := ⟨⟨by decide +kernel, by decide +kernel⟩, List.mem_of_getElem? (i := 11) (by decide +kernel), List.mem_of_getElem? (i := 453) (by decide +kernel), List.mem_of_getElem? (i := 454) (by decide +kernel)⟩
theorem lw_p38 : lw_okq (⟨"LeastPlaces$Form", "exchange", "(I)V"⟩, 3) := ⟨⟨by decide +kernel, by decide +kernel⟩, List.mem_of_getElem? (i := 32) (by decide +kernel), List.mem_of_getElem? (i := 460) (by decide +kernel), List.mem_of_getElem? (i := 461) (by decide +kernel)⟩
theorem lw_p39 : lw_okq (⟨"LeastPlaces$Form", "behind", "(I)I"⟩, 3) := ⟨⟨by decide +kernel, by decide +kernel⟩, List.mem_of_getElem? (i := 32) (by decide +kernel), List.mem_of_getElem? (i := 464) (by decide +kernel), List.mem_of_getElem? (i := 465) (by decide +kernel)⟩
theorem lw_p40 : lw_okq (⟨"LeastPlaces$Form", "turnAround", "(II)V"⟩, 3) := ⟨⟨by decide +kernel, by decide +kernel⟩, List.mem_of_getElem? (i := 32) (by decide +kernel), List.mem_of_getElem? (i := 469) (by decide +kernel), List.mem_of_getElem? (i := 470) (by decide +kernel)⟩
theorem lw_p41 : lw_okq (⟨"LeastPlaces", "usesOf", "(I)I"⟩, 7) := ⟨⟨by decide +kernel, by decide +kernel⟩, List.mem_of_getElem? (i := 11) (by decide +kernel), List.mem_of_getElem? (i := 506) (by decide +kernel), List.mem_of_getElem? (i := 507) (by decide +kernel)⟩
theorem lw_p42 : lw_okq (⟨"LeastPlaces", "refusalToTry", "(I)I"⟩, 7) := ⟨⟨by decide +kernel, by decide +kernel⟩, List.mem_of_getElem? (i := 11) (by decide +kernel), List.mem_of_getElem? (i := 523) (by decide +kernel), List.mem_of_getElem? (i := 524) (by decide +kernel)⟩
theorem lw_p43 : lw_okq (⟨"LeastPlaces$Expanded", "pairs", "()I"⟩, 7) := ⟨⟨by decide +kernel, by decide +kernel⟩, List.mem_of_getElem? (i := 143) (by decide +kernel), List.mem_of_getElem? (i := 527) (by decide +kernel), List.mem_of_getElem? (i := 528) (by decide +kernel)⟩
theorem lw_p44 : lw_okq (⟨"LeastPlaces$Trial", "tryOrders", "(LLeastPlaces$Expanded;)V"⟩, 3) := ⟨⟨by decide +kernel, by decide +kernel⟩, List.mem_of_getElem? (i := 127) (by decide +kernel), List.mem_of_getElem? (i := 531) (by decide +kernel), List.mem_of_getElem? (i := 532) (by decide +kernel)⟩
theorem lw_p45 : lw_okq (⟨"LeastPlaces$Trial", "waysFor", "(LLeastPlaces$Expanded;I)I"⟩, 3) := ⟨⟨by decide +kernel, by decide +kernel⟩, List.mem_of_getElem? (i := 127) (by decide +kernel), List.mem_of_getElem? (i := 537) (by decide +kernel), List.mem_of_getElem? (i := 538) (by decide +kernel)⟩
def lw_privs_3 : List (MethodName × Nat) := [(⟨"LeastPlaces$Expanded", "leafValue", "(I[I[LLeastPlaces$Expanded;)I"⟩, 7), (⟨"LeastPlaces$Expanded", "valueOf", "(I)I"⟩, 7), (⟨"LeastPlaces$Expanded", "sizeOf", "(I)I"⟩, 7), (⟨"LeastPlaces$Expanded", "depthOf", "(I)I"⟩, 7), (⟨"LeastPlaces$Expanded", "rightOf", "(I)I"⟩, 7), (⟨"LeastPlaces", "isFormula", "(I)Z"⟩, 7), (⟨"LeastPlaces$Form", "exchange", "(I)V"⟩, 3), (⟨"LeastPlaces$Form", "behind", "(I)I"⟩, 3), (⟨"LeastPlaces$Form", "turnAround", "(II)V"⟩, 3), (⟨"LeastPlaces", "usesOf", "(I)I"⟩, 7), (⟨"LeastPlaces", "refusalToTry", "(I)I"⟩, 7), (⟨"LeastPlaces$Expanded", "pairs", "()I"⟩, 7), (⟨"LeastPlaces$Trial", "tryOrders", "(LLeastPlaces$Expanded;)V"⟩, 3), (⟨"LeastPlaces$Trial", "waysFor", "(LLeastPlaces$Expanded;I)I"⟩, 3)]
theorem lw_r3 : ∀ q ∈ lw_privs_3, lw_okq q := List.forall_mem_cons.mpr ⟨lw_p32, List.forall_mem_cons.mpr ⟨lw_p33, List.forall_mem_cons.mpr ⟨lw_p34, List.forall_mem_cons.mpr ⟨lw_p35, List.forall_mem_cons.mpr ⟨lw_p36, List.forall_mem_cons.mpr ⟨lw_p37, List.forall_mem_cons.mpr ⟨lw_p38, List.forall_mem_cons.mpr ⟨lw_p39, List.forall_mem_cons.mpr ⟨lw_p40, List.forall_mem_cons.mpr ⟨lw_p41, List.forall_mem_cons.mpr ⟨lw_p42, List.forall_mem_cons.mpr ⟨lw_p43, List.forall_mem_cons.mpr ⟨lw_p44, List.forall_mem_cons.mpr ⟨lw_p45, fun _ h => absurd h List.not_mem_nil⟩⟩⟩⟩⟩⟩⟩⟩⟩⟩⟩⟩⟩⟩
def lw_privs : List (MethodName × Nat) := lw_privs_1 ++ (lw_privs_2 ++ (lw_privs_3))
def lw_tbl : List Cond := k2_sels lw_privs ++ tables_1
theorem lw_privs_ok : ∀ q ∈ lw_privs, lw_okq q := by
  show ∀ q ∈ lw_privs_1 ++ (lw_privs_2 ++ (lw_privs_3)), lw_okq q
  exact List.forall_mem_append.mpr ⟨lw_r1, List.forall_mem_append.mpr ⟨lw_r2, lw_r3⟩⟩
-- ===== end of PART A; then your names; then what follows =====
end
section
/-! names, fields, codes: from the printed names of the claim -/
def RX0 : String := "LeastPlaces$Expanded"
def TX0 : u_T := fun k => match k with
  | 0 => ("LeastPlaces$Expanded", "formula", "I", true)
  | 1 => ("LeastPlaces$Expanded", "nodes", "LLeastPlaces$Form;", true)
  | 2 => ("LeastPlaces$Expanded", "cheap", "Z", false)
  | 3 => ("LeastPlaces$Expanded", "sizes", "[I", true)
  | 4 => ("LeastPlaces$Expanded", "needs", "[I", true)
  | 5 => ("LeastPlaces$Expanded", "depths", "[I", true)
  | _ => ("LeastPlaces$Expanded", "values", "[I", true)
def tyX0 : Nat → FieldType := fun k => match k with
  | 0 => .int
  | 1 => .object "LeastPlaces$Form"
  | 2 => .boolean
  | 3 => .array .int
  | 4 => .array .int
  | 5 => .array .int
  | _ => .array .int
abbrev wsX00 : List Cond := u_ws RX0 TX0 7
theorem nmX0 : ∀ a, a < 7 → ∀ b, b < 7 → a ≠ b → (TX0 a).2.1 ≠ (TX0 b).2.1 := by decide +kernel
theorem tyX0_ok : ∀ k, k < 7 → parseFieldDescriptor (TX0 k).2.2.1 = some (tyX0 k) := by decide +kernel
abbrev cX0_init : ByteArray := prog_2_method_1_code
def yX0_init : MethodName := ⟨RX0, "<init>", "(I)V"⟩
abbrev cX0_entry : ByteArray := prog_2_method_2_code
def yX0_entry : MethodName := ⟨RX0, "entry", "([II)I"⟩
abbrev cX0_sizeOf : ByteArray := prog_2_method_3_code
def yX0_sizeOf : MethodName := ⟨RX0, "sizeOf", "(I)I"⟩
abbrev cX0_needOf : ByteArray := prog_2_method_4_code
def yX0_needOf : MethodName := ⟨RX0, "needOf", "(I)I"⟩
abbrev cX0_depthOf : ByteArray := prog_2_method_5_code
def yX0_depthOf : MethodName := ⟨RX0, "depthOf", "(I)I"⟩
abbrev cX0_valueOf : ByteArray := prog_2_method_6_code
def yX0_valueOf : MethodName := ⟨RX0, "valueOf", "(I)I"⟩
abbrev cX0_rightOf : ByteArray := prog_2_method_7_code
def yX0_rightOf : MethodName := ⟨RX0, "rightOf", "(I)I"⟩
abbrev cX0_pairs : ByteArray := prog_2_method_8_code
def yX0_pairs : MethodName := ⟨RX0, "pairs", "()I"⟩
abbrev cX0_make : ByteArray := prog_2_method_9_code
def yX0_make : MethodName := ⟨RX0, "make", "(LLeastPlaces$Form;Z[LLeastPlaces$Expanded;)V"⟩
abbrev cX0_measure : ByteArray := prog_2_method_10_code
def yX0_measure : MethodName := ⟨RX0, "measure", "([I[LLeastPlaces$Expanded;)V"⟩
abbrev cX0_put : ByteArray := prog_2_method_11_code
def yX0_put : MethodName := ⟨RX0, "put", "(IIII)V"⟩
abbrev cX0_needOfPair : ByteArray := prog_2_method_12_code
def yX0_needOfPair : MethodName := ⟨RX0, "needOfPair", "(II)I"⟩
abbrev cX0_leafValue : ByteArray := prog_2_method_13_code
def yX0_leafValue : MethodName := ⟨RX0, "leafValue", "(I[I[LLeastPlaces$Expanded;)I"⟩
abbrev cX0_operate : ByteArray := prog_2_method_14_code
def yX0_operate : MethodName := ⟨RX0, "operate", "(IJJ)I"⟩
def RX1 : String := "LeastPlaces$Form"
def TX1 : u_T := fun k => match k with
  | 0 => ("LeastPlaces$Form", "kinds", "[I", true)
  | 1 => ("LeastPlaces$Form", "contents", "[I", true)
  | _ => ("LeastPlaces$Form", "size", "I", false)
def tyX1 : Nat → FieldType := fun k => match k with
  | 0 => .array .int
  | 1 => .array .int
  | _ => .int
abbrev wsX10 : List Cond := u_ws RX1 TX1 3
theorem nmX1 : ∀ a, a < 3 → ∀ b, b < 3 → a ≠ b → (TX1 a).2.1 ≠ (TX1 b).2.1 := by decide +kernel
theorem tyX1_ok : ∀ k, k < 3 → parseFieldDescriptor (TX1 k).2.2.1 = some (tyX1 k) := by decide +kernel
abbrev cX1_init : ByteArray := prog_3_method_1_code
def yX1_init : MethodName := ⟨RX1, "<init>", "(I)V"⟩
abbrev cX1_has : ByteArray := prog_3_method_2_code
def yX1_has : MethodName := ⟨RX1, "has", "(I)Z"⟩
abbrev cX1_kindOf : ByteArray := prog_3_method_3_code
def yX1_kindOf : MethodName := ⟨RX1, "kindOf", "(I)I"⟩
abbrev cX1_contentOf : ByteArray := prog_3_method_4_code
def yX1_contentOf : MethodName := ⟨RX1, "contentOf", "(I)I"⟩
abbrev cX1_hasKind : ByteArray := prog_3_method_5_code
def yX1_hasKind : MethodName := ⟨RX1, "hasKind", "(I)Z"⟩
abbrev cX1_isFull : ByteArray := prog_3_method_6_code
def yX1_isFull : MethodName := ⟨RX1, "isFull", "()Z"⟩
abbrev cX1_add : ByteArray := prog_3_method_7_code
def yX1_add : MethodName := ⟨RX1, "add", "(II)Z"⟩
abbrev cX1_insert : ByteArray := prog_3_method_8_code
def yX1_insert : MethodName := ⟨RX1, "insert", "(III)Z"⟩
abbrev cX1_addAll : ByteArray := prog_3_method_9_code
def yX1_addAll : MethodName := ⟨RX1, "addAll", "(LLeastPlaces$Form;)V"⟩
abbrev cX1_copy : ByteArray := prog_3_method_10_code
def yX1_copy : MethodName := ⟨RX1, "copy", "(LLeastPlaces$Form;)V"⟩
abbrev cX1_behind : ByteArray := prog_3_method_11_code
def yX1_behind : MethodName := ⟨RX1, "behind", "(I)I"⟩
abbrev cX1_exchange : ByteArray := prog_3_method_12_code
def yX1_exchange : MethodName := ⟨RX1, "exchange", "(I)V"⟩
abbrev cX1_turnAround : ByteArray := prog_3_method_13_code
def yX1_turnAround : MethodName := ⟨RX1, "turnAround", "(II)V"⟩
def RX2 : String := "LeastPlaces$Plan"
def TX2 : u_T := fun k => match k with
  | 0 => ("LeastPlaces$Plan", "kinds", "[I", true)
  | 1 => ("LeastPlaces$Plan", "formulas", "[I", true)
  | 2 => ("LeastPlaces$Plan", "nodes", "[I", true)
  | 3 => ("LeastPlaces$Plan", "helds", "[I", true)
  | 4 => ("LeastPlaces$Plan", "length", "I", false)
  | 5 => ("LeastPlaces$Plan", "cost", "I", false)
  | 6 => ("LeastPlaces$Plan", "spills", "I", false)
  | 7 => ("LeastPlaces$Plan", "fetches", "I", false)
  | 8 => ("LeastPlaces$Plan", "operationCost", "I", false)
  | _ => ("LeastPlaces$Plan", "held", "I", false)
def tyX2 : Nat → FieldType := fun k => match k with
  | 0 => .array .int
  | 1 => .array .int
  | 2 => .array .int
  | 3 => .array .int
  | 4 => .int
  | 5 => .int
  | 6 => .int
  | 7 => .int
  | 8 => .int
  | _ => .int
abbrev wsX20 : List Cond := u_ws RX2 TX2 10
theorem nmX2 : ∀ a, a < 10 → ∀ b, b < 10 → a ≠ b → (TX2 a).2.1 ≠ (TX2 b).2.1 := by decide +kernel
theorem tyX2_ok : ∀ k, k < 10 → parseFieldDescriptor (TX2 k).2.2.1 = some (tyX2 k) := by decide +kernel
abbrev cX2_init : ByteArray := prog_4_method_1_code
def yX2_init : MethodName := ⟨RX2, "<init>", "()V"⟩
def RX3 : String := "LeastPlaces$Reader"
def TX3 : u_T := fun k => match k with
  | 0 => ("LeastPlaces$Reader", "text", "[I", true)
  | 1 => ("LeastPlaces$Reader", "length", "I", false)
  | 2 => ("LeastPlaces$Reader", "place", "I", false)
  | _ => ("LeastPlaces$Reader", "draft", "LLeastPlaces$Sheet;", true)
def tyX3 : Nat → FieldType := fun k => match k with
  | 0 => .array .int
  | 1 => .int
  | 2 => .int
  | _ => .object "LeastPlaces$Sheet"
abbrev wsX30 : List Cond := u_ws RX3 TX3 4
theorem nmX3 : ∀ a, a < 4 → ∀ b, b < 4 → a ≠ b → (TX3 a).2.1 ≠ (TX3 b).2.1 := by decide +kernel
theorem tyX3_ok : ∀ k, k < 4 → parseFieldDescriptor (TX3 k).2.2.1 = some (tyX3 k) := by decide +kernel
abbrev cX3_init : ByteArray := prog_5_method_1_code
def yX3_init : MethodName := ⟨RX3, "<init>", "()V"⟩
abbrev cX3_take : ByteArray := prog_5_method_2_code
def yX3_take : MethodName := ⟨RX3, "take", "(I)Z"⟩
abbrev cX3_sign : ByteArray := prog_5_method_3_code
def yX3_sign : MethodName := ⟨RX3, "sign", "()I"⟩
abbrev cX3_pass : ByteArray := prog_5_method_4_code
def yX3_pass : MethodName := ⟨RX3, "pass", "(I)Z"⟩
abbrev cX3_readSheet : ByteArray := prog_5_method_5_code
def yX3_readSheet : MethodName := ⟨RX3, "readSheet", "()Z"⟩
abbrev cX3_readSum : ByteArray := prog_5_method_6_code
def yX3_readSum : MethodName := ⟨RX3, "readSum", "(LLeastPlaces$Form;II)Z"⟩
abbrev cX3_readProduct : ByteArray := prog_5_method_7_code
def yX3_readProduct : MethodName := ⟨RX3, "readProduct", "(LLeastPlaces$Form;II)Z"⟩
abbrev cX3_readOperation : ByteArray := prog_5_method_8_code
def yX3_readOperation : MethodName := ⟨RX3, "readOperation", "(LLeastPlaces$Form;II)Z"⟩
abbrev cX3_readFactor : ByteArray := prog_5_method_9_code
def yX3_readFactor : MethodName := ⟨RX3, "readFactor", "(LLeastPlaces$Form;II)Z"⟩
abbrev cX3_readNested : ByteArray := prog_5_method_10_code
def yX3_readNested : MethodName := ⟨RX3, "readNested", "(LLeastPlaces$Form;II)Z"⟩
abbrev cX3_readLeaf : ByteArray := prog_5_method_11_code
def yX3_readLeaf : MethodName := ⟨RX3, "readLeaf", "(LLeastPlaces$Form;I)Z"⟩
abbrev cX3_readNumber : ByteArray := prog_5_method_12_code
def yX3_readNumber : MethodName := ⟨RX3, "readNumber", "()I"⟩
abbrev cX3_isDigit : ByteArray := prog_5_method_13_code
def yX3_isDigit : MethodName := ⟨RX3, "isDigit", "(I)Z"⟩
def RX4 : String := "LeastPlaces$Sheet"
def TX4 : u_T := fun k => match k with
  | 0 => ("LeastPlaces$Sheet", "forms", "[LLeastPlaces$Form;", true)
  | 1 => ("LeastPlaces$Sheet", "formulas", "I", false)
  | 2 => ("LeastPlaces$Sheet", "cells", "[I", true)
  | _ => ("LeastPlaces$Sheet", "places", "I", false)
def tyX4 : Nat → FieldType := fun k => match k with
  | 0 => .array (.object "LeastPlaces$Form")
  | 1 => .int
  | 2 => .array .int
  | _ => .int
abbrev wsX40 : List Cond := u_ws RX4 TX4 4
theorem nmX4 : ∀ a, a < 4 → ∀ b, b < 4 → a ≠ b → (TX4 a).2.1 ≠ (TX4 b).2.1 := by decide +kernel
theorem tyX4_ok : ∀ k, k < 4 → parseFieldDescriptor (TX4 k).2.2.1 = some (tyX4 k) := by decide +kernel
abbrev cX4_init : ByteArray := prog_6_method_1_code
def yX4_init : MethodName := ⟨RX4, "<init>", "()V"⟩
abbrev cX4_copyFormulas : ByteArray := prog_6_method_2_code
def yX4_copyFormulas : MethodName := ⟨RX4, "copyFormulas", "(LLeastPlaces$Sheet;)V"⟩
abbrev cX4_copyState : ByteArray := prog_6_method_3_code
def yX4_copyState : MethodName := ⟨RX4, "copyState", "(LLeastPlaces$Sheet;)V"⟩
def RX5 : String := "LeastPlaces$Trial"
def TX5 : u_T := fun k => match k with
  | 0 => ("LeastPlaces$Trial", "ways", "[I", true)
  | 1 => ("LeastPlaces$Trial", "waysWithOneLess", "[I", true)
  | _ => ("LeastPlaces$Trial", "places", "I", false)
def tyX5 : Nat → FieldType := fun k => match k with
  | 0 => .array .int
  | 1 => .array .int
  | _ => .int
abbrev wsX50 : List Cond := u_ws RX5 TX5 3
theorem nmX5 : ∀ a, a < 3 → ∀ b, b < 3 → a ≠ b → (TX5 a).2.1 ≠ (TX5 b).2.1 := by decide +kernel
theorem tyX5_ok : ∀ k, k < 3 → parseFieldDescriptor (TX5 k).2.2.1 = some (tyX5 k) := by decide +kernel
abbrev cX5_init : ByteArray := prog_7_method_1_code
def yX5_init : MethodName := ⟨RX5, "<init>", "()V"⟩
abbrev cX5_tryOrders : ByteArray := prog_7_method_2_code
def yX5_tryOrders : MethodName := ⟨RX5, "tryOrders", "(LLeastPlaces$Expanded;)V"⟩
abbrev cX5_waysFor : ByteArray := prog_7_method_3_code
def yX5_waysFor : MethodName := ⟨RX5, "waysFor", "(LLeastPlaces$Expanded;I)I"⟩
def RX6 : String := "LeastPlaces"
def TX6 : u_T := fun k => match k with
  | 0 => ("LeastPlaces", "reader", "LLeastPlaces$Reader;", true)
  | 1 => ("LeastPlaces", "sheet", "LLeastPlaces$Sheet;", true)
  | 2 => ("LeastPlaces", "history", "[LLeastPlaces$Sheet;", true)
  | 3 => ("LeastPlaces", "states", "I", false)
  | 4 => ("LeastPlaces", "expanded", "[LLeastPlaces$Expanded;", true)
  | 5 => ("LeastPlaces", "steps", "LLeastPlaces$Plan;", true)
  | _ => ("LeastPlaces", "trial", "LLeastPlaces$Trial;", true)
def tyX6 : Nat → FieldType := fun k => match k with
  | 0 => .object "LeastPlaces$Reader"
  | 1 => .object "LeastPlaces$Sheet"
  | 2 => .array (.object "LeastPlaces$Sheet")
  | 3 => .int
  | 4 => .array (.object "LeastPlaces$Expanded")
  | 5 => .object "LeastPlaces$Plan"
  | _ => .object "LeastPlaces$Trial"
abbrev wsX60 : List Cond := u_ws RX6 TX6 7
theorem nmX6 : ∀ a, a < 7 → ∀ b, b < 7 → a ≠ b → (TX6 a).2.1 ≠ (TX6 b).2.1 := by decide +kernel
theorem tyX6_ok : ∀ k, k < 7 → parseFieldDescriptor (TX6 k).2.2.1 = some (tyX6 k) := by decide +kernel
abbrev cX6_init : ByteArray := prog_1_method_1_code
def yX6_init : MethodName := ⟨RX6, "<init>", "()V"⟩
abbrev cX6_append : ByteArray := prog_1_method_2_code
def yX6_append : MethodName := ⟨RX6, "append", "(I)I"⟩
abbrev cX6_clearText : ByteArray := prog_1_method_3_code
def yX6_clearText : MethodName := ⟨RX6, "clearText", "()I"⟩
abbrev cX6_read : ByteArray := prog_1_method_4_code
def yX6_read : MethodName := ⟨RX6, "read", "()I"⟩
abbrev cX6_turn : ByteArray := prog_1_method_5_code
def yX6_turn : MethodName := ⟨RX6, "turn", "(II)I"⟩
abbrev cX6_setCell : ByteArray := prog_1_method_6_code
def yX6_setCell : MethodName := ⟨RX6, "setCell", "(II)I"⟩
abbrev cX6_setPlaces : ByteArray := prog_1_method_7_code
def yX6_setPlaces : MethodName := ⟨RX6, "setPlaces", "(I)I"⟩
abbrev cX6_count : ByteArray := prog_1_method_9_code
def yX6_count : MethodName := ⟨RX6, "count", "(I)I"⟩
abbrev cX6_formula : ByteArray := prog_1_method_10_code
def yX6_formula : MethodName := ⟨RX6, "formula", "(II)I"⟩
abbrev cX6_node : ByteArray := prog_1_method_11_code
def yX6_node : MethodName := ⟨RX6, "node", "(III)I"⟩
abbrev cX6_cell : ByteArray := prog_1_method_12_code
def yX6_cell : MethodName := ⟨RX6, "cell", "(I)I"⟩
abbrev cX6_proved : ByteArray := prog_1_method_17_code
def yX6_proved : MethodName := ⟨RX6, "proved", "(I)I"⟩
abbrev cX6_isFormula : ByteArray := prog_1_method_19_code
def yX6_isFormula : MethodName := ⟨RX6, "isFormula", "(I)Z"⟩
abbrev cX6_isCell : ByteArray := prog_1_method_20_code
def yX6_isCell : MethodName := ⟨RX6, "isCell", "(I)Z"⟩
abbrev cX6_arePlaces : ByteArray := prog_1_method_21_code
def yX6_arePlaces : MethodName := ⟨RX6, "arePlaces", "(I)Z"⟩
abbrev cX6_refusalToTry : ByteArray := prog_1_method_22_code
def yX6_refusalToTry : MethodName := ⟨RX6, "refusalToTry", "(I)I"⟩
abbrev cX6_partsOf : ByteArray := prog_1_method_23_code
def yX6_partsOf : MethodName := ⟨RX6, "partsOf", "(I)I"⟩
abbrev cX6_recordState : ByteArray := prog_1_method_24_code
def yX6_recordState : MethodName := ⟨RX6, "recordState", "()V"⟩
abbrev cX6_dropOldestState : ByteArray := prog_1_method_25_code
def yX6_dropOldestState : MethodName := ⟨RX6, "dropOldestState", "()V"⟩
abbrev cX6_workAnew : ByteArray := prog_1_method_26_code
def yX6_workAnew : MethodName := ⟨RX6, "workAnew", "()V"⟩
abbrev cX6_cheapDefinitions : ByteArray := prog_1_method_27_code
def yX6_cheapDefinitions : MethodName := ⟨RX6, "cheapDefinitions", "()I"⟩
abbrev cX6_nodesAsRead : ByteArray := prog_1_method_28_code
def yX6_nodesAsRead : MethodName := ⟨RX6, "nodesAsRead", "()I"⟩
abbrev cX6_greatestNeed : ByteArray := prog_1_method_29_code
def yX6_greatestNeed : MethodName := ⟨RX6, "greatestNeed", "()I"⟩
abbrev cX6_usesOf : ByteArray := prog_1_method_30_code
def yX6_usesOf : MethodName := ⟨RX6, "usesOf", "(I)I"⟩
def RX7 : String := "LeastPlacesModel"
def TX7 : u_T := fun k => match k with
  | _ => ("", "", "", false)
def tyX7 : Nat → FieldType := fun k => match k with
  | _ => .int
abbrev wsX70 : List Cond := u_ws RX7 TX7 0
theorem nmX7 : ∀ a, a < 0 → ∀ b, b < 0 → a ≠ b → (TX7 a).2.1 ≠ (TX7 b).2.1 := by decide +kernel
theorem tyX7_ok : ∀ k, k < 0 → parseFieldDescriptor (TX7 k).2.2.1 = some (tyX7 k) := by decide +kernel
def RL : String := "LeastPlacesLaw"
abbrev cL_cell : ByteArray := method_2_code
def yL_cell : MethodName := ⟨RL, "cell", "([II)I"⟩
abbrev cL_low : ByteArray := method_3_code
def yL_low : MethodName := ⟨RL, "low", "(II)I"⟩
abbrev cL_part : ByteArray := method_4_code
def yL_part : MethodName := ⟨RL, "part", "([III)I"⟩
abbrev cL_expand : ByteArray := method_5_code
def yL_expand : MethodName := ⟨RL, "expand", "([I[I[I[II[I[I)I"⟩
abbrev cL_isCheap : ByteArray := method_6_code
def yL_isCheap : MethodName := ⟨RL, "isCheap", "([I[I[I[II)Z"⟩
abbrev cL_tell : ByteArray := method_7_code
def yL_tell : MethodName := ⟨RL, "tell", "([I[I[I[II[I[I[I[I)V"⟩
abbrev cL_worths : ByteArray := method_8_code
def yL_worths : MethodName := ⟨RL, "worths", "([I[I[I[I[I[I)V"⟩
abbrev cL_put : ByteArray := method_9_code
def yL_put : MethodName := ⟨RL, "put", "(LLeastPlaces;[II)Z"⟩
abbrev cL_grow : ByteArray := method_10_code
def yL_grow : MethodName := ⟨RL, "grow", "([I[IIII)V"⟩
abbrev cL_types : ByteArray := method_11_code
def yL_types : MethodName := ⟨RL, "types", "(LLeastPlaces;[I[I[I[I[I[II)Z"⟩
abbrev cL_reads : ByteArray := method_12_code
def yL_reads : MethodName := ⟨RL, "reads", "(LLeastPlaces;[I[I[I[II)Z"⟩
abbrev cL_acts : ByteArray := method_13_code
def yL_acts : MethodName := ⟨RL, "acts", "(LLeastPlaces;[I[I[I[I[II)Z"⟩
abbrev cL_isFormula : ByteArray := method_14_code
def yL_isFormula : MethodName := ⟨RL, "isFormula", "(LLeastPlaces;[I[I[I[I[I[II)Z"⟩
abbrev cL_isSo : ByteArray := method_15_code
def yL_isSo : MethodName := ⟨RL, "isSo", "(LLeastPlaces;[I[I[I[I[I)Z"⟩
abbrev cL_law : ByteArray := code
def yL_law : MethodName := ⟨RL, "law", "([I)Z"⟩
abbrev vwCl : List vw_C := [(RX0, TX0, 7), (RX1, TX1, 3), (RX2, TX2, 10), (RX3, TX3, 4), (RX4, TX4, 4), (RX5, TX5, 3), (RX6, TX6, 7)]
end
section
theorem dL_cell_0 : decode cL_cell 0 = .ok (.iload_n 1, 1) := by decide +kernel
theorem dL_cell_1 : decode cL_cell 1 = .ok (.aload_n 0, 1) := by decide +kernel
theorem dL_cell_2 : decode cL_cell 2 = .ok (.arraylength, 1) := by decide +kernel
theorem dL_cell_3 : decode cL_cell 3 = .ok (.if_icmp .ge 9, 3) := by decide +kernel
theorem dL_cell_6 : decode cL_cell 6 = .ok (.aload_n 0, 1) := by decide +kernel
theorem dL_cell_7 : decode cL_cell 7 = .ok (.iload_n 1, 1) := by decide +kernel
theorem dL_cell_8 : decode cL_cell 8 = .ok (.iaload, 1) := by decide +kernel
theorem dL_cell_9 : decode cL_cell 9 = .ok (.goto 9, 3) := by decide +kernel
theorem dL_cell_12 : decode cL_cell 12 = .ok (.ldc 7, 2) := by decide +kernel
theorem dL_cell_14 : decode cL_cell 14 = .ok (.iload_n 1, 1) := by decide +kernel
theorem dL_cell_15 : decode cL_cell 15 = .ok (.iconst 3, 1) := by decide +kernel
theorem dL_cell_16 : decode cL_cell 16 = .ok (.iadd, 1) := by decide +kernel
theorem dL_cell_17 : decode cL_cell 17 = .ok (.imul, 1) := by decide +kernel
theorem dL_cell_18 : decode cL_cell 18 = .ok (.ireturn, 1) := by decide +kernel
theorem dL_low_0 : decode cL_low 0 = .ok (.iload_n 0, 1) := by decide +kernel
theorem dL_low_1 : decode cL_low 1 = .ok (.ldc 8, 2) := by decide +kernel
theorem dL_low_3 : decode cL_low 3 = .ok (.iand, 1) := by decide +kernel
theorem dL_low_4 : decode cL_low 4 = .ok (.iload_n 1, 1) := by decide +kernel
theorem dL_low_5 : decode cL_low 5 = .ok (.irem, 1) := by decide +kernel
theorem dL_low_6 : decode cL_low 6 = .ok (.ireturn, 1) := by decide +kernel
theorem dL_part_0 : decode cL_part 0 = .ok (.iconst 1, 1) := by decide +kernel
theorem dL_part_1 : decode cL_part 1 = .ok (.istore_n 3, 1) := by decide +kernel
theorem dL_part_2 : decode cL_part 2 = .ok (.iload_n 2, 1) := by decide +kernel
theorem dL_part_3 : decode cL_part 3 = .ok (.istore 4, 2) := by decide +kernel
theorem dL_part_5 : decode cL_part 5 = .ok (.iload_n 3, 1) := by decide +kernel
theorem dL_part_6 : decode cL_part 6 = .ok (.ifCond .le 41, 3) := by decide +kernel
theorem dL_part_9 : decode cL_part 9 = .ok (.iload_n 3, 1) := by decide +kernel
theorem dL_part_10 : decode cL_part 10 = .ok (.aload_n 0, 1) := by decide +kernel
theorem dL_part_11 : decode cL_part 11 = .ok (.iload_n 1, 1) := by decide +kernel
theorem dL_part_12 : decode cL_part 12 = .ok (.iload 4, 2) := by decide +kernel
theorem dL_part_14 : decode cL_part 14 = .ok (.iadd, 1) := by decide +kernel
theorem dL_part_15 : decode cL_part 15 = .ok (.iaload, 1) := by decide +kernel
theorem dL_part_16 : decode cL_part 16 = .ok (.iconst 3, 1) := by decide +kernel
theorem dL_part_17 : decode cL_part 17 = .ok (.if_icmp .ge 7, 3) := by decide +kernel
theorem dL_part_20 : decode cL_part 20 = .ok (.iconst (-1), 1) := by decide +kernel
theorem dL_part_21 : decode cL_part 21 = .ok (.goto 18, 3) := by decide +kernel
theorem dL_part_24 : decode cL_part 24 = .ok (.aload_n 0, 1) := by decide +kernel
theorem dL_part_25 : decode cL_part 25 = .ok (.iload_n 1, 1) := by decide +kernel
theorem dL_part_26 : decode cL_part 26 = .ok (.iload 4, 2) := by decide +kernel
theorem dL_part_28 : decode cL_part 28 = .ok (.iadd, 1) := by decide +kernel
theorem dL_part_29 : decode cL_part 29 = .ok (.iaload, 1) := by decide +kernel
theorem dL_part_30 : decode cL_part 30 = .ok (.iconst 3, 1) := by decide +kernel
theorem dL_part_31 : decode cL_part 31 = .ok (.if_icmp .ne 7, 3) := by decide +kernel
theorem dL_part_34 : decode cL_part 34 = .ok (.iconst 0, 1) := by decide +kernel
theorem dL_part_35 : decode cL_part 35 = .ok (.goto 4, 3) := by decide +kernel
theorem dL_part_38 : decode cL_part 38 = .ok (.iconst 1, 1) := by decide +kernel
theorem dL_part_39 : decode cL_part 39 = .ok (.iadd, 1) := by decide +kernel
theorem dL_part_40 : decode cL_part 40 = .ok (.istore_n 3, 1) := by decide +kernel
theorem dL_part_41 : decode cL_part 41 = .ok (.iinc 4 1, 3) := by decide +kernel
theorem dL_part_44 : decode cL_part 44 = .ok (.goto (-39), 3) := by decide +kernel
theorem dL_part_47 : decode cL_part 47 = .ok (.iload 4, 2) := by decide +kernel
theorem dL_part_49 : decode cL_part 49 = .ok (.ireturn, 1) := by decide +kernel
theorem dL_expand_0 : decode cL_expand 0 = .ok (.aload_n 1, 1) := by decide +kernel
theorem dL_expand_1 : decode cL_expand 1 = .ok (.iload 4, 2) := by decide +kernel
theorem dL_expand_3 : decode cL_expand 3 = .ok (.iaload, 1) := by decide +kernel
theorem dL_expand_4 : decode cL_expand 4 = .ok (.istore 7, 2) := by decide +kernel
theorem dL_expand_6 : decode cL_expand 6 = .ok (.iconst 0, 1) := by decide +kernel
theorem dL_expand_7 : decode cL_expand 7 = .ok (.istore 8, 2) := by decide +kernel
theorem dL_expand_9 : decode cL_expand 9 = .ok (.iload 8, 2) := by decide +kernel
theorem dL_expand_11 : decode cL_expand 11 = .ok (.iload 7, 2) := by decide +kernel
theorem dL_expand_13 : decode cL_expand 13 = .ok (.if_icmp .ge 39, 3) := by decide +kernel
theorem dL_expand_16 : decode cL_expand 16 = .ok (.aload 5, 2) := by decide +kernel
theorem dL_expand_18 : decode cL_expand 18 = .ok (.iload 8, 2) := by decide +kernel
theorem dL_expand_20 : decode cL_expand 20 = .ok (.aload_n 2, 1) := by decide +kernel
theorem dL_expand_21 : decode cL_expand 21 = .ok (.bipush 16, 2) := by decide +kernel
theorem dL_expand_23 : decode cL_expand 23 = .ok (.iload 4, 2) := by decide +kernel
theorem dL_expand_25 : decode cL_expand 25 = .ok (.imul, 1) := by decide +kernel
theorem dL_expand_26 : decode cL_expand 26 = .ok (.iload 8, 2) := by decide +kernel
theorem dL_expand_28 : decode cL_expand 28 = .ok (.iadd, 1) := by decide +kernel
theorem dL_expand_29 : decode cL_expand 29 = .ok (.iaload, 1) := by decide +kernel
theorem dL_expand_30 : decode cL_expand 30 = .ok (.iastore, 1) := by decide +kernel
theorem dL_expand_31 : decode cL_expand 31 = .ok (.aload 6, 2) := by decide +kernel
theorem dL_expand_33 : decode cL_expand 33 = .ok (.iload 8, 2) := by decide +kernel
theorem dL_expand_35 : decode cL_expand 35 = .ok (.aload_n 3, 1) := by decide +kernel
theorem dL_expand_36 : decode cL_expand 36 = .ok (.bipush 16, 2) := by decide +kernel
theorem dL_expand_38 : decode cL_expand 38 = .ok (.iload 4, 2) := by decide +kernel
theorem dL_expand_40 : decode cL_expand 40 = .ok (.imul, 1) := by decide +kernel
theorem dL_expand_41 : decode cL_expand 41 = .ok (.iload 8, 2) := by decide +kernel
theorem dL_expand_43 : decode cL_expand 43 = .ok (.iadd, 1) := by decide +kernel
theorem dL_expand_44 : decode cL_expand 44 = .ok (.iaload, 1) := by decide +kernel
theorem dL_expand_45 : decode cL_expand 45 = .ok (.iastore, 1) := by decide +kernel
theorem dL_expand_46 : decode cL_expand 46 = .ok (.iinc 8 1, 3) := by decide +kernel
theorem dL_expand_49 : decode cL_expand 49 = .ok (.goto (-40), 3) := by decide +kernel
theorem dL_expand_52 : decode cL_expand 52 = .ok (.iload 4, 2) := by decide +kernel
theorem dL_expand_54 : decode cL_expand 54 = .ok (.iconst 1, 1) := by decide +kernel
theorem dL_expand_55 : decode cL_expand 55 = .ok (.isub, 1) := by decide +kernel
theorem dL_expand_56 : decode cL_expand 56 = .ok (.istore 8, 2) := by decide +kernel
theorem dL_expand_58 : decode cL_expand 58 = .ok (.iload 8, 2) := by decide +kernel
theorem dL_expand_60 : decode cL_expand 60 = .ok (.ifCond .lt 174, 3) := by decide +kernel
theorem dL_expand_63 : decode cL_expand 63 = .ok (.iconst 0, 1) := by decide +kernel
theorem dL_expand_64 : decode cL_expand 64 = .ok (.istore 9, 2) := by decide +kernel
theorem dL_expand_66 : decode cL_expand 66 = .ok (.iload 9, 2) := by decide +kernel
theorem dL_expand_68 : decode cL_expand 68 = .ok (.iload 7, 2) := by decide +kernel
theorem dL_expand_70 : decode cL_expand 70 = .ok (.if_icmp .ge 158, 3) := by decide +kernel
theorem dL_expand_73 : decode cL_expand 73 = .ok (.aload_n 0, 1) := by decide +kernel
theorem dL_expand_74 : decode cL_expand 74 = .ok (.aload_n 1, 1) := by decide +kernel
theorem dL_expand_75 : decode cL_expand 75 = .ok (.aload_n 2, 1) := by decide +kernel
theorem dL_expand_76 : decode cL_expand 76 = .ok (.aload_n 3, 1) := by decide +kernel
theorem dL_expand_77 : decode cL_expand 77 = .ok (.iload 8, 2) := by decide +kernel
theorem dL_expand_79 : decode cL_expand 79 = .ok (.invokestatic 9, 3) := by decide +kernel
theorem dL_expand_82 : decode cL_expand 82 = .ok (.ifCond .eq 146, 3) := by decide +kernel
theorem dL_expand_85 : decode cL_expand 85 = .ok (.aload 5, 2) := by decide +kernel
theorem dL_expand_87 : decode cL_expand 87 = .ok (.iload 9, 2) := by decide +kernel
theorem dL_expand_89 : decode cL_expand 89 = .ok (.iaload, 1) := by decide +kernel
theorem dL_expand_90 : decode cL_expand 90 = .ok (.iconst 2, 1) := by decide +kernel
theorem dL_expand_91 : decode cL_expand 91 = .ok (.if_icmp .ne 131, 3) := by decide +kernel
theorem dL_expand_94 : decode cL_expand 94 = .ok (.aload 6, 2) := by decide +kernel
theorem dL_expand_96 : decode cL_expand 96 = .ok (.iload 9, 2) := by decide +kernel
theorem dL_expand_98 : decode cL_expand 98 = .ok (.iaload, 1) := by decide +kernel
theorem dL_expand_99 : decode cL_expand 99 = .ok (.iload 8, 2) := by decide +kernel
theorem dL_expand_101 : decode cL_expand 101 = .ok (.if_icmp .ne 121, 3) := by decide +kernel
theorem dL_expand_104 : decode cL_expand 104 = .ok (.iload 7, 2) := by decide +kernel
theorem dL_expand_106 : decode cL_expand 106 = .ok (.iconst 1, 1) := by decide +kernel
theorem dL_expand_107 : decode cL_expand 107 = .ok (.isub, 1) := by decide +kernel
theorem dL_expand_108 : decode cL_expand 108 = .ok (.istore 10, 2) := by decide +kernel
theorem dL_expand_110 : decode cL_expand 110 = .ok (.iload 10, 2) := by decide +kernel
theorem dL_expand_112 : decode cL_expand 112 = .ok (.iload 9, 2) := by decide +kernel
theorem dL_expand_114 : decode cL_expand 114 = .ok (.if_icmp .le 43, 3) := by decide +kernel
theorem dL_expand_117 : decode cL_expand 117 = .ok (.aload 5, 2) := by decide +kernel
theorem dL_expand_119 : decode cL_expand 119 = .ok (.iload 10, 2) := by decide +kernel
theorem dL_expand_121 : decode cL_expand 121 = .ok (.aload_n 1, 1) := by decide +kernel
theorem dL_expand_122 : decode cL_expand 122 = .ok (.iload 8, 2) := by decide +kernel
theorem dL_expand_124 : decode cL_expand 124 = .ok (.iaload, 1) := by decide +kernel
theorem dL_expand_125 : decode cL_expand 125 = .ok (.iadd, 1) := by decide +kernel
theorem dL_expand_126 : decode cL_expand 126 = .ok (.iconst 1, 1) := by decide +kernel
theorem dL_expand_127 : decode cL_expand 127 = .ok (.isub, 1) := by decide +kernel
theorem dL_expand_128 : decode cL_expand 128 = .ok (.aload 5, 2) := by decide +kernel
theorem dL_expand_130 : decode cL_expand 130 = .ok (.iload 10, 2) := by decide +kernel
theorem dL_expand_132 : decode cL_expand 132 = .ok (.iaload, 1) := by decide +kernel
theorem dL_expand_133 : decode cL_expand 133 = .ok (.iastore, 1) := by decide +kernel
theorem dL_expand_134 : decode cL_expand 134 = .ok (.aload 6, 2) := by decide +kernel
theorem dL_expand_136 : decode cL_expand 136 = .ok (.iload 10, 2) := by decide +kernel
theorem dL_expand_138 : decode cL_expand 138 = .ok (.aload_n 1, 1) := by decide +kernel
theorem dL_expand_139 : decode cL_expand 139 = .ok (.iload 8, 2) := by decide +kernel
theorem dL_expand_141 : decode cL_expand 141 = .ok (.iaload, 1) := by decide +kernel
theorem dL_expand_142 : decode cL_expand 142 = .ok (.iadd, 1) := by decide +kernel
theorem dL_expand_143 : decode cL_expand 143 = .ok (.iconst 1, 1) := by decide +kernel
theorem dL_expand_144 : decode cL_expand 144 = .ok (.isub, 1) := by decide +kernel
theorem dL_expand_145 : decode cL_expand 145 = .ok (.aload 6, 2) := by decide +kernel
theorem dL_expand_147 : decode cL_expand 147 = .ok (.iload 10, 2) := by decide +kernel
theorem dL_expand_149 : decode cL_expand 149 = .ok (.iaload, 1) := by decide +kernel
theorem dL_expand_150 : decode cL_expand 150 = .ok (.iastore, 1) := by decide +kernel
theorem dL_expand_151 : decode cL_expand 151 = .ok (.iinc 10 (-1), 3) := by decide +kernel
theorem dL_expand_154 : decode cL_expand 154 = .ok (.goto (-44), 3) := by decide +kernel
theorem dL_expand_157 : decode cL_expand 157 = .ok (.iconst 0, 1) := by decide +kernel
theorem dL_expand_158 : decode cL_expand 158 = .ok (.istore 10, 2) := by decide +kernel
theorem dL_expand_160 : decode cL_expand 160 = .ok (.iload 10, 2) := by decide +kernel
theorem dL_expand_162 : decode cL_expand 162 = .ok (.aload_n 1, 1) := by decide +kernel
theorem dL_expand_163 : decode cL_expand 163 = .ok (.iload 8, 2) := by decide +kernel
theorem dL_expand_165 : decode cL_expand 165 = .ok (.iaload, 1) := by decide +kernel
theorem dL_expand_166 : decode cL_expand 166 = .ok (.if_icmp .ge 45, 3) := by decide +kernel
theorem dL_expand_169 : decode cL_expand 169 = .ok (.aload 5, 2) := by decide +kernel
theorem dL_expand_171 : decode cL_expand 171 = .ok (.iload 9, 2) := by decide +kernel
theorem dL_expand_173 : decode cL_expand 173 = .ok (.iload 10, 2) := by decide +kernel
theorem dL_expand_175 : decode cL_expand 175 = .ok (.iadd, 1) := by decide +kernel
theorem dL_expand_176 : decode cL_expand 176 = .ok (.aload_n 2, 1) := by decide +kernel
theorem dL_expand_177 : decode cL_expand 177 = .ok (.bipush 16, 2) := by decide +kernel
theorem dL_expand_179 : decode cL_expand 179 = .ok (.iload 8, 2) := by decide +kernel
theorem dL_expand_181 : decode cL_expand 181 = .ok (.imul, 1) := by decide +kernel
theorem dL_expand_182 : decode cL_expand 182 = .ok (.iload 10, 2) := by decide +kernel
theorem dL_expand_184 : decode cL_expand 184 = .ok (.iadd, 1) := by decide +kernel
theorem dL_expand_185 : decode cL_expand 185 = .ok (.iaload, 1) := by decide +kernel
theorem dL_expand_186 : decode cL_expand 186 = .ok (.iastore, 1) := by decide +kernel
theorem dL_expand_187 : decode cL_expand 187 = .ok (.aload 6, 2) := by decide +kernel
theorem dL_expand_189 : decode cL_expand 189 = .ok (.iload 9, 2) := by decide +kernel
theorem dL_expand_191 : decode cL_expand 191 = .ok (.iload 10, 2) := by decide +kernel
theorem dL_expand_193 : decode cL_expand 193 = .ok (.iadd, 1) := by decide +kernel
theorem dL_expand_194 : decode cL_expand 194 = .ok (.aload_n 3, 1) := by decide +kernel
theorem dL_expand_195 : decode cL_expand 195 = .ok (.bipush 16, 2) := by decide +kernel
theorem dL_expand_197 : decode cL_expand 197 = .ok (.iload 8, 2) := by decide +kernel
theorem dL_expand_199 : decode cL_expand 199 = .ok (.imul, 1) := by decide +kernel
theorem dL_expand_200 : decode cL_expand 200 = .ok (.iload 10, 2) := by decide +kernel
theorem dL_expand_202 : decode cL_expand 202 = .ok (.iadd, 1) := by decide +kernel
theorem dL_expand_203 : decode cL_expand 203 = .ok (.iaload, 1) := by decide +kernel
theorem dL_expand_204 : decode cL_expand 204 = .ok (.iastore, 1) := by decide +kernel
theorem dL_expand_205 : decode cL_expand 205 = .ok (.iinc 10 1, 3) := by decide +kernel
theorem dL_expand_208 : decode cL_expand 208 = .ok (.goto (-48), 3) := by decide +kernel
theorem dL_expand_211 : decode cL_expand 211 = .ok (.iload 7, 2) := by decide +kernel
theorem dL_expand_213 : decode cL_expand 213 = .ok (.aload_n 1, 1) := by decide +kernel
theorem dL_expand_214 : decode cL_expand 214 = .ok (.iload 8, 2) := by decide +kernel
theorem dL_expand_216 : decode cL_expand 216 = .ok (.iaload, 1) := by decide +kernel
theorem dL_expand_217 : decode cL_expand 217 = .ok (.iconst 1, 1) := by decide +kernel
theorem dL_expand_218 : decode cL_expand 218 = .ok (.isub, 1) := by decide +kernel
theorem dL_expand_219 : decode cL_expand 219 = .ok (.iadd, 1) := by decide +kernel
theorem dL_expand_220 : decode cL_expand 220 = .ok (.istore 7, 2) := by decide +kernel
theorem dL_expand_222 : decode cL_expand 222 = .ok (.iinc 9 1, 3) := by decide +kernel
theorem dL_expand_225 : decode cL_expand 225 = .ok (.goto (-159), 3) := by decide +kernel
theorem dL_expand_228 : decode cL_expand 228 = .ok (.iinc 8 (-1), 3) := by decide +kernel
theorem dL_expand_231 : decode cL_expand 231 = .ok (.goto (-173), 3) := by decide +kernel
theorem dL_expand_234 : decode cL_expand 234 = .ok (.iload 7, 2) := by decide +kernel
theorem dL_expand_236 : decode cL_expand 236 = .ok (.ireturn, 1) := by decide +kernel
theorem dL_isCheap_0 : decode cL_isCheap 0 = .ok (.iconst 1, 1) := by decide +kernel
theorem dL_isCheap_1 : decode cL_isCheap 1 = .ok (.iload 4, 2) := by decide +kernel
theorem dL_isCheap_3 : decode cL_isCheap 3 = .ok (.ishl, 1) := by decide +kernel
theorem dL_isCheap_4 : decode cL_isCheap 4 = .ok (.istore 5, 2) := by decide +kernel
theorem dL_isCheap_6 : decode cL_isCheap 6 = .ok (.iconst 0, 1) := by decide +kernel
theorem dL_isCheap_7 : decode cL_isCheap 7 = .ok (.istore 6, 2) := by decide +kernel
theorem dL_isCheap_9 : decode cL_isCheap 9 = .ok (.iload 4, 2) := by decide +kernel
theorem dL_isCheap_11 : decode cL_isCheap 11 = .ok (.aload_n 0, 1) := by decide +kernel
theorem dL_isCheap_12 : decode cL_isCheap 12 = .ok (.iconst 0, 1) := by decide +kernel
theorem dL_isCheap_13 : decode cL_isCheap 13 = .ok (.iaload, 1) := by decide +kernel
theorem dL_isCheap_14 : decode cL_isCheap 14 = .ok (.iconst 1, 1) := by decide +kernel
theorem dL_isCheap_15 : decode cL_isCheap 15 = .ok (.isub, 1) := by decide +kernel
theorem dL_isCheap_16 : decode cL_isCheap 16 = .ok (.if_icmp .ge 7, 3) := by decide +kernel
theorem dL_isCheap_19 : decode cL_isCheap 19 = .ok (.iconst 1, 1) := by decide +kernel
theorem dL_isCheap_20 : decode cL_isCheap 20 = .ok (.goto 4, 3) := by decide +kernel
theorem dL_isCheap_23 : decode cL_isCheap 23 = .ok (.iconst 0, 1) := by decide +kernel
theorem dL_isCheap_24 : decode cL_isCheap 24 = .ok (.istore 7, 2) := by decide +kernel
theorem dL_isCheap_26 : decode cL_isCheap 26 = .ok (.bipush 8, 2) := by decide +kernel
theorem dL_isCheap_28 : decode cL_isCheap 28 = .ok (.newarray .int, 2) := by decide +kernel
theorem dL_isCheap_30 : decode cL_isCheap 30 = .ok (.astore 8, 2) := by decide +kernel
theorem dL_isCheap_32 : decode cL_isCheap 32 = .ok (.aload 8, 2) := by decide +kernel
theorem dL_isCheap_34 : decode cL_isCheap 34 = .ok (.iload 4, 2) := by decide +kernel
theorem dL_isCheap_36 : decode cL_isCheap 36 = .ok (.iconst 1, 1) := by decide +kernel
theorem dL_isCheap_37 : decode cL_isCheap 37 = .ok (.iastore, 1) := by decide +kernel
theorem dL_isCheap_38 : decode cL_isCheap 38 = .ok (.iload 4, 2) := by decide +kernel
theorem dL_isCheap_40 : decode cL_isCheap 40 = .ok (.istore 9, 2) := by decide +kernel
theorem dL_isCheap_42 : decode cL_isCheap 42 = .ok (.iload 9, 2) := by decide +kernel
theorem dL_isCheap_44 : decode cL_isCheap 44 = .ok (.ifCond .lt 133, 3) := by decide +kernel
theorem dL_isCheap_47 : decode cL_isCheap 47 = .ok (.iload 5, 2) := by decide +kernel
theorem dL_isCheap_49 : decode cL_isCheap 49 = .ok (.ifCond .le 128, 3) := by decide +kernel
theorem dL_isCheap_52 : decode cL_isCheap 52 = .ok (.iconst 0, 1) := by decide +kernel
theorem dL_isCheap_53 : decode cL_isCheap 53 = .ok (.istore 10, 2) := by decide +kernel
theorem dL_isCheap_55 : decode cL_isCheap 55 = .ok (.iload 10, 2) := by decide +kernel
theorem dL_isCheap_57 : decode cL_isCheap 57 = .ok (.aload_n 1, 1) := by decide +kernel
theorem dL_isCheap_58 : decode cL_isCheap 58 = .ok (.iload 9, 2) := by decide +kernel
theorem dL_isCheap_60 : decode cL_isCheap 60 = .ok (.iaload, 1) := by decide +kernel
theorem dL_isCheap_61 : decode cL_isCheap 61 = .ok (.if_icmp .ge 110, 3) := by decide +kernel
theorem dL_isCheap_64 : decode cL_isCheap 64 = .ok (.aload 8, 2) := by decide +kernel
theorem dL_isCheap_66 : decode cL_isCheap 66 = .ok (.iload 9, 2) := by decide +kernel
theorem dL_isCheap_68 : decode cL_isCheap 68 = .ok (.iaload, 1) := by decide +kernel
theorem dL_isCheap_69 : decode cL_isCheap 69 = .ok (.ifCond .le 102, 3) := by decide +kernel
theorem dL_isCheap_72 : decode cL_isCheap 72 = .ok (.aload_n 2, 1) := by decide +kernel
theorem dL_isCheap_73 : decode cL_isCheap 73 = .ok (.bipush 16, 2) := by decide +kernel
theorem dL_isCheap_75 : decode cL_isCheap 75 = .ok (.iload 9, 2) := by decide +kernel
theorem dL_isCheap_77 : decode cL_isCheap 77 = .ok (.imul, 1) := by decide +kernel
theorem dL_isCheap_78 : decode cL_isCheap 78 = .ok (.iload 10, 2) := by decide +kernel
theorem dL_isCheap_80 : decode cL_isCheap 80 = .ok (.iadd, 1) := by decide +kernel
theorem dL_isCheap_81 : decode cL_isCheap 81 = .ok (.iaload, 1) := by decide +kernel
theorem dL_isCheap_82 : decode cL_isCheap 82 = .ok (.iconst 2, 1) := by decide +kernel
theorem dL_isCheap_83 : decode cL_isCheap 83 = .ok (.if_icmp .ne 7, 3) := by decide +kernel
theorem dL_isCheap_86 : decode cL_isCheap 86 = .ok (.iconst 1, 1) := by decide +kernel
theorem dL_isCheap_87 : decode cL_isCheap 87 = .ok (.goto 4, 3) := by decide +kernel
theorem dL_isCheap_90 : decode cL_isCheap 90 = .ok (.iconst 0, 1) := by decide +kernel
theorem dL_isCheap_91 : decode cL_isCheap 91 = .ok (.istore 11, 2) := by decide +kernel
theorem dL_isCheap_93 : decode cL_isCheap 93 = .ok (.iload 7, 2) := by decide +kernel
theorem dL_isCheap_95 : decode cL_isCheap 95 = .ok (.ifCond .eq 22, 3) := by decide +kernel
theorem dL_isCheap_98 : decode cL_isCheap 98 = .ok (.aload_n 2, 1) := by decide +kernel
theorem dL_isCheap_99 : decode cL_isCheap 99 = .ok (.bipush 16, 2) := by decide +kernel
theorem dL_isCheap_101 : decode cL_isCheap 101 = .ok (.iload 9, 2) := by decide +kernel
theorem dL_isCheap_103 : decode cL_isCheap 103 = .ok (.imul, 1) := by decide +kernel
theorem dL_isCheap_104 : decode cL_isCheap 104 = .ok (.iload 10, 2) := by decide +kernel
theorem dL_isCheap_106 : decode cL_isCheap 106 = .ok (.iadd, 1) := by decide +kernel
theorem dL_isCheap_107 : decode cL_isCheap 107 = .ok (.iaload, 1) := by decide +kernel
theorem dL_isCheap_108 : decode cL_isCheap 108 = .ok (.bipush 6, 2) := by decide +kernel
theorem dL_isCheap_110 : decode cL_isCheap 110 = .ok (.if_icmp .eq 7, 3) := by decide +kernel
theorem dL_isCheap_113 : decode cL_isCheap 113 = .ok (.iconst 1, 1) := by decide +kernel
theorem dL_isCheap_114 : decode cL_isCheap 114 = .ok (.goto 4, 3) := by decide +kernel
theorem dL_isCheap_117 : decode cL_isCheap 117 = .ok (.iconst 0, 1) := by decide +kernel
theorem dL_isCheap_118 : decode cL_isCheap 118 = .ok (.istore 7, 2) := by decide +kernel
theorem dL_isCheap_120 : decode cL_isCheap 120 = .ok (.iload 6, 2) := by decide +kernel
theorem dL_isCheap_122 : decode cL_isCheap 122 = .ok (.iload 11, 2) := by decide +kernel
theorem dL_isCheap_124 : decode cL_isCheap 124 = .ok (.ifCond .eq 7, 3) := by decide +kernel
theorem dL_isCheap_127 : decode cL_isCheap 127 = .ok (.iconst 0, 1) := by decide +kernel
theorem dL_isCheap_128 : decode cL_isCheap 128 = .ok (.goto 8, 3) := by decide +kernel
theorem dL_isCheap_131 : decode cL_isCheap 131 = .ok (.aload 8, 2) := by decide +kernel
theorem dL_isCheap_133 : decode cL_isCheap 133 = .ok (.iload 9, 2) := by decide +kernel
theorem dL_isCheap_135 : decode cL_isCheap 135 = .ok (.iaload, 1) := by decide +kernel
theorem dL_isCheap_136 : decode cL_isCheap 136 = .ok (.iadd, 1) := by decide +kernel
theorem dL_isCheap_137 : decode cL_isCheap 137 = .ok (.istore 6, 2) := by decide +kernel
theorem dL_isCheap_139 : decode cL_isCheap 139 = .ok (.iload 11, 2) := by decide +kernel
theorem dL_isCheap_141 : decode cL_isCheap 141 = .ok (.ifCond .eq 24, 3) := by decide +kernel
theorem dL_isCheap_144 : decode cL_isCheap 144 = .ok (.aload 8, 2) := by decide +kernel
theorem dL_isCheap_146 : decode cL_isCheap 146 = .ok (.aload_n 3, 1) := by decide +kernel
theorem dL_isCheap_147 : decode cL_isCheap 147 = .ok (.bipush 16, 2) := by decide +kernel
theorem dL_isCheap_149 : decode cL_isCheap 149 = .ok (.iload 9, 2) := by decide +kernel
theorem dL_isCheap_151 : decode cL_isCheap 151 = .ok (.imul, 1) := by decide +kernel
theorem dL_isCheap_152 : decode cL_isCheap 152 = .ok (.iload 10, 2) := by decide +kernel
theorem dL_isCheap_154 : decode cL_isCheap 154 = .ok (.iadd, 1) := by decide +kernel
theorem dL_isCheap_155 : decode cL_isCheap 155 = .ok (.iaload, 1) := by decide +kernel
theorem dL_isCheap_156 : decode cL_isCheap 156 = .ok (.dup2, 1) := by decide +kernel
theorem dL_isCheap_157 : decode cL_isCheap 157 = .ok (.iaload, 1) := by decide +kernel
theorem dL_isCheap_158 : decode cL_isCheap 158 = .ok (.aload 8, 2) := by decide +kernel
theorem dL_isCheap_160 : decode cL_isCheap 160 = .ok (.iload 9, 2) := by decide +kernel
theorem dL_isCheap_162 : decode cL_isCheap 162 = .ok (.iaload, 1) := by decide +kernel
theorem dL_isCheap_163 : decode cL_isCheap 163 = .ok (.iadd, 1) := by decide +kernel
theorem dL_isCheap_164 : decode cL_isCheap 164 = .ok (.iastore, 1) := by decide +kernel
theorem dL_isCheap_165 : decode cL_isCheap 165 = .ok (.iinc 10 1, 3) := by decide +kernel
theorem dL_isCheap_168 : decode cL_isCheap 168 = .ok (.goto (-113), 3) := by decide +kernel
theorem dL_isCheap_171 : decode cL_isCheap 171 = .ok (.iinc 9 (-1), 3) := by decide +kernel
theorem dL_isCheap_174 : decode cL_isCheap 174 = .ok (.goto (-132), 3) := by decide +kernel
theorem dL_isCheap_177 : decode cL_isCheap 177 = .ok (.iload 7, 2) := by decide +kernel
theorem dL_isCheap_179 : decode cL_isCheap 179 = .ok (.ifCond .eq 13, 3) := by decide +kernel
theorem dL_isCheap_182 : decode cL_isCheap 182 = .ok (.iload 6, 2) := by decide +kernel
theorem dL_isCheap_184 : decode cL_isCheap 184 = .ok (.iconst 4, 1) := by decide +kernel
theorem dL_isCheap_185 : decode cL_isCheap 185 = .ok (.if_icmp .ge 7, 3) := by decide +kernel
theorem dL_isCheap_188 : decode cL_isCheap 188 = .ok (.iconst 1, 1) := by decide +kernel
theorem dL_isCheap_189 : decode cL_isCheap 189 = .ok (.goto 4, 3) := by decide +kernel
theorem dL_isCheap_192 : decode cL_isCheap 192 = .ok (.iconst 0, 1) := by decide +kernel
theorem dL_isCheap_193 : decode cL_isCheap 193 = .ok (.ireturn, 1) := by decide +kernel
theorem dL_tell_0 : decode cL_tell 0 = .ok (.iload 4, 2) := by decide +kernel
theorem dL_tell_2 : decode cL_tell 2 = .ok (.iconst 1, 1) := by decide +kernel
theorem dL_tell_3 : decode cL_tell 3 = .ok (.isub, 1) := by decide +kernel
theorem dL_tell_4 : decode cL_tell 4 = .ok (.istore 9, 2) := by decide +kernel
theorem dL_tell_6 : decode cL_tell 6 = .ok (.iload 9, 2) := by decide +kernel
theorem dL_tell_8 : decode cL_tell 8 = .ok (.ifCond .lt 347, 3) := by decide +kernel
theorem dL_tell_11 : decode cL_tell 11 = .ok (.aload_n 2, 1) := by decide +kernel
theorem dL_tell_12 : decode cL_tell 12 = .ok (.iload 9, 2) := by decide +kernel
theorem dL_tell_14 : decode cL_tell 14 = .ok (.iaload, 1) := by decide +kernel
theorem dL_tell_15 : decode cL_tell 15 = .ok (.iconst 3, 1) := by decide +kernel
theorem dL_tell_16 : decode cL_tell 16 = .ok (.if_icmp .ge 66, 3) := by decide +kernel
theorem dL_tell_19 : decode cL_tell 19 = .ok (.aload 5, 2) := by decide +kernel
theorem dL_tell_21 : decode cL_tell 21 = .ok (.iload 9, 2) := by decide +kernel
theorem dL_tell_23 : decode cL_tell 23 = .ok (.iconst 1, 1) := by decide +kernel
theorem dL_tell_24 : decode cL_tell 24 = .ok (.iastore, 1) := by decide +kernel
theorem dL_tell_25 : decode cL_tell 25 = .ok (.aload 6, 2) := by decide +kernel
theorem dL_tell_27 : decode cL_tell 27 = .ok (.iload 9, 2) := by decide +kernel
theorem dL_tell_29 : decode cL_tell 29 = .ok (.iconst 1, 1) := by decide +kernel
theorem dL_tell_30 : decode cL_tell 30 = .ok (.iastore, 1) := by decide +kernel
theorem dL_tell_31 : decode cL_tell 31 = .ok (.aload 7, 2) := by decide +kernel
theorem dL_tell_33 : decode cL_tell 33 = .ok (.iload 9, 2) := by decide +kernel
theorem dL_tell_35 : decode cL_tell 35 = .ok (.iconst 1, 1) := by decide +kernel
theorem dL_tell_36 : decode cL_tell 36 = .ok (.iastore, 1) := by decide +kernel
theorem dL_tell_37 : decode cL_tell 37 = .ok (.aload 8, 2) := by decide +kernel
theorem dL_tell_39 : decode cL_tell 39 = .ok (.iload 9, 2) := by decide +kernel
theorem dL_tell_41 : decode cL_tell 41 = .ok (.aload_n 2, 1) := by decide +kernel
theorem dL_tell_42 : decode cL_tell 42 = .ok (.iload 9, 2) := by decide +kernel
theorem dL_tell_44 : decode cL_tell 44 = .ok (.iaload, 1) := by decide +kernel
theorem dL_tell_45 : decode cL_tell 45 = .ok (.ifCond .ne 10, 3) := by decide +kernel
theorem dL_tell_48 : decode cL_tell 48 = .ok (.aload_n 3, 1) := by decide +kernel
theorem dL_tell_49 : decode cL_tell 49 = .ok (.iload 9, 2) := by decide +kernel
theorem dL_tell_51 : decode cL_tell 51 = .ok (.iaload, 1) := by decide +kernel
theorem dL_tell_52 : decode cL_tell 52 = .ok (.goto 26, 3) := by decide +kernel
theorem dL_tell_55 : decode cL_tell 55 = .ok (.aload_n 2, 1) := by decide +kernel
theorem dL_tell_56 : decode cL_tell 56 = .ok (.iload 9, 2) := by decide +kernel
theorem dL_tell_58 : decode cL_tell 58 = .ok (.iaload, 1) := by decide +kernel
theorem dL_tell_59 : decode cL_tell 59 = .ok (.iconst 1, 1) := by decide +kernel
theorem dL_tell_60 : decode cL_tell 60 = .ok (.if_icmp .ne 12, 3) := by decide +kernel
theorem dL_tell_63 : decode cL_tell 63 = .ok (.aload_n 0, 1) := by decide +kernel
theorem dL_tell_64 : decode cL_tell 64 = .ok (.aload_n 3, 1) := by decide +kernel
theorem dL_tell_65 : decode cL_tell 65 = .ok (.iload 9, 2) := by decide +kernel
theorem dL_tell_67 : decode cL_tell 67 = .ok (.iaload, 1) := by decide +kernel
theorem dL_tell_68 : decode cL_tell 68 = .ok (.iaload, 1) := by decide +kernel
theorem dL_tell_69 : decode cL_tell 69 = .ok (.goto 9, 3) := by decide +kernel
theorem dL_tell_72 : decode cL_tell 72 = .ok (.aload_n 1, 1) := by decide +kernel
theorem dL_tell_73 : decode cL_tell 73 = .ok (.aload_n 3, 1) := by decide +kernel
theorem dL_tell_74 : decode cL_tell 74 = .ok (.iload 9, 2) := by decide +kernel
theorem dL_tell_76 : decode cL_tell 76 = .ok (.iaload, 1) := by decide +kernel
theorem dL_tell_77 : decode cL_tell 77 = .ok (.iaload, 1) := by decide +kernel
theorem dL_tell_78 : decode cL_tell 78 = .ok (.iastore, 1) := by decide +kernel
theorem dL_tell_79 : decode cL_tell 79 = .ok (.goto 270, 3) := by decide +kernel
theorem dL_tell_82 : decode cL_tell 82 = .ok (.iload 9, 2) := by decide +kernel
theorem dL_tell_84 : decode cL_tell 84 = .ok (.iconst 1, 1) := by decide +kernel
theorem dL_tell_85 : decode cL_tell 85 = .ok (.iadd, 1) := by decide +kernel
theorem dL_tell_86 : decode cL_tell 86 = .ok (.istore 10, 2) := by decide +kernel
theorem dL_tell_88 : decode cL_tell 88 = .ok (.aload_n 2, 1) := by decide +kernel
theorem dL_tell_89 : decode cL_tell 89 = .ok (.iload 9, 2) := by decide +kernel
theorem dL_tell_91 : decode cL_tell 91 = .ok (.iaload, 1) := by decide +kernel
theorem dL_tell_92 : decode cL_tell 92 = .ok (.iconst 3, 1) := by decide +kernel
theorem dL_tell_93 : decode cL_tell 93 = .ok (.if_icmp .ne 8, 3) := by decide +kernel
theorem dL_tell_96 : decode cL_tell 96 = .ok (.iload 10, 2) := by decide +kernel
theorem dL_tell_98 : decode cL_tell 98 = .ok (.goto 11, 3) := by decide +kernel
theorem dL_tell_101 : decode cL_tell 101 = .ok (.iload 10, 2) := by decide +kernel
theorem dL_tell_103 : decode cL_tell 103 = .ok (.aload 5, 2) := by decide +kernel
theorem dL_tell_105 : decode cL_tell 105 = .ok (.iload 10, 2) := by decide +kernel
theorem dL_tell_107 : decode cL_tell 107 = .ok (.iaload, 1) := by decide +kernel
theorem dL_tell_108 : decode cL_tell 108 = .ok (.iadd, 1) := by decide +kernel
theorem dL_tell_109 : decode cL_tell 109 = .ok (.istore 11, 2) := by decide +kernel
theorem dL_tell_111 : decode cL_tell 111 = .ok (.aload 5, 2) := by decide +kernel
theorem dL_tell_113 : decode cL_tell 113 = .ok (.iload 9, 2) := by decide +kernel
theorem dL_tell_115 : decode cL_tell 115 = .ok (.iconst 1, 1) := by decide +kernel
theorem dL_tell_116 : decode cL_tell 116 = .ok (.aload 5, 2) := by decide +kernel
theorem dL_tell_118 : decode cL_tell 118 = .ok (.iload 10, 2) := by decide +kernel
theorem dL_tell_120 : decode cL_tell 120 = .ok (.iaload, 1) := by decide +kernel
theorem dL_tell_121 : decode cL_tell 121 = .ok (.iadd, 1) := by decide +kernel
theorem dL_tell_122 : decode cL_tell 122 = .ok (.iload 11, 2) := by decide +kernel
theorem dL_tell_124 : decode cL_tell 124 = .ok (.iload 10, 2) := by decide +kernel
theorem dL_tell_126 : decode cL_tell 126 = .ok (.if_icmp .le 11, 3) := by decide +kernel
theorem dL_tell_129 : decode cL_tell 129 = .ok (.aload 5, 2) := by decide +kernel
theorem dL_tell_131 : decode cL_tell 131 = .ok (.iload 11, 2) := by decide +kernel
theorem dL_tell_133 : decode cL_tell 133 = .ok (.iaload, 1) := by decide +kernel
theorem dL_tell_134 : decode cL_tell 134 = .ok (.goto 4, 3) := by decide +kernel
theorem dL_tell_137 : decode cL_tell 137 = .ok (.iconst 0, 1) := by decide +kernel
theorem dL_tell_138 : decode cL_tell 138 = .ok (.iadd, 1) := by decide +kernel
theorem dL_tell_139 : decode cL_tell 139 = .ok (.iastore, 1) := by decide +kernel
theorem dL_tell_140 : decode cL_tell 140 = .ok (.aload 6, 2) := by decide +kernel
theorem dL_tell_142 : decode cL_tell 142 = .ok (.iload 9, 2) := by decide +kernel
theorem dL_tell_144 : decode cL_tell 144 = .ok (.aload 6, 2) := by decide +kernel
theorem dL_tell_146 : decode cL_tell 146 = .ok (.iload 10, 2) := by decide +kernel
theorem dL_tell_148 : decode cL_tell 148 = .ok (.iaload, 1) := by decide +kernel
theorem dL_tell_149 : decode cL_tell 149 = .ok (.aload 6, 2) := by decide +kernel
theorem dL_tell_151 : decode cL_tell 151 = .ok (.iload 11, 2) := by decide +kernel
theorem dL_tell_153 : decode cL_tell 153 = .ok (.iaload, 1) := by decide +kernel
theorem dL_tell_154 : decode cL_tell 154 = .ok (.if_icmp .le 11, 3) := by decide +kernel
theorem dL_tell_157 : decode cL_tell 157 = .ok (.aload 6, 2) := by decide +kernel
theorem dL_tell_159 : decode cL_tell 159 = .ok (.iload 10, 2) := by decide +kernel
theorem dL_tell_161 : decode cL_tell 161 = .ok (.iaload, 1) := by decide +kernel
theorem dL_tell_162 : decode cL_tell 162 = .ok (.goto 38, 3) := by decide +kernel
theorem dL_tell_165 : decode cL_tell 165 = .ok (.aload 6, 2) := by decide +kernel
theorem dL_tell_167 : decode cL_tell 167 = .ok (.iload 11, 2) := by decide +kernel
theorem dL_tell_169 : decode cL_tell 169 = .ok (.iaload, 1) := by decide +kernel
theorem dL_tell_170 : decode cL_tell 170 = .ok (.aload 6, 2) := by decide +kernel
theorem dL_tell_172 : decode cL_tell 172 = .ok (.iload 10, 2) := by decide +kernel
theorem dL_tell_174 : decode cL_tell 174 = .ok (.iaload, 1) := by decide +kernel
theorem dL_tell_175 : decode cL_tell 175 = .ok (.if_icmp .gt 10, 3) := by decide +kernel
theorem dL_tell_178 : decode cL_tell 178 = .ok (.iload 11, 2) := by decide +kernel
theorem dL_tell_180 : decode cL_tell 180 = .ok (.iload 10, 2) := by decide +kernel
theorem dL_tell_182 : decode cL_tell 182 = .ok (.if_icmp .ne 11, 3) := by decide +kernel
theorem dL_tell_185 : decode cL_tell 185 = .ok (.aload 6, 2) := by decide +kernel
theorem dL_tell_187 : decode cL_tell 187 = .ok (.iload 11, 2) := by decide +kernel
theorem dL_tell_189 : decode cL_tell 189 = .ok (.iaload, 1) := by decide +kernel
theorem dL_tell_190 : decode cL_tell 190 = .ok (.goto 10, 3) := by decide +kernel
theorem dL_tell_193 : decode cL_tell 193 = .ok (.aload 6, 2) := by decide +kernel
theorem dL_tell_195 : decode cL_tell 195 = .ok (.iload 10, 2) := by decide +kernel
theorem dL_tell_197 : decode cL_tell 197 = .ok (.iaload, 1) := by decide +kernel
theorem dL_tell_198 : decode cL_tell 198 = .ok (.iconst 1, 1) := by decide +kernel
theorem dL_tell_199 : decode cL_tell 199 = .ok (.iadd, 1) := by decide +kernel
theorem dL_tell_200 : decode cL_tell 200 = .ok (.iastore, 1) := by decide +kernel
theorem dL_tell_201 : decode cL_tell 201 = .ok (.aload 7, 2) := by decide +kernel
theorem dL_tell_203 : decode cL_tell 203 = .ok (.iload 9, 2) := by decide +kernel
theorem dL_tell_205 : decode cL_tell 205 = .ok (.iconst 1, 1) := by decide +kernel
theorem dL_tell_206 : decode cL_tell 206 = .ok (.aload 7, 2) := by decide +kernel
theorem dL_tell_208 : decode cL_tell 208 = .ok (.iload 10, 2) := by decide +kernel
theorem dL_tell_210 : decode cL_tell 210 = .ok (.iaload, 1) := by decide +kernel
theorem dL_tell_211 : decode cL_tell 211 = .ok (.aload 7, 2) := by decide +kernel
theorem dL_tell_213 : decode cL_tell 213 = .ok (.iload 11, 2) := by decide +kernel
theorem dL_tell_215 : decode cL_tell 215 = .ok (.iaload, 1) := by decide +kernel
theorem dL_tell_216 : decode cL_tell 216 = .ok (.if_icmp .le 11, 3) := by decide +kernel
theorem dL_tell_219 : decode cL_tell 219 = .ok (.aload 7, 2) := by decide +kernel
theorem dL_tell_221 : decode cL_tell 221 = .ok (.iload 10, 2) := by decide +kernel
theorem dL_tell_223 : decode cL_tell 223 = .ok (.iaload, 1) := by decide +kernel
theorem dL_tell_224 : decode cL_tell 224 = .ok (.goto 8, 3) := by decide +kernel
theorem dL_tell_227 : decode cL_tell 227 = .ok (.aload 7, 2) := by decide +kernel
theorem dL_tell_229 : decode cL_tell 229 = .ok (.iload 11, 2) := by decide +kernel
theorem dL_tell_231 : decode cL_tell 231 = .ok (.iaload, 1) := by decide +kernel
theorem dL_tell_232 : decode cL_tell 232 = .ok (.iadd, 1) := by decide +kernel
theorem dL_tell_233 : decode cL_tell 233 = .ok (.iastore, 1) := by decide +kernel
theorem dL_tell_234 : decode cL_tell 234 = .ok (.aload_n 2, 1) := by decide +kernel
theorem dL_tell_235 : decode cL_tell 235 = .ok (.iload 9, 2) := by decide +kernel
theorem dL_tell_237 : decode cL_tell 237 = .ok (.iaload, 1) := by decide +kernel
theorem dL_tell_238 : decode cL_tell 238 = .ok (.iconst 3, 1) := by decide +kernel
theorem dL_tell_239 : decode cL_tell 239 = .ok (.if_icmp .ne 13, 3) := by decide +kernel
theorem dL_tell_242 : decode cL_tell 242 = .ok (.aload 8, 2) := by decide +kernel
theorem dL_tell_244 : decode cL_tell 244 = .ok (.iload 10, 2) := by decide +kernel
theorem dL_tell_246 : decode cL_tell 246 = .ok (.iaload, 1) := by decide +kernel
theorem dL_tell_247 : decode cL_tell 247 = .ok (.ineg, 1) := by decide +kernel
theorem dL_tell_248 : decode cL_tell 248 = .ok (.i2l, 1) := by decide +kernel
theorem dL_tell_249 : decode cL_tell 249 = .ok (.goto 62, 3) := by decide +kernel
theorem dL_tell_252 : decode cL_tell 252 = .ok (.aload_n 2, 1) := by decide +kernel
theorem dL_tell_253 : decode cL_tell 253 = .ok (.iload 9, 2) := by decide +kernel
theorem dL_tell_255 : decode cL_tell 255 = .ok (.iaload, 1) := by decide +kernel
theorem dL_tell_256 : decode cL_tell 256 = .ok (.iconst 4, 1) := by decide +kernel
theorem dL_tell_257 : decode cL_tell 257 = .ok (.if_icmp .ne 18, 3) := by decide +kernel
theorem dL_tell_260 : decode cL_tell 260 = .ok (.aload 8, 2) := by decide +kernel
theorem dL_tell_262 : decode cL_tell 262 = .ok (.iload 10, 2) := by decide +kernel
theorem dL_tell_264 : decode cL_tell 264 = .ok (.iaload, 1) := by decide +kernel
theorem dL_tell_265 : decode cL_tell 265 = .ok (.aload 8, 2) := by decide +kernel
theorem dL_tell_267 : decode cL_tell 267 = .ok (.iload 11, 2) := by decide +kernel
theorem dL_tell_269 : decode cL_tell 269 = .ok (.iaload, 1) := by decide +kernel
theorem dL_tell_270 : decode cL_tell 270 = .ok (.iadd, 1) := by decide +kernel
theorem dL_tell_271 : decode cL_tell 271 = .ok (.i2l, 1) := by decide +kernel
theorem dL_tell_272 : decode cL_tell 272 = .ok (.goto 39, 3) := by decide +kernel
theorem dL_tell_275 : decode cL_tell 275 = .ok (.aload_n 2, 1) := by decide +kernel
theorem dL_tell_276 : decode cL_tell 276 = .ok (.iload 9, 2) := by decide +kernel
theorem dL_tell_278 : decode cL_tell 278 = .ok (.iaload, 1) := by decide +kernel
theorem dL_tell_279 : decode cL_tell 279 = .ok (.iconst 5, 1) := by decide +kernel
theorem dL_tell_280 : decode cL_tell 280 = .ok (.if_icmp .ne 18, 3) := by decide +kernel
theorem dL_tell_283 : decode cL_tell 283 = .ok (.aload 8, 2) := by decide +kernel
theorem dL_tell_285 : decode cL_tell 285 = .ok (.iload 10, 2) := by decide +kernel
theorem dL_tell_287 : decode cL_tell 287 = .ok (.iaload, 1) := by decide +kernel
theorem dL_tell_288 : decode cL_tell 288 = .ok (.aload 8, 2) := by decide +kernel
theorem dL_tell_290 : decode cL_tell 290 = .ok (.iload 11, 2) := by decide +kernel
theorem dL_tell_292 : decode cL_tell 292 = .ok (.iaload, 1) := by decide +kernel
theorem dL_tell_293 : decode cL_tell 293 = .ok (.isub, 1) := by decide +kernel
theorem dL_tell_294 : decode cL_tell 294 = .ok (.i2l, 1) := by decide +kernel
theorem dL_tell_295 : decode cL_tell 295 = .ok (.goto 16, 3) := by decide +kernel
theorem dL_tell_298 : decode cL_tell 298 = .ok (.aload 8, 2) := by decide +kernel
theorem dL_tell_300 : decode cL_tell 300 = .ok (.iload 10, 2) := by decide +kernel
theorem dL_tell_302 : decode cL_tell 302 = .ok (.iaload, 1) := by decide +kernel
theorem dL_tell_303 : decode cL_tell 303 = .ok (.i2l, 1) := by decide +kernel
theorem dL_tell_304 : decode cL_tell 304 = .ok (.aload 8, 2) := by decide +kernel
theorem dL_tell_306 : decode cL_tell 306 = .ok (.iload 11, 2) := by decide +kernel
theorem dL_tell_308 : decode cL_tell 308 = .ok (.iaload, 1) := by decide +kernel
theorem dL_tell_309 : decode cL_tell 309 = .ok (.i2l, 1) := by decide +kernel
theorem dL_tell_310 : decode cL_tell 310 = .ok (.lmul, 1) := by decide +kernel
theorem dL_tell_311 : decode cL_tell 311 = .ok (.lstore 12, 2) := by decide +kernel
theorem dL_tell_313 : decode cL_tell 313 = .ok (.aload 8, 2) := by decide +kernel
theorem dL_tell_315 : decode cL_tell 315 = .ok (.iload 9, 2) := by decide +kernel
theorem dL_tell_317 : decode cL_tell 317 = .ok (.lload 12, 2) := by decide +kernel
theorem dL_tell_319 : decode cL_tell 319 = .ok (.ldc2_w 15, 3) := by decide +kernel
theorem dL_tell_322 : decode cL_tell 322 = .ok (.lcmp, 1) := by decide +kernel
theorem dL_tell_323 : decode cL_tell 323 = .ok (.ifCond .le 8, 3) := by decide +kernel
theorem dL_tell_326 : decode cL_tell 326 = .ok (.ldc 17, 2) := by decide +kernel
theorem dL_tell_328 : decode cL_tell 328 = .ok (.goto 20, 3) := by decide +kernel
theorem dL_tell_331 : decode cL_tell 331 = .ok (.lload 12, 2) := by decide +kernel
theorem dL_tell_333 : decode cL_tell 333 = .ok (.ldc2_w 18, 3) := by decide +kernel
theorem dL_tell_336 : decode cL_tell 336 = .ok (.lcmp, 1) := by decide +kernel
theorem dL_tell_337 : decode cL_tell 337 = .ok (.ifCond .ge 8, 3) := by decide +kernel
theorem dL_tell_340 : decode cL_tell 340 = .ok (.ldc 20, 2) := by decide +kernel
theorem dL_tell_342 : decode cL_tell 342 = .ok (.goto 6, 3) := by decide +kernel
theorem dL_tell_345 : decode cL_tell 345 = .ok (.lload 12, 2) := by decide +kernel
theorem dL_tell_347 : decode cL_tell 347 = .ok (.l2i, 1) := by decide +kernel
theorem dL_tell_348 : decode cL_tell 348 = .ok (.iastore, 1) := by decide +kernel
theorem dL_tell_349 : decode cL_tell 349 = .ok (.iinc 9 (-1), 3) := by decide +kernel
theorem dL_tell_352 : decode cL_tell 352 = .ok (.goto (-346), 3) := by decide +kernel
theorem dL_tell_355 : decode cL_tell 355 = .ok (.return_, 1) := by decide +kernel
theorem dL_worths_0 : decode cL_worths 0 = .ok (.iconst 0, 1) := by decide +kernel
theorem dL_worths_1 : decode cL_worths 1 = .ok (.istore 6, 2) := by decide +kernel
theorem dL_worths_3 : decode cL_worths 3 = .ok (.iload 6, 2) := by decide +kernel
theorem dL_worths_5 : decode cL_worths 5 = .ok (.aload_n 0, 1) := by decide +kernel
theorem dL_worths_6 : decode cL_worths 6 = .ok (.iconst 0, 1) := by decide +kernel
theorem dL_worths_7 : decode cL_worths 7 = .ok (.iaload, 1) := by decide +kernel
theorem dL_worths_8 : decode cL_worths 8 = .ok (.if_icmp .ge 82, 3) := by decide +kernel
theorem dL_worths_11 : decode cL_worths 11 = .ok (.bipush 64, 2) := by decide +kernel
theorem dL_worths_13 : decode cL_worths 13 = .ok (.newarray .int, 2) := by decide +kernel
theorem dL_worths_15 : decode cL_worths 15 = .ok (.astore 7, 2) := by decide +kernel
theorem dL_worths_17 : decode cL_worths 17 = .ok (.bipush 64, 2) := by decide +kernel
theorem dL_worths_19 : decode cL_worths 19 = .ok (.newarray .int, 2) := by decide +kernel
theorem dL_worths_21 : decode cL_worths 21 = .ok (.astore 8, 2) := by decide +kernel
theorem dL_worths_23 : decode cL_worths 23 = .ok (.bipush 64, 2) := by decide +kernel
theorem dL_worths_25 : decode cL_worths 25 = .ok (.newarray .int, 2) := by decide +kernel
theorem dL_worths_27 : decode cL_worths 27 = .ok (.astore 9, 2) := by decide +kernel
theorem dL_worths_29 : decode cL_worths 29 = .ok (.bipush 64, 2) := by decide +kernel
theorem dL_worths_31 : decode cL_worths 31 = .ok (.newarray .int, 2) := by decide +kernel
theorem dL_worths_33 : decode cL_worths 33 = .ok (.astore 10, 2) := by decide +kernel
theorem dL_worths_35 : decode cL_worths 35 = .ok (.aload_n 0, 1) := by decide +kernel
theorem dL_worths_36 : decode cL_worths 36 = .ok (.aload_n 2, 1) := by decide +kernel
theorem dL_worths_37 : decode cL_worths 37 = .ok (.aload_n 3, 1) := by decide +kernel
theorem dL_worths_38 : decode cL_worths 38 = .ok (.aload 4, 2) := by decide +kernel
theorem dL_worths_40 : decode cL_worths 40 = .ok (.iload 6, 2) := by decide +kernel
theorem dL_worths_42 : decode cL_worths 42 = .ok (.aload 7, 2) := by decide +kernel
theorem dL_worths_44 : decode cL_worths 44 = .ok (.aload 8, 2) := by decide +kernel
theorem dL_worths_46 : decode cL_worths 46 = .ok (.invokestatic 21, 3) := by decide +kernel
theorem dL_worths_49 : decode cL_worths 49 = .ok (.istore 11, 2) := by decide +kernel
theorem dL_worths_51 : decode cL_worths 51 = .ok (.aload_n 1, 1) := by decide +kernel
theorem dL_worths_52 : decode cL_worths 52 = .ok (.aload 5, 2) := by decide +kernel
theorem dL_worths_54 : decode cL_worths 54 = .ok (.aload 7, 2) := by decide +kernel
theorem dL_worths_56 : decode cL_worths 56 = .ok (.aload 8, 2) := by decide +kernel
theorem dL_worths_58 : decode cL_worths 58 = .ok (.iload 11, 2) := by decide +kernel
theorem dL_worths_60 : decode cL_worths 60 = .ok (.aload 9, 2) := by decide +kernel
theorem dL_worths_62 : decode cL_worths 62 = .ok (.bipush 64, 2) := by decide +kernel
theorem dL_worths_64 : decode cL_worths 64 = .ok (.newarray .int, 2) := by decide +kernel
theorem dL_worths_66 : decode cL_worths 66 = .ok (.bipush 64, 2) := by decide +kernel
theorem dL_worths_68 : decode cL_worths 68 = .ok (.newarray .int, 2) := by decide +kernel
theorem dL_worths_70 : decode cL_worths 70 = .ok (.aload 10, 2) := by decide +kernel
theorem dL_worths_72 : decode cL_worths 72 = .ok (.invokestatic 25, 3) := by decide +kernel
theorem dL_worths_75 : decode cL_worths 75 = .ok (.aload 5, 2) := by decide +kernel
theorem dL_worths_77 : decode cL_worths 77 = .ok (.iload 6, 2) := by decide +kernel
theorem dL_worths_79 : decode cL_worths 79 = .ok (.aload 10, 2) := by decide +kernel
theorem dL_worths_81 : decode cL_worths 81 = .ok (.iconst 0, 1) := by decide +kernel
theorem dL_worths_82 : decode cL_worths 82 = .ok (.iaload, 1) := by decide +kernel
theorem dL_worths_83 : decode cL_worths 83 = .ok (.iastore, 1) := by decide +kernel
theorem dL_worths_84 : decode cL_worths 84 = .ok (.iinc 6 1, 3) := by decide +kernel
theorem dL_worths_87 : decode cL_worths 87 = .ok (.goto (-84), 3) := by decide +kernel
theorem dL_worths_90 : decode cL_worths 90 = .ok (.return_, 1) := by decide +kernel
theorem dL_put_0 : decode cL_put 0 = .ok (.aload_n 1, 1) := by decide +kernel
theorem dL_put_1 : decode cL_put 1 = .ok (.iconst 0, 1) := by decide +kernel
theorem dL_put_2 : decode cL_put 2 = .ok (.dup2, 1) := by decide +kernel
theorem dL_put_3 : decode cL_put 3 = .ok (.iaload, 1) := by decide +kernel
theorem dL_put_4 : decode cL_put 4 = .ok (.iconst 1, 1) := by decide +kernel
theorem dL_put_5 : decode cL_put 5 = .ok (.iadd, 1) := by decide +kernel
theorem dL_put_6 : decode cL_put 6 = .ok (.iastore, 1) := by decide +kernel
theorem dL_put_7 : decode cL_put 7 = .ok (.aload_n 0, 1) := by decide +kernel
theorem dL_put_8 : decode cL_put 8 = .ok (.iload_n 2, 1) := by decide +kernel
theorem dL_put_9 : decode cL_put 9 = .ok (.invokevirtual 29, 3) := by decide +kernel
theorem dL_put_12 : decode cL_put 12 = .ok (.aload_n 1, 1) := by decide +kernel
theorem dL_put_13 : decode cL_put 13 = .ok (.iconst 0, 1) := by decide +kernel
theorem dL_put_14 : decode cL_put 14 = .ok (.iaload, 1) := by decide +kernel
theorem dL_put_15 : decode cL_put 15 = .ok (.if_icmp .ne 7, 3) := by decide +kernel
theorem dL_put_18 : decode cL_put 18 = .ok (.iconst 1, 1) := by decide +kernel
theorem dL_put_19 : decode cL_put 19 = .ok (.goto 4, 3) := by decide +kernel
theorem dL_put_22 : decode cL_put 22 = .ok (.iconst 0, 1) := by decide +kernel
theorem dL_put_23 : decode cL_put 23 = .ok (.ireturn, 1) := by decide +kernel
theorem dL_grow_0 : decode cL_grow 0 = .ok (.iconst 0, 1) := by decide +kernel
theorem dL_grow_1 : decode cL_grow 1 = .ok (.istore 5, 2) := by decide +kernel
theorem dL_grow_3 : decode cL_grow 3 = .ok (.iload 5, 2) := by decide +kernel
theorem dL_grow_5 : decode cL_grow 5 = .ok (.bipush 15, 2) := by decide +kernel
theorem dL_grow_7 : decode cL_grow 7 = .ok (.if_icmp .ge 232, 3) := by decide +kernel
theorem dL_grow_10 : decode cL_grow 10 = .ok (.iload_n 2, 1) := by decide +kernel
theorem dL_grow_11 : decode cL_grow 11 = .ok (.iload 5, 2) := by decide +kernel
theorem dL_grow_13 : decode cL_grow 13 = .ok (.iconst 3, 1) := by decide +kernel
theorem dL_grow_14 : decode cL_grow 14 = .ok (.iadd, 1) := by decide +kernel
theorem dL_grow_15 : decode cL_grow 15 = .ok (.idiv, 1) := by decide +kernel
theorem dL_grow_16 : decode cL_grow 16 = .ok (.sipush 7919, 3) := by decide +kernel
theorem dL_grow_19 : decode cL_grow 19 = .ok (.iload 5, 2) := by decide +kernel
theorem dL_grow_21 : decode cL_grow 21 = .ok (.imul, 1) := by decide +kernel
theorem dL_grow_22 : decode cL_grow 22 = .ok (.iadd, 1) := by decide +kernel
theorem dL_grow_23 : decode cL_grow 23 = .ok (.ldc 35, 2) := by decide +kernel
theorem dL_grow_25 : decode cL_grow 25 = .ok (.invokestatic 36, 3) := by decide +kernel
theorem dL_grow_28 : decode cL_grow 28 = .ok (.istore 6, 2) := by decide +kernel
theorem dL_grow_30 : decode cL_grow 30 = .ok (.iload 5, 2) := by decide +kernel
theorem dL_grow_32 : decode cL_grow 32 = .ok (.ifCond .ne 7, 3) := by decide +kernel
theorem dL_grow_35 : decode cL_grow 35 = .ok (.iconst 0, 1) := by decide +kernel
theorem dL_grow_36 : decode cL_grow 36 = .ok (.goto 25, 3) := by decide +kernel
theorem dL_grow_39 : decode cL_grow 39 = .ok (.iload 5, 2) := by decide +kernel
theorem dL_grow_41 : decode cL_grow 41 = .ok (.iconst 3, 1) := by decide +kernel
theorem dL_grow_42 : decode cL_grow 42 = .ok (.if_icmp .ge 7, 3) := by decide +kernel
theorem dL_grow_45 : decode cL_grow 45 = .ok (.iconst 1, 1) := by decide +kernel
theorem dL_grow_46 : decode cL_grow 46 = .ok (.goto 15, 3) := by decide +kernel
theorem dL_grow_49 : decode cL_grow 49 = .ok (.iload 5, 2) := by decide +kernel
theorem dL_grow_51 : decode cL_grow 51 = .ok (.bipush 7, 2) := by decide +kernel
theorem dL_grow_53 : decode cL_grow 53 = .ok (.if_icmp .ge 7, 3) := by decide +kernel
theorem dL_grow_56 : decode cL_grow 56 = .ok (.iconst 2, 1) := by decide +kernel
theorem dL_grow_57 : decode cL_grow 57 = .ok (.goto 4, 3) := by decide +kernel
theorem dL_grow_60 : decode cL_grow 60 = .ok (.iconst 3, 1) := by decide +kernel
theorem dL_grow_61 : decode cL_grow 61 = .ok (.istore 7, 2) := by decide +kernel
theorem dL_grow_63 : decode cL_grow 63 = .ok (.iload 6, 2) := by decide +kernel
theorem dL_grow_65 : decode cL_grow 65 = .ok (.bipush 7, 2) := by decide +kernel
theorem dL_grow_67 : decode cL_grow 67 = .ok (.irem, 1) := by decide +kernel
theorem dL_grow_68 : decode cL_grow 68 = .ok (.istore 8, 2) := by decide +kernel
theorem dL_grow_70 : decode cL_grow 70 = .ok (.iload 7, 2) := by decide +kernel
theorem dL_grow_72 : decode cL_grow 72 = .ok (.iload_n 3, 1) := by decide +kernel
theorem dL_grow_73 : decode cL_grow 73 = .ok (.if_icmp .ge 30, 3) := by decide +kernel
theorem dL_grow_76 : decode cL_grow 76 = .ok (.iload 7, 2) := by decide +kernel
theorem dL_grow_78 : decode cL_grow 78 = .ok (.ifCond .ne 14, 3) := by decide +kernel
theorem dL_grow_81 : decode cL_grow 81 = .ok (.iload 6, 2) := by decide +kernel
theorem dL_grow_83 : decode cL_grow 83 = .ok (.bipush 9, 2) := by decide +kernel
theorem dL_grow_85 : decode cL_grow 85 = .ok (.irem, 1) := by decide +kernel
theorem dL_grow_86 : decode cL_grow 86 = .ok (.ifCond .le 17, 3) := by decide +kernel
theorem dL_grow_89 : decode cL_grow 89 = .ok (.goto 10, 3) := by decide +kernel
theorem dL_grow_92 : decode cL_grow 92 = .ok (.iload 6, 2) := by decide +kernel
theorem dL_grow_94 : decode cL_grow 94 = .ok (.iconst 3, 1) := by decide +kernel
theorem dL_grow_95 : decode cL_grow 95 = .ok (.irem, 1) := by decide +kernel
theorem dL_grow_96 : decode cL_grow 96 = .ok (.ifCond .le 7, 3) := by decide +kernel
theorem dL_grow_99 : decode cL_grow 99 = .ok (.iconst 1, 1) := by decide +kernel
theorem dL_grow_100 : decode cL_grow 100 = .ok (.goto 4, 3) := by decide +kernel
theorem dL_grow_103 : decode cL_grow 103 = .ok (.iconst 0, 1) := by decide +kernel
theorem dL_grow_104 : decode cL_grow 104 = .ok (.istore 9, 2) := by decide +kernel
theorem dL_grow_106 : decode cL_grow 106 = .ok (.aload_n 0, 1) := by decide +kernel
theorem dL_grow_107 : decode cL_grow 107 = .ok (.iload 5, 2) := by decide +kernel
theorem dL_grow_109 : decode cL_grow 109 = .ok (.iload 9, 2) := by decide +kernel
theorem dL_grow_111 : decode cL_grow 111 = .ok (.ifCond .eq 38, 3) := by decide +kernel
theorem dL_grow_114 : decode cL_grow 114 = .ok (.iload 8, 2) := by decide +kernel
theorem dL_grow_116 : decode cL_grow 116 = .ok (.iconst 1, 1) := by decide +kernel
theorem dL_grow_117 : decode cL_grow 117 = .ok (.if_icmp .ge 7, 3) := by decide +kernel
theorem dL_grow_120 : decode cL_grow 120 = .ok (.iconst 3, 1) := by decide +kernel
theorem dL_grow_121 : decode cL_grow 121 = .ok (.goto 49, 3) := by decide +kernel
theorem dL_grow_124 : decode cL_grow 124 = .ok (.iload 8, 2) := by decide +kernel
theorem dL_grow_126 : decode cL_grow 126 = .ok (.iconst 3, 1) := by decide +kernel
theorem dL_grow_127 : decode cL_grow 127 = .ok (.if_icmp .ge 7, 3) := by decide +kernel
theorem dL_grow_130 : decode cL_grow 130 = .ok (.iconst 4, 1) := by decide +kernel
theorem dL_grow_131 : decode cL_grow 131 = .ok (.goto 39, 3) := by decide +kernel
theorem dL_grow_134 : decode cL_grow 134 = .ok (.iload 8, 2) := by decide +kernel
theorem dL_grow_136 : decode cL_grow 136 = .ok (.iconst 5, 1) := by decide +kernel
theorem dL_grow_137 : decode cL_grow 137 = .ok (.if_icmp .ge 7, 3) := by decide +kernel
theorem dL_grow_140 : decode cL_grow 140 = .ok (.iconst 5, 1) := by decide +kernel
theorem dL_grow_141 : decode cL_grow 141 = .ok (.goto 29, 3) := by decide +kernel
theorem dL_grow_144 : decode cL_grow 144 = .ok (.bipush 6, 2) := by decide +kernel
theorem dL_grow_146 : decode cL_grow 146 = .ok (.goto 24, 3) := by decide +kernel
theorem dL_grow_149 : decode cL_grow 149 = .ok (.iload 4, 2) := by decide +kernel
theorem dL_grow_151 : decode cL_grow 151 = .ok (.ifCond .le 15, 3) := by decide +kernel
theorem dL_grow_154 : decode cL_grow 154 = .ok (.iload 6, 2) := by decide +kernel
theorem dL_grow_156 : decode cL_grow 156 = .ok (.iconst 4, 1) := by decide +kernel
theorem dL_grow_157 : decode cL_grow 157 = .ok (.irem, 1) := by decide +kernel
theorem dL_grow_158 : decode cL_grow 158 = .ok (.iconst 1, 1) := by decide +kernel
theorem dL_grow_159 : decode cL_grow 159 = .ok (.if_icmp .ne 7, 3) := by decide +kernel
theorem dL_grow_162 : decode cL_grow 162 = .ok (.iconst 2, 1) := by decide +kernel
theorem dL_grow_163 : decode cL_grow 163 = .ok (.goto 7, 3) := by decide +kernel
theorem dL_grow_166 : decode cL_grow 166 = .ok (.iload 6, 2) := by decide +kernel
theorem dL_grow_168 : decode cL_grow 168 = .ok (.iconst 2, 1) := by decide +kernel
theorem dL_grow_169 : decode cL_grow 169 = .ok (.irem, 1) := by decide +kernel
theorem dL_grow_170 : decode cL_grow 170 = .ok (.iastore, 1) := by decide +kernel
theorem dL_grow_171 : decode cL_grow 171 = .ok (.aload_n 1, 1) := by decide +kernel
theorem dL_grow_172 : decode cL_grow 172 = .ok (.iload 5, 2) := by decide +kernel
theorem dL_grow_174 : decode cL_grow 174 = .ok (.aload_n 0, 1) := by decide +kernel
theorem dL_grow_175 : decode cL_grow 175 = .ok (.iload 5, 2) := by decide +kernel
theorem dL_grow_177 : decode cL_grow 177 = .ok (.iaload, 1) := by decide +kernel
theorem dL_grow_178 : decode cL_grow 178 = .ok (.ifCond .ne 14, 3) := by decide +kernel
theorem dL_grow_181 : decode cL_grow 181 = .ok (.iload 6, 2) := by decide +kernel
theorem dL_grow_183 : decode cL_grow 183 = .ok (.bipush 10, 2) := by decide +kernel
theorem dL_grow_185 : decode cL_grow 185 = .ok (.idiv, 1) := by decide +kernel
theorem dL_grow_186 : decode cL_grow 186 = .ok (.bipush 40, 2) := by decide +kernel
theorem dL_grow_188 : decode cL_grow 188 = .ok (.irem, 1) := by decide +kernel
theorem dL_grow_189 : decode cL_grow 189 = .ok (.goto 43, 3) := by decide +kernel
theorem dL_grow_192 : decode cL_grow 192 = .ok (.aload_n 0, 1) := by decide +kernel
theorem dL_grow_193 : decode cL_grow 193 = .ok (.iload 5, 2) := by decide +kernel
theorem dL_grow_195 : decode cL_grow 195 = .ok (.iaload, 1) := by decide +kernel
theorem dL_grow_196 : decode cL_grow 196 = .ok (.iconst 1, 1) := by decide +kernel
theorem dL_grow_197 : decode cL_grow 197 = .ok (.if_icmp .ne 14, 3) := by decide +kernel
theorem dL_grow_200 : decode cL_grow 200 = .ok (.iload 6, 2) := by decide +kernel
theorem dL_grow_202 : decode cL_grow 202 = .ok (.bipush 10, 2) := by decide +kernel
theorem dL_grow_204 : decode cL_grow 204 = .ok (.idiv, 1) := by decide +kernel
theorem dL_grow_205 : decode cL_grow 205 = .ok (.bipush 8, 2) := by decide +kernel
theorem dL_grow_207 : decode cL_grow 207 = .ok (.irem, 1) := by decide +kernel
theorem dL_grow_208 : decode cL_grow 208 = .ok (.goto 24, 3) := by decide +kernel
theorem dL_grow_211 : decode cL_grow 211 = .ok (.aload_n 0, 1) := by decide +kernel
theorem dL_grow_212 : decode cL_grow 212 = .ok (.iload 5, 2) := by decide +kernel
theorem dL_grow_214 : decode cL_grow 214 = .ok (.iaload, 1) := by decide +kernel
theorem dL_grow_215 : decode cL_grow 215 = .ok (.iconst 2, 1) := by decide +kernel
theorem dL_grow_216 : decode cL_grow 216 = .ok (.if_icmp .ne 14, 3) := by decide +kernel
theorem dL_grow_219 : decode cL_grow 219 = .ok (.iload 6, 2) := by decide +kernel
theorem dL_grow_221 : decode cL_grow 221 = .ok (.bipush 10, 2) := by decide +kernel
theorem dL_grow_223 : decode cL_grow 223 = .ok (.idiv, 1) := by decide +kernel
theorem dL_grow_224 : decode cL_grow 224 = .ok (.iload 4, 2) := by decide +kernel
theorem dL_grow_226 : decode cL_grow 226 = .ok (.irem, 1) := by decide +kernel
theorem dL_grow_227 : decode cL_grow 227 = .ok (.goto 5, 3) := by decide +kernel
theorem dL_grow_230 : decode cL_grow 230 = .ok (.ldc 40, 2) := by decide +kernel
theorem dL_grow_232 : decode cL_grow 232 = .ok (.iastore, 1) := by decide +kernel
theorem dL_grow_233 : decode cL_grow 233 = .ok (.iinc 5 1, 3) := by decide +kernel
theorem dL_grow_236 : decode cL_grow 236 = .ok (.goto (-233), 3) := by decide +kernel
theorem dL_grow_239 : decode cL_grow 239 = .ok (.return_, 1) := by decide +kernel
theorem dL_types_0 : decode cL_types 0 = .ok (.bipush 64, 2) := by decide +kernel
theorem dL_types_2 : decode cL_types 2 = .ok (.newarray .int, 2) := by decide +kernel
theorem dL_types_4 : decode cL_types 4 = .ok (.astore 8, 2) := by decide +kernel
theorem dL_types_6 : decode cL_types 6 = .ok (.iconst 1, 1) := by decide +kernel
theorem dL_types_7 : decode cL_types 7 = .ok (.istore 9, 2) := by decide +kernel
theorem dL_types_9 : decode cL_types 9 = .ok (.iconst 1, 1) := by decide +kernel
theorem dL_types_10 : decode cL_types 10 = .ok (.istore 10, 2) := by decide +kernel
theorem dL_types_12 : decode cL_types 12 = .ok (.aload 4, 2) := by decide +kernel
theorem dL_types_14 : decode cL_types 14 = .ok (.iload 7, 2) := by decide +kernel
theorem dL_types_16 : decode cL_types 16 = .ok (.iconst 0, 1) := by decide +kernel
theorem dL_types_17 : decode cL_types 17 = .ok (.iastore, 1) := by decide +kernel
theorem dL_types_18 : decode cL_types 18 = .ok (.iload 9, 2) := by decide +kernel
theorem dL_types_20 : decode cL_types 20 = .ok (.ifCond .le 306, 3) := by decide +kernel
theorem dL_types_23 : decode cL_types 23 = .ok (.iload 10, 2) := by decide +kernel
theorem dL_types_25 : decode cL_types 25 = .ok (.ifCond .eq 301, 3) := by decide +kernel
theorem dL_types_28 : decode cL_types 28 = .ok (.iinc 9 (-1), 3) := by decide +kernel
theorem dL_types_31 : decode cL_types 31 = .ok (.aload 8, 2) := by decide +kernel
theorem dL_types_33 : decode cL_types 33 = .ok (.iload 9, 2) := by decide +kernel
theorem dL_types_35 : decode cL_types 35 = .ok (.iaload, 1) := by decide +kernel
theorem dL_types_36 : decode cL_types 36 = .ok (.istore 11, 2) := by decide +kernel
theorem dL_types_38 : decode cL_types 38 = .ok (.iload 11, 2) := by decide +kernel
theorem dL_types_40 : decode cL_types 40 = .ok (.bipush 99, 2) := by decide +kernel
theorem dL_types_42 : decode cL_types 42 = .ok (.if_icmp .le 18, 3) := by decide +kernel
theorem dL_types_45 : decode cL_types 45 = .ok (.aload_n 0, 1) := by decide +kernel
theorem dL_types_46 : decode cL_types 46 = .ok (.aload_n 1, 1) := by decide +kernel
theorem dL_types_47 : decode cL_types 47 = .ok (.iload 11, 2) := by decide +kernel
theorem dL_types_49 : decode cL_types 49 = .ok (.bipush 100, 2) := by decide +kernel
theorem dL_types_51 : decode cL_types 51 = .ok (.isub, 1) := by decide +kernel
theorem dL_types_52 : decode cL_types 52 = .ok (.invokestatic 41, 3) := by decide +kernel
theorem dL_types_55 : decode cL_types 55 = .ok (.istore 10, 2) := by decide +kernel
theorem dL_types_57 : decode cL_types 57 = .ok (.goto 266, 3) := by decide +kernel
theorem dL_types_60 : decode cL_types 60 = .ok (.aload 5, 2) := by decide +kernel
theorem dL_types_62 : decode cL_types 62 = .ok (.bipush 16, 2) := by decide +kernel
theorem dL_types_64 : decode cL_types 64 = .ok (.iload 7, 2) := by decide +kernel
theorem dL_types_66 : decode cL_types 66 = .ok (.imul, 1) := by decide +kernel
theorem dL_types_67 : decode cL_types 67 = .ok (.aload 4, 2) := by decide +kernel
theorem dL_types_69 : decode cL_types 69 = .ok (.iload 7, 2) := by decide +kernel
theorem dL_types_71 : decode cL_types 71 = .ok (.iaload, 1) := by decide +kernel
theorem dL_types_72 : decode cL_types 72 = .ok (.iadd, 1) := by decide +kernel
theorem dL_types_73 : decode cL_types 73 = .ok (.aload_n 2, 1) := by decide +kernel
theorem dL_types_74 : decode cL_types 74 = .ok (.iload 11, 2) := by decide +kernel
theorem dL_types_76 : decode cL_types 76 = .ok (.iaload, 1) := by decide +kernel
theorem dL_types_77 : decode cL_types 77 = .ok (.iastore, 1) := by decide +kernel
theorem dL_types_78 : decode cL_types 78 = .ok (.aload 6, 2) := by decide +kernel
theorem dL_types_80 : decode cL_types 80 = .ok (.bipush 16, 2) := by decide +kernel
theorem dL_types_82 : decode cL_types 82 = .ok (.iload 7, 2) := by decide +kernel
theorem dL_types_84 : decode cL_types 84 = .ok (.imul, 1) := by decide +kernel
theorem dL_types_85 : decode cL_types 85 = .ok (.aload 4, 2) := by decide +kernel
theorem dL_types_87 : decode cL_types 87 = .ok (.iload 7, 2) := by decide +kernel
theorem dL_types_89 : decode cL_types 89 = .ok (.iaload, 1) := by decide +kernel
theorem dL_types_90 : decode cL_types 90 = .ok (.iadd, 1) := by decide +kernel
theorem dL_types_91 : decode cL_types 91 = .ok (.aload_n 3, 1) := by decide +kernel
theorem dL_types_92 : decode cL_types 92 = .ok (.iload 11, 2) := by decide +kernel
theorem dL_types_94 : decode cL_types 94 = .ok (.iaload, 1) := by decide +kernel
theorem dL_types_95 : decode cL_types 95 = .ok (.iastore, 1) := by decide +kernel
theorem dL_types_96 : decode cL_types 96 = .ok (.aload 4, 2) := by decide +kernel
theorem dL_types_98 : decode cL_types 98 = .ok (.iload 7, 2) := by decide +kernel
theorem dL_types_100 : decode cL_types 100 = .ok (.dup2, 1) := by decide +kernel
theorem dL_types_101 : decode cL_types 101 = .ok (.iaload, 1) := by decide +kernel
theorem dL_types_102 : decode cL_types 102 = .ok (.iconst 1, 1) := by decide +kernel
theorem dL_types_103 : decode cL_types 103 = .ok (.iadd, 1) := by decide +kernel
theorem dL_types_104 : decode cL_types 104 = .ok (.iastore, 1) := by decide +kernel
theorem dL_types_105 : decode cL_types 105 = .ok (.aload_n 2, 1) := by decide +kernel
theorem dL_types_106 : decode cL_types 106 = .ok (.iload 11, 2) := by decide +kernel
theorem dL_types_108 : decode cL_types 108 = .ok (.iaload, 1) := by decide +kernel
theorem dL_types_109 : decode cL_types 109 = .ok (.ifCond .ne 58, 3) := by decide +kernel
theorem dL_types_112 : decode cL_types 112 = .ok (.aload_n 3, 1) := by decide +kernel
theorem dL_types_113 : decode cL_types 113 = .ok (.iload 11, 2) := by decide +kernel
theorem dL_types_115 : decode cL_types 115 = .ok (.iaload, 1) := by decide +kernel
theorem dL_types_116 : decode cL_types 116 = .ok (.bipush 10, 2) := by decide +kernel
theorem dL_types_118 : decode cL_types 118 = .ok (.if_icmp .lt 21, 3) := by decide +kernel
theorem dL_types_121 : decode cL_types 121 = .ok (.aload_n 0, 1) := by decide +kernel
theorem dL_types_122 : decode cL_types 122 = .ok (.aload_n 1, 1) := by decide +kernel
theorem dL_types_123 : decode cL_types 123 = .ok (.bipush 48, 2) := by decide +kernel
theorem dL_types_125 : decode cL_types 125 = .ok (.aload_n 3, 1) := by decide +kernel
theorem dL_types_126 : decode cL_types 126 = .ok (.iload 11, 2) := by decide +kernel
theorem dL_types_128 : decode cL_types 128 = .ok (.iaload, 1) := by decide +kernel
theorem dL_types_129 : decode cL_types 129 = .ok (.bipush 10, 2) := by decide +kernel
theorem dL_types_131 : decode cL_types 131 = .ok (.idiv, 1) := by decide +kernel
theorem dL_types_132 : decode cL_types 132 = .ok (.iadd, 1) := by decide +kernel
theorem dL_types_133 : decode cL_types 133 = .ok (.invokestatic 41, 3) := by decide +kernel
theorem dL_types_136 : decode cL_types 136 = .ok (.ifCond .eq 25, 3) := by decide +kernel
theorem dL_types_139 : decode cL_types 139 = .ok (.aload_n 0, 1) := by decide +kernel
theorem dL_types_140 : decode cL_types 140 = .ok (.aload_n 1, 1) := by decide +kernel
theorem dL_types_141 : decode cL_types 141 = .ok (.bipush 48, 2) := by decide +kernel
theorem dL_types_143 : decode cL_types 143 = .ok (.aload_n 3, 1) := by decide +kernel
theorem dL_types_144 : decode cL_types 144 = .ok (.iload 11, 2) := by decide +kernel
theorem dL_types_146 : decode cL_types 146 = .ok (.iaload, 1) := by decide +kernel
theorem dL_types_147 : decode cL_types 147 = .ok (.bipush 10, 2) := by decide +kernel
theorem dL_types_149 : decode cL_types 149 = .ok (.irem, 1) := by decide +kernel
theorem dL_types_150 : decode cL_types 150 = .ok (.iadd, 1) := by decide +kernel
theorem dL_types_151 : decode cL_types 151 = .ok (.invokestatic 41, 3) := by decide +kernel
theorem dL_types_154 : decode cL_types 154 = .ok (.ifCond .eq 7, 3) := by decide +kernel
theorem dL_types_157 : decode cL_types 157 = .ok (.iconst 1, 1) := by decide +kernel
theorem dL_types_158 : decode cL_types 158 = .ok (.goto 4, 3) := by decide +kernel
theorem dL_types_161 : decode cL_types 161 = .ok (.iconst 0, 1) := by decide +kernel
theorem dL_types_162 : decode cL_types 162 = .ok (.istore 10, 2) := by decide +kernel
theorem dL_types_164 : decode cL_types 164 = .ok (.goto 159, 3) := by decide +kernel
theorem dL_types_167 : decode cL_types 167 = .ok (.aload_n 2, 1) := by decide +kernel
theorem dL_types_168 : decode cL_types 168 = .ok (.iload 11, 2) := by decide +kernel
theorem dL_types_170 : decode cL_types 170 = .ok (.iaload, 1) := by decide +kernel
theorem dL_types_171 : decode cL_types 171 = .ok (.iconst 3, 1) := by decide +kernel
theorem dL_types_172 : decode cL_types 172 = .ok (.if_icmp .ge 33, 3) := by decide +kernel
theorem dL_types_175 : decode cL_types 175 = .ok (.aload_n 0, 1) := by decide +kernel
theorem dL_types_176 : decode cL_types 176 = .ok (.aload_n 1, 1) := by decide +kernel
theorem dL_types_177 : decode cL_types 177 = .ok (.aload_n 2, 1) := by decide +kernel
theorem dL_types_178 : decode cL_types 178 = .ok (.iload 11, 2) := by decide +kernel
theorem dL_types_180 : decode cL_types 180 = .ok (.iaload, 1) := by decide +kernel
theorem dL_types_181 : decode cL_types 181 = .ok (.iconst 1, 1) := by decide +kernel
theorem dL_types_182 : decode cL_types 182 = .ok (.if_icmp .ne 8, 3) := by decide +kernel
theorem dL_types_185 : decode cL_types 185 = .ok (.bipush 97, 2) := by decide +kernel
theorem dL_types_187 : decode cL_types 187 = .ok (.goto 5, 3) := by decide +kernel
theorem dL_types_190 : decode cL_types 190 = .ok (.bipush 65, 2) := by decide +kernel
theorem dL_types_192 : decode cL_types 192 = .ok (.aload_n 3, 1) := by decide +kernel
theorem dL_types_193 : decode cL_types 193 = .ok (.iload 11, 2) := by decide +kernel
theorem dL_types_195 : decode cL_types 195 = .ok (.iaload, 1) := by decide +kernel
theorem dL_types_196 : decode cL_types 196 = .ok (.iadd, 1) := by decide +kernel
theorem dL_types_197 : decode cL_types 197 = .ok (.invokestatic 41, 3) := by decide +kernel
theorem dL_types_200 : decode cL_types 200 = .ok (.istore 10, 2) := by decide +kernel
theorem dL_types_202 : decode cL_types 202 = .ok (.goto 121, 3) := by decide +kernel
theorem dL_types_205 : decode cL_types 205 = .ok (.aload_n 2, 1) := by decide +kernel
theorem dL_types_206 : decode cL_types 206 = .ok (.iload 11, 2) := by decide +kernel
theorem dL_types_208 : decode cL_types 208 = .ok (.iaload, 1) := by decide +kernel
theorem dL_types_209 : decode cL_types 209 = .ok (.iconst 3, 1) := by decide +kernel
theorem dL_types_210 : decode cL_types 210 = .ok (.if_icmp .ne 29, 3) := by decide +kernel
theorem dL_types_213 : decode cL_types 213 = .ok (.aload_n 0, 1) := by decide +kernel
theorem dL_types_214 : decode cL_types 214 = .ok (.aload_n 1, 1) := by decide +kernel
theorem dL_types_215 : decode cL_types 215 = .ok (.bipush 33, 2) := by decide +kernel
theorem dL_types_217 : decode cL_types 217 = .ok (.invokestatic 41, 3) := by decide +kernel
theorem dL_types_220 : decode cL_types 220 = .ok (.istore 10, 2) := by decide +kernel
theorem dL_types_222 : decode cL_types 222 = .ok (.aload 8, 2) := by decide +kernel
theorem dL_types_224 : decode cL_types 224 = .ok (.iload 9, 2) := by decide +kernel
theorem dL_types_226 : decode cL_types 226 = .ok (.iconst 2, 1) := by decide +kernel
theorem dL_types_227 : decode cL_types 227 = .ok (.iload 11, 2) := by decide +kernel
theorem dL_types_229 : decode cL_types 229 = .ok (.imul, 1) := by decide +kernel
theorem dL_types_230 : decode cL_types 230 = .ok (.iconst 1, 1) := by decide +kernel
theorem dL_types_231 : decode cL_types 231 = .ok (.iadd, 1) := by decide +kernel
theorem dL_types_232 : decode cL_types 232 = .ok (.iastore, 1) := by decide +kernel
theorem dL_types_233 : decode cL_types 233 = .ok (.iinc 9 1, 3) := by decide +kernel
theorem dL_types_236 : decode cL_types 236 = .ok (.goto 87, 3) := by decide +kernel
theorem dL_types_239 : decode cL_types 239 = .ok (.aload_n 0, 1) := by decide +kernel
theorem dL_types_240 : decode cL_types 240 = .ok (.aload_n 1, 1) := by decide +kernel
theorem dL_types_241 : decode cL_types 241 = .ok (.bipush 40, 2) := by decide +kernel
theorem dL_types_243 : decode cL_types 243 = .ok (.invokestatic 41, 3) := by decide +kernel
theorem dL_types_246 : decode cL_types 246 = .ok (.istore 10, 2) := by decide +kernel
theorem dL_types_248 : decode cL_types 248 = .ok (.aload 8, 2) := by decide +kernel
theorem dL_types_250 : decode cL_types 250 = .ok (.iload 9, 2) := by decide +kernel
theorem dL_types_252 : decode cL_types 252 = .ok (.sipush 141, 3) := by decide +kernel
theorem dL_types_255 : decode cL_types 255 = .ok (.iastore, 1) := by decide +kernel
theorem dL_types_256 : decode cL_types 256 = .ok (.aload 8, 2) := by decide +kernel
theorem dL_types_258 : decode cL_types 258 = .ok (.iload 9, 2) := by decide +kernel
theorem dL_types_260 : decode cL_types 260 = .ok (.iconst 1, 1) := by decide +kernel
theorem dL_types_261 : decode cL_types 261 = .ok (.iadd, 1) := by decide +kernel
theorem dL_types_262 : decode cL_types 262 = .ok (.iconst 2, 1) := by decide +kernel
theorem dL_types_263 : decode cL_types 263 = .ok (.iload 11, 2) := by decide +kernel
theorem dL_types_265 : decode cL_types 265 = .ok (.imul, 1) := by decide +kernel
theorem dL_types_266 : decode cL_types 266 = .ok (.iconst 2, 1) := by decide +kernel
theorem dL_types_267 : decode cL_types 267 = .ok (.iadd, 1) := by decide +kernel
theorem dL_types_268 : decode cL_types 268 = .ok (.iastore, 1) := by decide +kernel
theorem dL_types_269 : decode cL_types 269 = .ok (.aload 8, 2) := by decide +kernel
theorem dL_types_271 : decode cL_types 271 = .ok (.iload 9, 2) := by decide +kernel
theorem dL_types_273 : decode cL_types 273 = .ok (.iconst 2, 1) := by decide +kernel
theorem dL_types_274 : decode cL_types 274 = .ok (.iadd, 1) := by decide +kernel
theorem dL_types_275 : decode cL_types 275 = .ok (.bipush 100, 2) := by decide +kernel
theorem dL_types_277 : decode cL_types 277 = .ok (.aload_n 2, 1) := by decide +kernel
theorem dL_types_278 : decode cL_types 278 = .ok (.iload 11, 2) := by decide +kernel
theorem dL_types_280 : decode cL_types 280 = .ok (.iaload, 1) := by decide +kernel
theorem dL_types_281 : decode cL_types 281 = .ok (.iconst 4, 1) := by decide +kernel
theorem dL_types_282 : decode cL_types 282 = .ok (.if_icmp .ne 8, 3) := by decide +kernel
theorem dL_types_285 : decode cL_types 285 = .ok (.bipush 43, 2) := by decide +kernel
theorem dL_types_287 : decode cL_types 287 = .ok (.goto 18, 3) := by decide +kernel
theorem dL_types_290 : decode cL_types 290 = .ok (.aload_n 2, 1) := by decide +kernel
theorem dL_types_291 : decode cL_types 291 = .ok (.iload 11, 2) := by decide +kernel
theorem dL_types_293 : decode cL_types 293 = .ok (.iaload, 1) := by decide +kernel
theorem dL_types_294 : decode cL_types 294 = .ok (.iconst 5, 1) := by decide +kernel
theorem dL_types_295 : decode cL_types 295 = .ok (.if_icmp .ne 8, 3) := by decide +kernel
theorem dL_types_298 : decode cL_types 298 = .ok (.bipush 45, 2) := by decide +kernel
theorem dL_types_300 : decode cL_types 300 = .ok (.goto 5, 3) := by decide +kernel
theorem dL_types_303 : decode cL_types 303 = .ok (.bipush 42, 2) := by decide +kernel
theorem dL_types_305 : decode cL_types 305 = .ok (.iadd, 1) := by decide +kernel
theorem dL_types_306 : decode cL_types 306 = .ok (.iastore, 1) := by decide +kernel
theorem dL_types_307 : decode cL_types 307 = .ok (.aload 8, 2) := by decide +kernel
theorem dL_types_309 : decode cL_types 309 = .ok (.iload 9, 2) := by decide +kernel
theorem dL_types_311 : decode cL_types 311 = .ok (.iconst 3, 1) := by decide +kernel
theorem dL_types_312 : decode cL_types 312 = .ok (.iadd, 1) := by decide +kernel
theorem dL_types_313 : decode cL_types 313 = .ok (.iconst 2, 1) := by decide +kernel
theorem dL_types_314 : decode cL_types 314 = .ok (.iload 11, 2) := by decide +kernel
theorem dL_types_316 : decode cL_types 316 = .ok (.imul, 1) := by decide +kernel
theorem dL_types_317 : decode cL_types 317 = .ok (.iconst 1, 1) := by decide +kernel
theorem dL_types_318 : decode cL_types 318 = .ok (.iadd, 1) := by decide +kernel
theorem dL_types_319 : decode cL_types 319 = .ok (.iastore, 1) := by decide +kernel
theorem dL_types_320 : decode cL_types 320 = .ok (.iinc 9 4, 3) := by decide +kernel
theorem dL_types_323 : decode cL_types 323 = .ok (.goto (-305), 3) := by decide +kernel
theorem dL_types_326 : decode cL_types 326 = .ok (.iload 10, 2) := by decide +kernel
theorem dL_types_328 : decode cL_types 328 = .ok (.ireturn, 1) := by decide +kernel
theorem dL_reads_0 : decode cL_reads 0 = .ok (.bipush 16, 2) := by decide +kernel
theorem dL_reads_2 : decode cL_reads 2 = .ok (.newarray .int, 2) := by decide +kernel
theorem dL_reads_4 : decode cL_reads 4 = .ok (.astore 6, 2) := by decide +kernel
theorem dL_reads_6 : decode cL_reads 6 = .ok (.bipush 16, 2) := by decide +kernel
end
section
theorem dL_reads_8 : decode cL_reads 8 = .ok (.newarray .int, 2) := by decide +kernel
theorem dL_reads_10 : decode cL_reads 10 = .ok (.astore 7, 2) := by decide +kernel
theorem dL_reads_12 : decode cL_reads 12 = .ok (.iconst 1, 1) := by decide +kernel
theorem dL_reads_13 : decode cL_reads 13 = .ok (.newarray .int, 2) := by decide +kernel
theorem dL_reads_15 : decode cL_reads 15 = .ok (.astore 8, 2) := by decide +kernel
theorem dL_reads_17 : decode cL_reads 17 = .ok (.iload 5, 2) := by decide +kernel
theorem dL_reads_19 : decode cL_reads 19 = .ok (.iconst 4, 1) := by decide +kernel
theorem dL_reads_20 : decode cL_reads 20 = .ok (.irem, 1) := by decide +kernel
theorem dL_reads_21 : decode cL_reads 21 = .ok (.istore 9, 2) := by decide +kernel
theorem dL_reads_23 : decode cL_reads 23 = .ok (.aload_n 0, 1) := by decide +kernel
theorem dL_reads_24 : decode cL_reads 24 = .ok (.invokevirtual 45, 3) := by decide +kernel
theorem dL_reads_27 : decode cL_reads 27 = .ok (.pop, 1) := by decide +kernel
theorem dL_reads_28 : decode cL_reads 28 = .ok (.iconst 1, 1) := by decide +kernel
theorem dL_reads_29 : decode cL_reads 29 = .ok (.istore 10, 2) := by decide +kernel
theorem dL_reads_31 : decode cL_reads 31 = .ok (.iconst 0, 1) := by decide +kernel
theorem dL_reads_32 : decode cL_reads 32 = .ok (.istore 11, 2) := by decide +kernel
theorem dL_reads_34 : decode cL_reads 34 = .ok (.iload 11, 2) := by decide +kernel
theorem dL_reads_36 : decode cL_reads 36 = .ok (.iload 9, 2) := by decide +kernel
theorem dL_reads_38 : decode cL_reads 38 = .ok (.if_icmp .gt 160, 3) := by decide +kernel
theorem dL_reads_41 : decode cL_reads 41 = .ok (.iload 10, 2) := by decide +kernel
theorem dL_reads_43 : decode cL_reads 43 = .ok (.ifCond .eq 155, 3) := by decide +kernel
theorem dL_reads_46 : decode cL_reads 46 = .ok (.aload 6, 2) := by decide +kernel
theorem dL_reads_48 : decode cL_reads 48 = .ok (.aload 7, 2) := by decide +kernel
theorem dL_reads_50 : decode cL_reads 50 = .ok (.iload 5, 2) := by decide +kernel
theorem dL_reads_52 : decode cL_reads 52 = .ok (.iconst 2, 1) := by decide +kernel
theorem dL_reads_53 : decode cL_reads 53 = .ok (.iload 11, 2) := by decide +kernel
theorem dL_reads_55 : decode cL_reads 55 = .ok (.imul, 1) := by decide +kernel
theorem dL_reads_56 : decode cL_reads 56 = .ok (.iconst 3, 1) := by decide +kernel
theorem dL_reads_57 : decode cL_reads 57 = .ok (.iadd, 1) := by decide +kernel
theorem dL_reads_58 : decode cL_reads 58 = .ok (.imul, 1) := by decide +kernel
theorem dL_reads_59 : decode cL_reads 59 = .ok (.ldc 49, 2) := by decide +kernel
theorem dL_reads_61 : decode cL_reads 61 = .ok (.invokestatic 36, 3) := by decide +kernel
theorem dL_reads_64 : decode cL_reads 64 = .ok (.iload 11, 2) := by decide +kernel
theorem dL_reads_66 : decode cL_reads 66 = .ok (.iload 9, 2) := by decide +kernel
theorem dL_reads_68 : decode cL_reads 68 = .ok (.if_icmp .ge 20, 3) := by decide +kernel
theorem dL_reads_71 : decode cL_reads 71 = .ok (.iload 5, 2) := by decide +kernel
theorem dL_reads_73 : decode cL_reads 73 = .ok (.iconst 4, 1) := by decide +kernel
theorem dL_reads_74 : decode cL_reads 74 = .ok (.idiv, 1) := by decide +kernel
theorem dL_reads_75 : decode cL_reads 75 = .ok (.iconst 4, 1) := by decide +kernel
theorem dL_reads_76 : decode cL_reads 76 = .ok (.irem, 1) := by decide +kernel
theorem dL_reads_77 : decode cL_reads 77 = .ok (.ifCond .ne 7, 3) := by decide +kernel
theorem dL_reads_80 : decode cL_reads 80 = .ok (.iconst 2, 1) := by decide +kernel
theorem dL_reads_81 : decode cL_reads 81 = .ok (.goto 18, 3) := by decide +kernel
theorem dL_reads_84 : decode cL_reads 84 = .ok (.iconst 1, 1) := by decide +kernel
theorem dL_reads_85 : decode cL_reads 85 = .ok (.goto 14, 3) := by decide +kernel
theorem dL_reads_88 : decode cL_reads 88 = .ok (.iload 9, 2) := by decide +kernel
theorem dL_reads_90 : decode cL_reads 90 = .ok (.iconst 3, 1) := by decide +kernel
theorem dL_reads_91 : decode cL_reads 91 = .ok (.if_icmp .ge 7, 3) := by decide +kernel
theorem dL_reads_94 : decode cL_reads 94 = .ok (.iconst 3, 1) := by decide +kernel
theorem dL_reads_95 : decode cL_reads 95 = .ok (.goto 4, 3) := by decide +kernel
theorem dL_reads_98 : decode cL_reads 98 = .ok (.iconst 2, 1) := by decide +kernel
theorem dL_reads_99 : decode cL_reads 99 = .ok (.iload 11, 2) := by decide +kernel
theorem dL_reads_101 : decode cL_reads 101 = .ok (.invokestatic 50, 3) := by decide +kernel
theorem dL_reads_104 : decode cL_reads 104 = .ok (.iload 11, 2) := by decide +kernel
theorem dL_reads_106 : decode cL_reads 106 = .ok (.iload 9, 2) := by decide +kernel
theorem dL_reads_108 : decode cL_reads 108 = .ok (.if_icmp .eq 28, 3) := by decide +kernel
theorem dL_reads_111 : decode cL_reads 111 = .ok (.aload_n 0, 1) := by decide +kernel
theorem dL_reads_112 : decode cL_reads 112 = .ok (.aload 8, 2) := by decide +kernel
theorem dL_reads_114 : decode cL_reads 114 = .ok (.bipush 65, 2) := by decide +kernel
theorem dL_reads_116 : decode cL_reads 116 = .ok (.iload 11, 2) := by decide +kernel
theorem dL_reads_118 : decode cL_reads 118 = .ok (.iadd, 1) := by decide +kernel
theorem dL_reads_119 : decode cL_reads 119 = .ok (.invokestatic 41, 3) := by decide +kernel
theorem dL_reads_122 : decode cL_reads 122 = .ok (.ifCond .eq 18, 3) := by decide +kernel
theorem dL_reads_125 : decode cL_reads 125 = .ok (.aload_n 0, 1) := by decide +kernel
theorem dL_reads_126 : decode cL_reads 126 = .ok (.aload 8, 2) := by decide +kernel
theorem dL_reads_128 : decode cL_reads 128 = .ok (.bipush 61, 2) := by decide +kernel
theorem dL_reads_130 : decode cL_reads 130 = .ok (.invokestatic 41, 3) := by decide +kernel
theorem dL_reads_133 : decode cL_reads 133 = .ok (.ifCond .eq 7, 3) := by decide +kernel
theorem dL_reads_136 : decode cL_reads 136 = .ok (.iconst 1, 1) := by decide +kernel
theorem dL_reads_137 : decode cL_reads 137 = .ok (.goto 4, 3) := by decide +kernel
theorem dL_reads_140 : decode cL_reads 140 = .ok (.iconst 0, 1) := by decide +kernel
theorem dL_reads_141 : decode cL_reads 141 = .ok (.istore 10, 2) := by decide +kernel
theorem dL_reads_143 : decode cL_reads 143 = .ok (.iload 10, 2) := by decide +kernel
theorem dL_reads_145 : decode cL_reads 145 = .ok (.ifCond .eq 44, 3) := by decide +kernel
theorem dL_reads_148 : decode cL_reads 148 = .ok (.aload_n 0, 1) := by decide +kernel
theorem dL_reads_149 : decode cL_reads 149 = .ok (.aload 8, 2) := by decide +kernel
theorem dL_reads_151 : decode cL_reads 151 = .ok (.aload 6, 2) := by decide +kernel
theorem dL_reads_153 : decode cL_reads 153 = .ok (.aload 7, 2) := by decide +kernel
theorem dL_reads_155 : decode cL_reads 155 = .ok (.aload_n 2, 1) := by decide +kernel
theorem dL_reads_156 : decode cL_reads 156 = .ok (.aload_n 3, 1) := by decide +kernel
theorem dL_reads_157 : decode cL_reads 157 = .ok (.aload 4, 2) := by decide +kernel
theorem dL_reads_159 : decode cL_reads 159 = .ok (.iload 11, 2) := by decide +kernel
theorem dL_reads_161 : decode cL_reads 161 = .ok (.invokestatic 54, 3) := by decide +kernel
theorem dL_reads_164 : decode cL_reads 164 = .ok (.ifCond .eq 25, 3) := by decide +kernel
theorem dL_reads_167 : decode cL_reads 167 = .ok (.iload 11, 2) := by decide +kernel
theorem dL_reads_169 : decode cL_reads 169 = .ok (.iload 9, 2) := by decide +kernel
theorem dL_reads_171 : decode cL_reads 171 = .ok (.if_icmp .eq 14, 3) := by decide +kernel
theorem dL_reads_174 : decode cL_reads 174 = .ok (.aload_n 0, 1) := by decide +kernel
theorem dL_reads_175 : decode cL_reads 175 = .ok (.aload 8, 2) := by decide +kernel
theorem dL_reads_177 : decode cL_reads 177 = .ok (.bipush 59, 2) := by decide +kernel
theorem dL_reads_179 : decode cL_reads 179 = .ok (.invokestatic 41, 3) := by decide +kernel
theorem dL_reads_182 : decode cL_reads 182 = .ok (.ifCond .eq 7, 3) := by decide +kernel
theorem dL_reads_185 : decode cL_reads 185 = .ok (.iconst 1, 1) := by decide +kernel
theorem dL_reads_186 : decode cL_reads 186 = .ok (.goto 4, 3) := by decide +kernel
theorem dL_reads_189 : decode cL_reads 189 = .ok (.iconst 0, 1) := by decide +kernel
theorem dL_reads_190 : decode cL_reads 190 = .ok (.istore 10, 2) := by decide +kernel
theorem dL_reads_192 : decode cL_reads 192 = .ok (.iinc 11 1, 3) := by decide +kernel
theorem dL_reads_195 : decode cL_reads 195 = .ok (.goto (-161), 3) := by decide +kernel
theorem dL_reads_198 : decode cL_reads 198 = .ok (.aload_n 1, 1) := by decide +kernel
theorem dL_reads_199 : decode cL_reads 199 = .ok (.iconst 0, 1) := by decide +kernel
theorem dL_reads_200 : decode cL_reads 200 = .ok (.iload 9, 2) := by decide +kernel
theorem dL_reads_202 : decode cL_reads 202 = .ok (.iconst 1, 1) := by decide +kernel
theorem dL_reads_203 : decode cL_reads 203 = .ok (.iadd, 1) := by decide +kernel
theorem dL_reads_204 : decode cL_reads 204 = .ok (.iastore, 1) := by decide +kernel
theorem dL_reads_205 : decode cL_reads 205 = .ok (.iload 10, 2) := by decide +kernel
theorem dL_reads_207 : decode cL_reads 207 = .ok (.ifCond .eq 30, 3) := by decide +kernel
theorem dL_reads_210 : decode cL_reads 210 = .ok (.aload_n 0, 1) := by decide +kernel
theorem dL_reads_211 : decode cL_reads 211 = .ok (.bipush 6, 2) := by decide +kernel
theorem dL_reads_213 : decode cL_reads 213 = .ok (.invokevirtual 58, 3) := by decide +kernel
theorem dL_reads_216 : decode cL_reads 216 = .ok (.aload 8, 2) := by decide +kernel
theorem dL_reads_218 : decode cL_reads 218 = .ok (.iconst 0, 1) := by decide +kernel
theorem dL_reads_219 : decode cL_reads 219 = .ok (.iaload, 1) := by decide +kernel
theorem dL_reads_220 : decode cL_reads 220 = .ok (.if_icmp .ne 17, 3) := by decide +kernel
theorem dL_reads_223 : decode cL_reads 223 = .ok (.aload_n 0, 1) := by decide +kernel
theorem dL_reads_224 : decode cL_reads 224 = .ok (.invokevirtual 61, 3) := by decide +kernel
theorem dL_reads_227 : decode cL_reads 227 = .ok (.aload_n 1, 1) := by decide +kernel
theorem dL_reads_228 : decode cL_reads 228 = .ok (.iconst 0, 1) := by decide +kernel
theorem dL_reads_229 : decode cL_reads 229 = .ok (.iaload, 1) := by decide +kernel
theorem dL_reads_230 : decode cL_reads 230 = .ok (.if_icmp .ne 7, 3) := by decide +kernel
theorem dL_reads_233 : decode cL_reads 233 = .ok (.iconst 1, 1) := by decide +kernel
theorem dL_reads_234 : decode cL_reads 234 = .ok (.goto 4, 3) := by decide +kernel
theorem dL_reads_237 : decode cL_reads 237 = .ok (.iconst 0, 1) := by decide +kernel
theorem dL_reads_238 : decode cL_reads 238 = .ok (.ireturn, 1) := by decide +kernel
theorem dL_acts_0 : decode cL_acts 0 = .ok (.iload 6, 2) := by decide +kernel
theorem dL_acts_2 : decode cL_acts 2 = .ok (.iconst 5, 1) := by decide +kernel
theorem dL_acts_3 : decode cL_acts 3 = .ok (.ishr, 1) := by decide +kernel
theorem dL_acts_4 : decode cL_acts 4 = .ok (.ldc 64, 2) := by decide +kernel
theorem dL_acts_6 : decode cL_acts 6 = .ok (.invokestatic 36, 3) := by decide +kernel
theorem dL_acts_9 : decode cL_acts 9 = .ok (.istore 7, 2) := by decide +kernel
theorem dL_acts_11 : decode cL_acts 11 = .ok (.iload 6, 2) := by decide +kernel
theorem dL_acts_13 : decode cL_acts 13 = .ok (.bipush 12, 2) := by decide +kernel
theorem dL_acts_15 : decode cL_acts 15 = .ok (.invokestatic 36, 3) := by decide +kernel
theorem dL_acts_18 : decode cL_acts 18 = .ok (.istore 8, 2) := by decide +kernel
theorem dL_acts_20 : decode cL_acts 20 = .ok (.iload 8, 2) := by decide +kernel
theorem dL_acts_22 : decode cL_acts 22 = .ok (.iconst 3, 1) := by decide +kernel
theorem dL_acts_23 : decode cL_acts 23 = .ok (.if_icmp .ge 16, 3) := by decide +kernel
theorem dL_acts_26 : decode cL_acts 26 = .ok (.aload_n 0, 1) := by decide +kernel
theorem dL_acts_27 : decode cL_acts 27 = .ok (.aload_n 1, 1) := by decide +kernel
theorem dL_acts_28 : decode cL_acts 28 = .ok (.aload_n 3, 1) := by decide +kernel
theorem dL_acts_29 : decode cL_acts 29 = .ok (.aload 4, 2) := by decide +kernel
theorem dL_acts_31 : decode cL_acts 31 = .ok (.aload 5, 2) := by decide +kernel
theorem dL_acts_33 : decode cL_acts 33 = .ok (.iload 7, 2) := by decide +kernel
theorem dL_acts_35 : decode cL_acts 35 = .ok (.invokestatic 65, 3) := by decide +kernel
theorem dL_acts_38 : decode cL_acts 38 = .ok (.ireturn, 1) := by decide +kernel
theorem dL_acts_39 : decode cL_acts 39 = .ok (.iload 8, 2) := by decide +kernel
theorem dL_acts_41 : decode cL_acts 41 = .ok (.bipush 6, 2) := by decide +kernel
theorem dL_acts_43 : decode cL_acts 43 = .ok (.if_icmp .ge 54, 3) := by decide +kernel
theorem dL_acts_46 : decode cL_acts 46 = .ok (.iload 7, 2) := by decide +kernel
theorem dL_acts_48 : decode cL_acts 48 = .ok (.bipush 8, 2) := by decide +kernel
theorem dL_acts_50 : decode cL_acts 50 = .ok (.irem, 1) := by decide +kernel
theorem dL_acts_51 : decode cL_acts 51 = .ok (.istore 9, 2) := by decide +kernel
theorem dL_acts_53 : decode cL_acts 53 = .ok (.aload_n 2, 1) := by decide +kernel
theorem dL_acts_54 : decode cL_acts 54 = .ok (.iload 9, 2) := by decide +kernel
theorem dL_acts_56 : decode cL_acts 56 = .ok (.iaload, 1) := by decide +kernel
theorem dL_acts_57 : decode cL_acts 57 = .ok (.istore 10, 2) := by decide +kernel
theorem dL_acts_59 : decode cL_acts 59 = .ok (.aload_n 2, 1) := by decide +kernel
theorem dL_acts_60 : decode cL_acts 60 = .ok (.iload 9, 2) := by decide +kernel
theorem dL_acts_62 : decode cL_acts 62 = .ok (.iload 7, 2) := by decide +kernel
theorem dL_acts_64 : decode cL_acts 64 = .ok (.bipush 8, 2) := by decide +kernel
theorem dL_acts_66 : decode cL_acts 66 = .ok (.idiv, 1) := by decide +kernel
theorem dL_acts_67 : decode cL_acts 67 = .ok (.sipush 1999, 3) := by decide +kernel
theorem dL_acts_70 : decode cL_acts 70 = .ok (.irem, 1) := by decide +kernel
theorem dL_acts_71 : decode cL_acts 71 = .ok (.sipush 999, 3) := by decide +kernel
theorem dL_acts_74 : decode cL_acts 74 = .ok (.isub, 1) := by decide +kernel
theorem dL_acts_75 : decode cL_acts 75 = .ok (.iastore, 1) := by decide +kernel
theorem dL_acts_76 : decode cL_acts 76 = .ok (.aload_n 0, 1) := by decide +kernel
theorem dL_acts_77 : decode cL_acts 77 = .ok (.iload 9, 2) := by decide +kernel
theorem dL_acts_79 : decode cL_acts 79 = .ok (.aload_n 2, 1) := by decide +kernel
theorem dL_acts_80 : decode cL_acts 80 = .ok (.iload 9, 2) := by decide +kernel
theorem dL_acts_82 : decode cL_acts 82 = .ok (.iaload, 1) := by decide +kernel
theorem dL_acts_83 : decode cL_acts 83 = .ok (.invokevirtual 69, 3) := by decide +kernel
theorem dL_acts_86 : decode cL_acts 86 = .ok (.iload 10, 2) := by decide +kernel
theorem dL_acts_88 : decode cL_acts 88 = .ok (.if_icmp .ne 7, 3) := by decide +kernel
theorem dL_acts_91 : decode cL_acts 91 = .ok (.iconst 1, 1) := by decide +kernel
theorem dL_acts_92 : decode cL_acts 92 = .ok (.goto 4, 3) := by decide +kernel
theorem dL_acts_95 : decode cL_acts 95 = .ok (.iconst 0, 1) := by decide +kernel
theorem dL_acts_96 : decode cL_acts 96 = .ok (.ireturn, 1) := by decide +kernel
theorem dL_acts_97 : decode cL_acts 97 = .ok (.iload 8, 2) := by decide +kernel
theorem dL_acts_99 : decode cL_acts 99 = .ok (.bipush 8, 2) := by decide +kernel
theorem dL_acts_101 : decode cL_acts 101 = .ok (.if_icmp .ge 50, 3) := by decide +kernel
theorem dL_acts_104 : decode cL_acts 104 = .ok (.aload_n 1, 1) := by decide +kernel
theorem dL_acts_105 : decode cL_acts 105 = .ok (.iconst 1, 1) := by decide +kernel
theorem dL_acts_106 : decode cL_acts 106 = .ok (.iaload, 1) := by decide +kernel
theorem dL_acts_107 : decode cL_acts 107 = .ok (.istore 9, 2) := by decide +kernel
theorem dL_acts_109 : decode cL_acts 109 = .ok (.aload_n 1, 1) := by decide +kernel
theorem dL_acts_110 : decode cL_acts 110 = .ok (.iconst 1, 1) := by decide +kernel
theorem dL_acts_111 : decode cL_acts 111 = .ok (.iconst 2, 1) := by decide +kernel
theorem dL_acts_112 : decode cL_acts 112 = .ok (.iload 7, 2) := by decide +kernel
theorem dL_acts_114 : decode cL_acts 114 = .ok (.bipush 7, 2) := by decide +kernel
theorem dL_acts_116 : decode cL_acts 116 = .ok (.irem, 1) := by decide +kernel
theorem dL_acts_117 : decode cL_acts 117 = .ok (.iload 7, 2) := by decide +kernel
theorem dL_acts_119 : decode cL_acts 119 = .ok (.iconst 3, 1) := by decide +kernel
theorem dL_acts_120 : decode cL_acts 120 = .ok (.irem, 1) := by decide +kernel
theorem dL_acts_121 : decode cL_acts 121 = .ok (.ifCond .ne 8, 3) := by decide +kernel
theorem dL_acts_124 : decode cL_acts 124 = .ok (.bipush 7, 2) := by decide +kernel
theorem dL_acts_126 : decode cL_acts 126 = .ok (.goto 4, 3) := by decide +kernel
theorem dL_acts_129 : decode cL_acts 129 = .ok (.iconst 3, 1) := by decide +kernel
theorem dL_acts_130 : decode cL_acts 130 = .ok (.irem, 1) := by decide +kernel
theorem dL_acts_131 : decode cL_acts 131 = .ok (.iadd, 1) := by decide +kernel
theorem dL_acts_132 : decode cL_acts 132 = .ok (.iastore, 1) := by decide +kernel
theorem dL_acts_133 : decode cL_acts 133 = .ok (.aload_n 0, 1) := by decide +kernel
theorem dL_acts_134 : decode cL_acts 134 = .ok (.aload_n 1, 1) := by decide +kernel
theorem dL_acts_135 : decode cL_acts 135 = .ok (.iconst 1, 1) := by decide +kernel
theorem dL_acts_136 : decode cL_acts 136 = .ok (.iaload, 1) := by decide +kernel
theorem dL_acts_137 : decode cL_acts 137 = .ok (.invokevirtual 72, 3) := by decide +kernel
theorem dL_acts_140 : decode cL_acts 140 = .ok (.iload 9, 2) := by decide +kernel
theorem dL_acts_142 : decode cL_acts 142 = .ok (.if_icmp .ne 7, 3) := by decide +kernel
theorem dL_acts_145 : decode cL_acts 145 = .ok (.iconst 1, 1) := by decide +kernel
theorem dL_acts_146 : decode cL_acts 146 = .ok (.goto 4, 3) := by decide +kernel
theorem dL_acts_149 : decode cL_acts 149 = .ok (.iconst 0, 1) := by decide +kernel
theorem dL_acts_150 : decode cL_acts 150 = .ok (.ireturn, 1) := by decide +kernel
theorem dL_acts_151 : decode cL_acts 151 = .ok (.iload 7, 2) := by decide +kernel
theorem dL_acts_153 : decode cL_acts 153 = .ok (.aload_n 1, 1) := by decide +kernel
theorem dL_acts_154 : decode cL_acts 154 = .ok (.iconst 0, 1) := by decide +kernel
theorem dL_acts_155 : decode cL_acts 155 = .ok (.iaload, 1) := by decide +kernel
theorem dL_acts_156 : decode cL_acts 156 = .ok (.irem, 1) := by decide +kernel
theorem dL_acts_157 : decode cL_acts 157 = .ok (.istore 9, 2) := by decide +kernel
theorem dL_acts_159 : decode cL_acts 159 = .ok (.iload 7, 2) := by decide +kernel
theorem dL_acts_161 : decode cL_acts 161 = .ok (.iconst 4, 1) := by decide +kernel
theorem dL_acts_162 : decode cL_acts 162 = .ok (.idiv, 1) := by decide +kernel
theorem dL_acts_163 : decode cL_acts 163 = .ok (.aload_n 3, 1) := by decide +kernel
theorem dL_acts_164 : decode cL_acts 164 = .ok (.iload 9, 2) := by decide +kernel
theorem dL_acts_166 : decode cL_acts 166 = .ok (.iaload, 1) := by decide +kernel
theorem dL_acts_167 : decode cL_acts 167 = .ok (.iconst 1, 1) := by decide +kernel
theorem dL_acts_168 : decode cL_acts 168 = .ok (.iadd, 1) := by decide +kernel
theorem dL_acts_169 : decode cL_acts 169 = .ok (.irem, 1) := by decide +kernel
theorem dL_acts_170 : decode cL_acts 170 = .ok (.istore 10, 2) := by decide +kernel
theorem dL_acts_172 : decode cL_acts 172 = .ok (.iload 10, 2) := by decide +kernel
theorem dL_acts_174 : decode cL_acts 174 = .ok (.aload_n 3, 1) := by decide +kernel
theorem dL_acts_175 : decode cL_acts 175 = .ok (.iload 9, 2) := by decide +kernel
theorem dL_acts_177 : decode cL_acts 177 = .ok (.iaload, 1) := by decide +kernel
theorem dL_acts_178 : decode cL_acts 178 = .ok (.if_icmp .ne 35, 3) := by decide +kernel
theorem dL_acts_181 : decode cL_acts 181 = .ok (.aload_n 0, 1) := by decide +kernel
theorem dL_acts_182 : decode cL_acts 182 = .ok (.iload 9, 2) := by decide +kernel
theorem dL_acts_184 : decode cL_acts 184 = .ok (.iload 10, 2) := by decide +kernel
theorem dL_acts_186 : decode cL_acts 186 = .ok (.invokevirtual 75, 3) := by decide +kernel
theorem dL_acts_189 : decode cL_acts 189 = .ok (.ldc 78, 2) := by decide +kernel
theorem dL_acts_191 : decode cL_acts 191 = .ok (.if_icmp .ne 20, 3) := by decide +kernel
theorem dL_acts_194 : decode cL_acts 194 = .ok (.aload_n 0, 1) := by decide +kernel
theorem dL_acts_195 : decode cL_acts 195 = .ok (.aload_n 1, 1) := by decide +kernel
theorem dL_acts_196 : decode cL_acts 196 = .ok (.iconst 0, 1) := by decide +kernel
theorem dL_acts_197 : decode cL_acts 197 = .ok (.iaload, 1) := by decide +kernel
theorem dL_acts_198 : decode cL_acts 198 = .ok (.iconst 0, 1) := by decide +kernel
theorem dL_acts_199 : decode cL_acts 199 = .ok (.invokevirtual 75, 3) := by decide +kernel
theorem dL_acts_202 : decode cL_acts 202 = .ok (.ldc 78, 2) := by decide +kernel
theorem dL_acts_204 : decode cL_acts 204 = .ok (.if_icmp .ne 7, 3) := by decide +kernel
theorem dL_acts_207 : decode cL_acts 207 = .ok (.iconst 1, 1) := by decide +kernel
theorem dL_acts_208 : decode cL_acts 208 = .ok (.goto 4, 3) := by decide +kernel
theorem dL_acts_211 : decode cL_acts 211 = .ok (.iconst 0, 1) := by decide +kernel
theorem dL_acts_212 : decode cL_acts 212 = .ok (.ireturn, 1) := by decide +kernel
theorem dL_acts_213 : decode cL_acts 213 = .ok (.bipush 16, 2) := by decide +kernel
theorem dL_acts_215 : decode cL_acts 215 = .ok (.iload 9, 2) := by decide +kernel
theorem dL_acts_217 : decode cL_acts 217 = .ok (.imul, 1) := by decide +kernel
theorem dL_acts_218 : decode cL_acts 218 = .ok (.istore 11, 2) := by decide +kernel
theorem dL_acts_220 : decode cL_acts 220 = .ok (.aload 4, 2) := by decide +kernel
theorem dL_acts_222 : decode cL_acts 222 = .ok (.iload 11, 2) := by decide +kernel
theorem dL_acts_224 : decode cL_acts 224 = .ok (.iload 10, 2) := by decide +kernel
theorem dL_acts_226 : decode cL_acts 226 = .ok (.iadd, 1) := by decide +kernel
theorem dL_acts_227 : decode cL_acts 227 = .ok (.iaload, 1) := by decide +kernel
theorem dL_acts_228 : decode cL_acts 228 = .ok (.iconst 4, 1) := by decide +kernel
theorem dL_acts_229 : decode cL_acts 229 = .ok (.if_icmp .eq 35, 3) := by decide +kernel
theorem dL_acts_232 : decode cL_acts 232 = .ok (.aload 4, 2) := by decide +kernel
theorem dL_acts_234 : decode cL_acts 234 = .ok (.iload 11, 2) := by decide +kernel
theorem dL_acts_236 : decode cL_acts 236 = .ok (.iload 10, 2) := by decide +kernel
theorem dL_acts_238 : decode cL_acts 238 = .ok (.iadd, 1) := by decide +kernel
theorem dL_acts_239 : decode cL_acts 239 = .ok (.iaload, 1) := by decide +kernel
theorem dL_acts_240 : decode cL_acts 240 = .ok (.bipush 6, 2) := by decide +kernel
theorem dL_acts_242 : decode cL_acts 242 = .ok (.if_icmp .eq 22, 3) := by decide +kernel
theorem dL_acts_245 : decode cL_acts 245 = .ok (.aload_n 0, 1) := by decide +kernel
theorem dL_acts_246 : decode cL_acts 246 = .ok (.iload 9, 2) := by decide +kernel
theorem dL_acts_248 : decode cL_acts 248 = .ok (.iload 10, 2) := by decide +kernel
theorem dL_acts_250 : decode cL_acts 250 = .ok (.invokevirtual 75, 3) := by decide +kernel
theorem dL_acts_253 : decode cL_acts 253 = .ok (.ldc 79, 2) := by decide +kernel
theorem dL_acts_255 : decode cL_acts 255 = .ok (.if_icmp .ne 7, 3) := by decide +kernel
theorem dL_acts_258 : decode cL_acts 258 = .ok (.iconst 1, 1) := by decide +kernel
theorem dL_acts_259 : decode cL_acts 259 = .ok (.goto 4, 3) := by decide +kernel
theorem dL_acts_262 : decode cL_acts 262 = .ok (.iconst 0, 1) := by decide +kernel
theorem dL_acts_263 : decode cL_acts 263 = .ok (.ireturn, 1) := by decide +kernel
theorem dL_acts_264 : decode cL_acts 264 = .ok (.aload 4, 2) := by decide +kernel
theorem dL_acts_266 : decode cL_acts 266 = .ok (.iload 11, 2) := by decide +kernel
theorem dL_acts_268 : decode cL_acts 268 = .ok (.iload 10, 2) := by decide +kernel
theorem dL_acts_270 : decode cL_acts 270 = .ok (.iconst 1, 1) := by decide +kernel
theorem dL_acts_271 : decode cL_acts 271 = .ok (.iadd, 1) := by decide +kernel
theorem dL_acts_272 : decode cL_acts 272 = .ok (.invokestatic 80, 3) := by decide +kernel
theorem dL_acts_275 : decode cL_acts 275 = .ok (.istore 12, 2) := by decide +kernel
theorem dL_acts_277 : decode cL_acts 277 = .ok (.aload 4, 2) := by decide +kernel
theorem dL_acts_279 : decode cL_acts 279 = .ok (.iload 11, 2) := by decide +kernel
theorem dL_acts_281 : decode cL_acts 281 = .ok (.iload 12, 2) := by decide +kernel
theorem dL_acts_283 : decode cL_acts 283 = .ok (.invokestatic 80, 3) := by decide +kernel
theorem dL_acts_286 : decode cL_acts 286 = .ok (.istore 13, 2) := by decide +kernel
theorem dL_acts_288 : decode cL_acts 288 = .ok (.bipush 64, 2) := by decide +kernel
theorem dL_acts_290 : decode cL_acts 290 = .ok (.newarray .int, 2) := by decide +kernel
theorem dL_acts_292 : decode cL_acts 292 = .ok (.astore 14, 2) := by decide +kernel
theorem dL_acts_294 : decode cL_acts 294 = .ok (.bipush 64, 2) := by decide +kernel
theorem dL_acts_296 : decode cL_acts 296 = .ok (.newarray .int, 2) := by decide +kernel
theorem dL_acts_298 : decode cL_acts 298 = .ok (.astore 15, 2) := by decide +kernel
theorem dL_acts_300 : decode cL_acts 300 = .ok (.iload 10, 2) := by decide +kernel
theorem dL_acts_302 : decode cL_acts 302 = .ok (.iconst 1, 1) := by decide +kernel
theorem dL_acts_303 : decode cL_acts 303 = .ok (.iadd, 1) := by decide +kernel
theorem dL_acts_304 : decode cL_acts 304 = .ok (.istore 16, 2) := by decide +kernel
theorem dL_acts_306 : decode cL_acts 306 = .ok (.iload 16, 2) := by decide +kernel
theorem dL_acts_308 : decode cL_acts 308 = .ok (.iload 13, 2) := by decide +kernel
theorem dL_acts_310 : decode cL_acts 310 = .ok (.if_icmp .ge 65, 3) := by decide +kernel
theorem dL_acts_313 : decode cL_acts 313 = .ok (.iload 16, 2) := by decide +kernel
theorem dL_acts_315 : decode cL_acts 315 = .ok (.iload 12, 2) := by decide +kernel
theorem dL_acts_317 : decode cL_acts 317 = .ok (.if_icmp .ge 14, 3) := by decide +kernel
theorem dL_acts_320 : decode cL_acts 320 = .ok (.iload 16, 2) := by decide +kernel
theorem dL_acts_322 : decode cL_acts 322 = .ok (.iload 13, 2) := by decide +kernel
theorem dL_acts_324 : decode cL_acts 324 = .ok (.iadd, 1) := by decide +kernel
theorem dL_acts_325 : decode cL_acts 325 = .ok (.iload 12, 2) := by decide +kernel
theorem dL_acts_327 : decode cL_acts 327 = .ok (.isub, 1) := by decide +kernel
theorem dL_acts_328 : decode cL_acts 328 = .ok (.goto 13, 3) := by decide +kernel
theorem dL_acts_331 : decode cL_acts 331 = .ok (.iload 16, 2) := by decide +kernel
theorem dL_acts_333 : decode cL_acts 333 = .ok (.iload 12, 2) := by decide +kernel
theorem dL_acts_335 : decode cL_acts 335 = .ok (.isub, 1) := by decide +kernel
theorem dL_acts_336 : decode cL_acts 336 = .ok (.iload 10, 2) := by decide +kernel
theorem dL_acts_338 : decode cL_acts 338 = .ok (.iadd, 1) := by decide +kernel
theorem dL_acts_339 : decode cL_acts 339 = .ok (.iconst 1, 1) := by decide +kernel
theorem dL_acts_340 : decode cL_acts 340 = .ok (.iadd, 1) := by decide +kernel
theorem dL_acts_341 : decode cL_acts 341 = .ok (.istore 17, 2) := by decide +kernel
theorem dL_acts_343 : decode cL_acts 343 = .ok (.aload 14, 2) := by decide +kernel
theorem dL_acts_345 : decode cL_acts 345 = .ok (.iload 17, 2) := by decide +kernel
theorem dL_acts_347 : decode cL_acts 347 = .ok (.aload 4, 2) := by decide +kernel
theorem dL_acts_349 : decode cL_acts 349 = .ok (.iload 11, 2) := by decide +kernel
theorem dL_acts_351 : decode cL_acts 351 = .ok (.iload 16, 2) := by decide +kernel
theorem dL_acts_353 : decode cL_acts 353 = .ok (.iadd, 1) := by decide +kernel
theorem dL_acts_354 : decode cL_acts 354 = .ok (.iaload, 1) := by decide +kernel
theorem dL_acts_355 : decode cL_acts 355 = .ok (.iastore, 1) := by decide +kernel
theorem dL_acts_356 : decode cL_acts 356 = .ok (.aload 15, 2) := by decide +kernel
theorem dL_acts_358 : decode cL_acts 358 = .ok (.iload 17, 2) := by decide +kernel
theorem dL_acts_360 : decode cL_acts 360 = .ok (.aload 5, 2) := by decide +kernel
theorem dL_acts_362 : decode cL_acts 362 = .ok (.iload 11, 2) := by decide +kernel
theorem dL_acts_364 : decode cL_acts 364 = .ok (.iload 16, 2) := by decide +kernel
theorem dL_acts_366 : decode cL_acts 366 = .ok (.iadd, 1) := by decide +kernel
theorem dL_acts_367 : decode cL_acts 367 = .ok (.iaload, 1) := by decide +kernel
theorem dL_acts_368 : decode cL_acts 368 = .ok (.iastore, 1) := by decide +kernel
theorem dL_acts_369 : decode cL_acts 369 = .ok (.iinc 16 1, 3) := by decide +kernel
theorem dL_acts_372 : decode cL_acts 372 = .ok (.goto (-66), 3) := by decide +kernel
theorem dL_acts_375 : decode cL_acts 375 = .ok (.iload 10, 2) := by decide +kernel
theorem dL_acts_377 : decode cL_acts 377 = .ok (.iconst 1, 1) := by decide +kernel
theorem dL_acts_378 : decode cL_acts 378 = .ok (.iadd, 1) := by decide +kernel
theorem dL_acts_379 : decode cL_acts 379 = .ok (.istore 16, 2) := by decide +kernel
theorem dL_acts_381 : decode cL_acts 381 = .ok (.iload 16, 2) := by decide +kernel
theorem dL_acts_383 : decode cL_acts 383 = .ok (.iload 13, 2) := by decide +kernel
theorem dL_acts_385 : decode cL_acts 385 = .ok (.if_icmp .ge 35, 3) := by decide +kernel
theorem dL_acts_388 : decode cL_acts 388 = .ok (.aload 4, 2) := by decide +kernel
theorem dL_acts_390 : decode cL_acts 390 = .ok (.iload 11, 2) := by decide +kernel
theorem dL_acts_392 : decode cL_acts 392 = .ok (.iload 16, 2) := by decide +kernel
theorem dL_acts_394 : decode cL_acts 394 = .ok (.iadd, 1) := by decide +kernel
theorem dL_acts_395 : decode cL_acts 395 = .ok (.aload 14, 2) := by decide +kernel
theorem dL_acts_397 : decode cL_acts 397 = .ok (.iload 16, 2) := by decide +kernel
theorem dL_acts_399 : decode cL_acts 399 = .ok (.iaload, 1) := by decide +kernel
theorem dL_acts_400 : decode cL_acts 400 = .ok (.iastore, 1) := by decide +kernel
theorem dL_acts_401 : decode cL_acts 401 = .ok (.aload 5, 2) := by decide +kernel
theorem dL_acts_403 : decode cL_acts 403 = .ok (.iload 11, 2) := by decide +kernel
theorem dL_acts_405 : decode cL_acts 405 = .ok (.iload 16, 2) := by decide +kernel
theorem dL_acts_407 : decode cL_acts 407 = .ok (.iadd, 1) := by decide +kernel
theorem dL_acts_408 : decode cL_acts 408 = .ok (.aload 15, 2) := by decide +kernel
theorem dL_acts_410 : decode cL_acts 410 = .ok (.iload 16, 2) := by decide +kernel
theorem dL_acts_412 : decode cL_acts 412 = .ok (.iaload, 1) := by decide +kernel
theorem dL_acts_413 : decode cL_acts 413 = .ok (.iastore, 1) := by decide +kernel
theorem dL_acts_414 : decode cL_acts 414 = .ok (.iinc 16 1, 3) := by decide +kernel
theorem dL_acts_417 : decode cL_acts 417 = .ok (.goto (-36), 3) := by decide +kernel
theorem dL_acts_420 : decode cL_acts 420 = .ok (.bipush 64, 2) := by decide +kernel
theorem dL_acts_422 : decode cL_acts 422 = .ok (.newarray .int, 2) := by decide +kernel
theorem dL_acts_424 : decode cL_acts 424 = .ok (.astore 16, 2) := by decide +kernel
theorem dL_acts_426 : decode cL_acts 426 = .ok (.aload_n 1, 1) := by decide +kernel
theorem dL_acts_427 : decode cL_acts 427 = .ok (.aload_n 3, 1) := by decide +kernel
theorem dL_acts_428 : decode cL_acts 428 = .ok (.aload 4, 2) := by decide +kernel
theorem dL_acts_430 : decode cL_acts 430 = .ok (.aload 5, 2) := by decide +kernel
theorem dL_acts_432 : decode cL_acts 432 = .ok (.iload 9, 2) := by decide +kernel
theorem dL_acts_434 : decode cL_acts 434 = .ok (.aload 14, 2) := by decide +kernel
theorem dL_acts_436 : decode cL_acts 436 = .ok (.aload 15, 2) := by decide +kernel
theorem dL_acts_438 : decode cL_acts 438 = .ok (.invokestatic 21, 3) := by decide +kernel
theorem dL_acts_441 : decode cL_acts 441 = .ok (.istore 17, 2) := by decide +kernel
theorem dL_acts_443 : decode cL_acts 443 = .ok (.aload_n 2, 1) := by decide +kernel
theorem dL_acts_444 : decode cL_acts 444 = .ok (.bipush 8, 2) := by decide +kernel
theorem dL_acts_446 : decode cL_acts 446 = .ok (.newarray .int, 2) := by decide +kernel
theorem dL_acts_448 : decode cL_acts 448 = .ok (.aload 14, 2) := by decide +kernel
theorem dL_acts_450 : decode cL_acts 450 = .ok (.aload 15, 2) := by decide +kernel
theorem dL_acts_452 : decode cL_acts 452 = .ok (.iload 17, 2) := by decide +kernel
theorem dL_acts_454 : decode cL_acts 454 = .ok (.bipush 64, 2) := by decide +kernel
theorem dL_acts_456 : decode cL_acts 456 = .ok (.newarray .int, 2) := by decide +kernel
theorem dL_acts_458 : decode cL_acts 458 = .ok (.aload 16, 2) := by decide +kernel
theorem dL_acts_460 : decode cL_acts 460 = .ok (.bipush 64, 2) := by decide +kernel
theorem dL_acts_462 : decode cL_acts 462 = .ok (.newarray .int, 2) := by decide +kernel
theorem dL_acts_464 : decode cL_acts 464 = .ok (.bipush 64, 2) := by decide +kernel
theorem dL_acts_466 : decode cL_acts 466 = .ok (.newarray .int, 2) := by decide +kernel
theorem dL_acts_468 : decode cL_acts 468 = .ok (.invokestatic 25, 3) := by decide +kernel
theorem dL_acts_471 : decode cL_acts 471 = .ok (.aload_n 0, 1) := by decide +kernel
theorem dL_acts_472 : decode cL_acts 472 = .ok (.iload 9, 2) := by decide +kernel
theorem dL_acts_474 : decode cL_acts 474 = .ok (.iload 10, 2) := by decide +kernel
theorem dL_acts_476 : decode cL_acts 476 = .ok (.invokevirtual 75, 3) := by decide +kernel
theorem dL_acts_479 : decode cL_acts 479 = .ok (.aload 16, 2) := by decide +kernel
theorem dL_acts_481 : decode cL_acts 481 = .ok (.iconst 0, 1) := by decide +kernel
theorem dL_acts_482 : decode cL_acts 482 = .ok (.iaload, 1) := by decide +kernel
theorem dL_acts_483 : decode cL_acts 483 = .ok (.if_icmp .ne 7, 3) := by decide +kernel
theorem dL_acts_486 : decode cL_acts 486 = .ok (.iconst 1, 1) := by decide +kernel
theorem dL_acts_487 : decode cL_acts 487 = .ok (.goto 4, 3) := by decide +kernel
theorem dL_acts_490 : decode cL_acts 490 = .ok (.iconst 0, 1) := by decide +kernel
theorem dL_acts_491 : decode cL_acts 491 = .ok (.ireturn, 1) := by decide +kernel
theorem dL_isFormula_0 : decode cL_isFormula 0 = .ok (.bipush 64, 2) := by decide +kernel
theorem dL_isFormula_2 : decode cL_isFormula 2 = .ok (.newarray .int, 2) := by decide +kernel
theorem dL_isFormula_4 : decode cL_isFormula 4 = .ok (.astore 8, 2) := by decide +kernel
theorem dL_isFormula_6 : decode cL_isFormula 6 = .ok (.bipush 64, 2) := by decide +kernel
theorem dL_isFormula_8 : decode cL_isFormula 8 = .ok (.newarray .int, 2) := by decide +kernel
theorem dL_isFormula_10 : decode cL_isFormula 10 = .ok (.astore 9, 2) := by decide +kernel
theorem dL_isFormula_12 : decode cL_isFormula 12 = .ok (.bipush 64, 2) := by decide +kernel
theorem dL_isFormula_14 : decode cL_isFormula 14 = .ok (.newarray .int, 2) := by decide +kernel
theorem dL_isFormula_16 : decode cL_isFormula 16 = .ok (.astore 10, 2) := by decide +kernel
theorem dL_isFormula_18 : decode cL_isFormula 18 = .ok (.bipush 64, 2) := by decide +kernel
theorem dL_isFormula_20 : decode cL_isFormula 20 = .ok (.newarray .int, 2) := by decide +kernel
theorem dL_isFormula_22 : decode cL_isFormula 22 = .ok (.astore 11, 2) := by decide +kernel
theorem dL_isFormula_24 : decode cL_isFormula 24 = .ok (.bipush 64, 2) := by decide +kernel
theorem dL_isFormula_26 : decode cL_isFormula 26 = .ok (.newarray .int, 2) := by decide +kernel
theorem dL_isFormula_28 : decode cL_isFormula 28 = .ok (.astore 12, 2) := by decide +kernel
theorem dL_isFormula_30 : decode cL_isFormula 30 = .ok (.bipush 64, 2) := by decide +kernel
theorem dL_isFormula_32 : decode cL_isFormula 32 = .ok (.newarray .int, 2) := by decide +kernel
theorem dL_isFormula_34 : decode cL_isFormula 34 = .ok (.astore 13, 2) := by decide +kernel
theorem dL_isFormula_36 : decode cL_isFormula 36 = .ok (.aload_n 1, 1) := by decide +kernel
theorem dL_isFormula_37 : decode cL_isFormula 37 = .ok (.aload_n 3, 1) := by decide +kernel
theorem dL_isFormula_38 : decode cL_isFormula 38 = .ok (.aload 4, 2) := by decide +kernel
theorem dL_isFormula_40 : decode cL_isFormula 40 = .ok (.aload 5, 2) := by decide +kernel
theorem dL_isFormula_42 : decode cL_isFormula 42 = .ok (.iload 7, 2) := by decide +kernel
theorem dL_isFormula_44 : decode cL_isFormula 44 = .ok (.aload 8, 2) := by decide +kernel
theorem dL_isFormula_46 : decode cL_isFormula 46 = .ok (.aload 9, 2) := by decide +kernel
theorem dL_isFormula_48 : decode cL_isFormula 48 = .ok (.invokestatic 21, 3) := by decide +kernel
theorem dL_isFormula_51 : decode cL_isFormula 51 = .ok (.istore 14, 2) := by decide +kernel
theorem dL_isFormula_53 : decode cL_isFormula 53 = .ok (.aload_n 2, 1) := by decide +kernel
theorem dL_isFormula_54 : decode cL_isFormula 54 = .ok (.aload 6, 2) := by decide +kernel
theorem dL_isFormula_56 : decode cL_isFormula 56 = .ok (.aload 8, 2) := by decide +kernel
theorem dL_isFormula_58 : decode cL_isFormula 58 = .ok (.aload 9, 2) := by decide +kernel
theorem dL_isFormula_60 : decode cL_isFormula 60 = .ok (.iload 14, 2) := by decide +kernel
theorem dL_isFormula_62 : decode cL_isFormula 62 = .ok (.aload 10, 2) := by decide +kernel
theorem dL_isFormula_64 : decode cL_isFormula 64 = .ok (.aload 11, 2) := by decide +kernel
theorem dL_isFormula_66 : decode cL_isFormula 66 = .ok (.aload 12, 2) := by decide +kernel
theorem dL_isFormula_68 : decode cL_isFormula 68 = .ok (.aload 13, 2) := by decide +kernel
theorem dL_isFormula_70 : decode cL_isFormula 70 = .ok (.invokestatic 25, 3) := by decide +kernel
theorem dL_isFormula_73 : decode cL_isFormula 73 = .ok (.aload_n 0, 1) := by decide +kernel
theorem dL_isFormula_74 : decode cL_isFormula 74 = .ok (.iload 7, 2) := by decide +kernel
theorem dL_isFormula_76 : decode cL_isFormula 76 = .ok (.iconst 0, 1) := by decide +kernel
theorem dL_isFormula_77 : decode cL_isFormula 77 = .ok (.invokevirtual 84, 3) := by decide +kernel
theorem dL_isFormula_80 : decode cL_isFormula 80 = .ok (.aload_n 3, 1) := by decide +kernel
theorem dL_isFormula_81 : decode cL_isFormula 81 = .ok (.iload 7, 2) := by decide +kernel
theorem dL_isFormula_83 : decode cL_isFormula 83 = .ok (.iaload, 1) := by decide +kernel
theorem dL_isFormula_84 : decode cL_isFormula 84 = .ok (.if_icmp .ne 103, 3) := by decide +kernel
theorem dL_isFormula_87 : decode cL_isFormula 87 = .ok (.aload_n 0, 1) := by decide +kernel
theorem dL_isFormula_88 : decode cL_isFormula 88 = .ok (.iload 7, 2) := by decide +kernel
theorem dL_isFormula_90 : decode cL_isFormula 90 = .ok (.iconst 1, 1) := by decide +kernel
theorem dL_isFormula_91 : decode cL_isFormula 91 = .ok (.invokevirtual 84, 3) := by decide +kernel
theorem dL_isFormula_94 : decode cL_isFormula 94 = .ok (.iload 14, 2) := by decide +kernel
theorem dL_isFormula_96 : decode cL_isFormula 96 = .ok (.if_icmp .ne 91, 3) := by decide +kernel
theorem dL_isFormula_99 : decode cL_isFormula 99 = .ok (.aload_n 0, 1) := by decide +kernel
theorem dL_isFormula_100 : decode cL_isFormula 100 = .ok (.iload 7, 2) := by decide +kernel
theorem dL_isFormula_102 : decode cL_isFormula 102 = .ok (.iconst 2, 1) := by decide +kernel
theorem dL_isFormula_103 : decode cL_isFormula 103 = .ok (.invokevirtual 84, 3) := by decide +kernel
theorem dL_isFormula_106 : decode cL_isFormula 106 = .ok (.aload 11, 2) := by decide +kernel
theorem dL_isFormula_108 : decode cL_isFormula 108 = .ok (.iconst 0, 1) := by decide +kernel
theorem dL_isFormula_109 : decode cL_isFormula 109 = .ok (.iaload, 1) := by decide +kernel
theorem dL_isFormula_110 : decode cL_isFormula 110 = .ok (.if_icmp .ne 77, 3) := by decide +kernel
theorem dL_isFormula_113 : decode cL_isFormula 113 = .ok (.aload_n 0, 1) := by decide +kernel
theorem dL_isFormula_114 : decode cL_isFormula 114 = .ok (.iload 7, 2) := by decide +kernel
theorem dL_isFormula_116 : decode cL_isFormula 116 = .ok (.iconst 3, 1) := by decide +kernel
theorem dL_isFormula_117 : decode cL_isFormula 117 = .ok (.invokevirtual 84, 3) := by decide +kernel
theorem dL_isFormula_120 : decode cL_isFormula 120 = .ok (.aload_n 1, 1) := by decide +kernel
theorem dL_isFormula_121 : decode cL_isFormula 121 = .ok (.aload_n 3, 1) := by decide +kernel
theorem dL_isFormula_122 : decode cL_isFormula 122 = .ok (.aload 4, 2) := by decide +kernel
theorem dL_isFormula_124 : decode cL_isFormula 124 = .ok (.aload 5, 2) := by decide +kernel
theorem dL_isFormula_126 : decode cL_isFormula 126 = .ok (.iload 7, 2) := by decide +kernel
theorem dL_isFormula_128 : decode cL_isFormula 128 = .ok (.invokestatic 9, 3) := by decide +kernel
theorem dL_isFormula_131 : decode cL_isFormula 131 = .ok (.ifCond .eq 7, 3) := by decide +kernel
theorem dL_isFormula_134 : decode cL_isFormula 134 = .ok (.iconst 1, 1) := by decide +kernel
theorem dL_isFormula_135 : decode cL_isFormula 135 = .ok (.goto 4, 3) := by decide +kernel
theorem dL_isFormula_138 : decode cL_isFormula 138 = .ok (.iconst 0, 1) := by decide +kernel
theorem dL_isFormula_139 : decode cL_isFormula 139 = .ok (.if_icmp .ne 48, 3) := by decide +kernel
theorem dL_isFormula_142 : decode cL_isFormula 142 = .ok (.aload_n 0, 1) := by decide +kernel
theorem dL_isFormula_143 : decode cL_isFormula 143 = .ok (.iload 7, 2) := by decide +kernel
theorem dL_isFormula_145 : decode cL_isFormula 145 = .ok (.iconst 4, 1) := by decide +kernel
theorem dL_isFormula_146 : decode cL_isFormula 146 = .ok (.invokevirtual 84, 3) := by decide +kernel
theorem dL_isFormula_149 : decode cL_isFormula 149 = .ok (.aload 13, 2) := by decide +kernel
theorem dL_isFormula_151 : decode cL_isFormula 151 = .ok (.iconst 0, 1) := by decide +kernel
theorem dL_isFormula_152 : decode cL_isFormula 152 = .ok (.iaload, 1) := by decide +kernel
theorem dL_isFormula_153 : decode cL_isFormula 153 = .ok (.if_icmp .ne 34, 3) := by decide +kernel
theorem dL_isFormula_156 : decode cL_isFormula 156 = .ok (.aload_n 0, 1) := by decide +kernel
theorem dL_isFormula_157 : decode cL_isFormula 157 = .ok (.iload 7, 2) := by decide +kernel
theorem dL_isFormula_159 : decode cL_isFormula 159 = .ok (.iconst 5, 1) := by decide +kernel
theorem dL_isFormula_160 : decode cL_isFormula 160 = .ok (.invokevirtual 84, 3) := by decide +kernel
theorem dL_isFormula_163 : decode cL_isFormula 163 = .ok (.aload 12, 2) := by decide +kernel
theorem dL_isFormula_165 : decode cL_isFormula 165 = .ok (.iconst 0, 1) := by decide +kernel
theorem dL_isFormula_166 : decode cL_isFormula 166 = .ok (.iaload, 1) := by decide +kernel
theorem dL_isFormula_167 : decode cL_isFormula 167 = .ok (.if_icmp .ne 20, 3) := by decide +kernel
theorem dL_isFormula_170 : decode cL_isFormula 170 = .ok (.aload_n 0, 1) := by decide +kernel
theorem dL_isFormula_171 : decode cL_isFormula 171 = .ok (.iload 7, 2) := by decide +kernel
theorem dL_isFormula_173 : decode cL_isFormula 173 = .ok (.bipush 7, 2) := by decide +kernel
theorem dL_isFormula_175 : decode cL_isFormula 175 = .ok (.invokevirtual 84, 3) := by decide +kernel
theorem dL_isFormula_178 : decode cL_isFormula 178 = .ok (.ldc 78, 2) := by decide +kernel
theorem dL_isFormula_180 : decode cL_isFormula 180 = .ok (.if_icmp .ne 7, 3) := by decide +kernel
theorem dL_isFormula_183 : decode cL_isFormula 183 = .ok (.iconst 1, 1) := by decide +kernel
theorem dL_isFormula_184 : decode cL_isFormula 184 = .ok (.goto 4, 3) := by decide +kernel
theorem dL_isFormula_187 : decode cL_isFormula 187 = .ok (.iconst 0, 1) := by decide +kernel
theorem dL_isFormula_188 : decode cL_isFormula 188 = .ok (.istore 15, 2) := by decide +kernel
theorem dL_isFormula_190 : decode cL_isFormula 190 = .ok (.iconst 0, 1) := by decide +kernel
theorem dL_isFormula_191 : decode cL_isFormula 191 = .ok (.istore 16, 2) := by decide +kernel
theorem dL_isFormula_193 : decode cL_isFormula 193 = .ok (.iload 16, 2) := by decide +kernel
theorem dL_isFormula_195 : decode cL_isFormula 195 = .ok (.iload 14, 2) := by decide +kernel
theorem dL_isFormula_197 : decode cL_isFormula 197 = .ok (.if_icmp .ge 189, 3) := by decide +kernel
theorem dL_isFormula_200 : decode cL_isFormula 200 = .ok (.iload 15, 2) := by decide +kernel
theorem dL_isFormula_202 : decode cL_isFormula 202 = .ok (.ifCond .eq 184, 3) := by decide +kernel
theorem dL_isFormula_205 : decode cL_isFormula 205 = .ok (.aload_n 0, 1) := by decide +kernel
theorem dL_isFormula_206 : decode cL_isFormula 206 = .ok (.iload 7, 2) := by decide +kernel
theorem dL_isFormula_208 : decode cL_isFormula 208 = .ok (.iload 16, 2) := by decide +kernel
theorem dL_isFormula_210 : decode cL_isFormula 210 = .ok (.iconst 0, 1) := by decide +kernel
theorem dL_isFormula_211 : decode cL_isFormula 211 = .ok (.invokevirtual 87, 3) := by decide +kernel
theorem dL_isFormula_214 : decode cL_isFormula 214 = .ok (.aload 8, 2) := by decide +kernel
theorem dL_isFormula_216 : decode cL_isFormula 216 = .ok (.iload 16, 2) := by decide +kernel
theorem dL_isFormula_218 : decode cL_isFormula 218 = .ok (.iaload, 1) := by decide +kernel
theorem dL_isFormula_219 : decode cL_isFormula 219 = .ok (.if_icmp .ne 158, 3) := by decide +kernel
theorem dL_isFormula_222 : decode cL_isFormula 222 = .ok (.aload_n 0, 1) := by decide +kernel
theorem dL_isFormula_223 : decode cL_isFormula 223 = .ok (.iload 7, 2) := by decide +kernel
theorem dL_isFormula_225 : decode cL_isFormula 225 = .ok (.iload 16, 2) := by decide +kernel
theorem dL_isFormula_227 : decode cL_isFormula 227 = .ok (.iconst 1, 1) := by decide +kernel
theorem dL_isFormula_228 : decode cL_isFormula 228 = .ok (.invokevirtual 87, 3) := by decide +kernel
theorem dL_isFormula_231 : decode cL_isFormula 231 = .ok (.aload 8, 2) := by decide +kernel
theorem dL_isFormula_233 : decode cL_isFormula 233 = .ok (.iload 16, 2) := by decide +kernel
theorem dL_isFormula_235 : decode cL_isFormula 235 = .ok (.iaload, 1) := by decide +kernel
theorem dL_isFormula_236 : decode cL_isFormula 236 = .ok (.iconst 3, 1) := by decide +kernel
theorem dL_isFormula_237 : decode cL_isFormula 237 = .ok (.if_icmp .ge 11, 3) := by decide +kernel
theorem dL_isFormula_240 : decode cL_isFormula 240 = .ok (.aload 9, 2) := by decide +kernel
theorem dL_isFormula_242 : decode cL_isFormula 242 = .ok (.iload 16, 2) := by decide +kernel
theorem dL_isFormula_244 : decode cL_isFormula 244 = .ok (.iaload, 1) := by decide +kernel
theorem dL_isFormula_245 : decode cL_isFormula 245 = .ok (.goto 5, 3) := by decide +kernel
theorem dL_isFormula_248 : decode cL_isFormula 248 = .ok (.ldc 40, 2) := by decide +kernel
theorem dL_isFormula_250 : decode cL_isFormula 250 = .ok (.if_icmp .ne 127, 3) := by decide +kernel
theorem dL_isFormula_253 : decode cL_isFormula 253 = .ok (.aload_n 0, 1) := by decide +kernel
theorem dL_isFormula_254 : decode cL_isFormula 254 = .ok (.iload 7, 2) := by decide +kernel
theorem dL_isFormula_256 : decode cL_isFormula 256 = .ok (.iload 16, 2) := by decide +kernel
theorem dL_isFormula_258 : decode cL_isFormula 258 = .ok (.iconst 2, 1) := by decide +kernel
theorem dL_isFormula_259 : decode cL_isFormula 259 = .ok (.invokevirtual 87, 3) := by decide +kernel
theorem dL_isFormula_262 : decode cL_isFormula 262 = .ok (.aload 8, 2) := by decide +kernel
theorem dL_isFormula_264 : decode cL_isFormula 264 = .ok (.iload 16, 2) := by decide +kernel
theorem dL_isFormula_266 : decode cL_isFormula 266 = .ok (.iaload, 1) := by decide +kernel
theorem dL_isFormula_267 : decode cL_isFormula 267 = .ok (.iconst 3, 1) := by decide +kernel
theorem dL_isFormula_268 : decode cL_isFormula 268 = .ok (.if_icmp .ge 8, 3) := by decide +kernel
theorem dL_isFormula_271 : decode cL_isFormula 271 = .ok (.ldc 40, 2) := by decide +kernel
theorem dL_isFormula_273 : decode cL_isFormula 273 = .ok (.goto 7, 3) := by decide +kernel
theorem dL_isFormula_276 : decode cL_isFormula 276 = .ok (.iload 16, 2) := by decide +kernel
theorem dL_isFormula_278 : decode cL_isFormula 278 = .ok (.iconst 1, 1) := by decide +kernel
theorem dL_isFormula_279 : decode cL_isFormula 279 = .ok (.iadd, 1) := by decide +kernel
theorem dL_isFormula_280 : decode cL_isFormula 280 = .ok (.if_icmp .ne 97, 3) := by decide +kernel
theorem dL_isFormula_283 : decode cL_isFormula 283 = .ok (.aload_n 0, 1) := by decide +kernel
theorem dL_isFormula_284 : decode cL_isFormula 284 = .ok (.iload 7, 2) := by decide +kernel
theorem dL_isFormula_286 : decode cL_isFormula 286 = .ok (.iload 16, 2) := by decide +kernel
theorem dL_isFormula_288 : decode cL_isFormula 288 = .ok (.iconst 3, 1) := by decide +kernel
theorem dL_isFormula_289 : decode cL_isFormula 289 = .ok (.invokevirtual 87, 3) := by decide +kernel
theorem dL_isFormula_292 : decode cL_isFormula 292 = .ok (.aload 8, 2) := by decide +kernel
theorem dL_isFormula_294 : decode cL_isFormula 294 = .ok (.iload 16, 2) := by decide +kernel
theorem dL_isFormula_296 : decode cL_isFormula 296 = .ok (.iaload, 1) := by decide +kernel
theorem dL_isFormula_297 : decode cL_isFormula 297 = .ok (.iconst 4, 1) := by decide +kernel
theorem dL_isFormula_298 : decode cL_isFormula 298 = .ok (.if_icmp .ge 8, 3) := by decide +kernel
theorem dL_isFormula_301 : decode cL_isFormula 301 = .ok (.ldc 40, 2) := by decide +kernel
theorem dL_isFormula_303 : decode cL_isFormula 303 = .ok (.goto 15, 3) := by decide +kernel
theorem dL_isFormula_306 : decode cL_isFormula 306 = .ok (.iload 16, 2) := by decide +kernel
theorem dL_isFormula_308 : decode cL_isFormula 308 = .ok (.iconst 1, 1) := by decide +kernel
theorem dL_isFormula_309 : decode cL_isFormula 309 = .ok (.iadd, 1) := by decide +kernel
theorem dL_isFormula_310 : decode cL_isFormula 310 = .ok (.aload 10, 2) := by decide +kernel
theorem dL_isFormula_312 : decode cL_isFormula 312 = .ok (.iload 16, 2) := by decide +kernel
theorem dL_isFormula_314 : decode cL_isFormula 314 = .ok (.iconst 1, 1) := by decide +kernel
theorem dL_isFormula_315 : decode cL_isFormula 315 = .ok (.iadd, 1) := by decide +kernel
theorem dL_isFormula_316 : decode cL_isFormula 316 = .ok (.iaload, 1) := by decide +kernel
theorem dL_isFormula_317 : decode cL_isFormula 317 = .ok (.iadd, 1) := by decide +kernel
theorem dL_isFormula_318 : decode cL_isFormula 318 = .ok (.if_icmp .ne 59, 3) := by decide +kernel
theorem dL_isFormula_321 : decode cL_isFormula 321 = .ok (.aload_n 0, 1) := by decide +kernel
theorem dL_isFormula_322 : decode cL_isFormula 322 = .ok (.iload 7, 2) := by decide +kernel
theorem dL_isFormula_324 : decode cL_isFormula 324 = .ok (.iload 16, 2) := by decide +kernel
theorem dL_isFormula_326 : decode cL_isFormula 326 = .ok (.iconst 4, 1) := by decide +kernel
theorem dL_isFormula_327 : decode cL_isFormula 327 = .ok (.invokevirtual 87, 3) := by decide +kernel
theorem dL_isFormula_330 : decode cL_isFormula 330 = .ok (.aload 11, 2) := by decide +kernel
theorem dL_isFormula_332 : decode cL_isFormula 332 = .ok (.iload 16, 2) := by decide +kernel
theorem dL_isFormula_334 : decode cL_isFormula 334 = .ok (.iaload, 1) := by decide +kernel
theorem dL_isFormula_335 : decode cL_isFormula 335 = .ok (.if_icmp .ne 42, 3) := by decide +kernel
theorem dL_isFormula_338 : decode cL_isFormula 338 = .ok (.aload_n 0, 1) := by decide +kernel
theorem dL_isFormula_339 : decode cL_isFormula 339 = .ok (.iload 7, 2) := by decide +kernel
theorem dL_isFormula_341 : decode cL_isFormula 341 = .ok (.iload 16, 2) := by decide +kernel
theorem dL_isFormula_343 : decode cL_isFormula 343 = .ok (.iconst 5, 1) := by decide +kernel
theorem dL_isFormula_344 : decode cL_isFormula 344 = .ok (.invokevirtual 87, 3) := by decide +kernel
theorem dL_isFormula_347 : decode cL_isFormula 347 = .ok (.aload 10, 2) := by decide +kernel
theorem dL_isFormula_349 : decode cL_isFormula 349 = .ok (.iload 16, 2) := by decide +kernel
theorem dL_isFormula_351 : decode cL_isFormula 351 = .ok (.iaload, 1) := by decide +kernel
theorem dL_isFormula_352 : decode cL_isFormula 352 = .ok (.if_icmp .ne 25, 3) := by decide +kernel
theorem dL_isFormula_355 : decode cL_isFormula 355 = .ok (.aload_n 0, 1) := by decide +kernel
theorem dL_isFormula_356 : decode cL_isFormula 356 = .ok (.iload 7, 2) := by decide +kernel
theorem dL_isFormula_358 : decode cL_isFormula 358 = .ok (.iload 16, 2) := by decide +kernel
theorem dL_isFormula_360 : decode cL_isFormula 360 = .ok (.bipush 6, 2) := by decide +kernel
theorem dL_isFormula_362 : decode cL_isFormula 362 = .ok (.invokevirtual 87, 3) := by decide +kernel
theorem dL_isFormula_365 : decode cL_isFormula 365 = .ok (.aload 13, 2) := by decide +kernel
theorem dL_isFormula_367 : decode cL_isFormula 367 = .ok (.iload 16, 2) := by decide +kernel
theorem dL_isFormula_369 : decode cL_isFormula 369 = .ok (.iaload, 1) := by decide +kernel
theorem dL_isFormula_370 : decode cL_isFormula 370 = .ok (.if_icmp .ne 7, 3) := by decide +kernel
theorem dL_isFormula_373 : decode cL_isFormula 373 = .ok (.iconst 1, 1) := by decide +kernel
theorem dL_isFormula_374 : decode cL_isFormula 374 = .ok (.goto 4, 3) := by decide +kernel
theorem dL_isFormula_377 : decode cL_isFormula 377 = .ok (.iconst 0, 1) := by decide +kernel
theorem dL_isFormula_378 : decode cL_isFormula 378 = .ok (.istore 15, 2) := by decide +kernel
theorem dL_isFormula_380 : decode cL_isFormula 380 = .ok (.iinc 16 1, 3) := by decide +kernel
theorem dL_isFormula_383 : decode cL_isFormula 383 = .ok (.goto (-190), 3) := by decide +kernel
theorem dL_isFormula_386 : decode cL_isFormula 386 = .ok (.aload_n 0, 1) := by decide +kernel
theorem dL_isFormula_387 : decode cL_isFormula 387 = .ok (.iload 7, 2) := by decide +kernel
theorem dL_isFormula_389 : decode cL_isFormula 389 = .ok (.invokevirtual 91, 3) := by decide +kernel
theorem dL_isFormula_392 : decode cL_isFormula 392 = .ok (.istore 16, 2) := by decide +kernel
theorem dL_isFormula_394 : decode cL_isFormula 394 = .ok (.iload 15, 2) := by decide +kernel
theorem dL_isFormula_396 : decode cL_isFormula 396 = .ok (.ifCond .eq 64, 3) := by decide +kernel
theorem dL_isFormula_399 : decode cL_isFormula 399 = .ok (.aload_n 0, 1) := by decide +kernel
theorem dL_isFormula_400 : decode cL_isFormula 400 = .ok (.iload 7, 2) := by decide +kernel
theorem dL_isFormula_402 : decode cL_isFormula 402 = .ok (.iload 14, 2) := by decide +kernel
theorem dL_isFormula_404 : decode cL_isFormula 404 = .ok (.iconst 0, 1) := by decide +kernel
theorem dL_isFormula_405 : decode cL_isFormula 405 = .ok (.invokevirtual 87, 3) := by decide +kernel
theorem dL_isFormula_408 : decode cL_isFormula 408 = .ok (.ldc 78, 2) := by decide +kernel
theorem dL_isFormula_410 : decode cL_isFormula 410 = .ok (.if_icmp .ne 50, 3) := by decide +kernel
theorem dL_isFormula_413 : decode cL_isFormula 413 = .ok (.aload_n 0, 1) := by decide +kernel
theorem dL_isFormula_414 : decode cL_isFormula 414 = .ok (.iload 7, 2) := by decide +kernel
theorem dL_isFormula_416 : decode cL_isFormula 416 = .ok (.iconst 0, 1) := by decide +kernel
theorem dL_isFormula_417 : decode cL_isFormula 417 = .ok (.bipush 7, 2) := by decide +kernel
theorem dL_isFormula_419 : decode cL_isFormula 419 = .ok (.invokevirtual 87, 3) := by decide +kernel
theorem dL_isFormula_422 : decode cL_isFormula 422 = .ok (.ldc 78, 2) := by decide +kernel
theorem dL_isFormula_424 : decode cL_isFormula 424 = .ok (.if_icmp .ne 36, 3) := by decide +kernel
theorem dL_isFormula_427 : decode cL_isFormula 427 = .ok (.aload_n 0, 1) := by decide +kernel
theorem dL_isFormula_428 : decode cL_isFormula 428 = .ok (.iload 7, 2) := by decide +kernel
theorem dL_isFormula_430 : decode cL_isFormula 430 = .ok (.iconst (-1), 1) := by decide +kernel
theorem dL_isFormula_431 : decode cL_isFormula 431 = .ok (.iconst 0, 1) := by decide +kernel
theorem dL_isFormula_432 : decode cL_isFormula 432 = .ok (.invokevirtual 87, 3) := by decide +kernel
theorem dL_isFormula_435 : decode cL_isFormula 435 = .ok (.ldc 78, 2) := by decide +kernel
theorem dL_isFormula_437 : decode cL_isFormula 437 = .ok (.if_icmp .ne 23, 3) := by decide +kernel
theorem dL_isFormula_440 : decode cL_isFormula 440 = .ok (.iload 16, 2) := by decide +kernel
theorem dL_isFormula_442 : decode cL_isFormula 442 = .ok (.ldc 40, 2) := by decide +kernel
theorem dL_isFormula_444 : decode cL_isFormula 444 = .ok (.if_icmp .eq 12, 3) := by decide +kernel
theorem dL_isFormula_447 : decode cL_isFormula 447 = .ok (.iload 16, 2) := by decide +kernel
theorem dL_isFormula_449 : decode cL_isFormula 449 = .ok (.aload 11, 2) := by decide +kernel
theorem dL_isFormula_451 : decode cL_isFormula 451 = .ok (.iconst 0, 1) := by decide +kernel
theorem dL_isFormula_452 : decode cL_isFormula 452 = .ok (.iaload, 1) := by decide +kernel
theorem dL_isFormula_453 : decode cL_isFormula 453 = .ok (.if_icmp .ne 7, 3) := by decide +kernel
theorem dL_isFormula_456 : decode cL_isFormula 456 = .ok (.iconst 1, 1) := by decide +kernel
theorem dL_isFormula_457 : decode cL_isFormula 457 = .ok (.goto 4, 3) := by decide +kernel
theorem dL_isFormula_460 : decode cL_isFormula 460 = .ok (.iconst 0, 1) := by decide +kernel
theorem dL_isFormula_461 : decode cL_isFormula 461 = .ok (.ireturn, 1) := by decide +kernel
theorem dL_isSo_0 : decode cL_isSo 0 = .ok (.bipush 8, 2) := by decide +kernel
theorem dL_isSo_2 : decode cL_isSo 2 = .ok (.newarray .int, 2) := by decide +kernel
theorem dL_isSo_4 : decode cL_isSo 4 = .ok (.astore 6, 2) := by decide +kernel
theorem dL_isSo_6 : decode cL_isSo 6 = .ok (.bipush 8, 2) := by decide +kernel
theorem dL_isSo_8 : decode cL_isSo 8 = .ok (.newarray .int, 2) := by decide +kernel
theorem dL_isSo_10 : decode cL_isSo 10 = .ok (.astore 7, 2) := by decide +kernel
theorem dL_isSo_12 : decode cL_isSo 12 = .ok (.iconst 0, 1) := by decide +kernel
theorem dL_isSo_13 : decode cL_isSo 13 = .ok (.istore 8, 2) := by decide +kernel
theorem dL_isSo_15 : decode cL_isSo 15 = .ok (.iconst 0, 1) := by decide +kernel
theorem dL_isSo_16 : decode cL_isSo 16 = .ok (.istore 9, 2) := by decide +kernel
theorem dL_isSo_18 : decode cL_isSo 18 = .ok (.iconst 0, 1) := by decide +kernel
theorem dL_isSo_19 : decode cL_isSo 19 = .ok (.istore 10, 2) := by decide +kernel
theorem dL_isSo_21 : decode cL_isSo 21 = .ok (.iconst 1, 1) := by decide +kernel
theorem dL_isSo_22 : decode cL_isSo 22 = .ok (.istore 11, 2) := by decide +kernel
theorem dL_isSo_24 : decode cL_isSo 24 = .ok (.aload_n 1, 1) := by decide +kernel
theorem dL_isSo_25 : decode cL_isSo 25 = .ok (.aload_n 2, 1) := by decide +kernel
theorem dL_isSo_26 : decode cL_isSo 26 = .ok (.aload_n 3, 1) := by decide +kernel
theorem dL_isSo_27 : decode cL_isSo 27 = .ok (.aload 4, 2) := by decide +kernel
theorem dL_isSo_29 : decode cL_isSo 29 = .ok (.aload 5, 2) := by decide +kernel
theorem dL_isSo_31 : decode cL_isSo 31 = .ok (.aload 6, 2) := by decide +kernel
theorem dL_isSo_33 : decode cL_isSo 33 = .ok (.invokestatic 94, 3) := by decide +kernel
theorem dL_isSo_36 : decode cL_isSo 36 = .ok (.iconst 0, 1) := by decide +kernel
theorem dL_isSo_37 : decode cL_isSo 37 = .ok (.istore 12, 2) := by decide +kernel
theorem dL_isSo_39 : decode cL_isSo 39 = .ok (.iload 12, 2) := by decide +kernel
theorem dL_isSo_41 : decode cL_isSo 41 = .ok (.aload_n 1, 1) := by decide +kernel
theorem dL_isSo_42 : decode cL_isSo 42 = .ok (.iconst 0, 1) := by decide +kernel
theorem dL_isSo_43 : decode cL_isSo 43 = .ok (.iaload, 1) := by decide +kernel
theorem dL_isSo_44 : decode cL_isSo 44 = .ok (.if_icmp .ge 201, 3) := by decide +kernel
theorem dL_isSo_47 : decode cL_isSo 47 = .ok (.iload 11, 2) := by decide +kernel
theorem dL_isSo_49 : decode cL_isSo 49 = .ok (.ifCond .eq 196, 3) := by decide +kernel
theorem dL_isSo_52 : decode cL_isSo 52 = .ok (.bipush 64, 2) := by decide +kernel
theorem dL_isSo_54 : decode cL_isSo 54 = .ok (.newarray .int, 2) := by decide +kernel
theorem dL_isSo_56 : decode cL_isSo 56 = .ok (.astore 13, 2) := by decide +kernel
theorem dL_isSo_58 : decode cL_isSo 58 = .ok (.bipush 64, 2) := by decide +kernel
theorem dL_isSo_60 : decode cL_isSo 60 = .ok (.newarray .int, 2) := by decide +kernel
theorem dL_isSo_62 : decode cL_isSo 62 = .ok (.astore 14, 2) := by decide +kernel
theorem dL_isSo_64 : decode cL_isSo 64 = .ok (.bipush 64, 2) := by decide +kernel
theorem dL_isSo_66 : decode cL_isSo 66 = .ok (.newarray .int, 2) := by decide +kernel
theorem dL_isSo_68 : decode cL_isSo 68 = .ok (.astore 15, 2) := by decide +kernel
theorem dL_isSo_70 : decode cL_isSo 70 = .ok (.aload_n 1, 1) := by decide +kernel
theorem dL_isSo_71 : decode cL_isSo 71 = .ok (.aload_n 3, 1) := by decide +kernel
theorem dL_isSo_72 : decode cL_isSo 72 = .ok (.aload 4, 2) := by decide +kernel
theorem dL_isSo_74 : decode cL_isSo 74 = .ok (.aload 5, 2) := by decide +kernel
theorem dL_isSo_76 : decode cL_isSo 76 = .ok (.iload 12, 2) := by decide +kernel
theorem dL_isSo_78 : decode cL_isSo 78 = .ok (.aload 13, 2) := by decide +kernel
theorem dL_isSo_80 : decode cL_isSo 80 = .ok (.aload 14, 2) := by decide +kernel
theorem dL_isSo_82 : decode cL_isSo 82 = .ok (.invokestatic 21, 3) := by decide +kernel
theorem dL_isSo_85 : decode cL_isSo 85 = .ok (.istore 16, 2) := by decide +kernel
theorem dL_isSo_87 : decode cL_isSo 87 = .ok (.aload_n 1, 1) := by decide +kernel
theorem dL_isSo_88 : decode cL_isSo 88 = .ok (.aload_n 3, 1) := by decide +kernel
theorem dL_isSo_89 : decode cL_isSo 89 = .ok (.aload 4, 2) := by decide +kernel
theorem dL_isSo_91 : decode cL_isSo 91 = .ok (.aload 5, 2) := by decide +kernel
theorem dL_isSo_93 : decode cL_isSo 93 = .ok (.iload 12, 2) := by decide +kernel
theorem dL_isSo_95 : decode cL_isSo 95 = .ok (.invokestatic 9, 3) := by decide +kernel
theorem dL_isSo_98 : decode cL_isSo 98 = .ok (.istore 17, 2) := by decide +kernel
theorem dL_isSo_100 : decode cL_isSo 100 = .ok (.aload_n 2, 1) := by decide +kernel
theorem dL_isSo_101 : decode cL_isSo 101 = .ok (.aload 6, 2) := by decide +kernel
theorem dL_isSo_103 : decode cL_isSo 103 = .ok (.aload 13, 2) := by decide +kernel
theorem dL_isSo_105 : decode cL_isSo 105 = .ok (.aload 14, 2) := by decide +kernel
theorem dL_isSo_107 : decode cL_isSo 107 = .ok (.iload 16, 2) := by decide +kernel
theorem dL_isSo_109 : decode cL_isSo 109 = .ok (.bipush 64, 2) := by decide +kernel
theorem dL_isSo_111 : decode cL_isSo 111 = .ok (.newarray .int, 2) := by decide +kernel
theorem dL_isSo_113 : decode cL_isSo 113 = .ok (.aload 15, 2) := by decide +kernel
theorem dL_isSo_115 : decode cL_isSo 115 = .ok (.bipush 64, 2) := by decide +kernel
theorem dL_isSo_117 : decode cL_isSo 117 = .ok (.newarray .int, 2) := by decide +kernel
theorem dL_isSo_119 : decode cL_isSo 119 = .ok (.bipush 64, 2) := by decide +kernel
theorem dL_isSo_121 : decode cL_isSo 121 = .ok (.newarray .int, 2) := by decide +kernel
theorem dL_isSo_123 : decode cL_isSo 123 = .ok (.invokestatic 25, 3) := by decide +kernel
theorem dL_isSo_126 : decode cL_isSo 126 = .ok (.iconst 0, 1) := by decide +kernel
theorem dL_isSo_127 : decode cL_isSo 127 = .ok (.istore 18, 2) := by decide +kernel
theorem dL_isSo_129 : decode cL_isSo 129 = .ok (.iload 18, 2) := by decide +kernel
theorem dL_isSo_131 : decode cL_isSo 131 = .ok (.iload 16, 2) := by decide +kernel
theorem dL_isSo_133 : decode cL_isSo 133 = .ok (.if_icmp .ge 40, 3) := by decide +kernel
theorem dL_isSo_136 : decode cL_isSo 136 = .ok (.iload 17, 2) := by decide +kernel
theorem dL_isSo_138 : decode cL_isSo 138 = .ok (.ifCond .ne 35, 3) := by decide +kernel
theorem dL_isSo_141 : decode cL_isSo 141 = .ok (.aload 7, 2) := by decide +kernel
theorem dL_isSo_143 : decode cL_isSo 143 = .ok (.aload 13, 2) := by decide +kernel
theorem dL_isSo_145 : decode cL_isSo 145 = .ok (.iload 18, 2) := by decide +kernel
theorem dL_isSo_147 : decode cL_isSo 147 = .ok (.iaload, 1) := by decide +kernel
theorem dL_isSo_148 : decode cL_isSo 148 = .ok (.iconst 2, 1) := by decide +kernel
theorem dL_isSo_149 : decode cL_isSo 149 = .ok (.if_icmp .ne 11, 3) := by decide +kernel
theorem dL_isSo_152 : decode cL_isSo 152 = .ok (.aload 14, 2) := by decide +kernel
theorem dL_isSo_154 : decode cL_isSo 154 = .ok (.iload 18, 2) := by decide +kernel
theorem dL_isSo_156 : decode cL_isSo 156 = .ok (.iaload, 1) := by decide +kernel
theorem dL_isSo_157 : decode cL_isSo 157 = .ok (.goto 5, 3) := by decide +kernel
theorem dL_isSo_160 : decode cL_isSo 160 = .ok (.bipush 7, 2) := by decide +kernel
theorem dL_isSo_162 : decode cL_isSo 162 = .ok (.dup2, 1) := by decide +kernel
theorem dL_isSo_163 : decode cL_isSo 163 = .ok (.iaload, 1) := by decide +kernel
theorem dL_isSo_164 : decode cL_isSo 164 = .ok (.iconst 1, 1) := by decide +kernel
theorem dL_isSo_165 : decode cL_isSo 165 = .ok (.iadd, 1) := by decide +kernel
theorem dL_isSo_166 : decode cL_isSo 166 = .ok (.iastore, 1) := by decide +kernel
theorem dL_isSo_167 : decode cL_isSo 167 = .ok (.iinc 18 1, 3) := by decide +kernel
theorem dL_isSo_170 : decode cL_isSo 170 = .ok (.goto (-41), 3) := by decide +kernel
theorem dL_isSo_173 : decode cL_isSo 173 = .ok (.iload 8, 2) := by decide +kernel
theorem dL_isSo_175 : decode cL_isSo 175 = .ok (.iload 17, 2) := by decide +kernel
theorem dL_isSo_177 : decode cL_isSo 177 = .ok (.ifCond .eq 7, 3) := by decide +kernel
theorem dL_isSo_180 : decode cL_isSo 180 = .ok (.iconst 1, 1) := by decide +kernel
theorem dL_isSo_181 : decode cL_isSo 181 = .ok (.goto 4, 3) := by decide +kernel
theorem dL_isSo_184 : decode cL_isSo 184 = .ok (.iconst 0, 1) := by decide +kernel
theorem dL_isSo_185 : decode cL_isSo 185 = .ok (.iadd, 1) := by decide +kernel
theorem dL_isSo_186 : decode cL_isSo 186 = .ok (.istore 8, 2) := by decide +kernel
theorem dL_isSo_188 : decode cL_isSo 188 = .ok (.iload 9, 2) := by decide +kernel
theorem dL_isSo_190 : decode cL_isSo 190 = .ok (.aload_n 3, 1) := by decide +kernel
theorem dL_isSo_191 : decode cL_isSo 191 = .ok (.iload 12, 2) := by decide +kernel
theorem dL_isSo_193 : decode cL_isSo 193 = .ok (.iaload, 1) := by decide +kernel
theorem dL_isSo_194 : decode cL_isSo 194 = .ok (.iadd, 1) := by decide +kernel
theorem dL_isSo_195 : decode cL_isSo 195 = .ok (.istore 9, 2) := by decide +kernel
theorem dL_isSo_197 : decode cL_isSo 197 = .ok (.iload 17, 2) := by decide +kernel
theorem dL_isSo_199 : decode cL_isSo 199 = .ok (.ifCond .ne 19, 3) := by decide +kernel
theorem dL_isSo_202 : decode cL_isSo 202 = .ok (.aload 15, 2) := by decide +kernel
theorem dL_isSo_204 : decode cL_isSo 204 = .ok (.iconst 0, 1) := by decide +kernel
theorem dL_isSo_205 : decode cL_isSo 205 = .ok (.iaload, 1) := by decide +kernel
theorem dL_isSo_206 : decode cL_isSo 206 = .ok (.iload 10, 2) := by decide +kernel
theorem dL_isSo_208 : decode cL_isSo 208 = .ok (.if_icmp .le 10, 3) := by decide +kernel
theorem dL_isSo_211 : decode cL_isSo 211 = .ok (.aload 15, 2) := by decide +kernel
theorem dL_isSo_213 : decode cL_isSo 213 = .ok (.iconst 0, 1) := by decide +kernel
theorem dL_isSo_214 : decode cL_isSo 214 = .ok (.iaload, 1) := by decide +kernel
theorem dL_isSo_215 : decode cL_isSo 215 = .ok (.goto 5, 3) := by decide +kernel
theorem dL_isSo_218 : decode cL_isSo 218 = .ok (.iload 10, 2) := by decide +kernel
theorem dL_isSo_220 : decode cL_isSo 220 = .ok (.istore 10, 2) := by decide +kernel
theorem dL_isSo_222 : decode cL_isSo 222 = .ok (.aload_n 0, 1) := by decide +kernel
theorem dL_isSo_223 : decode cL_isSo 223 = .ok (.aload_n 1, 1) := by decide +kernel
theorem dL_isSo_224 : decode cL_isSo 224 = .ok (.aload_n 2, 1) := by decide +kernel
theorem dL_isSo_225 : decode cL_isSo 225 = .ok (.aload_n 3, 1) := by decide +kernel
theorem dL_isSo_226 : decode cL_isSo 226 = .ok (.aload 4, 2) := by decide +kernel
theorem dL_isSo_228 : decode cL_isSo 228 = .ok (.aload 5, 2) := by decide +kernel
theorem dL_isSo_230 : decode cL_isSo 230 = .ok (.aload 6, 2) := by decide +kernel
theorem dL_isSo_232 : decode cL_isSo 232 = .ok (.iload 12, 2) := by decide +kernel
theorem dL_isSo_234 : decode cL_isSo 234 = .ok (.invokestatic 98, 3) := by decide +kernel
theorem dL_isSo_237 : decode cL_isSo 237 = .ok (.istore 11, 2) := by decide +kernel
theorem dL_isSo_239 : decode cL_isSo 239 = .ok (.iinc 12 1, 3) := by decide +kernel
theorem dL_isSo_242 : decode cL_isSo 242 = .ok (.goto (-203), 3) := by decide +kernel
theorem dL_isSo_245 : decode cL_isSo 245 = .ok (.iconst 0, 1) := by decide +kernel
theorem dL_isSo_246 : decode cL_isSo 246 = .ok (.istore 12, 2) := by decide +kernel
theorem dL_isSo_248 : decode cL_isSo 248 = .ok (.iload 12, 2) := by decide +kernel
theorem dL_isSo_250 : decode cL_isSo 250 = .ok (.aload_n 1, 1) := by decide +kernel
theorem dL_isSo_251 : decode cL_isSo 251 = .ok (.iconst 0, 1) := by decide +kernel
theorem dL_isSo_252 : decode cL_isSo 252 = .ok (.iaload, 1) := by decide +kernel
theorem dL_isSo_253 : decode cL_isSo 253 = .ok (.if_icmp .ge 37, 3) := by decide +kernel
theorem dL_isSo_256 : decode cL_isSo 256 = .ok (.iload 11, 2) := by decide +kernel
theorem dL_isSo_258 : decode cL_isSo 258 = .ok (.ifCond .eq 32, 3) := by decide +kernel
theorem dL_isSo_261 : decode cL_isSo 261 = .ok (.aload_n 0, 1) := by decide +kernel
theorem dL_isSo_262 : decode cL_isSo 262 = .ok (.iload 12, 2) := by decide +kernel
theorem dL_isSo_264 : decode cL_isSo 264 = .ok (.bipush 6, 2) := by decide +kernel
theorem dL_isSo_266 : decode cL_isSo 266 = .ok (.invokevirtual 84, 3) := by decide +kernel
theorem dL_isSo_269 : decode cL_isSo 269 = .ok (.aload 7, 2) := by decide +kernel
theorem dL_isSo_271 : decode cL_isSo 271 = .ok (.iload 12, 2) := by decide +kernel
theorem dL_isSo_273 : decode cL_isSo 273 = .ok (.iaload, 1) := by decide +kernel
theorem dL_isSo_274 : decode cL_isSo 274 = .ok (.if_icmp .ne 7, 3) := by decide +kernel
theorem dL_isSo_277 : decode cL_isSo 277 = .ok (.iconst 1, 1) := by decide +kernel
theorem dL_isSo_278 : decode cL_isSo 278 = .ok (.goto 4, 3) := by decide +kernel
theorem dL_isSo_281 : decode cL_isSo 281 = .ok (.iconst 0, 1) := by decide +kernel
theorem dL_isSo_282 : decode cL_isSo 282 = .ok (.istore 11, 2) := by decide +kernel
theorem dL_isSo_284 : decode cL_isSo 284 = .ok (.iinc 12 1, 3) := by decide +kernel
theorem dL_isSo_287 : decode cL_isSo 287 = .ok (.goto (-39), 3) := by decide +kernel
theorem dL_isSo_290 : decode cL_isSo 290 = .ok (.iconst 0, 1) := by decide +kernel
theorem dL_isSo_291 : decode cL_isSo 291 = .ok (.istore 12, 2) := by decide +kernel
theorem dL_isSo_293 : decode cL_isSo 293 = .ok (.iload 12, 2) := by decide +kernel
theorem dL_isSo_295 : decode cL_isSo 295 = .ok (.bipush 8, 2) := by decide +kernel
theorem dL_isSo_297 : decode cL_isSo 297 = .ok (.if_icmp .ge 34, 3) := by decide +kernel
theorem dL_isSo_300 : decode cL_isSo 300 = .ok (.iload 11, 2) := by decide +kernel
theorem dL_isSo_302 : decode cL_isSo 302 = .ok (.ifCond .eq 29, 3) := by decide +kernel
theorem dL_isSo_305 : decode cL_isSo 305 = .ok (.aload_n 0, 1) := by decide +kernel
theorem dL_isSo_306 : decode cL_isSo 306 = .ok (.iload 12, 2) := by decide +kernel
theorem dL_isSo_308 : decode cL_isSo 308 = .ok (.invokevirtual 101, 3) := by decide +kernel
theorem dL_isSo_311 : decode cL_isSo 311 = .ok (.aload_n 2, 1) := by decide +kernel
theorem dL_isSo_312 : decode cL_isSo 312 = .ok (.iload 12, 2) := by decide +kernel
theorem dL_isSo_314 : decode cL_isSo 314 = .ok (.iaload, 1) := by decide +kernel
theorem dL_isSo_315 : decode cL_isSo 315 = .ok (.if_icmp .ne 7, 3) := by decide +kernel
theorem dL_isSo_318 : decode cL_isSo 318 = .ok (.iconst 1, 1) := by decide +kernel
theorem dL_isSo_319 : decode cL_isSo 319 = .ok (.goto 4, 3) := by decide +kernel
theorem dL_isSo_322 : decode cL_isSo 322 = .ok (.iconst 0, 1) := by decide +kernel
theorem dL_isSo_323 : decode cL_isSo 323 = .ok (.istore 11, 2) := by decide +kernel
theorem dL_isSo_325 : decode cL_isSo 325 = .ok (.iinc 12 1, 3) := by decide +kernel
theorem dL_isSo_328 : decode cL_isSo 328 = .ok (.goto (-35), 3) := by decide +kernel
theorem dL_isSo_331 : decode cL_isSo 331 = .ok (.iload 11, 2) := by decide +kernel
theorem dL_isSo_333 : decode cL_isSo 333 = .ok (.ifCond .eq 97, 3) := by decide +kernel
theorem dL_isSo_336 : decode cL_isSo 336 = .ok (.aload_n 0, 1) := by decide +kernel
theorem dL_isSo_337 : decode cL_isSo 337 = .ok (.iconst 0, 1) := by decide +kernel
theorem dL_isSo_338 : decode cL_isSo 338 = .ok (.invokevirtual 58, 3) := by decide +kernel
theorem dL_isSo_341 : decode cL_isSo 341 = .ok (.aload_n 1, 1) := by decide +kernel
theorem dL_isSo_342 : decode cL_isSo 342 = .ok (.iconst 0, 1) := by decide +kernel
theorem dL_isSo_343 : decode cL_isSo 343 = .ok (.iaload, 1) := by decide +kernel
theorem dL_isSo_344 : decode cL_isSo 344 = .ok (.if_icmp .ne 86, 3) := by decide +kernel
theorem dL_isSo_347 : decode cL_isSo 347 = .ok (.aload_n 0, 1) := by decide +kernel
theorem dL_isSo_348 : decode cL_isSo 348 = .ok (.iconst 1, 1) := by decide +kernel
theorem dL_isSo_349 : decode cL_isSo 349 = .ok (.invokevirtual 58, 3) := by decide +kernel
theorem dL_isSo_352 : decode cL_isSo 352 = .ok (.iload 8, 2) := by decide +kernel
theorem dL_isSo_354 : decode cL_isSo 354 = .ok (.if_icmp .ne 76, 3) := by decide +kernel
theorem dL_isSo_357 : decode cL_isSo 357 = .ok (.aload_n 0, 1) := by decide +kernel
theorem dL_isSo_358 : decode cL_isSo 358 = .ok (.iconst 2, 1) := by decide +kernel
theorem dL_isSo_359 : decode cL_isSo 359 = .ok (.invokevirtual 58, 3) := by decide +kernel
theorem dL_isSo_362 : decode cL_isSo 362 = .ok (.iload 9, 2) := by decide +kernel
theorem dL_isSo_364 : decode cL_isSo 364 = .ok (.if_icmp .ne 66, 3) := by decide +kernel
theorem dL_isSo_367 : decode cL_isSo 367 = .ok (.aload_n 0, 1) := by decide +kernel
theorem dL_isSo_368 : decode cL_isSo 368 = .ok (.iconst 3, 1) := by decide +kernel
theorem dL_isSo_369 : decode cL_isSo 369 = .ok (.invokevirtual 58, 3) := by decide +kernel
theorem dL_isSo_372 : decode cL_isSo 372 = .ok (.aload_n 1, 1) := by decide +kernel
theorem dL_isSo_373 : decode cL_isSo 373 = .ok (.iconst 1, 1) := by decide +kernel
theorem dL_isSo_374 : decode cL_isSo 374 = .ok (.iaload, 1) := by decide +kernel
theorem dL_isSo_375 : decode cL_isSo 375 = .ok (.if_icmp .ne 55, 3) := by decide +kernel
theorem dL_isSo_378 : decode cL_isSo 378 = .ok (.aload_n 0, 1) := by decide +kernel
theorem dL_isSo_379 : decode cL_isSo 379 = .ok (.iconst 4, 1) := by decide +kernel
theorem dL_isSo_380 : decode cL_isSo 380 = .ok (.invokevirtual 58, 3) := by decide +kernel
theorem dL_isSo_383 : decode cL_isSo 383 = .ok (.iload 10, 2) := by decide +kernel
theorem dL_isSo_385 : decode cL_isSo 385 = .ok (.if_icmp .ne 45, 3) := by decide +kernel
theorem dL_isSo_388 : decode cL_isSo 388 = .ok (.aload_n 0, 1) := by decide +kernel
theorem dL_isSo_389 : decode cL_isSo 389 = .ok (.aload_n 1, 1) := by decide +kernel
theorem dL_isSo_390 : decode cL_isSo 390 = .ok (.iconst 0, 1) := by decide +kernel
theorem dL_isSo_391 : decode cL_isSo 391 = .ok (.iaload, 1) := by decide +kernel
theorem dL_isSo_392 : decode cL_isSo 392 = .ok (.iconst 0, 1) := by decide +kernel
theorem dL_isSo_393 : decode cL_isSo 393 = .ok (.invokevirtual 84, 3) := by decide +kernel
theorem dL_isSo_396 : decode cL_isSo 396 = .ok (.ldc 78, 2) := by decide +kernel
theorem dL_isSo_398 : decode cL_isSo 398 = .ok (.if_icmp .ne 32, 3) := by decide +kernel
theorem dL_isSo_401 : decode cL_isSo 401 = .ok (.aload_n 0, 1) := by decide +kernel
theorem dL_isSo_402 : decode cL_isSo 402 = .ok (.aload_n 1, 1) := by decide +kernel
theorem dL_isSo_403 : decode cL_isSo 403 = .ok (.iconst 0, 1) := by decide +kernel
theorem dL_isSo_404 : decode cL_isSo 404 = .ok (.iaload, 1) := by decide +kernel
theorem dL_isSo_405 : decode cL_isSo 405 = .ok (.iconst 0, 1) := by decide +kernel
theorem dL_isSo_406 : decode cL_isSo 406 = .ok (.iconst 0, 1) := by decide +kernel
theorem dL_isSo_407 : decode cL_isSo 407 = .ok (.invokevirtual 87, 3) := by decide +kernel
theorem dL_isSo_410 : decode cL_isSo 410 = .ok (.ldc 78, 2) := by decide +kernel
theorem dL_isSo_412 : decode cL_isSo 412 = .ok (.if_icmp .ne 18, 3) := by decide +kernel
theorem dL_isSo_415 : decode cL_isSo 415 = .ok (.aload_n 0, 1) := by decide +kernel
theorem dL_isSo_416 : decode cL_isSo 416 = .ok (.bipush 8, 2) := by decide +kernel
theorem dL_isSo_418 : decode cL_isSo 418 = .ok (.invokevirtual 101, 3) := by decide +kernel
theorem dL_isSo_421 : decode cL_isSo 421 = .ok (.ldc 78, 2) := by decide +kernel
theorem dL_isSo_423 : decode cL_isSo 423 = .ok (.if_icmp .ne 7, 3) := by decide +kernel
theorem dL_isSo_426 : decode cL_isSo 426 = .ok (.iconst 1, 1) := by decide +kernel
theorem dL_isSo_427 : decode cL_isSo 427 = .ok (.goto 4, 3) := by decide +kernel
theorem dL_isSo_430 : decode cL_isSo 430 = .ok (.iconst 0, 1) := by decide +kernel
theorem dL_isSo_431 : decode cL_isSo 431 = .ok (.ireturn, 1) := by decide +kernel
theorem dL_law_0 : decode cL_law 0 = .ok (.new 30, 3) := by decide +kernel
theorem dL_law_3 : decode cL_law 3 = .ok (.dup, 1) := by decide +kernel
theorem dL_law_4 : decode cL_law 4 = .ok (.invokespecial 104, 3) := by decide +kernel
theorem dL_law_7 : decode cL_law 7 = .ok (.astore_n 1, 1) := by decide +kernel
theorem dL_law_8 : decode cL_law 8 = .ok (.iconst 2, 1) := by decide +kernel
theorem dL_law_9 : decode cL_law 9 = .ok (.newarray .int, 2) := by decide +kernel
theorem dL_law_11 : decode cL_law 11 = .ok (.astore_n 2, 1) := by decide +kernel
theorem dL_law_12 : decode cL_law 12 = .ok (.bipush 8, 2) := by decide +kernel
theorem dL_law_14 : decode cL_law 14 = .ok (.newarray .int, 2) := by decide +kernel
theorem dL_law_16 : decode cL_law 16 = .ok (.astore_n 3, 1) := by decide +kernel
theorem dL_law_17 : decode cL_law 17 = .ok (.bipush 8, 2) := by decide +kernel
theorem dL_law_19 : decode cL_law 19 = .ok (.newarray .int, 2) := by decide +kernel
theorem dL_law_21 : decode cL_law 21 = .ok (.astore 4, 2) := by decide +kernel
theorem dL_law_23 : decode cL_law 23 = .ok (.bipush 64, 2) := by decide +kernel
theorem dL_law_25 : decode cL_law 25 = .ok (.newarray .int, 2) := by decide +kernel
theorem dL_law_27 : decode cL_law 27 = .ok (.astore 5, 2) := by decide +kernel
theorem dL_law_29 : decode cL_law 29 = .ok (.bipush 64, 2) := by decide +kernel
theorem dL_law_31 : decode cL_law 31 = .ok (.newarray .int, 2) := by decide +kernel
theorem dL_law_33 : decode cL_law 33 = .ok (.astore 6, 2) := by decide +kernel
theorem dL_law_35 : decode cL_law 35 = .ok (.aload_n 2, 1) := by decide +kernel
theorem dL_law_36 : decode cL_law 36 = .ok (.iconst 0, 1) := by decide +kernel
theorem dL_law_37 : decode cL_law 37 = .ok (.iconst 1, 1) := by decide +kernel
theorem dL_law_38 : decode cL_law 38 = .ok (.iastore, 1) := by decide +kernel
theorem dL_law_39 : decode cL_law 39 = .ok (.aload_n 2, 1) := by decide +kernel
theorem dL_law_40 : decode cL_law 40 = .ok (.iconst 1, 1) := by decide +kernel
end
section
theorem dL_law_41 : decode cL_law 41 = .ok (.iconst 3, 1) := by decide +kernel
theorem dL_law_42 : decode cL_law 42 = .ok (.iastore, 1) := by decide +kernel
theorem dL_law_43 : decode cL_law 43 = .ok (.aload 4, 2) := by decide +kernel
theorem dL_law_45 : decode cL_law 45 = .ok (.iconst 0, 1) := by decide +kernel
theorem dL_law_46 : decode cL_law 46 = .ok (.iconst 1, 1) := by decide +kernel
theorem dL_law_47 : decode cL_law 47 = .ok (.iastore, 1) := by decide +kernel
theorem dL_law_48 : decode cL_law 48 = .ok (.aload_n 1, 1) := by decide +kernel
theorem dL_law_49 : decode cL_law 49 = .ok (.aload_n 2, 1) := by decide +kernel
theorem dL_law_50 : decode cL_law 50 = .ok (.aload_n 3, 1) := by decide +kernel
theorem dL_law_51 : decode cL_law 51 = .ok (.aload 4, 2) := by decide +kernel
theorem dL_law_53 : decode cL_law 53 = .ok (.aload 5, 2) := by decide +kernel
theorem dL_law_55 : decode cL_law 55 = .ok (.aload 6, 2) := by decide +kernel
theorem dL_law_57 : decode cL_law 57 = .ok (.invokestatic 105, 3) := by decide +kernel
theorem dL_law_60 : decode cL_law 60 = .ok (.istore 7, 2) := by decide +kernel
theorem dL_law_62 : decode cL_law 62 = .ok (.iload 7, 2) := by decide +kernel
theorem dL_law_64 : decode cL_law 64 = .ok (.ifCond .eq 55, 3) := by decide +kernel
theorem dL_law_67 : decode cL_law 67 = .ok (.aload_n 1, 1) := by decide +kernel
theorem dL_law_68 : decode cL_law 68 = .ok (.aload_n 2, 1) := by decide +kernel
theorem dL_law_69 : decode cL_law 69 = .ok (.aload 4, 2) := by decide +kernel
theorem dL_law_71 : decode cL_law 71 = .ok (.aload 5, 2) := by decide +kernel
theorem dL_law_73 : decode cL_law 73 = .ok (.aload 6, 2) := by decide +kernel
theorem dL_law_75 : decode cL_law 75 = .ok (.aload_n 0, 1) := by decide +kernel
theorem dL_law_76 : decode cL_law 76 = .ok (.iconst 1, 1) := by decide +kernel
theorem dL_law_77 : decode cL_law 77 = .ok (.invokestatic 109, 3) := by decide +kernel
theorem dL_law_80 : decode cL_law 80 = .ok (.ldc 64, 2) := by decide +kernel
theorem dL_law_82 : decode cL_law 82 = .ok (.invokestatic 36, 3) := by decide +kernel
theorem dL_law_85 : decode cL_law 85 = .ok (.invokestatic 65, 3) := by decide +kernel
theorem dL_law_88 : decode cL_law 88 = .ok (.ifCond .eq 31, 3) := by decide +kernel
theorem dL_law_91 : decode cL_law 91 = .ok (.aload_n 1, 1) := by decide +kernel
theorem dL_law_92 : decode cL_law 92 = .ok (.aload_n 2, 1) := by decide +kernel
theorem dL_law_93 : decode cL_law 93 = .ok (.aload 4, 2) := by decide +kernel
theorem dL_law_95 : decode cL_law 95 = .ok (.aload 5, 2) := by decide +kernel
theorem dL_law_97 : decode cL_law 97 = .ok (.aload 6, 2) := by decide +kernel
theorem dL_law_99 : decode cL_law 99 = .ok (.aload_n 0, 1) := by decide +kernel
theorem dL_law_100 : decode cL_law 100 = .ok (.iconst 2, 1) := by decide +kernel
theorem dL_law_101 : decode cL_law 101 = .ok (.invokestatic 109, 3) := by decide +kernel
theorem dL_law_104 : decode cL_law 104 = .ok (.ldc 64, 2) := by decide +kernel
theorem dL_law_106 : decode cL_law 106 = .ok (.invokestatic 36, 3) := by decide +kernel
theorem dL_law_109 : decode cL_law 109 = .ok (.invokestatic 65, 3) := by decide +kernel
theorem dL_law_112 : decode cL_law 112 = .ok (.ifCond .eq 7, 3) := by decide +kernel
theorem dL_law_115 : decode cL_law 115 = .ok (.iconst 1, 1) := by decide +kernel
theorem dL_law_116 : decode cL_law 116 = .ok (.goto 4, 3) := by decide +kernel
theorem dL_law_119 : decode cL_law 119 = .ok (.iconst 0, 1) := by decide +kernel
theorem dL_law_120 : decode cL_law 120 = .ok (.istore 7, 2) := by decide +kernel
theorem dL_law_122 : decode cL_law 122 = .ok (.bipush 6, 2) := by decide +kernel
theorem dL_law_124 : decode cL_law 124 = .ok (.aload_n 0, 1) := by decide +kernel
theorem dL_law_125 : decode cL_law 125 = .ok (.iconst 0, 1) := by decide +kernel
theorem dL_law_126 : decode cL_law 126 = .ok (.invokestatic 109, 3) := by decide +kernel
theorem dL_law_129 : decode cL_law 129 = .ok (.bipush 25, 2) := by decide +kernel
theorem dL_law_131 : decode cL_law 131 = .ok (.invokestatic 36, 3) := by decide +kernel
theorem dL_law_134 : decode cL_law 134 = .ok (.iadd, 1) := by decide +kernel
theorem dL_law_135 : decode cL_law 135 = .ok (.istore 8, 2) := by decide +kernel
theorem dL_law_137 : decode cL_law 137 = .ok (.iconst 0, 1) := by decide +kernel
theorem dL_law_138 : decode cL_law 138 = .ok (.istore 9, 2) := by decide +kernel
theorem dL_law_140 : decode cL_law 140 = .ok (.iload 9, 2) := by decide +kernel
theorem dL_law_142 : decode cL_law 142 = .ok (.iload 8, 2) := by decide +kernel
theorem dL_law_144 : decode cL_law 144 = .ok (.if_icmp .ge 66, 3) := by decide +kernel
theorem dL_law_147 : decode cL_law 147 = .ok (.iload 7, 2) := by decide +kernel
theorem dL_law_149 : decode cL_law 149 = .ok (.ifCond .eq 61, 3) := by decide +kernel
theorem dL_law_152 : decode cL_law 152 = .ok (.aload_n 1, 1) := by decide +kernel
theorem dL_law_153 : decode cL_law 153 = .ok (.aload_n 2, 1) := by decide +kernel
theorem dL_law_154 : decode cL_law 154 = .ok (.aload_n 3, 1) := by decide +kernel
theorem dL_law_155 : decode cL_law 155 = .ok (.aload 4, 2) := by decide +kernel
theorem dL_law_157 : decode cL_law 157 = .ok (.aload 5, 2) := by decide +kernel
theorem dL_law_159 : decode cL_law 159 = .ok (.aload 6, 2) := by decide +kernel
theorem dL_law_161 : decode cL_law 161 = .ok (.aload_n 0, 1) := by decide +kernel
theorem dL_law_162 : decode cL_law 162 = .ok (.iconst 3, 1) := by decide +kernel
theorem dL_law_163 : decode cL_law 163 = .ok (.iload 9, 2) := by decide +kernel
theorem dL_law_165 : decode cL_law 165 = .ok (.iadd, 1) := by decide +kernel
theorem dL_law_166 : decode cL_law 166 = .ok (.invokestatic 109, 3) := by decide +kernel
theorem dL_law_169 : decode cL_law 169 = .ok (.sipush 7919, 3) := by decide +kernel
theorem dL_law_172 : decode cL_law 172 = .ok (.iload 9, 2) := by decide +kernel
theorem dL_law_174 : decode cL_law 174 = .ok (.imul, 1) := by decide +kernel
theorem dL_law_175 : decode cL_law 175 = .ok (.ixor, 1) := by decide +kernel
theorem dL_law_176 : decode cL_law 176 = .ok (.invokestatic 112, 3) := by decide +kernel
theorem dL_law_179 : decode cL_law 179 = .ok (.ifCond .eq 22, 3) := by decide +kernel
theorem dL_law_182 : decode cL_law 182 = .ok (.aload_n 1, 1) := by decide +kernel
theorem dL_law_183 : decode cL_law 183 = .ok (.aload_n 2, 1) := by decide +kernel
theorem dL_law_184 : decode cL_law 184 = .ok (.aload_n 3, 1) := by decide +kernel
theorem dL_law_185 : decode cL_law 185 = .ok (.aload 4, 2) := by decide +kernel
theorem dL_law_187 : decode cL_law 187 = .ok (.aload 5, 2) := by decide +kernel
theorem dL_law_189 : decode cL_law 189 = .ok (.aload 6, 2) := by decide +kernel
theorem dL_law_191 : decode cL_law 191 = .ok (.invokestatic 105, 3) := by decide +kernel
theorem dL_law_194 : decode cL_law 194 = .ok (.ifCond .eq 7, 3) := by decide +kernel
theorem dL_law_197 : decode cL_law 197 = .ok (.iconst 1, 1) := by decide +kernel
theorem dL_law_198 : decode cL_law 198 = .ok (.goto 4, 3) := by decide +kernel
theorem dL_law_201 : decode cL_law 201 = .ok (.iconst 0, 1) := by decide +kernel
theorem dL_law_202 : decode cL_law 202 = .ok (.istore 7, 2) := by decide +kernel
theorem dL_law_204 : decode cL_law 204 = .ok (.iinc 9 1, 3) := by decide +kernel
theorem dL_law_207 : decode cL_law 207 = .ok (.goto (-67), 3) := by decide +kernel
theorem dL_law_210 : decode cL_law 210 = .ok (.iload 7, 2) := by decide +kernel
theorem dL_law_212 : decode cL_law 212 = .ok (.ifCond .eq 38, 3) := by decide +kernel
theorem dL_law_215 : decode cL_law 215 = .ok (.aload_n 1, 1) := by decide +kernel
theorem dL_law_216 : decode cL_law 216 = .ok (.bipush 7, 2) := by decide +kernel
theorem dL_law_218 : decode cL_law 218 = .ok (.invokevirtual 58, 3) := by decide +kernel
theorem dL_law_221 : decode cL_law 221 = .ok (.ldc 78, 2) := by decide +kernel
theorem dL_law_223 : decode cL_law 223 = .ok (.if_icmp .ne 27, 3) := by decide +kernel
theorem dL_law_226 : decode cL_law 226 = .ok (.aload_n 1, 1) := by decide +kernel
theorem dL_law_227 : decode cL_law 227 = .ok (.iconst (-1), 1) := by decide +kernel
theorem dL_law_228 : decode cL_law 228 = .ok (.invokevirtual 58, 3) := by decide +kernel
theorem dL_law_231 : decode cL_law 231 = .ok (.ldc 78, 2) := by decide +kernel
theorem dL_law_233 : decode cL_law 233 = .ok (.if_icmp .ne 17, 3) := by decide +kernel
theorem dL_law_236 : decode cL_law 236 = .ok (.aload_n 1, 1) := by decide +kernel
theorem dL_law_237 : decode cL_law 237 = .ok (.iconst (-1), 1) := by decide +kernel
theorem dL_law_238 : decode cL_law 238 = .ok (.invokevirtual 101, 3) := by decide +kernel
theorem dL_law_241 : decode cL_law 241 = .ok (.ldc 78, 2) := by decide +kernel
theorem dL_law_243 : decode cL_law 243 = .ok (.if_icmp .ne 7, 3) := by decide +kernel
theorem dL_law_246 : decode cL_law 246 = .ok (.iconst 1, 1) := by decide +kernel
theorem dL_law_247 : decode cL_law 247 = .ok (.goto 4, 3) := by decide +kernel
theorem dL_law_250 : decode cL_law 250 = .ok (.iconst 0, 1) := by decide +kernel
theorem dL_law_251 : decode cL_law 251 = .ok (.ireturn, 1) := by decide +kernel
theorem dX0_init_0 : decode cX0_init 0 = .ok (.aload_n 0, 1) := by decide +kernel
theorem dX0_init_1 : decode cX0_init 1 = .ok (.invokespecial 3, 3) := by decide +kernel
theorem dX0_init_4 : decode cX0_init 4 = .ok (.aload_n 0, 1) := by decide +kernel
theorem dX0_init_5 : decode cX0_init 5 = .ok (.new 9, 3) := by decide +kernel
theorem dX0_init_8 : decode cX0_init 8 = .ok (.dup, 1) := by decide +kernel
theorem dX0_init_9 : decode cX0_init 9 = .ok (.bipush 60, 2) := by decide +kernel
theorem dX0_init_11 : decode cX0_init 11 = .ok (.invokespecial 11, 3) := by decide +kernel
theorem dX0_init_14 : decode cX0_init 14 = .ok (.putfield 14, 3) := by decide +kernel
theorem dX0_init_17 : decode cX0_init 17 = .ok (.aload_n 0, 1) := by decide +kernel
theorem dX0_init_18 : decode cX0_init 18 = .ok (.bipush 60, 2) := by decide +kernel
theorem dX0_init_20 : decode cX0_init 20 = .ok (.newarray .int, 2) := by decide +kernel
theorem dX0_init_22 : decode cX0_init 22 = .ok (.putfield 20, 3) := by decide +kernel
theorem dX0_init_25 : decode cX0_init 25 = .ok (.aload_n 0, 1) := by decide +kernel
theorem dX0_init_26 : decode cX0_init 26 = .ok (.bipush 60, 2) := by decide +kernel
theorem dX0_init_28 : decode cX0_init 28 = .ok (.newarray .int, 2) := by decide +kernel
theorem dX0_init_30 : decode cX0_init 30 = .ok (.putfield 24, 3) := by decide +kernel
theorem dX0_init_33 : decode cX0_init 33 = .ok (.aload_n 0, 1) := by decide +kernel
theorem dX0_init_34 : decode cX0_init 34 = .ok (.bipush 60, 2) := by decide +kernel
theorem dX0_init_36 : decode cX0_init 36 = .ok (.newarray .int, 2) := by decide +kernel
theorem dX0_init_38 : decode cX0_init 38 = .ok (.putfield 27, 3) := by decide +kernel
theorem dX0_init_41 : decode cX0_init 41 = .ok (.aload_n 0, 1) := by decide +kernel
theorem dX0_init_42 : decode cX0_init 42 = .ok (.bipush 60, 2) := by decide +kernel
theorem dX0_init_44 : decode cX0_init 44 = .ok (.newarray .int, 2) := by decide +kernel
theorem dX0_init_46 : decode cX0_init 46 = .ok (.putfield 30, 3) := by decide +kernel
theorem dX0_init_49 : decode cX0_init 49 = .ok (.aload_n 0, 1) := by decide +kernel
theorem dX0_init_50 : decode cX0_init 50 = .ok (.iload_n 1, 1) := by decide +kernel
theorem dX0_init_51 : decode cX0_init 51 = .ok (.putfield 33, 3) := by decide +kernel
theorem dX0_init_54 : decode cX0_init 54 = .ok (.aload_n 0, 1) := by decide +kernel
theorem dX0_init_55 : decode cX0_init 55 = .ok (.getfield 20, 3) := by decide +kernel
theorem dX0_init_58 : decode cX0_init 58 = .ok (.iconst 0, 1) := by decide +kernel
theorem dX0_init_59 : decode cX0_init 59 = .ok (.iconst 1, 1) := by decide +kernel
theorem dX0_init_60 : decode cX0_init 60 = .ok (.iastore, 1) := by decide +kernel
theorem dX0_init_61 : decode cX0_init 61 = .ok (.aload_n 0, 1) := by decide +kernel
theorem dX0_init_62 : decode cX0_init 62 = .ok (.getfield 24, 3) := by decide +kernel
theorem dX0_init_65 : decode cX0_init 65 = .ok (.iconst 0, 1) := by decide +kernel
theorem dX0_init_66 : decode cX0_init 66 = .ok (.iconst 1, 1) := by decide +kernel
theorem dX0_init_67 : decode cX0_init 67 = .ok (.iastore, 1) := by decide +kernel
theorem dX0_init_68 : decode cX0_init 68 = .ok (.aload_n 0, 1) := by decide +kernel
theorem dX0_init_69 : decode cX0_init 69 = .ok (.getfield 27, 3) := by decide +kernel
theorem dX0_init_72 : decode cX0_init 72 = .ok (.iconst 0, 1) := by decide +kernel
theorem dX0_init_73 : decode cX0_init 73 = .ok (.iconst 1, 1) := by decide +kernel
theorem dX0_init_74 : decode cX0_init 74 = .ok (.iastore, 1) := by decide +kernel
theorem dX0_init_75 : decode cX0_init 75 = .ok (.return_, 1) := by decide +kernel
theorem dX0_entry_0 : decode cX0_entry 0 = .ok (.iload_n 1, 1) := by decide +kernel
theorem dX0_entry_1 : decode cX0_entry 1 = .ok (.ifCond .lt 15, 3) := by decide +kernel
theorem dX0_entry_4 : decode cX0_entry 4 = .ok (.iload_n 1, 1) := by decide +kernel
theorem dX0_entry_5 : decode cX0_entry 5 = .ok (.aload_n 0, 1) := by decide +kernel
theorem dX0_entry_6 : decode cX0_entry 6 = .ok (.arraylength, 1) := by decide +kernel
theorem dX0_entry_7 : decode cX0_entry 7 = .ok (.if_icmp .ge 9, 3) := by decide +kernel
theorem dX0_entry_10 : decode cX0_entry 10 = .ok (.aload_n 0, 1) := by decide +kernel
theorem dX0_entry_11 : decode cX0_entry 11 = .ok (.iload_n 1, 1) := by decide +kernel
theorem dX0_entry_12 : decode cX0_entry 12 = .ok (.iaload, 1) := by decide +kernel
theorem dX0_entry_13 : decode cX0_entry 13 = .ok (.goto 4, 3) := by decide +kernel
theorem dX0_entry_16 : decode cX0_entry 16 = .ok (.iconst 0, 1) := by decide +kernel
theorem dX0_entry_17 : decode cX0_entry 17 = .ok (.ireturn, 1) := by decide +kernel
theorem dX0_sizeOf_0 : decode cX0_sizeOf 0 = .ok (.aload_n 0, 1) := by decide +kernel
theorem dX0_sizeOf_1 : decode cX0_sizeOf 1 = .ok (.getfield 20, 3) := by decide +kernel
theorem dX0_sizeOf_4 : decode cX0_sizeOf 4 = .ok (.iload_n 1, 1) := by decide +kernel
theorem dX0_sizeOf_5 : decode cX0_sizeOf 5 = .ok (.invokestatic 37, 3) := by decide +kernel
theorem dX0_sizeOf_8 : decode cX0_sizeOf 8 = .ok (.ireturn, 1) := by decide +kernel
theorem dX0_needOf_0 : decode cX0_needOf 0 = .ok (.aload_n 0, 1) := by decide +kernel
theorem dX0_needOf_1 : decode cX0_needOf 1 = .ok (.getfield 24, 3) := by decide +kernel
theorem dX0_needOf_4 : decode cX0_needOf 4 = .ok (.iload_n 1, 1) := by decide +kernel
theorem dX0_needOf_5 : decode cX0_needOf 5 = .ok (.invokestatic 37, 3) := by decide +kernel
theorem dX0_needOf_8 : decode cX0_needOf 8 = .ok (.ireturn, 1) := by decide +kernel
theorem dX0_depthOf_0 : decode cX0_depthOf 0 = .ok (.aload_n 0, 1) := by decide +kernel
theorem dX0_depthOf_1 : decode cX0_depthOf 1 = .ok (.getfield 27, 3) := by decide +kernel
theorem dX0_depthOf_4 : decode cX0_depthOf 4 = .ok (.iload_n 1, 1) := by decide +kernel
theorem dX0_depthOf_5 : decode cX0_depthOf 5 = .ok (.invokestatic 37, 3) := by decide +kernel
theorem dX0_depthOf_8 : decode cX0_depthOf 8 = .ok (.ireturn, 1) := by decide +kernel
theorem dX0_valueOf_0 : decode cX0_valueOf 0 = .ok (.aload_n 0, 1) := by decide +kernel
theorem dX0_valueOf_1 : decode cX0_valueOf 1 = .ok (.getfield 30, 3) := by decide +kernel
theorem dX0_valueOf_4 : decode cX0_valueOf 4 = .ok (.iload_n 1, 1) := by decide +kernel
theorem dX0_valueOf_5 : decode cX0_valueOf 5 = .ok (.invokestatic 37, 3) := by decide +kernel
theorem dX0_valueOf_8 : decode cX0_valueOf 8 = .ok (.ireturn, 1) := by decide +kernel
theorem dX0_rightOf_0 : decode cX0_rightOf 0 = .ok (.iload_n 1, 1) := by decide +kernel
theorem dX0_rightOf_1 : decode cX0_rightOf 1 = .ok (.iconst 1, 1) := by decide +kernel
theorem dX0_rightOf_2 : decode cX0_rightOf 2 = .ok (.iadd, 1) := by decide +kernel
theorem dX0_rightOf_3 : decode cX0_rightOf 3 = .ok (.aload_n 0, 1) := by decide +kernel
theorem dX0_rightOf_4 : decode cX0_rightOf 4 = .ok (.iload_n 1, 1) := by decide +kernel
theorem dX0_rightOf_5 : decode cX0_rightOf 5 = .ok (.iconst 1, 1) := by decide +kernel
theorem dX0_rightOf_6 : decode cX0_rightOf 6 = .ok (.iadd, 1) := by decide +kernel
theorem dX0_rightOf_7 : decode cX0_rightOf 7 = .ok (.invokevirtual 41, 3) := by decide +kernel
theorem dX0_rightOf_10 : decode cX0_rightOf 10 = .ok (.iadd, 1) := by decide +kernel
theorem dX0_rightOf_11 : decode cX0_rightOf 11 = .ok (.ireturn, 1) := by decide +kernel
theorem dX0_pairs_0 : decode cX0_pairs 0 = .ok (.iconst 0, 1) := by decide +kernel
theorem dX0_pairs_1 : decode cX0_pairs 1 = .ok (.istore_n 1, 1) := by decide +kernel
theorem dX0_pairs_2 : decode cX0_pairs 2 = .ok (.iconst 0, 1) := by decide +kernel
theorem dX0_pairs_3 : decode cX0_pairs 3 = .ok (.istore_n 2, 1) := by decide +kernel
theorem dX0_pairs_4 : decode cX0_pairs 4 = .ok (.iload_n 2, 1) := by decide +kernel
theorem dX0_pairs_5 : decode cX0_pairs 5 = .ok (.aload_n 0, 1) := by decide +kernel
theorem dX0_pairs_6 : decode cX0_pairs 6 = .ok (.getfield 14, 3) := by decide +kernel
theorem dX0_pairs_9 : decode cX0_pairs 9 = .ok (.getfield 45, 3) := by decide +kernel
theorem dX0_pairs_12 : decode cX0_pairs 12 = .ok (.if_icmp .ge 32, 3) := by decide +kernel
theorem dX0_pairs_15 : decode cX0_pairs 15 = .ok (.iload_n 1, 1) := by decide +kernel
theorem dX0_pairs_16 : decode cX0_pairs 16 = .ok (.aload_n 0, 1) := by decide +kernel
theorem dX0_pairs_17 : decode cX0_pairs 17 = .ok (.getfield 14, 3) := by decide +kernel
theorem dX0_pairs_20 : decode cX0_pairs 20 = .ok (.iload_n 2, 1) := by decide +kernel
theorem dX0_pairs_21 : decode cX0_pairs 21 = .ok (.invokevirtual 48, 3) := by decide +kernel
theorem dX0_pairs_24 : decode cX0_pairs 24 = .ok (.invokestatic 51, 3) := by decide +kernel
theorem dX0_pairs_27 : decode cX0_pairs 27 = .ok (.iconst 2, 1) := by decide +kernel
theorem dX0_pairs_28 : decode cX0_pairs 28 = .ok (.if_icmp .ne 7, 3) := by decide +kernel
theorem dX0_pairs_31 : decode cX0_pairs 31 = .ok (.iconst 1, 1) := by decide +kernel
theorem dX0_pairs_32 : decode cX0_pairs 32 = .ok (.goto 4, 3) := by decide +kernel
theorem dX0_pairs_35 : decode cX0_pairs 35 = .ok (.iconst 0, 1) := by decide +kernel
theorem dX0_pairs_36 : decode cX0_pairs 36 = .ok (.iadd, 1) := by decide +kernel
theorem dX0_pairs_37 : decode cX0_pairs 37 = .ok (.istore_n 1, 1) := by decide +kernel
theorem dX0_pairs_38 : decode cX0_pairs 38 = .ok (.iinc 2 1, 3) := by decide +kernel
theorem dX0_pairs_41 : decode cX0_pairs 41 = .ok (.goto (-37), 3) := by decide +kernel
theorem dX0_pairs_44 : decode cX0_pairs 44 = .ok (.iload_n 1, 1) := by decide +kernel
theorem dX0_pairs_45 : decode cX0_pairs 45 = .ok (.ireturn, 1) := by decide +kernel
theorem dX0_make_0 : decode cX0_make 0 = .ok (.aload_n 0, 1) := by decide +kernel
theorem dX0_make_1 : decode cX0_make 1 = .ok (.getfield 14, 3) := by decide +kernel
theorem dX0_make_4 : decode cX0_make 4 = .ok (.iconst 0, 1) := by decide +kernel
theorem dX0_make_5 : decode cX0_make 5 = .ok (.putfield 45, 3) := by decide +kernel
theorem dX0_make_8 : decode cX0_make 8 = .ok (.iconst 0, 1) := by decide +kernel
theorem dX0_make_9 : decode cX0_make 9 = .ok (.istore 4, 2) := by decide +kernel
theorem dX0_make_11 : decode cX0_make 11 = .ok (.iload 4, 2) := by decide +kernel
theorem dX0_make_13 : decode cX0_make 13 = .ok (.aload_n 1, 1) := by decide +kernel
theorem dX0_make_14 : decode cX0_make 14 = .ok (.getfield 45, 3) := by decide +kernel
theorem dX0_make_17 : decode cX0_make 17 = .ok (.if_icmp .ge 103, 3) := by decide +kernel
theorem dX0_make_20 : decode cX0_make 20 = .ok (.aload_n 1, 1) := by decide +kernel
theorem dX0_make_21 : decode cX0_make 21 = .ok (.iload 4, 2) := by decide +kernel
theorem dX0_make_23 : decode cX0_make 23 = .ok (.invokevirtual 54, 3) := by decide +kernel
theorem dX0_make_26 : decode cX0_make 26 = .ok (.istore 5, 2) := by decide +kernel
theorem dX0_make_28 : decode cX0_make 28 = .ok (.aload_n 1, 1) := by decide +kernel
theorem dX0_make_29 : decode cX0_make 29 = .ok (.iload 4, 2) := by decide +kernel
theorem dX0_make_31 : decode cX0_make 31 = .ok (.invokevirtual 48, 3) := by decide +kernel
theorem dX0_make_34 : decode cX0_make 34 = .ok (.iconst 2, 1) := by decide +kernel
theorem dX0_make_35 : decode cX0_make 35 = .ok (.if_icmp .ne 7, 3) := by decide +kernel
theorem dX0_make_38 : decode cX0_make 38 = .ok (.iconst 1, 1) := by decide +kernel
theorem dX0_make_39 : decode cX0_make 39 = .ok (.goto 4, 3) := by decide +kernel
theorem dX0_make_42 : decode cX0_make 42 = .ok (.iconst 0, 1) := by decide +kernel
theorem dX0_make_43 : decode cX0_make 43 = .ok (.istore 6, 2) := by decide +kernel
theorem dX0_make_45 : decode cX0_make 45 = .ok (.iload 6, 2) := by decide +kernel
theorem dX0_make_47 : decode cX0_make 47 = .ok (.ifCond .eq 51, 3) := by decide +kernel
theorem dX0_make_50 : decode cX0_make 50 = .ok (.iload 5, 2) := by decide +kernel
theorem dX0_make_52 : decode cX0_make 52 = .ok (.ifCond .lt 46, 3) := by decide +kernel
theorem dX0_make_55 : decode cX0_make 55 = .ok (.iload 5, 2) := by decide +kernel
theorem dX0_make_57 : decode cX0_make 57 = .ok (.aload_n 0, 1) := by decide +kernel
theorem dX0_make_58 : decode cX0_make 58 = .ok (.getfield 33, 3) := by decide +kernel
theorem dX0_make_61 : decode cX0_make 61 = .ok (.if_icmp .ge 37, 3) := by decide +kernel
theorem dX0_make_64 : decode cX0_make 64 = .ok (.iload 5, 2) := by decide +kernel
theorem dX0_make_66 : decode cX0_make 66 = .ok (.aload_n 3, 1) := by decide +kernel
theorem dX0_make_67 : decode cX0_make 67 = .ok (.arraylength, 1) := by decide +kernel
theorem dX0_make_68 : decode cX0_make 68 = .ok (.if_icmp .ge 30, 3) := by decide +kernel
theorem dX0_make_71 : decode cX0_make 71 = .ok (.aload_n 3, 1) := by decide +kernel
theorem dX0_make_72 : decode cX0_make 72 = .ok (.iload 5, 2) := by decide +kernel
theorem dX0_make_74 : decode cX0_make 74 = .ok (.aaload, 1) := by decide +kernel
theorem dX0_make_75 : decode cX0_make 75 = .ok (.getfield 57, 3) := by decide +kernel
theorem dX0_make_78 : decode cX0_make 78 = .ok (.ifCond .eq 20, 3) := by decide +kernel
theorem dX0_make_81 : decode cX0_make 81 = .ok (.aload_n 0, 1) := by decide +kernel
theorem dX0_make_82 : decode cX0_make 82 = .ok (.getfield 14, 3) := by decide +kernel
theorem dX0_make_85 : decode cX0_make 85 = .ok (.aload_n 3, 1) := by decide +kernel
theorem dX0_make_86 : decode cX0_make 86 = .ok (.iload 5, 2) := by decide +kernel
theorem dX0_make_88 : decode cX0_make 88 = .ok (.aaload, 1) := by decide +kernel
theorem dX0_make_89 : decode cX0_make 89 = .ok (.getfield 14, 3) := by decide +kernel
theorem dX0_make_92 : decode cX0_make 92 = .ok (.invokevirtual 61, 3) := by decide +kernel
theorem dX0_make_95 : decode cX0_make 95 = .ok (.goto 19, 3) := by decide +kernel
theorem dX0_make_98 : decode cX0_make 98 = .ok (.aload_n 0, 1) := by decide +kernel
theorem dX0_make_99 : decode cX0_make 99 = .ok (.getfield 14, 3) := by decide +kernel
theorem dX0_make_102 : decode cX0_make 102 = .ok (.aload_n 1, 1) := by decide +kernel
theorem dX0_make_103 : decode cX0_make 103 = .ok (.iload 4, 2) := by decide +kernel
theorem dX0_make_105 : decode cX0_make 105 = .ok (.invokevirtual 48, 3) := by decide +kernel
theorem dX0_make_108 : decode cX0_make 108 = .ok (.iload 5, 2) := by decide +kernel
theorem dX0_make_110 : decode cX0_make 110 = .ok (.invokevirtual 65, 3) := by decide +kernel
theorem dX0_make_113 : decode cX0_make 113 = .ok (.pop, 1) := by decide +kernel
theorem dX0_make_114 : decode cX0_make 114 = .ok (.iinc 4 1, 3) := by decide +kernel
theorem dX0_make_117 : decode cX0_make 117 = .ok (.goto (-106), 3) := by decide +kernel
theorem dX0_make_120 : decode cX0_make 120 = .ok (.aload_n 0, 1) := by decide +kernel
theorem dX0_make_121 : decode cX0_make 121 = .ok (.iload_n 2, 1) := by decide +kernel
theorem dX0_make_122 : decode cX0_make 122 = .ok (.ifCond .eq 41, 3) := by decide +kernel
theorem dX0_make_125 : decode cX0_make 125 = .ok (.aload_n 0, 1) := by decide +kernel
theorem dX0_make_126 : decode cX0_make 126 = .ok (.getfield 14, 3) := by decide +kernel
theorem dX0_make_129 : decode cX0_make 129 = .ok (.getfield 45, 3) := by decide +kernel
theorem dX0_make_132 : decode cX0_make 132 = .ok (.iconst 3, 1) := by decide +kernel
theorem dX0_make_133 : decode cX0_make 133 = .ok (.if_icmp .gt 30, 3) := by decide +kernel
theorem dX0_make_136 : decode cX0_make 136 = .ok (.aload_n 0, 1) := by decide +kernel
theorem dX0_make_137 : decode cX0_make 137 = .ok (.getfield 14, 3) := by decide +kernel
theorem dX0_make_140 : decode cX0_make 140 = .ok (.bipush 6, 2) := by decide +kernel
theorem dX0_make_142 : decode cX0_make 142 = .ok (.invokevirtual 69, 3) := by decide +kernel
theorem dX0_make_145 : decode cX0_make 145 = .ok (.ifCond .ne 18, 3) := by decide +kernel
theorem dX0_make_148 : decode cX0_make 148 = .ok (.aload_n 0, 1) := by decide +kernel
theorem dX0_make_149 : decode cX0_make 149 = .ok (.getfield 14, 3) := by decide +kernel
theorem dX0_make_152 : decode cX0_make 152 = .ok (.iconst 2, 1) := by decide +kernel
theorem dX0_make_153 : decode cX0_make 153 = .ok (.invokevirtual 69, 3) := by decide +kernel
theorem dX0_make_156 : decode cX0_make 156 = .ok (.ifCond .ne 7, 3) := by decide +kernel
theorem dX0_make_159 : decode cX0_make 159 = .ok (.iconst 1, 1) := by decide +kernel
theorem dX0_make_160 : decode cX0_make 160 = .ok (.goto 4, 3) := by decide +kernel
theorem dX0_make_163 : decode cX0_make 163 = .ok (.iconst 0, 1) := by decide +kernel
theorem dX0_make_164 : decode cX0_make 164 = .ok (.putfield 57, 3) := by decide +kernel
theorem dX0_make_167 : decode cX0_make 167 = .ok (.return_, 1) := by decide +kernel
theorem dX0_measure_0 : decode cX0_measure 0 = .ok (.aload_n 0, 1) := by decide +kernel
theorem dX0_measure_1 : decode cX0_measure 1 = .ok (.getfield 14, 3) := by decide +kernel
theorem dX0_measure_4 : decode cX0_measure 4 = .ok (.getfield 45, 3) := by decide +kernel
theorem dX0_measure_7 : decode cX0_measure 7 = .ok (.bipush 60, 2) := by decide +kernel
theorem dX0_measure_9 : decode cX0_measure 9 = .ok (.invokestatic 73, 3) := by decide +kernel
theorem dX0_measure_12 : decode cX0_measure 12 = .ok (.iconst 1, 1) := by decide +kernel
theorem dX0_measure_13 : decode cX0_measure 13 = .ok (.isub, 1) := by decide +kernel
theorem dX0_measure_14 : decode cX0_measure 14 = .ok (.istore_n 3, 1) := by decide +kernel
theorem dX0_measure_15 : decode cX0_measure 15 = .ok (.iload_n 3, 1) := by decide +kernel
theorem dX0_measure_16 : decode cX0_measure 16 = .ok (.ifCond .lt 199, 3) := by decide +kernel
theorem dX0_measure_19 : decode cX0_measure 19 = .ok (.iload_n 3, 1) := by decide +kernel
theorem dX0_measure_20 : decode cX0_measure 20 = .ok (.iconst 1, 1) := by decide +kernel
theorem dX0_measure_21 : decode cX0_measure 21 = .ok (.iadd, 1) := by decide +kernel
theorem dX0_measure_22 : decode cX0_measure 22 = .ok (.istore 4, 2) := by decide +kernel
theorem dX0_measure_24 : decode cX0_measure 24 = .ok (.aload_n 0, 1) := by decide +kernel
theorem dX0_measure_25 : decode cX0_measure 25 = .ok (.getfield 14, 3) := by decide +kernel
theorem dX0_measure_28 : decode cX0_measure 28 = .ok (.iload_n 3, 1) := by decide +kernel
theorem dX0_measure_29 : decode cX0_measure 29 = .ok (.invokevirtual 48, 3) := by decide +kernel
theorem dX0_measure_32 : decode cX0_measure 32 = .ok (.invokestatic 51, 3) := by decide +kernel
theorem dX0_measure_35 : decode cX0_measure 35 = .ok (.istore 5, 2) := by decide +kernel
theorem dX0_measure_37 : decode cX0_measure 37 = .ok (.iload 5, 2) := by decide +kernel
theorem dX0_measure_39 : decode cX0_measure 39 = .ok (.ifCond .ne 27, 3) := by decide +kernel
theorem dX0_measure_42 : decode cX0_measure 42 = .ok (.aload_n 0, 1) := by decide +kernel
theorem dX0_measure_43 : decode cX0_measure 43 = .ok (.iload_n 3, 1) := by decide +kernel
theorem dX0_measure_44 : decode cX0_measure 44 = .ok (.iconst 1, 1) := by decide +kernel
theorem dX0_measure_45 : decode cX0_measure 45 = .ok (.iconst 1, 1) := by decide +kernel
theorem dX0_measure_46 : decode cX0_measure 46 = .ok (.iconst 1, 1) := by decide +kernel
theorem dX0_measure_47 : decode cX0_measure 47 = .ok (.invokevirtual 79, 3) := by decide +kernel
theorem dX0_measure_50 : decode cX0_measure 50 = .ok (.aload_n 0, 1) := by decide +kernel
theorem dX0_measure_51 : decode cX0_measure 51 = .ok (.getfield 30, 3) := by decide +kernel
theorem dX0_measure_54 : decode cX0_measure 54 = .ok (.iload_n 3, 1) := by decide +kernel
theorem dX0_measure_55 : decode cX0_measure 55 = .ok (.aload_n 0, 1) := by decide +kernel
theorem dX0_measure_56 : decode cX0_measure 56 = .ok (.iload_n 3, 1) := by decide +kernel
theorem dX0_measure_57 : decode cX0_measure 57 = .ok (.aload_n 1, 1) := by decide +kernel
theorem dX0_measure_58 : decode cX0_measure 58 = .ok (.aload_n 2, 1) := by decide +kernel
theorem dX0_measure_59 : decode cX0_measure 59 = .ok (.invokevirtual 83, 3) := by decide +kernel
theorem dX0_measure_62 : decode cX0_measure 62 = .ok (.iastore, 1) := by decide +kernel
theorem dX0_measure_63 : decode cX0_measure 63 = .ok (.goto 146, 3) := by decide +kernel
theorem dX0_measure_66 : decode cX0_measure 66 = .ok (.iload 5, 2) := by decide +kernel
theorem dX0_measure_68 : decode cX0_measure 68 = .ok (.iconst 1, 1) := by decide +kernel
theorem dX0_measure_69 : decode cX0_measure 69 = .ok (.if_icmp .ne 46, 3) := by decide +kernel
theorem dX0_measure_72 : decode cX0_measure 72 = .ok (.aload_n 0, 1) := by decide +kernel
theorem dX0_measure_73 : decode cX0_measure 73 = .ok (.iload_n 3, 1) := by decide +kernel
theorem dX0_measure_74 : decode cX0_measure 74 = .ok (.aload_n 0, 1) := by decide +kernel
theorem dX0_measure_75 : decode cX0_measure 75 = .ok (.iload 4, 2) := by decide +kernel
theorem dX0_measure_77 : decode cX0_measure 77 = .ok (.invokevirtual 41, 3) := by decide +kernel
theorem dX0_measure_80 : decode cX0_measure 80 = .ok (.iconst 1, 1) := by decide +kernel
theorem dX0_measure_81 : decode cX0_measure 81 = .ok (.iadd, 1) := by decide +kernel
theorem dX0_measure_82 : decode cX0_measure 82 = .ok (.aload_n 0, 1) := by decide +kernel
theorem dX0_measure_83 : decode cX0_measure 83 = .ok (.iload 4, 2) := by decide +kernel
theorem dX0_measure_85 : decode cX0_measure 85 = .ok (.invokevirtual 87, 3) := by decide +kernel
theorem dX0_measure_88 : decode cX0_measure 88 = .ok (.aload_n 0, 1) := by decide +kernel
theorem dX0_measure_89 : decode cX0_measure 89 = .ok (.iload 4, 2) := by decide +kernel
theorem dX0_measure_91 : decode cX0_measure 91 = .ok (.invokevirtual 90, 3) := by decide +kernel
theorem dX0_measure_94 : decode cX0_measure 94 = .ok (.iconst 1, 1) := by decide +kernel
theorem dX0_measure_95 : decode cX0_measure 95 = .ok (.iadd, 1) := by decide +kernel
theorem dX0_measure_96 : decode cX0_measure 96 = .ok (.invokevirtual 79, 3) := by decide +kernel
theorem dX0_measure_99 : decode cX0_measure 99 = .ok (.aload_n 0, 1) := by decide +kernel
theorem dX0_measure_100 : decode cX0_measure 100 = .ok (.getfield 30, 3) := by decide +kernel
theorem dX0_measure_103 : decode cX0_measure 103 = .ok (.iload_n 3, 1) := by decide +kernel
theorem dX0_measure_104 : decode cX0_measure 104 = .ok (.aload_n 0, 1) := by decide +kernel
theorem dX0_measure_105 : decode cX0_measure 105 = .ok (.iload 4, 2) := by decide +kernel
theorem dX0_measure_107 : decode cX0_measure 107 = .ok (.invokevirtual 93, 3) := by decide +kernel
theorem dX0_measure_110 : decode cX0_measure 110 = .ok (.ineg, 1) := by decide +kernel
theorem dX0_measure_111 : decode cX0_measure 111 = .ok (.iastore, 1) := by decide +kernel
theorem dX0_measure_112 : decode cX0_measure 112 = .ok (.goto 97, 3) := by decide +kernel
theorem dX0_measure_115 : decode cX0_measure 115 = .ok (.aload_n 0, 1) := by decide +kernel
theorem dX0_measure_116 : decode cX0_measure 116 = .ok (.iload_n 3, 1) := by decide +kernel
theorem dX0_measure_117 : decode cX0_measure 117 = .ok (.invokevirtual 96, 3) := by decide +kernel
theorem dX0_measure_120 : decode cX0_measure 120 = .ok (.istore 6, 2) := by decide +kernel
theorem dX0_measure_122 : decode cX0_measure 122 = .ok (.aload_n 0, 1) := by decide +kernel
theorem dX0_measure_123 : decode cX0_measure 123 = .ok (.iload 4, 2) := by decide +kernel
theorem dX0_measure_125 : decode cX0_measure 125 = .ok (.invokevirtual 90, 3) := by decide +kernel
theorem dX0_measure_128 : decode cX0_measure 128 = .ok (.aload_n 0, 1) := by decide +kernel
theorem dX0_measure_129 : decode cX0_measure 129 = .ok (.iload 6, 2) := by decide +kernel
theorem dX0_measure_131 : decode cX0_measure 131 = .ok (.invokevirtual 90, 3) := by decide +kernel
theorem dX0_measure_134 : decode cX0_measure 134 = .ok (.invokestatic 99, 3) := by decide +kernel
theorem dX0_measure_137 : decode cX0_measure 137 = .ok (.iconst 1, 1) := by decide +kernel
theorem dX0_measure_138 : decode cX0_measure 138 = .ok (.iadd, 1) := by decide +kernel
theorem dX0_measure_139 : decode cX0_measure 139 = .ok (.istore 7, 2) := by decide +kernel
theorem dX0_measure_141 : decode cX0_measure 141 = .ok (.aload_n 0, 1) := by decide +kernel
theorem dX0_measure_142 : decode cX0_measure 142 = .ok (.iload_n 3, 1) := by decide +kernel
theorem dX0_measure_143 : decode cX0_measure 143 = .ok (.aload_n 0, 1) := by decide +kernel
theorem dX0_measure_144 : decode cX0_measure 144 = .ok (.iload 4, 2) := by decide +kernel
theorem dX0_measure_146 : decode cX0_measure 146 = .ok (.invokevirtual 41, 3) := by decide +kernel
theorem dX0_measure_149 : decode cX0_measure 149 = .ok (.aload_n 0, 1) := by decide +kernel
theorem dX0_measure_150 : decode cX0_measure 150 = .ok (.iload 6, 2) := by decide +kernel
theorem dX0_measure_152 : decode cX0_measure 152 = .ok (.invokevirtual 41, 3) := by decide +kernel
theorem dX0_measure_155 : decode cX0_measure 155 = .ok (.iadd, 1) := by decide +kernel
theorem dX0_measure_156 : decode cX0_measure 156 = .ok (.iconst 1, 1) := by decide +kernel
theorem dX0_measure_157 : decode cX0_measure 157 = .ok (.iadd, 1) := by decide +kernel
theorem dX0_measure_158 : decode cX0_measure 158 = .ok (.aload_n 0, 1) := by decide +kernel
theorem dX0_measure_159 : decode cX0_measure 159 = .ok (.iload 4, 2) := by decide +kernel
theorem dX0_measure_161 : decode cX0_measure 161 = .ok (.invokevirtual 87, 3) := by decide +kernel
theorem dX0_measure_164 : decode cX0_measure 164 = .ok (.aload_n 0, 1) := by decide +kernel
theorem dX0_measure_165 : decode cX0_measure 165 = .ok (.iload 6, 2) := by decide +kernel
theorem dX0_measure_167 : decode cX0_measure 167 = .ok (.invokevirtual 87, 3) := by decide +kernel
theorem dX0_measure_170 : decode cX0_measure 170 = .ok (.invokestatic 102, 3) := by decide +kernel
theorem dX0_measure_173 : decode cX0_measure 173 = .ok (.iload 7, 2) := by decide +kernel
theorem dX0_measure_175 : decode cX0_measure 175 = .ok (.invokevirtual 79, 3) := by decide +kernel
theorem dX0_measure_178 : decode cX0_measure 178 = .ok (.aload_n 0, 1) := by decide +kernel
theorem dX0_measure_179 : decode cX0_measure 179 = .ok (.getfield 30, 3) := by decide +kernel
theorem dX0_measure_182 : decode cX0_measure 182 = .ok (.iload_n 3, 1) := by decide +kernel
theorem dX0_measure_183 : decode cX0_measure 183 = .ok (.aload_n 0, 1) := by decide +kernel
theorem dX0_measure_184 : decode cX0_measure 184 = .ok (.getfield 14, 3) := by decide +kernel
theorem dX0_measure_187 : decode cX0_measure 187 = .ok (.iload_n 3, 1) := by decide +kernel
theorem dX0_measure_188 : decode cX0_measure 188 = .ok (.invokevirtual 48, 3) := by decide +kernel
theorem dX0_measure_191 : decode cX0_measure 191 = .ok (.aload_n 0, 1) := by decide +kernel
theorem dX0_measure_192 : decode cX0_measure 192 = .ok (.iload 4, 2) := by decide +kernel
theorem dX0_measure_194 : decode cX0_measure 194 = .ok (.invokevirtual 93, 3) := by decide +kernel
theorem dX0_measure_197 : decode cX0_measure 197 = .ok (.i2l, 1) := by decide +kernel
theorem dX0_measure_198 : decode cX0_measure 198 = .ok (.aload_n 0, 1) := by decide +kernel
theorem dX0_measure_199 : decode cX0_measure 199 = .ok (.iload 6, 2) := by decide +kernel
theorem dX0_measure_201 : decode cX0_measure 201 = .ok (.invokevirtual 93, 3) := by decide +kernel
theorem dX0_measure_204 : decode cX0_measure 204 = .ok (.i2l, 1) := by decide +kernel
theorem dX0_measure_205 : decode cX0_measure 205 = .ok (.invokestatic 105, 3) := by decide +kernel
theorem dX0_measure_208 : decode cX0_measure 208 = .ok (.iastore, 1) := by decide +kernel
theorem dX0_measure_209 : decode cX0_measure 209 = .ok (.iinc 3 (-1), 3) := by decide +kernel
theorem dX0_measure_212 : decode cX0_measure 212 = .ok (.goto (-197), 3) := by decide +kernel
theorem dX0_measure_215 : decode cX0_measure 215 = .ok (.return_, 1) := by decide +kernel
theorem dX0_put_0 : decode cX0_put 0 = .ok (.iload_n 1, 1) := by decide +kernel
theorem dX0_put_1 : decode cX0_put 1 = .ok (.ifCond .lt 31, 3) := by decide +kernel
theorem dX0_put_4 : decode cX0_put 4 = .ok (.iload_n 1, 1) := by decide +kernel
theorem dX0_put_5 : decode cX0_put 5 = .ok (.bipush 60, 2) := by decide +kernel
theorem dX0_put_7 : decode cX0_put 7 = .ok (.if_icmp .ge 25, 3) := by decide +kernel
theorem dX0_put_10 : decode cX0_put 10 = .ok (.aload_n 0, 1) := by decide +kernel
theorem dX0_put_11 : decode cX0_put 11 = .ok (.getfield 20, 3) := by decide +kernel
theorem dX0_put_14 : decode cX0_put 14 = .ok (.iload_n 1, 1) := by decide +kernel
theorem dX0_put_15 : decode cX0_put 15 = .ok (.iload_n 2, 1) := by decide +kernel
theorem dX0_put_16 : decode cX0_put 16 = .ok (.iastore, 1) := by decide +kernel
theorem dX0_put_17 : decode cX0_put 17 = .ok (.aload_n 0, 1) := by decide +kernel
theorem dX0_put_18 : decode cX0_put 18 = .ok (.getfield 24, 3) := by decide +kernel
theorem dX0_put_21 : decode cX0_put 21 = .ok (.iload_n 1, 1) := by decide +kernel
theorem dX0_put_22 : decode cX0_put 22 = .ok (.iload_n 3, 1) := by decide +kernel
theorem dX0_put_23 : decode cX0_put 23 = .ok (.iastore, 1) := by decide +kernel
theorem dX0_put_24 : decode cX0_put 24 = .ok (.aload_n 0, 1) := by decide +kernel
theorem dX0_put_25 : decode cX0_put 25 = .ok (.getfield 27, 3) := by decide +kernel
theorem dX0_put_28 : decode cX0_put 28 = .ok (.iload_n 1, 1) := by decide +kernel
theorem dX0_put_29 : decode cX0_put 29 = .ok (.iload 4, 2) := by decide +kernel
theorem dX0_put_31 : decode cX0_put 31 = .ok (.iastore, 1) := by decide +kernel
theorem dX0_put_32 : decode cX0_put 32 = .ok (.return_, 1) := by decide +kernel
theorem dX0_needOfPair_0 : decode cX0_needOfPair 0 = .ok (.iload_n 0, 1) := by decide +kernel
theorem dX0_needOfPair_1 : decode cX0_needOfPair 1 = .ok (.iload_n 1, 1) := by decide +kernel
theorem dX0_needOfPair_2 : decode cX0_needOfPair 2 = .ok (.if_icmp .ne 9, 3) := by decide +kernel
theorem dX0_needOfPair_5 : decode cX0_needOfPair 5 = .ok (.iload_n 0, 1) := by decide +kernel
theorem dX0_needOfPair_6 : decode cX0_needOfPair 6 = .ok (.iconst 1, 1) := by decide +kernel
theorem dX0_needOfPair_7 : decode cX0_needOfPair 7 = .ok (.iadd, 1) := by decide +kernel
theorem dX0_needOfPair_8 : decode cX0_needOfPair 8 = .ok (.goto 8, 3) := by decide +kernel
theorem dX0_needOfPair_11 : decode cX0_needOfPair 11 = .ok (.iload_n 0, 1) := by decide +kernel
theorem dX0_needOfPair_12 : decode cX0_needOfPair 12 = .ok (.iload_n 1, 1) := by decide +kernel
theorem dX0_needOfPair_13 : decode cX0_needOfPair 13 = .ok (.invokestatic 99, 3) := by decide +kernel
theorem dX0_needOfPair_16 : decode cX0_needOfPair 16 = .ok (.ireturn, 1) := by decide +kernel
theorem dX0_leafValue_0 : decode cX0_leafValue 0 = .ok (.aload_n 0, 1) := by decide +kernel
theorem dX0_leafValue_1 : decode cX0_leafValue 1 = .ok (.getfield 14, 3) := by decide +kernel
theorem dX0_leafValue_4 : decode cX0_leafValue 4 = .ok (.iload_n 1, 1) := by decide +kernel
theorem dX0_leafValue_5 : decode cX0_leafValue 5 = .ok (.invokevirtual 48, 3) := by decide +kernel
theorem dX0_leafValue_8 : decode cX0_leafValue 8 = .ok (.istore 4, 2) := by decide +kernel
theorem dX0_leafValue_10 : decode cX0_leafValue 10 = .ok (.aload_n 0, 1) := by decide +kernel
theorem dX0_leafValue_11 : decode cX0_leafValue 11 = .ok (.getfield 14, 3) := by decide +kernel
theorem dX0_leafValue_14 : decode cX0_leafValue 14 = .ok (.iload_n 1, 1) := by decide +kernel
theorem dX0_leafValue_15 : decode cX0_leafValue 15 = .ok (.invokevirtual 54, 3) := by decide +kernel
theorem dX0_leafValue_18 : decode cX0_leafValue 18 = .ok (.istore 5, 2) := by decide +kernel
theorem dX0_leafValue_20 : decode cX0_leafValue 20 = .ok (.iload 4, 2) := by decide +kernel
theorem dX0_leafValue_22 : decode cX0_leafValue 22 = .ok (.iconst 1, 1) := by decide +kernel
theorem dX0_leafValue_23 : decode cX0_leafValue 23 = .ok (.if_icmp .ne 10, 3) := by decide +kernel
theorem dX0_leafValue_26 : decode cX0_leafValue 26 = .ok (.aload_n 2, 1) := by decide +kernel
theorem dX0_leafValue_27 : decode cX0_leafValue 27 = .ok (.iload 5, 2) := by decide +kernel
theorem dX0_leafValue_29 : decode cX0_leafValue 29 = .ok (.invokestatic 37, 3) := by decide +kernel
theorem dX0_leafValue_32 : decode cX0_leafValue 32 = .ok (.ireturn, 1) := by decide +kernel
theorem dX0_leafValue_33 : decode cX0_leafValue 33 = .ok (.iload 4, 2) := by decide +kernel
theorem dX0_leafValue_35 : decode cX0_leafValue 35 = .ok (.iconst 2, 1) := by decide +kernel
theorem dX0_leafValue_36 : decode cX0_leafValue 36 = .ok (.if_icmp .ne 28, 3) := by decide +kernel
theorem dX0_leafValue_39 : decode cX0_leafValue 39 = .ok (.iload 5, 2) := by decide +kernel
theorem dX0_leafValue_41 : decode cX0_leafValue 41 = .ok (.ifCond .lt 21, 3) := by decide +kernel
theorem dX0_leafValue_44 : decode cX0_leafValue 44 = .ok (.iload 5, 2) := by decide +kernel
theorem dX0_leafValue_46 : decode cX0_leafValue 46 = .ok (.aload_n 3, 1) := by decide +kernel
theorem dX0_leafValue_47 : decode cX0_leafValue 47 = .ok (.arraylength, 1) := by decide +kernel
theorem dX0_leafValue_48 : decode cX0_leafValue 48 = .ok (.if_icmp .ge 14, 3) := by decide +kernel
theorem dX0_leafValue_51 : decode cX0_leafValue 51 = .ok (.aload_n 3, 1) := by decide +kernel
theorem dX0_leafValue_52 : decode cX0_leafValue 52 = .ok (.iload 5, 2) := by decide +kernel
theorem dX0_leafValue_54 : decode cX0_leafValue 54 = .ok (.aaload, 1) := by decide +kernel
theorem dX0_leafValue_55 : decode cX0_leafValue 55 = .ok (.iconst 0, 1) := by decide +kernel
theorem dX0_leafValue_56 : decode cX0_leafValue 56 = .ok (.invokevirtual 93, 3) := by decide +kernel
theorem dX0_leafValue_59 : decode cX0_leafValue 59 = .ok (.goto 4, 3) := by decide +kernel
theorem dX0_leafValue_62 : decode cX0_leafValue 62 = .ok (.iconst 0, 1) := by decide +kernel
theorem dX0_leafValue_63 : decode cX0_leafValue 63 = .ok (.ireturn, 1) := by decide +kernel
theorem dX0_leafValue_64 : decode cX0_leafValue 64 = .ok (.iload 5, 2) := by decide +kernel
theorem dX0_leafValue_66 : decode cX0_leafValue 66 = .ok (.ireturn, 1) := by decide +kernel
theorem dX0_operate_0 : decode cX0_operate 0 = .ok (.lload_n 1, 1) := by decide +kernel
theorem dX0_operate_1 : decode cX0_operate 1 = .ok (.lload_n 3, 1) := by decide +kernel
theorem dX0_operate_2 : decode cX0_operate 2 = .ok (.lmul, 1) := by decide +kernel
theorem dX0_operate_3 : decode cX0_operate 3 = .ok (.lstore 5, 2) := by decide +kernel
theorem dX0_operate_5 : decode cX0_operate 5 = .ok (.iload_n 0, 1) := by decide +kernel
theorem dX0_operate_6 : decode cX0_operate 6 = .ok (.iconst 4, 1) := by decide +kernel
theorem dX0_operate_7 : decode cX0_operate 7 = .ok (.if_icmp .ne 11, 3) := by decide +kernel
theorem dX0_operate_10 : decode cX0_operate 10 = .ok (.lload_n 1, 1) := by decide +kernel
theorem dX0_operate_11 : decode cX0_operate 11 = .ok (.lload_n 3, 1) := by decide +kernel
theorem dX0_operate_12 : decode cX0_operate 12 = .ok (.ladd, 1) := by decide +kernel
theorem dX0_operate_13 : decode cX0_operate 13 = .ok (.lstore 5, 2) := by decide +kernel
theorem dX0_operate_15 : decode cX0_operate 15 = .ok (.goto 13, 3) := by decide +kernel
theorem dX0_operate_18 : decode cX0_operate 18 = .ok (.iload_n 0, 1) := by decide +kernel
theorem dX0_operate_19 : decode cX0_operate 19 = .ok (.iconst 5, 1) := by decide +kernel
theorem dX0_operate_20 : decode cX0_operate 20 = .ok (.if_icmp .ne 8, 3) := by decide +kernel
theorem dX0_operate_23 : decode cX0_operate 23 = .ok (.lload_n 1, 1) := by decide +kernel
theorem dX0_operate_24 : decode cX0_operate 24 = .ok (.lload_n 3, 1) := by decide +kernel
theorem dX0_operate_25 : decode cX0_operate 25 = .ok (.lsub, 1) := by decide +kernel
theorem dX0_operate_26 : decode cX0_operate 26 = .ok (.lstore 5, 2) := by decide +kernel
theorem dX0_operate_28 : decode cX0_operate 28 = .ok (.ldc2_w 109, 3) := by decide +kernel
theorem dX0_operate_31 : decode cX0_operate 31 = .ok (.ldc2_w 111, 3) := by decide +kernel
theorem dX0_operate_34 : decode cX0_operate 34 = .ok (.lload 5, 2) := by decide +kernel
theorem dX0_operate_36 : decode cX0_operate 36 = .ok (.invokestatic 113, 3) := by decide +kernel
theorem dX0_operate_39 : decode cX0_operate 39 = .ok (.invokestatic 116, 3) := by decide +kernel
theorem dX0_operate_42 : decode cX0_operate 42 = .ok (.l2i, 1) := by decide +kernel
theorem dX0_operate_43 : decode cX0_operate 43 = .ok (.ireturn, 1) := by decide +kernel
theorem dX1_init_0 : decode cX1_init 0 = .ok (.aload_n 0, 1) := by decide +kernel
theorem dX1_init_1 : decode cX1_init 1 = .ok (.invokespecial 3, 3) := by decide +kernel
theorem dX1_init_4 : decode cX1_init 4 = .ok (.aload_n 0, 1) := by decide +kernel
theorem dX1_init_5 : decode cX1_init 5 = .ok (.iconst 1, 1) := by decide +kernel
theorem dX1_init_6 : decode cX1_init 6 = .ok (.putfield 9, 3) := by decide +kernel
theorem dX1_init_9 : decode cX1_init 9 = .ok (.aload_n 0, 1) := by decide +kernel
theorem dX1_init_10 : decode cX1_init 10 = .ok (.iconst 1, 1) := by decide +kernel
theorem dX1_init_11 : decode cX1_init 11 = .ok (.iload_n 1, 1) := by decide +kernel
theorem dX1_init_12 : decode cX1_init 12 = .ok (.invokestatic 15, 3) := by decide +kernel
theorem dX1_init_15 : decode cX1_init 15 = .ok (.newarray .int, 2) := by decide +kernel
theorem dX1_init_17 : decode cX1_init 17 = .ok (.putfield 21, 3) := by decide +kernel
theorem dX1_init_20 : decode cX1_init 20 = .ok (.aload_n 0, 1) := by decide +kernel
theorem dX1_init_21 : decode cX1_init 21 = .ok (.iconst 1, 1) := by decide +kernel
theorem dX1_init_22 : decode cX1_init 22 = .ok (.iload_n 1, 1) := by decide +kernel
theorem dX1_init_23 : decode cX1_init 23 = .ok (.invokestatic 15, 3) := by decide +kernel
theorem dX1_init_26 : decode cX1_init 26 = .ok (.newarray .int, 2) := by decide +kernel
theorem dX1_init_28 : decode cX1_init 28 = .ok (.putfield 25, 3) := by decide +kernel
theorem dX1_init_31 : decode cX1_init 31 = .ok (.return_, 1) := by decide +kernel
theorem dX1_has_0 : decode cX1_has 0 = .ok (.iload_n 1, 1) := by decide +kernel
theorem dX1_has_1 : decode cX1_has 1 = .ok (.ifCond .lt 33, 3) := by decide +kernel
theorem dX1_has_4 : decode cX1_has 4 = .ok (.iload_n 1, 1) := by decide +kernel
theorem dX1_has_5 : decode cX1_has 5 = .ok (.aload_n 0, 1) := by decide +kernel
theorem dX1_has_6 : decode cX1_has 6 = .ok (.getfield 9, 3) := by decide +kernel
theorem dX1_has_9 : decode cX1_has 9 = .ok (.if_icmp .ge 25, 3) := by decide +kernel
theorem dX1_has_12 : decode cX1_has 12 = .ok (.iload_n 1, 1) := by decide +kernel
theorem dX1_has_13 : decode cX1_has 13 = .ok (.aload_n 0, 1) := by decide +kernel
theorem dX1_has_14 : decode cX1_has 14 = .ok (.getfield 21, 3) := by decide +kernel
theorem dX1_has_17 : decode cX1_has 17 = .ok (.arraylength, 1) := by decide +kernel
theorem dX1_has_18 : decode cX1_has 18 = .ok (.if_icmp .ge 16, 3) := by decide +kernel
theorem dX1_has_21 : decode cX1_has 21 = .ok (.iload_n 1, 1) := by decide +kernel
theorem dX1_has_22 : decode cX1_has 22 = .ok (.aload_n 0, 1) := by decide +kernel
theorem dX1_has_23 : decode cX1_has 23 = .ok (.getfield 25, 3) := by decide +kernel
theorem dX1_has_26 : decode cX1_has 26 = .ok (.arraylength, 1) := by decide +kernel
theorem dX1_has_27 : decode cX1_has 27 = .ok (.if_icmp .ge 7, 3) := by decide +kernel
theorem dX1_has_30 : decode cX1_has 30 = .ok (.iconst 1, 1) := by decide +kernel
theorem dX1_has_31 : decode cX1_has 31 = .ok (.goto 4, 3) := by decide +kernel
theorem dX1_has_34 : decode cX1_has 34 = .ok (.iconst 0, 1) := by decide +kernel
theorem dX1_has_35 : decode cX1_has 35 = .ok (.ireturn, 1) := by decide +kernel
theorem dX1_kindOf_0 : decode cX1_kindOf 0 = .ok (.aload_n 0, 1) := by decide +kernel
theorem dX1_kindOf_1 : decode cX1_kindOf 1 = .ok (.iload_n 1, 1) := by decide +kernel
theorem dX1_kindOf_2 : decode cX1_kindOf 2 = .ok (.invokevirtual 28, 3) := by decide +kernel
theorem dX1_kindOf_5 : decode cX1_kindOf 5 = .ok (.ifCond .eq 12, 3) := by decide +kernel
theorem dX1_kindOf_8 : decode cX1_kindOf 8 = .ok (.aload_n 0, 1) := by decide +kernel
theorem dX1_kindOf_9 : decode cX1_kindOf 9 = .ok (.getfield 21, 3) := by decide +kernel
theorem dX1_kindOf_12 : decode cX1_kindOf 12 = .ok (.iload_n 1, 1) := by decide +kernel
theorem dX1_kindOf_13 : decode cX1_kindOf 13 = .ok (.iaload, 1) := by decide +kernel
theorem dX1_kindOf_14 : decode cX1_kindOf 14 = .ok (.goto 4, 3) := by decide +kernel
theorem dX1_kindOf_17 : decode cX1_kindOf 17 = .ok (.iconst 0, 1) := by decide +kernel
theorem dX1_kindOf_18 : decode cX1_kindOf 18 = .ok (.ireturn, 1) := by decide +kernel
theorem dX1_contentOf_0 : decode cX1_contentOf 0 = .ok (.aload_n 0, 1) := by decide +kernel
theorem dX1_contentOf_1 : decode cX1_contentOf 1 = .ok (.iload_n 1, 1) := by decide +kernel
theorem dX1_contentOf_2 : decode cX1_contentOf 2 = .ok (.invokevirtual 28, 3) := by decide +kernel
theorem dX1_contentOf_5 : decode cX1_contentOf 5 = .ok (.ifCond .eq 12, 3) := by decide +kernel
theorem dX1_contentOf_8 : decode cX1_contentOf 8 = .ok (.aload_n 0, 1) := by decide +kernel
theorem dX1_contentOf_9 : decode cX1_contentOf 9 = .ok (.getfield 25, 3) := by decide +kernel
theorem dX1_contentOf_12 : decode cX1_contentOf 12 = .ok (.iload_n 1, 1) := by decide +kernel
theorem dX1_contentOf_13 : decode cX1_contentOf 13 = .ok (.iaload, 1) := by decide +kernel
theorem dX1_contentOf_14 : decode cX1_contentOf 14 = .ok (.goto 4, 3) := by decide +kernel
theorem dX1_contentOf_17 : decode cX1_contentOf 17 = .ok (.iconst 0, 1) := by decide +kernel
theorem dX1_contentOf_18 : decode cX1_contentOf 18 = .ok (.ireturn, 1) := by decide +kernel
theorem dX1_hasKind_0 : decode cX1_hasKind 0 = .ok (.iconst 0, 1) := by decide +kernel
theorem dX1_hasKind_1 : decode cX1_hasKind 1 = .ok (.istore_n 2, 1) := by decide +kernel
theorem dX1_hasKind_2 : decode cX1_hasKind 2 = .ok (.iload_n 2, 1) := by decide +kernel
theorem dX1_hasKind_3 : decode cX1_hasKind 3 = .ok (.aload_n 0, 1) := by decide +kernel
theorem dX1_hasKind_4 : decode cX1_hasKind 4 = .ok (.getfield 9, 3) := by decide +kernel
theorem dX1_hasKind_7 : decode cX1_hasKind 7 = .ok (.if_icmp .ge 20, 3) := by decide +kernel
theorem dX1_hasKind_10 : decode cX1_hasKind 10 = .ok (.aload_n 0, 1) := by decide +kernel
theorem dX1_hasKind_11 : decode cX1_hasKind 11 = .ok (.iload_n 2, 1) := by decide +kernel
theorem dX1_hasKind_12 : decode cX1_hasKind 12 = .ok (.invokevirtual 32, 3) := by decide +kernel
theorem dX1_hasKind_15 : decode cX1_hasKind 15 = .ok (.iload_n 1, 1) := by decide +kernel
theorem dX1_hasKind_16 : decode cX1_hasKind 16 = .ok (.if_icmp .ne 5, 3) := by decide +kernel
theorem dX1_hasKind_19 : decode cX1_hasKind 19 = .ok (.iconst 1, 1) := by decide +kernel
theorem dX1_hasKind_20 : decode cX1_hasKind 20 = .ok (.ireturn, 1) := by decide +kernel
theorem dX1_hasKind_21 : decode cX1_hasKind 21 = .ok (.iinc 2 1, 3) := by decide +kernel
theorem dX1_hasKind_24 : decode cX1_hasKind 24 = .ok (.goto (-22), 3) := by decide +kernel
theorem dX1_hasKind_27 : decode cX1_hasKind 27 = .ok (.iconst 0, 1) := by decide +kernel
theorem dX1_hasKind_28 : decode cX1_hasKind 28 = .ok (.ireturn, 1) := by decide +kernel
theorem dX1_isFull_0 : decode cX1_isFull 0 = .ok (.aload_n 0, 1) := by decide +kernel
theorem dX1_isFull_1 : decode cX1_isFull 1 = .ok (.getfield 9, 3) := by decide +kernel
theorem dX1_isFull_4 : decode cX1_isFull 4 = .ok (.aload_n 0, 1) := by decide +kernel
theorem dX1_isFull_5 : decode cX1_isFull 5 = .ok (.getfield 21, 3) := by decide +kernel
theorem dX1_isFull_8 : decode cX1_isFull 8 = .ok (.arraylength, 1) := by decide +kernel
theorem dX1_isFull_9 : decode cX1_isFull 9 = .ok (.if_icmp .ge 15, 3) := by decide +kernel
theorem dX1_isFull_12 : decode cX1_isFull 12 = .ok (.aload_n 0, 1) := by decide +kernel
theorem dX1_isFull_13 : decode cX1_isFull 13 = .ok (.getfield 9, 3) := by decide +kernel
theorem dX1_isFull_16 : decode cX1_isFull 16 = .ok (.aload_n 0, 1) := by decide +kernel
theorem dX1_isFull_17 : decode cX1_isFull 17 = .ok (.getfield 25, 3) := by decide +kernel
theorem dX1_isFull_20 : decode cX1_isFull 20 = .ok (.arraylength, 1) := by decide +kernel
theorem dX1_isFull_21 : decode cX1_isFull 21 = .ok (.if_icmp .lt 7, 3) := by decide +kernel
theorem dX1_isFull_24 : decode cX1_isFull 24 = .ok (.iconst 1, 1) := by decide +kernel
theorem dX1_isFull_25 : decode cX1_isFull 25 = .ok (.goto 4, 3) := by decide +kernel
theorem dX1_isFull_28 : decode cX1_isFull 28 = .ok (.iconst 0, 1) := by decide +kernel
theorem dX1_isFull_29 : decode cX1_isFull 29 = .ok (.ireturn, 1) := by decide +kernel
theorem dX1_add_0 : decode cX1_add 0 = .ok (.aload_n 0, 1) := by decide +kernel
theorem dX1_add_1 : decode cX1_add 1 = .ok (.invokevirtual 36, 3) := by decide +kernel
theorem dX1_add_4 : decode cX1_add 4 = .ok (.ifCond .eq 5, 3) := by decide +kernel
theorem dX1_add_7 : decode cX1_add 7 = .ok (.iconst 0, 1) := by decide +kernel
theorem dX1_add_8 : decode cX1_add 8 = .ok (.ireturn, 1) := by decide +kernel
theorem dX1_add_9 : decode cX1_add 9 = .ok (.aload_n 0, 1) := by decide +kernel
theorem dX1_add_10 : decode cX1_add 10 = .ok (.getfield 21, 3) := by decide +kernel
theorem dX1_add_13 : decode cX1_add 13 = .ok (.aload_n 0, 1) := by decide +kernel
theorem dX1_add_14 : decode cX1_add 14 = .ok (.getfield 9, 3) := by decide +kernel
theorem dX1_add_17 : decode cX1_add 17 = .ok (.iload_n 1, 1) := by decide +kernel
theorem dX1_add_18 : decode cX1_add 18 = .ok (.iastore, 1) := by decide +kernel
theorem dX1_add_19 : decode cX1_add 19 = .ok (.aload_n 0, 1) := by decide +kernel
theorem dX1_add_20 : decode cX1_add 20 = .ok (.getfield 25, 3) := by decide +kernel
theorem dX1_add_23 : decode cX1_add 23 = .ok (.aload_n 0, 1) := by decide +kernel
theorem dX1_add_24 : decode cX1_add 24 = .ok (.getfield 9, 3) := by decide +kernel
theorem dX1_add_27 : decode cX1_add 27 = .ok (.iload_n 2, 1) := by decide +kernel
theorem dX1_add_28 : decode cX1_add 28 = .ok (.iastore, 1) := by decide +kernel
theorem dX1_add_29 : decode cX1_add 29 = .ok (.aload_n 0, 1) := by decide +kernel
theorem dX1_add_30 : decode cX1_add 30 = .ok (.dup, 1) := by decide +kernel
theorem dX1_add_31 : decode cX1_add 31 = .ok (.getfield 9, 3) := by decide +kernel
theorem dX1_add_34 : decode cX1_add 34 = .ok (.iconst 1, 1) := by decide +kernel
theorem dX1_add_35 : decode cX1_add 35 = .ok (.iadd, 1) := by decide +kernel
theorem dX1_add_36 : decode cX1_add 36 = .ok (.putfield 9, 3) := by decide +kernel
theorem dX1_add_39 : decode cX1_add 39 = .ok (.iconst 1, 1) := by decide +kernel
theorem dX1_add_40 : decode cX1_add 40 = .ok (.ireturn, 1) := by decide +kernel
theorem dX1_insert_0 : decode cX1_insert 0 = .ok (.aload_n 0, 1) := by decide +kernel
theorem dX1_insert_1 : decode cX1_insert 1 = .ok (.invokevirtual 36, 3) := by decide +kernel
theorem dX1_insert_4 : decode cX1_insert 4 = .ok (.ifCond .ne 15, 3) := by decide +kernel
theorem dX1_insert_7 : decode cX1_insert 7 = .ok (.iload_n 1, 1) := by decide +kernel
theorem dX1_insert_8 : decode cX1_insert 8 = .ok (.ifCond .lt 11, 3) := by decide +kernel
theorem dX1_insert_11 : decode cX1_insert 11 = .ok (.iload_n 1, 1) := by decide +kernel
theorem dX1_insert_12 : decode cX1_insert 12 = .ok (.aload_n 0, 1) := by decide +kernel
theorem dX1_insert_13 : decode cX1_insert 13 = .ok (.getfield 9, 3) := by decide +kernel
theorem dX1_insert_16 : decode cX1_insert 16 = .ok (.if_icmp .le 5, 3) := by decide +kernel
theorem dX1_insert_19 : decode cX1_insert 19 = .ok (.iconst 0, 1) := by decide +kernel
theorem dX1_insert_20 : decode cX1_insert 20 = .ok (.ireturn, 1) := by decide +kernel
theorem dX1_insert_21 : decode cX1_insert 21 = .ok (.aload_n 0, 1) := by decide +kernel
theorem dX1_insert_22 : decode cX1_insert 22 = .ok (.getfield 21, 3) := by decide +kernel
theorem dX1_insert_25 : decode cX1_insert 25 = .ok (.iload_n 1, 1) := by decide +kernel
theorem dX1_insert_26 : decode cX1_insert 26 = .ok (.aload_n 0, 1) := by decide +kernel
theorem dX1_insert_27 : decode cX1_insert 27 = .ok (.getfield 21, 3) := by decide +kernel
theorem dX1_insert_30 : decode cX1_insert 30 = .ok (.iload_n 1, 1) := by decide +kernel
theorem dX1_insert_31 : decode cX1_insert 31 = .ok (.iconst 1, 1) := by decide +kernel
theorem dX1_insert_32 : decode cX1_insert 32 = .ok (.iadd, 1) := by decide +kernel
theorem dX1_insert_33 : decode cX1_insert 33 = .ok (.aload_n 0, 1) := by decide +kernel
theorem dX1_insert_34 : decode cX1_insert 34 = .ok (.getfield 9, 3) := by decide +kernel
theorem dX1_insert_37 : decode cX1_insert 37 = .ok (.iload_n 1, 1) := by decide +kernel
theorem dX1_insert_38 : decode cX1_insert 38 = .ok (.isub, 1) := by decide +kernel
theorem dX1_insert_39 : decode cX1_insert 39 = .ok (.invokestatic 40, 3) := by decide +kernel
theorem dX1_insert_42 : decode cX1_insert 42 = .ok (.aload_n 0, 1) := by decide +kernel
theorem dX1_insert_43 : decode cX1_insert 43 = .ok (.getfield 25, 3) := by decide +kernel
theorem dX1_insert_46 : decode cX1_insert 46 = .ok (.iload_n 1, 1) := by decide +kernel
theorem dX1_insert_47 : decode cX1_insert 47 = .ok (.aload_n 0, 1) := by decide +kernel
theorem dX1_insert_48 : decode cX1_insert 48 = .ok (.getfield 25, 3) := by decide +kernel
theorem dX1_insert_51 : decode cX1_insert 51 = .ok (.iload_n 1, 1) := by decide +kernel
theorem dX1_insert_52 : decode cX1_insert 52 = .ok (.iconst 1, 1) := by decide +kernel
theorem dX1_insert_53 : decode cX1_insert 53 = .ok (.iadd, 1) := by decide +kernel
theorem dX1_insert_54 : decode cX1_insert 54 = .ok (.aload_n 0, 1) := by decide +kernel
theorem dX1_insert_55 : decode cX1_insert 55 = .ok (.getfield 9, 3) := by decide +kernel
theorem dX1_insert_58 : decode cX1_insert 58 = .ok (.iload_n 1, 1) := by decide +kernel
theorem dX1_insert_59 : decode cX1_insert 59 = .ok (.isub, 1) := by decide +kernel
theorem dX1_insert_60 : decode cX1_insert 60 = .ok (.invokestatic 40, 3) := by decide +kernel
theorem dX1_insert_63 : decode cX1_insert 63 = .ok (.aload_n 0, 1) := by decide +kernel
theorem dX1_insert_64 : decode cX1_insert 64 = .ok (.getfield 21, 3) := by decide +kernel
theorem dX1_insert_67 : decode cX1_insert 67 = .ok (.iload_n 1, 1) := by decide +kernel
theorem dX1_insert_68 : decode cX1_insert 68 = .ok (.iload_n 2, 1) := by decide +kernel
theorem dX1_insert_69 : decode cX1_insert 69 = .ok (.iastore, 1) := by decide +kernel
theorem dX1_insert_70 : decode cX1_insert 70 = .ok (.aload_n 0, 1) := by decide +kernel
theorem dX1_insert_71 : decode cX1_insert 71 = .ok (.getfield 25, 3) := by decide +kernel
theorem dX1_insert_74 : decode cX1_insert 74 = .ok (.iload_n 1, 1) := by decide +kernel
theorem dX1_insert_75 : decode cX1_insert 75 = .ok (.iload_n 3, 1) := by decide +kernel
theorem dX1_insert_76 : decode cX1_insert 76 = .ok (.iastore, 1) := by decide +kernel
theorem dX1_insert_77 : decode cX1_insert 77 = .ok (.aload_n 0, 1) := by decide +kernel
theorem dX1_insert_78 : decode cX1_insert 78 = .ok (.dup, 1) := by decide +kernel
theorem dX1_insert_79 : decode cX1_insert 79 = .ok (.getfield 9, 3) := by decide +kernel
theorem dX1_insert_82 : decode cX1_insert 82 = .ok (.iconst 1, 1) := by decide +kernel
theorem dX1_insert_83 : decode cX1_insert 83 = .ok (.iadd, 1) := by decide +kernel
theorem dX1_insert_84 : decode cX1_insert 84 = .ok (.putfield 9, 3) := by decide +kernel
theorem dX1_insert_87 : decode cX1_insert 87 = .ok (.iconst 1, 1) := by decide +kernel
theorem dX1_insert_88 : decode cX1_insert 88 = .ok (.ireturn, 1) := by decide +kernel
theorem dX1_addAll_0 : decode cX1_addAll 0 = .ok (.aload_n 1, 1) := by decide +kernel
theorem dX1_addAll_1 : decode cX1_addAll 1 = .ok (.getfield 9, 3) := by decide +kernel
theorem dX1_addAll_4 : decode cX1_addAll 4 = .ok (.istore_n 2, 1) := by decide +kernel
theorem dX1_addAll_5 : decode cX1_addAll 5 = .ok (.iconst 0, 1) := by decide +kernel
theorem dX1_addAll_6 : decode cX1_addAll 6 = .ok (.istore_n 3, 1) := by decide +kernel
theorem dX1_addAll_7 : decode cX1_addAll 7 = .ok (.iload_n 3, 1) := by decide +kernel
theorem dX1_addAll_8 : decode cX1_addAll 8 = .ok (.iload_n 2, 1) := by decide +kernel
theorem dX1_addAll_9 : decode cX1_addAll 9 = .ok (.if_icmp .ge 24, 3) := by decide +kernel
theorem dX1_addAll_12 : decode cX1_addAll 12 = .ok (.aload_n 0, 1) := by decide +kernel
theorem dX1_addAll_13 : decode cX1_addAll 13 = .ok (.aload_n 1, 1) := by decide +kernel
theorem dX1_addAll_14 : decode cX1_addAll 14 = .ok (.iload_n 3, 1) := by decide +kernel
theorem dX1_addAll_15 : decode cX1_addAll 15 = .ok (.invokevirtual 32, 3) := by decide +kernel
theorem dX1_addAll_18 : decode cX1_addAll 18 = .ok (.aload_n 1, 1) := by decide +kernel
theorem dX1_addAll_19 : decode cX1_addAll 19 = .ok (.iload_n 3, 1) := by decide +kernel
theorem dX1_addAll_20 : decode cX1_addAll 20 = .ok (.invokevirtual 46, 3) := by decide +kernel
theorem dX1_addAll_23 : decode cX1_addAll 23 = .ok (.invokevirtual 49, 3) := by decide +kernel
theorem dX1_addAll_26 : decode cX1_addAll 26 = .ok (.pop, 1) := by decide +kernel
theorem dX1_addAll_27 : decode cX1_addAll 27 = .ok (.iinc 3 1, 3) := by decide +kernel
theorem dX1_addAll_30 : decode cX1_addAll 30 = .ok (.goto (-23), 3) := by decide +kernel
theorem dX1_addAll_33 : decode cX1_addAll 33 = .ok (.return_, 1) := by decide +kernel
theorem dX1_copy_0 : decode cX1_copy 0 = .ok (.aload_n 0, 1) := by decide +kernel
theorem dX1_copy_1 : decode cX1_copy 1 = .ok (.iconst 0, 1) := by decide +kernel
theorem dX1_copy_2 : decode cX1_copy 2 = .ok (.putfield 9, 3) := by decide +kernel
theorem dX1_copy_5 : decode cX1_copy 5 = .ok (.aload_n 0, 1) := by decide +kernel
theorem dX1_copy_6 : decode cX1_copy 6 = .ok (.aload_n 1, 1) := by decide +kernel
theorem dX1_copy_7 : decode cX1_copy 7 = .ok (.invokevirtual 53, 3) := by decide +kernel
theorem dX1_copy_10 : decode cX1_copy 10 = .ok (.return_, 1) := by decide +kernel
theorem dX1_behind_0 : decode cX1_behind 0 = .ok (.iconst 0, 1) := by decide +kernel
theorem dX1_behind_1 : decode cX1_behind 1 = .ok (.iload_n 1, 1) := by decide +kernel
theorem dX1_behind_2 : decode cX1_behind 2 = .ok (.invokestatic 15, 3) := by decide +kernel
theorem dX1_behind_5 : decode cX1_behind 5 = .ok (.istore_n 2, 1) := by decide +kernel
theorem dX1_behind_6 : decode cX1_behind 6 = .ok (.iconst 1, 1) := by decide +kernel
theorem dX1_behind_7 : decode cX1_behind 7 = .ok (.istore_n 3, 1) := by decide +kernel
theorem dX1_behind_8 : decode cX1_behind 8 = .ok (.iload_n 3, 1) := by decide +kernel
theorem dX1_behind_9 : decode cX1_behind 9 = .ok (.ifCond .le 30, 3) := by decide +kernel
theorem dX1_behind_12 : decode cX1_behind 12 = .ok (.iload_n 2, 1) := by decide +kernel
theorem dX1_behind_13 : decode cX1_behind 13 = .ok (.aload_n 0, 1) := by decide +kernel
theorem dX1_behind_14 : decode cX1_behind 14 = .ok (.getfield 9, 3) := by decide +kernel
theorem dX1_behind_17 : decode cX1_behind 17 = .ok (.if_icmp .ge 22, 3) := by decide +kernel
theorem dX1_behind_20 : decode cX1_behind 20 = .ok (.iload_n 3, 1) := by decide +kernel
theorem dX1_behind_21 : decode cX1_behind 21 = .ok (.aload_n 0, 1) := by decide +kernel
theorem dX1_behind_22 : decode cX1_behind 22 = .ok (.iload_n 2, 1) := by decide +kernel
theorem dX1_behind_23 : decode cX1_behind 23 = .ok (.invokevirtual 32, 3) := by decide +kernel
theorem dX1_behind_26 : decode cX1_behind 26 = .ok (.invokestatic 57, 3) := by decide +kernel
theorem dX1_behind_29 : decode cX1_behind 29 = .ok (.iconst 1, 1) := by decide +kernel
theorem dX1_behind_30 : decode cX1_behind 30 = .ok (.isub, 1) := by decide +kernel
theorem dX1_behind_31 : decode cX1_behind 31 = .ok (.iadd, 1) := by decide +kernel
theorem dX1_behind_32 : decode cX1_behind 32 = .ok (.istore_n 3, 1) := by decide +kernel
theorem dX1_behind_33 : decode cX1_behind 33 = .ok (.iinc 2 1, 3) := by decide +kernel
theorem dX1_behind_36 : decode cX1_behind 36 = .ok (.goto (-28), 3) := by decide +kernel
theorem dX1_behind_39 : decode cX1_behind 39 = .ok (.iload_n 2, 1) := by decide +kernel
theorem dX1_behind_40 : decode cX1_behind 40 = .ok (.ireturn, 1) := by decide +kernel
theorem dX1_exchange_0 : decode cX1_exchange 0 = .ok (.aload_n 0, 1) := by decide +kernel
theorem dX1_exchange_1 : decode cX1_exchange 1 = .ok (.iload_n 1, 1) := by decide +kernel
theorem dX1_exchange_2 : decode cX1_exchange 2 = .ok (.iconst 1, 1) := by decide +kernel
theorem dX1_exchange_3 : decode cX1_exchange 3 = .ok (.iadd, 1) := by decide +kernel
theorem dX1_exchange_4 : decode cX1_exchange 4 = .ok (.invokevirtual 60, 3) := by decide +kernel
theorem dX1_exchange_7 : decode cX1_exchange 7 = .ok (.istore_n 2, 1) := by decide +kernel
theorem dX1_exchange_8 : decode cX1_exchange 8 = .ok (.aload_n 0, 1) := by decide +kernel
theorem dX1_exchange_9 : decode cX1_exchange 9 = .ok (.iload_n 2, 1) := by decide +kernel
theorem dX1_exchange_10 : decode cX1_exchange 10 = .ok (.invokevirtual 60, 3) := by decide +kernel
theorem dX1_exchange_13 : decode cX1_exchange 13 = .ok (.istore_n 3, 1) := by decide +kernel
theorem dX1_exchange_14 : decode cX1_exchange 14 = .ok (.aload_n 0, 1) := by decide +kernel
theorem dX1_exchange_15 : decode cX1_exchange 15 = .ok (.iload_n 1, 1) := by decide +kernel
theorem dX1_exchange_16 : decode cX1_exchange 16 = .ok (.iconst 1, 1) := by decide +kernel
theorem dX1_exchange_17 : decode cX1_exchange 17 = .ok (.iadd, 1) := by decide +kernel
theorem dX1_exchange_18 : decode cX1_exchange 18 = .ok (.iload_n 2, 1) := by decide +kernel
theorem dX1_exchange_19 : decode cX1_exchange 19 = .ok (.iconst 1, 1) := by decide +kernel
theorem dX1_exchange_20 : decode cX1_exchange 20 = .ok (.isub, 1) := by decide +kernel
theorem dX1_exchange_21 : decode cX1_exchange 21 = .ok (.invokevirtual 63, 3) := by decide +kernel
theorem dX1_exchange_24 : decode cX1_exchange 24 = .ok (.aload_n 0, 1) := by decide +kernel
theorem dX1_exchange_25 : decode cX1_exchange 25 = .ok (.iload_n 2, 1) := by decide +kernel
theorem dX1_exchange_26 : decode cX1_exchange 26 = .ok (.iload_n 3, 1) := by decide +kernel
theorem dX1_exchange_27 : decode cX1_exchange 27 = .ok (.iconst 1, 1) := by decide +kernel
theorem dX1_exchange_28 : decode cX1_exchange 28 = .ok (.isub, 1) := by decide +kernel
theorem dX1_exchange_29 : decode cX1_exchange 29 = .ok (.invokevirtual 63, 3) := by decide +kernel
theorem dX1_exchange_32 : decode cX1_exchange 32 = .ok (.aload_n 0, 1) := by decide +kernel
theorem dX1_exchange_33 : decode cX1_exchange 33 = .ok (.iload_n 1, 1) := by decide +kernel
theorem dX1_exchange_34 : decode cX1_exchange 34 = .ok (.iconst 1, 1) := by decide +kernel
theorem dX1_exchange_35 : decode cX1_exchange 35 = .ok (.iadd, 1) := by decide +kernel
theorem dX1_exchange_36 : decode cX1_exchange 36 = .ok (.iload_n 3, 1) := by decide +kernel
theorem dX1_exchange_37 : decode cX1_exchange 37 = .ok (.iconst 1, 1) := by decide +kernel
theorem dX1_exchange_38 : decode cX1_exchange 38 = .ok (.isub, 1) := by decide +kernel
theorem dX1_exchange_39 : decode cX1_exchange 39 = .ok (.invokevirtual 63, 3) := by decide +kernel
theorem dX1_exchange_42 : decode cX1_exchange 42 = .ok (.return_, 1) := by decide +kernel
theorem dX1_turnAround_0 : decode cX1_turnAround 0 = .ok (.iload_n 1, 1) := by decide +kernel
theorem dX1_turnAround_1 : decode cX1_turnAround 1 = .ok (.istore_n 3, 1) := by decide +kernel
theorem dX1_turnAround_2 : decode cX1_turnAround 2 = .ok (.iload_n 2, 1) := by decide +kernel
theorem dX1_turnAround_3 : decode cX1_turnAround 3 = .ok (.istore 4, 2) := by decide +kernel
theorem dX1_turnAround_5 : decode cX1_turnAround 5 = .ok (.iload_n 3, 1) := by decide +kernel
theorem dX1_turnAround_6 : decode cX1_turnAround 6 = .ok (.iload 4, 2) := by decide +kernel
theorem dX1_turnAround_8 : decode cX1_turnAround 8 = .ok (.if_icmp .ge 89, 3) := by decide +kernel
theorem dX1_turnAround_11 : decode cX1_turnAround 11 = .ok (.aload_n 0, 1) := by decide +kernel
theorem dX1_turnAround_12 : decode cX1_turnAround 12 = .ok (.iload_n 3, 1) := by decide +kernel
theorem dX1_turnAround_13 : decode cX1_turnAround 13 = .ok (.invokevirtual 28, 3) := by decide +kernel
theorem dX1_turnAround_16 : decode cX1_turnAround 16 = .ok (.ifCond .eq 81, 3) := by decide +kernel
theorem dX1_turnAround_19 : decode cX1_turnAround 19 = .ok (.aload_n 0, 1) := by decide +kernel
theorem dX1_turnAround_20 : decode cX1_turnAround 20 = .ok (.iload 4, 2) := by decide +kernel
theorem dX1_turnAround_22 : decode cX1_turnAround 22 = .ok (.invokevirtual 28, 3) := by decide +kernel
theorem dX1_turnAround_25 : decode cX1_turnAround 25 = .ok (.ifCond .eq 72, 3) := by decide +kernel
theorem dX1_turnAround_28 : decode cX1_turnAround 28 = .ok (.aload_n 0, 1) := by decide +kernel
theorem dX1_turnAround_29 : decode cX1_turnAround 29 = .ok (.getfield 21, 3) := by decide +kernel
theorem dX1_turnAround_32 : decode cX1_turnAround 32 = .ok (.iload_n 3, 1) := by decide +kernel
theorem dX1_turnAround_33 : decode cX1_turnAround 33 = .ok (.iaload, 1) := by decide +kernel
theorem dX1_turnAround_34 : decode cX1_turnAround 34 = .ok (.istore 5, 2) := by decide +kernel
theorem dX1_turnAround_36 : decode cX1_turnAround 36 = .ok (.aload_n 0, 1) := by decide +kernel
theorem dX1_turnAround_37 : decode cX1_turnAround 37 = .ok (.getfield 21, 3) := by decide +kernel
theorem dX1_turnAround_40 : decode cX1_turnAround 40 = .ok (.iload_n 3, 1) := by decide +kernel
theorem dX1_turnAround_41 : decode cX1_turnAround 41 = .ok (.aload_n 0, 1) := by decide +kernel
theorem dX1_turnAround_42 : decode cX1_turnAround 42 = .ok (.getfield 21, 3) := by decide +kernel
theorem dX1_turnAround_45 : decode cX1_turnAround 45 = .ok (.iload 4, 2) := by decide +kernel
theorem dX1_turnAround_47 : decode cX1_turnAround 47 = .ok (.iaload, 1) := by decide +kernel
theorem dX1_turnAround_48 : decode cX1_turnAround 48 = .ok (.iastore, 1) := by decide +kernel
theorem dX1_turnAround_49 : decode cX1_turnAround 49 = .ok (.aload_n 0, 1) := by decide +kernel
theorem dX1_turnAround_50 : decode cX1_turnAround 50 = .ok (.getfield 21, 3) := by decide +kernel
theorem dX1_turnAround_53 : decode cX1_turnAround 53 = .ok (.iload 4, 2) := by decide +kernel
theorem dX1_turnAround_55 : decode cX1_turnAround 55 = .ok (.iload 5, 2) := by decide +kernel
theorem dX1_turnAround_57 : decode cX1_turnAround 57 = .ok (.iastore, 1) := by decide +kernel
theorem dX1_turnAround_58 : decode cX1_turnAround 58 = .ok (.aload_n 0, 1) := by decide +kernel
theorem dX1_turnAround_59 : decode cX1_turnAround 59 = .ok (.getfield 25, 3) := by decide +kernel
theorem dX1_turnAround_62 : decode cX1_turnAround 62 = .ok (.iload_n 3, 1) := by decide +kernel
theorem dX1_turnAround_63 : decode cX1_turnAround 63 = .ok (.iaload, 1) := by decide +kernel
theorem dX1_turnAround_64 : decode cX1_turnAround 64 = .ok (.istore 6, 2) := by decide +kernel
theorem dX1_turnAround_66 : decode cX1_turnAround 66 = .ok (.aload_n 0, 1) := by decide +kernel
theorem dX1_turnAround_67 : decode cX1_turnAround 67 = .ok (.getfield 25, 3) := by decide +kernel
theorem dX1_turnAround_70 : decode cX1_turnAround 70 = .ok (.iload_n 3, 1) := by decide +kernel
theorem dX1_turnAround_71 : decode cX1_turnAround 71 = .ok (.aload_n 0, 1) := by decide +kernel
theorem dX1_turnAround_72 : decode cX1_turnAround 72 = .ok (.getfield 25, 3) := by decide +kernel
theorem dX1_turnAround_75 : decode cX1_turnAround 75 = .ok (.iload 4, 2) := by decide +kernel
theorem dX1_turnAround_77 : decode cX1_turnAround 77 = .ok (.iaload, 1) := by decide +kernel
theorem dX1_turnAround_78 : decode cX1_turnAround 78 = .ok (.iastore, 1) := by decide +kernel
theorem dX1_turnAround_79 : decode cX1_turnAround 79 = .ok (.aload_n 0, 1) := by decide +kernel
theorem dX1_turnAround_80 : decode cX1_turnAround 80 = .ok (.getfield 25, 3) := by decide +kernel
theorem dX1_turnAround_83 : decode cX1_turnAround 83 = .ok (.iload 4, 2) := by decide +kernel
theorem dX1_turnAround_85 : decode cX1_turnAround 85 = .ok (.iload 6, 2) := by decide +kernel
theorem dX1_turnAround_87 : decode cX1_turnAround 87 = .ok (.iastore, 1) := by decide +kernel
theorem dX1_turnAround_88 : decode cX1_turnAround 88 = .ok (.iinc 3 1, 3) := by decide +kernel
theorem dX1_turnAround_91 : decode cX1_turnAround 91 = .ok (.iinc 4 (-1), 3) := by decide +kernel
theorem dX1_turnAround_94 : decode cX1_turnAround 94 = .ok (.goto (-89), 3) := by decide +kernel
theorem dX1_turnAround_97 : decode cX1_turnAround 97 = .ok (.return_, 1) := by decide +kernel
theorem dX2_init_0 : decode cX2_init 0 = .ok (.aload_n 0, 1) := by decide +kernel
theorem dX2_init_1 : decode cX2_init 1 = .ok (.invokespecial 3, 3) := by decide +kernel
theorem dX2_init_4 : decode cX2_init 4 = .ok (.aload_n 0, 1) := by decide +kernel
theorem dX2_init_5 : decode cX2_init 5 = .ok (.sipush 726, 3) := by decide +kernel
theorem dX2_init_8 : decode cX2_init 8 = .ok (.newarray .int, 2) := by decide +kernel
theorem dX2_init_10 : decode cX2_init 10 = .ok (.putfield 11, 3) := by decide +kernel
theorem dX2_init_13 : decode cX2_init 13 = .ok (.aload_n 0, 1) := by decide +kernel
theorem dX2_init_14 : decode cX2_init 14 = .ok (.sipush 726, 3) := by decide +kernel
theorem dX2_init_17 : decode cX2_init 17 = .ok (.newarray .int, 2) := by decide +kernel
theorem dX2_init_19 : decode cX2_init 19 = .ok (.putfield 15, 3) := by decide +kernel
theorem dX2_init_22 : decode cX2_init 22 = .ok (.aload_n 0, 1) := by decide +kernel
theorem dX2_init_23 : decode cX2_init 23 = .ok (.sipush 726, 3) := by decide +kernel
theorem dX2_init_26 : decode cX2_init 26 = .ok (.newarray .int, 2) := by decide +kernel
theorem dX2_init_28 : decode cX2_init 28 = .ok (.putfield 18, 3) := by decide +kernel
theorem dX2_init_31 : decode cX2_init 31 = .ok (.aload_n 0, 1) := by decide +kernel
theorem dX2_init_32 : decode cX2_init 32 = .ok (.sipush 726, 3) := by decide +kernel
theorem dX2_init_35 : decode cX2_init 35 = .ok (.newarray .int, 2) := by decide +kernel
theorem dX2_init_37 : decode cX2_init 37 = .ok (.putfield 21, 3) := by decide +kernel
theorem dX2_init_40 : decode cX2_init 40 = .ok (.return_, 1) := by decide +kernel
end
section
theorem dX3_init_0 : decode cX3_init 0 = .ok (.aload_n 0, 1) := by decide +kernel
theorem dX3_init_1 : decode cX3_init 1 = .ok (.invokespecial 3, 3) := by decide +kernel
theorem dX3_init_4 : decode cX3_init 4 = .ok (.aload_n 0, 1) := by decide +kernel
theorem dX3_init_5 : decode cX3_init 5 = .ok (.bipush 100, 2) := by decide +kernel
theorem dX3_init_7 : decode cX3_init 7 = .ok (.newarray .int, 2) := by decide +kernel
theorem dX3_init_9 : decode cX3_init 9 = .ok (.putfield 9, 3) := by decide +kernel
theorem dX3_init_12 : decode cX3_init 12 = .ok (.aload_n 0, 1) := by decide +kernel
theorem dX3_init_13 : decode cX3_init 13 = .ok (.new 15, 3) := by decide +kernel
theorem dX3_init_16 : decode cX3_init 16 = .ok (.dup, 1) := by decide +kernel
theorem dX3_init_17 : decode cX3_init 17 = .ok (.invokespecial 17, 3) := by decide +kernel
theorem dX3_init_20 : decode cX3_init 20 = .ok (.putfield 18, 3) := by decide +kernel
theorem dX3_init_23 : decode cX3_init 23 = .ok (.return_, 1) := by decide +kernel
theorem dX3_take_0 : decode cX3_take 0 = .ok (.aload_n 0, 1) := by decide +kernel
theorem dX3_take_1 : decode cX3_take 1 = .ok (.getfield 22, 3) := by decide +kernel
theorem dX3_take_4 : decode cX3_take 4 = .ok (.ifCond .lt 15, 3) := by decide +kernel
theorem dX3_take_7 : decode cX3_take 7 = .ok (.aload_n 0, 1) := by decide +kernel
theorem dX3_take_8 : decode cX3_take 8 = .ok (.getfield 22, 3) := by decide +kernel
theorem dX3_take_11 : decode cX3_take 11 = .ok (.aload_n 0, 1) := by decide +kernel
theorem dX3_take_12 : decode cX3_take 12 = .ok (.getfield 9, 3) := by decide +kernel
theorem dX3_take_15 : decode cX3_take 15 = .ok (.arraylength, 1) := by decide +kernel
theorem dX3_take_16 : decode cX3_take 16 = .ok (.if_icmp .lt 5, 3) := by decide +kernel
theorem dX3_take_19 : decode cX3_take 19 = .ok (.iconst 0, 1) := by decide +kernel
theorem dX3_take_20 : decode cX3_take 20 = .ok (.ireturn, 1) := by decide +kernel
theorem dX3_take_21 : decode cX3_take 21 = .ok (.aload_n 0, 1) := by decide +kernel
theorem dX3_take_22 : decode cX3_take 22 = .ok (.getfield 9, 3) := by decide +kernel
theorem dX3_take_25 : decode cX3_take 25 = .ok (.aload_n 0, 1) := by decide +kernel
theorem dX3_take_26 : decode cX3_take 26 = .ok (.getfield 22, 3) := by decide +kernel
theorem dX3_take_29 : decode cX3_take 29 = .ok (.iload_n 1, 1) := by decide +kernel
theorem dX3_take_30 : decode cX3_take 30 = .ok (.iastore, 1) := by decide +kernel
theorem dX3_take_31 : decode cX3_take 31 = .ok (.aload_n 0, 1) := by decide +kernel
theorem dX3_take_32 : decode cX3_take 32 = .ok (.dup, 1) := by decide +kernel
theorem dX3_take_33 : decode cX3_take 33 = .ok (.getfield 22, 3) := by decide +kernel
theorem dX3_take_36 : decode cX3_take 36 = .ok (.iconst 1, 1) := by decide +kernel
theorem dX3_take_37 : decode cX3_take 37 = .ok (.iadd, 1) := by decide +kernel
theorem dX3_take_38 : decode cX3_take 38 = .ok (.putfield 22, 3) := by decide +kernel
theorem dX3_take_41 : decode cX3_take 41 = .ok (.iconst 1, 1) := by decide +kernel
theorem dX3_take_42 : decode cX3_take 42 = .ok (.ireturn, 1) := by decide +kernel
theorem dX3_sign_0 : decode cX3_sign 0 = .ok (.aload_n 0, 1) := by decide +kernel
theorem dX3_sign_1 : decode cX3_sign 1 = .ok (.getfield 26, 3) := by decide +kernel
theorem dX3_sign_4 : decode cX3_sign 4 = .ok (.ifCond .lt 38, 3) := by decide +kernel
theorem dX3_sign_7 : decode cX3_sign 7 = .ok (.aload_n 0, 1) := by decide +kernel
theorem dX3_sign_8 : decode cX3_sign 8 = .ok (.getfield 26, 3) := by decide +kernel
theorem dX3_sign_11 : decode cX3_sign 11 = .ok (.aload_n 0, 1) := by decide +kernel
theorem dX3_sign_12 : decode cX3_sign 12 = .ok (.getfield 22, 3) := by decide +kernel
theorem dX3_sign_15 : decode cX3_sign 15 = .ok (.if_icmp .ge 27, 3) := by decide +kernel
theorem dX3_sign_18 : decode cX3_sign 18 = .ok (.aload_n 0, 1) := by decide +kernel
theorem dX3_sign_19 : decode cX3_sign 19 = .ok (.getfield 26, 3) := by decide +kernel
theorem dX3_sign_22 : decode cX3_sign 22 = .ok (.aload_n 0, 1) := by decide +kernel
theorem dX3_sign_23 : decode cX3_sign 23 = .ok (.getfield 9, 3) := by decide +kernel
theorem dX3_sign_26 : decode cX3_sign 26 = .ok (.arraylength, 1) := by decide +kernel
theorem dX3_sign_27 : decode cX3_sign 27 = .ok (.if_icmp .ge 15, 3) := by decide +kernel
theorem dX3_sign_30 : decode cX3_sign 30 = .ok (.aload_n 0, 1) := by decide +kernel
theorem dX3_sign_31 : decode cX3_sign 31 = .ok (.getfield 9, 3) := by decide +kernel
theorem dX3_sign_34 : decode cX3_sign 34 = .ok (.aload_n 0, 1) := by decide +kernel
theorem dX3_sign_35 : decode cX3_sign 35 = .ok (.getfield 26, 3) := by decide +kernel
theorem dX3_sign_38 : decode cX3_sign 38 = .ok (.iaload, 1) := by decide +kernel
theorem dX3_sign_39 : decode cX3_sign 39 = .ok (.goto 4, 3) := by decide +kernel
theorem dX3_sign_42 : decode cX3_sign 42 = .ok (.iconst 0, 1) := by decide +kernel
theorem dX3_sign_43 : decode cX3_sign 43 = .ok (.ireturn, 1) := by decide +kernel
theorem dX3_pass_0 : decode cX3_pass 0 = .ok (.aload_n 0, 1) := by decide +kernel
theorem dX3_pass_1 : decode cX3_pass 1 = .ok (.invokevirtual 29, 3) := by decide +kernel
theorem dX3_pass_4 : decode cX3_pass 4 = .ok (.iload_n 1, 1) := by decide +kernel
theorem dX3_pass_5 : decode cX3_pass 5 = .ok (.if_icmp .ne 7, 3) := by decide +kernel
theorem dX3_pass_8 : decode cX3_pass 8 = .ok (.iconst 1, 1) := by decide +kernel
theorem dX3_pass_9 : decode cX3_pass 9 = .ok (.goto 4, 3) := by decide +kernel
theorem dX3_pass_12 : decode cX3_pass 12 = .ok (.iconst 0, 1) := by decide +kernel
theorem dX3_pass_13 : decode cX3_pass 13 = .ok (.istore_n 2, 1) := by decide +kernel
theorem dX3_pass_14 : decode cX3_pass 14 = .ok (.aload_n 0, 1) := by decide +kernel
theorem dX3_pass_15 : decode cX3_pass 15 = .ok (.dup, 1) := by decide +kernel
theorem dX3_pass_16 : decode cX3_pass 16 = .ok (.getfield 26, 3) := by decide +kernel
theorem dX3_pass_19 : decode cX3_pass 19 = .ok (.iload_n 2, 1) := by decide +kernel
theorem dX3_pass_20 : decode cX3_pass 20 = .ok (.ifCond .eq 7, 3) := by decide +kernel
theorem dX3_pass_23 : decode cX3_pass 23 = .ok (.iconst 1, 1) := by decide +kernel
theorem dX3_pass_24 : decode cX3_pass 24 = .ok (.goto 4, 3) := by decide +kernel
theorem dX3_pass_27 : decode cX3_pass 27 = .ok (.iconst 0, 1) := by decide +kernel
theorem dX3_pass_28 : decode cX3_pass 28 = .ok (.iadd, 1) := by decide +kernel
theorem dX3_pass_29 : decode cX3_pass 29 = .ok (.putfield 26, 3) := by decide +kernel
theorem dX3_pass_32 : decode cX3_pass 32 = .ok (.iload_n 2, 1) := by decide +kernel
theorem dX3_pass_33 : decode cX3_pass 33 = .ok (.ireturn, 1) := by decide +kernel
theorem dX3_readSheet_0 : decode cX3_readSheet 0 = .ok (.aload_n 0, 1) := by decide +kernel
theorem dX3_readSheet_1 : decode cX3_readSheet 1 = .ok (.iconst 0, 1) := by decide +kernel
theorem dX3_readSheet_2 : decode cX3_readSheet 2 = .ok (.putfield 26, 3) := by decide +kernel
theorem dX3_readSheet_5 : decode cX3_readSheet 5 = .ok (.iconst 0, 1) := by decide +kernel
theorem dX3_readSheet_6 : decode cX3_readSheet 6 = .ok (.istore_n 1, 1) := by decide +kernel
theorem dX3_readSheet_7 : decode cX3_readSheet 7 = .ok (.iload_n 1, 1) := by decide +kernel
theorem dX3_readSheet_8 : decode cX3_readSheet 8 = .ok (.bipush 6, 2) := by decide +kernel
theorem dX3_readSheet_10 : decode cX3_readSheet 10 = .ok (.if_icmp .ge 22, 3) := by decide +kernel
theorem dX3_readSheet_13 : decode cX3_readSheet 13 = .ok (.aload_n 0, 1) := by decide +kernel
theorem dX3_readSheet_14 : decode cX3_readSheet 14 = .ok (.getfield 18, 3) := by decide +kernel
theorem dX3_readSheet_17 : decode cX3_readSheet 17 = .ok (.getfield 33, 3) := by decide +kernel
theorem dX3_readSheet_20 : decode cX3_readSheet 20 = .ok (.iload_n 1, 1) := by decide +kernel
theorem dX3_readSheet_21 : decode cX3_readSheet 21 = .ok (.aaload, 1) := by decide +kernel
theorem dX3_readSheet_22 : decode cX3_readSheet 22 = .ok (.iconst 0, 1) := by decide +kernel
theorem dX3_readSheet_23 : decode cX3_readSheet 23 = .ok (.putfield 37, 3) := by decide +kernel
theorem dX3_readSheet_26 : decode cX3_readSheet 26 = .ok (.iinc 1 1, 3) := by decide +kernel
theorem dX3_readSheet_29 : decode cX3_readSheet 29 = .ok (.goto (-22), 3) := by decide +kernel
theorem dX3_readSheet_32 : decode cX3_readSheet 32 = .ok (.iconst 0, 1) := by decide +kernel
theorem dX3_readSheet_33 : decode cX3_readSheet 33 = .ok (.istore_n 1, 1) := by decide +kernel
theorem dX3_readSheet_34 : decode cX3_readSheet 34 = .ok (.iload_n 1, 1) := by decide +kernel
theorem dX3_readSheet_35 : decode cX3_readSheet 35 = .ok (.iconst 5, 1) := by decide +kernel
theorem dX3_readSheet_36 : decode cX3_readSheet 36 = .ok (.if_icmp .ge 58, 3) := by decide +kernel
theorem dX3_readSheet_39 : decode cX3_readSheet 39 = .ok (.aload_n 0, 1) := by decide +kernel
theorem dX3_readSheet_40 : decode cX3_readSheet 40 = .ok (.bipush 65, 2) := by decide +kernel
theorem dX3_readSheet_42 : decode cX3_readSheet 42 = .ok (.iload_n 1, 1) := by decide +kernel
theorem dX3_readSheet_43 : decode cX3_readSheet 43 = .ok (.iadd, 1) := by decide +kernel
theorem dX3_readSheet_44 : decode cX3_readSheet 44 = .ok (.invokevirtual 42, 3) := by decide +kernel
theorem dX3_readSheet_47 : decode cX3_readSheet 47 = .ok (.ifCond .eq 47, 3) := by decide +kernel
theorem dX3_readSheet_50 : decode cX3_readSheet 50 = .ok (.aload_n 0, 1) := by decide +kernel
theorem dX3_readSheet_51 : decode cX3_readSheet 51 = .ok (.bipush 61, 2) := by decide +kernel
theorem dX3_readSheet_53 : decode cX3_readSheet 53 = .ok (.invokevirtual 42, 3) := by decide +kernel
theorem dX3_readSheet_56 : decode cX3_readSheet 56 = .ok (.ifCond .eq 30, 3) := by decide +kernel
theorem dX3_readSheet_59 : decode cX3_readSheet 59 = .ok (.aload_n 0, 1) := by decide +kernel
theorem dX3_readSheet_60 : decode cX3_readSheet 60 = .ok (.aload_n 0, 1) := by decide +kernel
theorem dX3_readSheet_61 : decode cX3_readSheet 61 = .ok (.getfield 18, 3) := by decide +kernel
theorem dX3_readSheet_64 : decode cX3_readSheet 64 = .ok (.getfield 33, 3) := by decide +kernel
theorem dX3_readSheet_67 : decode cX3_readSheet 67 = .ok (.iload_n 1, 1) := by decide +kernel
theorem dX3_readSheet_68 : decode cX3_readSheet 68 = .ok (.aaload, 1) := by decide +kernel
theorem dX3_readSheet_69 : decode cX3_readSheet 69 = .ok (.iload_n 1, 1) := by decide +kernel
theorem dX3_readSheet_70 : decode cX3_readSheet 70 = .ok (.iconst 0, 1) := by decide +kernel
theorem dX3_readSheet_71 : decode cX3_readSheet 71 = .ok (.invokevirtual 46, 3) := by decide +kernel
theorem dX3_readSheet_74 : decode cX3_readSheet 74 = .ok (.ifCond .eq 12, 3) := by decide +kernel
theorem dX3_readSheet_77 : decode cX3_readSheet 77 = .ok (.aload_n 0, 1) := by decide +kernel
theorem dX3_readSheet_78 : decode cX3_readSheet 78 = .ok (.bipush 59, 2) := by decide +kernel
theorem dX3_readSheet_80 : decode cX3_readSheet 80 = .ok (.invokevirtual 42, 3) := by decide +kernel
theorem dX3_readSheet_83 : decode cX3_readSheet 83 = .ok (.ifCond .ne 5, 3) := by decide +kernel
theorem dX3_readSheet_86 : decode cX3_readSheet 86 = .ok (.iconst 0, 1) := by decide +kernel
theorem dX3_readSheet_87 : decode cX3_readSheet 87 = .ok (.ireturn, 1) := by decide +kernel
theorem dX3_readSheet_88 : decode cX3_readSheet 88 = .ok (.iinc 1 1, 3) := by decide +kernel
theorem dX3_readSheet_91 : decode cX3_readSheet 91 = .ok (.goto (-57), 3) := by decide +kernel
theorem dX3_readSheet_94 : decode cX3_readSheet 94 = .ok (.aload_n 0, 1) := by decide +kernel
theorem dX3_readSheet_95 : decode cX3_readSheet 95 = .ok (.getfield 18, 3) := by decide +kernel
theorem dX3_readSheet_98 : decode cX3_readSheet 98 = .ok (.iload_n 1, 1) := by decide +kernel
theorem dX3_readSheet_99 : decode cX3_readSheet 99 = .ok (.iconst 1, 1) := by decide +kernel
theorem dX3_readSheet_100 : decode cX3_readSheet 100 = .ok (.iadd, 1) := by decide +kernel
theorem dX3_readSheet_101 : decode cX3_readSheet 101 = .ok (.putfield 50, 3) := by decide +kernel
theorem dX3_readSheet_104 : decode cX3_readSheet 104 = .ok (.aload_n 0, 1) := by decide +kernel
theorem dX3_readSheet_105 : decode cX3_readSheet 105 = .ok (.aload_n 0, 1) := by decide +kernel
theorem dX3_readSheet_106 : decode cX3_readSheet 106 = .ok (.getfield 18, 3) := by decide +kernel
theorem dX3_readSheet_109 : decode cX3_readSheet 109 = .ok (.getfield 33, 3) := by decide +kernel
theorem dX3_readSheet_112 : decode cX3_readSheet 112 = .ok (.iload_n 1, 1) := by decide +kernel
theorem dX3_readSheet_113 : decode cX3_readSheet 113 = .ok (.aaload, 1) := by decide +kernel
theorem dX3_readSheet_114 : decode cX3_readSheet 114 = .ok (.iload_n 1, 1) := by decide +kernel
theorem dX3_readSheet_115 : decode cX3_readSheet 115 = .ok (.iconst 0, 1) := by decide +kernel
theorem dX3_readSheet_116 : decode cX3_readSheet 116 = .ok (.invokevirtual 46, 3) := by decide +kernel
theorem dX3_readSheet_119 : decode cX3_readSheet 119 = .ok (.ifCond .eq 14, 3) := by decide +kernel
theorem dX3_readSheet_122 : decode cX3_readSheet 122 = .ok (.aload_n 0, 1) := by decide +kernel
theorem dX3_readSheet_123 : decode cX3_readSheet 123 = .ok (.invokevirtual 29, 3) := by decide +kernel
theorem dX3_readSheet_126 : decode cX3_readSheet 126 = .ok (.ifCond .ne 7, 3) := by decide +kernel
theorem dX3_readSheet_129 : decode cX3_readSheet 129 = .ok (.iconst 1, 1) := by decide +kernel
theorem dX3_readSheet_130 : decode cX3_readSheet 130 = .ok (.goto 4, 3) := by decide +kernel
theorem dX3_readSheet_133 : decode cX3_readSheet 133 = .ok (.iconst 0, 1) := by decide +kernel
theorem dX3_readSheet_134 : decode cX3_readSheet 134 = .ok (.ireturn, 1) := by decide +kernel
theorem dX3_readSum_0 : decode cX3_readSum 0 = .ok (.aload_n 1, 1) := by decide +kernel
theorem dX3_readSum_1 : decode cX3_readSum 1 = .ok (.getfield 37, 3) := by decide +kernel
theorem dX3_readSum_4 : decode cX3_readSum 4 = .ok (.istore 4, 2) := by decide +kernel
theorem dX3_readSum_6 : decode cX3_readSum 6 = .ok (.aload_n 0, 1) := by decide +kernel
theorem dX3_readSum_7 : decode cX3_readSum 7 = .ok (.aload_n 1, 1) := by decide +kernel
theorem dX3_readSum_8 : decode cX3_readSum 8 = .ok (.iload_n 2, 1) := by decide +kernel
theorem dX3_readSum_9 : decode cX3_readSum 9 = .ok (.iload_n 3, 1) := by decide +kernel
theorem dX3_readSum_10 : decode cX3_readSum 10 = .ok (.invokevirtual 53, 3) := by decide +kernel
theorem dX3_readSum_13 : decode cX3_readSum 13 = .ok (.istore 5, 2) := by decide +kernel
theorem dX3_readSum_15 : decode cX3_readSum 15 = .ok (.iconst 0, 1) := by decide +kernel
theorem dX3_readSum_16 : decode cX3_readSum 16 = .ok (.istore 6, 2) := by decide +kernel
theorem dX3_readSum_18 : decode cX3_readSum 18 = .ok (.iload 6, 2) := by decide +kernel
theorem dX3_readSum_20 : decode cX3_readSum 20 = .ok (.bipush 30, 2) := by decide +kernel
theorem dX3_readSum_22 : decode cX3_readSum 22 = .ok (.if_icmp .ge 77, 3) := by decide +kernel
theorem dX3_readSum_25 : decode cX3_readSum 25 = .ok (.iload 5, 2) := by decide +kernel
theorem dX3_readSum_27 : decode cX3_readSum 27 = .ok (.ifCond .eq 72, 3) := by decide +kernel
theorem dX3_readSum_30 : decode cX3_readSum 30 = .ok (.aload_n 0, 1) := by decide +kernel
theorem dX3_readSum_31 : decode cX3_readSum 31 = .ok (.invokevirtual 29, 3) := by decide +kernel
theorem dX3_readSum_34 : decode cX3_readSum 34 = .ok (.bipush 43, 2) := by decide +kernel
theorem dX3_readSum_36 : decode cX3_readSum 36 = .ok (.if_icmp .eq 12, 3) := by decide +kernel
theorem dX3_readSum_39 : decode cX3_readSum 39 = .ok (.aload_n 0, 1) := by decide +kernel
theorem dX3_readSum_40 : decode cX3_readSum 40 = .ok (.invokevirtual 29, 3) := by decide +kernel
theorem dX3_readSum_43 : decode cX3_readSum 43 = .ok (.bipush 45, 2) := by decide +kernel
theorem dX3_readSum_45 : decode cX3_readSum 45 = .ok (.if_icmp .ne 54, 3) := by decide +kernel
theorem dX3_readSum_48 : decode cX3_readSum 48 = .ok (.aload_n 0, 1) := by decide +kernel
theorem dX3_readSum_49 : decode cX3_readSum 49 = .ok (.invokevirtual 29, 3) := by decide +kernel
theorem dX3_readSum_52 : decode cX3_readSum 52 = .ok (.bipush 43, 2) := by decide +kernel
theorem dX3_readSum_54 : decode cX3_readSum 54 = .ok (.if_icmp .ne 7, 3) := by decide +kernel
theorem dX3_readSum_57 : decode cX3_readSum 57 = .ok (.iconst 4, 1) := by decide +kernel
theorem dX3_readSum_58 : decode cX3_readSum 58 = .ok (.goto 4, 3) := by decide +kernel
theorem dX3_readSum_61 : decode cX3_readSum 61 = .ok (.iconst 5, 1) := by decide +kernel
theorem dX3_readSum_62 : decode cX3_readSum 62 = .ok (.istore 7, 2) := by decide +kernel
theorem dX3_readSum_64 : decode cX3_readSum 64 = .ok (.aload_n 0, 1) := by decide +kernel
theorem dX3_readSum_65 : decode cX3_readSum 65 = .ok (.aload_n 1, 1) := by decide +kernel
theorem dX3_readSum_66 : decode cX3_readSum 66 = .ok (.iload 4, 2) := by decide +kernel
theorem dX3_readSum_68 : decode cX3_readSum 68 = .ok (.iload 7, 2) := by decide +kernel
theorem dX3_readSum_70 : decode cX3_readSum 70 = .ok (.invokevirtual 56, 3) := by decide +kernel
theorem dX3_readSum_73 : decode cX3_readSum 73 = .ok (.ifCond .eq 17, 3) := by decide +kernel
theorem dX3_readSum_76 : decode cX3_readSum 76 = .ok (.aload_n 0, 1) := by decide +kernel
theorem dX3_readSum_77 : decode cX3_readSum 77 = .ok (.aload_n 1, 1) := by decide +kernel
theorem dX3_readSum_78 : decode cX3_readSum 78 = .ok (.iload_n 2, 1) := by decide +kernel
theorem dX3_readSum_79 : decode cX3_readSum 79 = .ok (.iload_n 3, 1) := by decide +kernel
theorem dX3_readSum_80 : decode cX3_readSum 80 = .ok (.invokevirtual 53, 3) := by decide +kernel
theorem dX3_readSum_83 : decode cX3_readSum 83 = .ok (.ifCond .eq 7, 3) := by decide +kernel
theorem dX3_readSum_86 : decode cX3_readSum 86 = .ok (.iconst 1, 1) := by decide +kernel
theorem dX3_readSum_87 : decode cX3_readSum 87 = .ok (.goto 4, 3) := by decide +kernel
theorem dX3_readSum_90 : decode cX3_readSum 90 = .ok (.iconst 0, 1) := by decide +kernel
theorem dX3_readSum_91 : decode cX3_readSum 91 = .ok (.istore 5, 2) := by decide +kernel
theorem dX3_readSum_93 : decode cX3_readSum 93 = .ok (.iinc 6 1, 3) := by decide +kernel
theorem dX3_readSum_96 : decode cX3_readSum 96 = .ok (.goto (-78), 3) := by decide +kernel
theorem dX3_readSum_99 : decode cX3_readSum 99 = .ok (.iload 5, 2) := by decide +kernel
theorem dX3_readSum_101 : decode cX3_readSum 101 = .ok (.ireturn, 1) := by decide +kernel
theorem dX3_readProduct_0 : decode cX3_readProduct 0 = .ok (.aload_n 1, 1) := by decide +kernel
theorem dX3_readProduct_1 : decode cX3_readProduct 1 = .ok (.getfield 37, 3) := by decide +kernel
theorem dX3_readProduct_4 : decode cX3_readProduct 4 = .ok (.istore 4, 2) := by decide +kernel
theorem dX3_readProduct_6 : decode cX3_readProduct 6 = .ok (.aload_n 0, 1) := by decide +kernel
theorem dX3_readProduct_7 : decode cX3_readProduct 7 = .ok (.aload_n 1, 1) := by decide +kernel
theorem dX3_readProduct_8 : decode cX3_readProduct 8 = .ok (.iload_n 2, 1) := by decide +kernel
theorem dX3_readProduct_9 : decode cX3_readProduct 9 = .ok (.iload_n 3, 1) := by decide +kernel
theorem dX3_readProduct_10 : decode cX3_readProduct 10 = .ok (.invokevirtual 59, 3) := by decide +kernel
theorem dX3_readProduct_13 : decode cX3_readProduct 13 = .ok (.istore 5, 2) := by decide +kernel
theorem dX3_readProduct_15 : decode cX3_readProduct 15 = .ok (.iconst 0, 1) := by decide +kernel
theorem dX3_readProduct_16 : decode cX3_readProduct 16 = .ok (.istore 6, 2) := by decide +kernel
theorem dX3_readProduct_18 : decode cX3_readProduct 18 = .ok (.iload 6, 2) := by decide +kernel
theorem dX3_readProduct_20 : decode cX3_readProduct 20 = .ok (.bipush 30, 2) := by decide +kernel
theorem dX3_readProduct_22 : decode cX3_readProduct 22 = .ok (.if_icmp .ge 52, 3) := by decide +kernel
theorem dX3_readProduct_25 : decode cX3_readProduct 25 = .ok (.iload 5, 2) := by decide +kernel
theorem dX3_readProduct_27 : decode cX3_readProduct 27 = .ok (.ifCond .eq 47, 3) := by decide +kernel
theorem dX3_readProduct_30 : decode cX3_readProduct 30 = .ok (.aload_n 0, 1) := by decide +kernel
theorem dX3_readProduct_31 : decode cX3_readProduct 31 = .ok (.invokevirtual 29, 3) := by decide +kernel
theorem dX3_readProduct_34 : decode cX3_readProduct 34 = .ok (.bipush 42, 2) := by decide +kernel
theorem dX3_readProduct_36 : decode cX3_readProduct 36 = .ok (.if_icmp .ne 38, 3) := by decide +kernel
theorem dX3_readProduct_39 : decode cX3_readProduct 39 = .ok (.aload_n 0, 1) := by decide +kernel
theorem dX3_readProduct_40 : decode cX3_readProduct 40 = .ok (.aload_n 1, 1) := by decide +kernel
theorem dX3_readProduct_41 : decode cX3_readProduct 41 = .ok (.iload 4, 2) := by decide +kernel
theorem dX3_readProduct_43 : decode cX3_readProduct 43 = .ok (.bipush 6, 2) := by decide +kernel
theorem dX3_readProduct_45 : decode cX3_readProduct 45 = .ok (.invokevirtual 56, 3) := by decide +kernel
theorem dX3_readProduct_48 : decode cX3_readProduct 48 = .ok (.ifCond .eq 17, 3) := by decide +kernel
theorem dX3_readProduct_51 : decode cX3_readProduct 51 = .ok (.aload_n 0, 1) := by decide +kernel
theorem dX3_readProduct_52 : decode cX3_readProduct 52 = .ok (.aload_n 1, 1) := by decide +kernel
theorem dX3_readProduct_53 : decode cX3_readProduct 53 = .ok (.iload_n 2, 1) := by decide +kernel
theorem dX3_readProduct_54 : decode cX3_readProduct 54 = .ok (.iload_n 3, 1) := by decide +kernel
theorem dX3_readProduct_55 : decode cX3_readProduct 55 = .ok (.invokevirtual 59, 3) := by decide +kernel
theorem dX3_readProduct_58 : decode cX3_readProduct 58 = .ok (.ifCond .eq 7, 3) := by decide +kernel
theorem dX3_readProduct_61 : decode cX3_readProduct 61 = .ok (.iconst 1, 1) := by decide +kernel
theorem dX3_readProduct_62 : decode cX3_readProduct 62 = .ok (.goto 4, 3) := by decide +kernel
theorem dX3_readProduct_65 : decode cX3_readProduct 65 = .ok (.iconst 0, 1) := by decide +kernel
theorem dX3_readProduct_66 : decode cX3_readProduct 66 = .ok (.istore 5, 2) := by decide +kernel
theorem dX3_readProduct_68 : decode cX3_readProduct 68 = .ok (.iinc 6 1, 3) := by decide +kernel
theorem dX3_readProduct_71 : decode cX3_readProduct 71 = .ok (.goto (-53), 3) := by decide +kernel
theorem dX3_readProduct_74 : decode cX3_readProduct 74 = .ok (.iload 5, 2) := by decide +kernel
theorem dX3_readProduct_76 : decode cX3_readProduct 76 = .ok (.ireturn, 1) := by decide +kernel
theorem dX3_readOperation_0 : decode cX3_readOperation 0 = .ok (.aload_n 1, 1) := by decide +kernel
theorem dX3_readOperation_1 : decode cX3_readOperation 1 = .ok (.iload_n 2, 1) := by decide +kernel
theorem dX3_readOperation_2 : decode cX3_readOperation 2 = .ok (.iload_n 3, 1) := by decide +kernel
theorem dX3_readOperation_3 : decode cX3_readOperation 3 = .ok (.iconst 0, 1) := by decide +kernel
theorem dX3_readOperation_4 : decode cX3_readOperation 4 = .ok (.invokevirtual 62, 3) := by decide +kernel
theorem dX3_readOperation_7 : decode cX3_readOperation 7 = .ok (.istore 4, 2) := by decide +kernel
theorem dX3_readOperation_9 : decode cX3_readOperation 9 = .ok (.aload_n 0, 1) := by decide +kernel
theorem dX3_readOperation_10 : decode cX3_readOperation 10 = .ok (.dup, 1) := by decide +kernel
theorem dX3_readOperation_11 : decode cX3_readOperation 11 = .ok (.getfield 26, 3) := by decide +kernel
theorem dX3_readOperation_14 : decode cX3_readOperation 14 = .ok (.iload 4, 2) := by decide +kernel
theorem dX3_readOperation_16 : decode cX3_readOperation 16 = .ok (.ifCond .eq 7, 3) := by decide +kernel
theorem dX3_readOperation_19 : decode cX3_readOperation 19 = .ok (.iconst 1, 1) := by decide +kernel
theorem dX3_readOperation_20 : decode cX3_readOperation 20 = .ok (.goto 4, 3) := by decide +kernel
theorem dX3_readOperation_23 : decode cX3_readOperation 23 = .ok (.iconst 0, 1) := by decide +kernel
theorem dX3_readOperation_24 : decode cX3_readOperation 24 = .ok (.iadd, 1) := by decide +kernel
theorem dX3_readOperation_25 : decode cX3_readOperation 25 = .ok (.putfield 26, 3) := by decide +kernel
theorem dX3_readOperation_28 : decode cX3_readOperation 28 = .ok (.iload 4, 2) := by decide +kernel
theorem dX3_readOperation_30 : decode cX3_readOperation 30 = .ok (.ireturn, 1) := by decide +kernel
theorem dX3_readFactor_0 : decode cX3_readFactor 0 = .ok (.aload_n 0, 1) := by decide +kernel
theorem dX3_readFactor_1 : decode cX3_readFactor 1 = .ok (.invokevirtual 29, 3) := by decide +kernel
theorem dX3_readFactor_4 : decode cX3_readFactor 4 = .ok (.bipush 40, 2) := by decide +kernel
theorem dX3_readFactor_6 : decode cX3_readFactor 6 = .ok (.if_icmp .eq 12, 3) := by decide +kernel
theorem dX3_readFactor_9 : decode cX3_readFactor 9 = .ok (.aload_n 0, 1) := by decide +kernel
theorem dX3_readFactor_10 : decode cX3_readFactor 10 = .ok (.invokevirtual 29, 3) := by decide +kernel
theorem dX3_readFactor_13 : decode cX3_readFactor 13 = .ok (.bipush 33, 2) := by decide +kernel
theorem dX3_readFactor_15 : decode cX3_readFactor 15 = .ok (.if_icmp .ne 27, 3) := by decide +kernel
theorem dX3_readFactor_18 : decode cX3_readFactor 18 = .ok (.iload_n 3, 1) := by decide +kernel
theorem dX3_readFactor_19 : decode cX3_readFactor 19 = .ok (.bipush 8, 2) := by decide +kernel
theorem dX3_readFactor_21 : decode cX3_readFactor 21 = .ok (.if_icmp .ge 19, 3) := by decide +kernel
theorem dX3_readFactor_24 : decode cX3_readFactor 24 = .ok (.aload_n 0, 1) := by decide +kernel
theorem dX3_readFactor_25 : decode cX3_readFactor 25 = .ok (.aload_n 1, 1) := by decide +kernel
theorem dX3_readFactor_26 : decode cX3_readFactor 26 = .ok (.iload_n 2, 1) := by decide +kernel
theorem dX3_readFactor_27 : decode cX3_readFactor 27 = .ok (.iload_n 3, 1) := by decide +kernel
theorem dX3_readFactor_28 : decode cX3_readFactor 28 = .ok (.iconst 1, 1) := by decide +kernel
theorem dX3_readFactor_29 : decode cX3_readFactor 29 = .ok (.iadd, 1) := by decide +kernel
theorem dX3_readFactor_30 : decode cX3_readFactor 30 = .ok (.invokevirtual 66, 3) := by decide +kernel
theorem dX3_readFactor_33 : decode cX3_readFactor 33 = .ok (.ifCond .eq 7, 3) := by decide +kernel
theorem dX3_readFactor_36 : decode cX3_readFactor 36 = .ok (.iconst 1, 1) := by decide +kernel
theorem dX3_readFactor_37 : decode cX3_readFactor 37 = .ok (.goto 4, 3) := by decide +kernel
theorem dX3_readFactor_40 : decode cX3_readFactor 40 = .ok (.iconst 0, 1) := by decide +kernel
theorem dX3_readFactor_41 : decode cX3_readFactor 41 = .ok (.ireturn, 1) := by decide +kernel
theorem dX3_readFactor_42 : decode cX3_readFactor 42 = .ok (.aload_n 0, 1) := by decide +kernel
theorem dX3_readFactor_43 : decode cX3_readFactor 43 = .ok (.aload_n 1, 1) := by decide +kernel
theorem dX3_readFactor_44 : decode cX3_readFactor 44 = .ok (.iload_n 2, 1) := by decide +kernel
theorem dX3_readFactor_45 : decode cX3_readFactor 45 = .ok (.invokevirtual 69, 3) := by decide +kernel
theorem dX3_readFactor_48 : decode cX3_readFactor 48 = .ok (.ireturn, 1) := by decide +kernel
theorem dX3_readNested_0 : decode cX3_readNested 0 = .ok (.aload_n 0, 1) := by decide +kernel
theorem dX3_readNested_1 : decode cX3_readNested 1 = .ok (.bipush 40, 2) := by decide +kernel
theorem dX3_readNested_3 : decode cX3_readNested 3 = .ok (.invokevirtual 42, 3) := by decide +kernel
theorem dX3_readNested_6 : decode cX3_readNested 6 = .ok (.ifCond .eq 28, 3) := by decide +kernel
theorem dX3_readNested_9 : decode cX3_readNested 9 = .ok (.aload_n 0, 1) := by decide +kernel
theorem dX3_readNested_10 : decode cX3_readNested 10 = .ok (.aload_n 1, 1) := by decide +kernel
theorem dX3_readNested_11 : decode cX3_readNested 11 = .ok (.iload_n 2, 1) := by decide +kernel
theorem dX3_readNested_12 : decode cX3_readNested 12 = .ok (.iload_n 3, 1) := by decide +kernel
theorem dX3_readNested_13 : decode cX3_readNested 13 = .ok (.invokevirtual 46, 3) := by decide +kernel
theorem dX3_readNested_16 : decode cX3_readNested 16 = .ok (.ifCond .eq 16, 3) := by decide +kernel
theorem dX3_readNested_19 : decode cX3_readNested 19 = .ok (.aload_n 0, 1) := by decide +kernel
theorem dX3_readNested_20 : decode cX3_readNested 20 = .ok (.bipush 41, 2) := by decide +kernel
theorem dX3_readNested_22 : decode cX3_readNested 22 = .ok (.invokevirtual 42, 3) := by decide +kernel
theorem dX3_readNested_25 : decode cX3_readNested 25 = .ok (.ifCond .eq 7, 3) := by decide +kernel
theorem dX3_readNested_28 : decode cX3_readNested 28 = .ok (.iconst 1, 1) := by decide +kernel
theorem dX3_readNested_29 : decode cX3_readNested 29 = .ok (.goto 4, 3) := by decide +kernel
theorem dX3_readNested_32 : decode cX3_readNested 32 = .ok (.iconst 0, 1) := by decide +kernel
theorem dX3_readNested_33 : decode cX3_readNested 33 = .ok (.ireturn, 1) := by decide +kernel
theorem dX3_readNested_34 : decode cX3_readNested 34 = .ok (.aload_n 1, 1) := by decide +kernel
theorem dX3_readNested_35 : decode cX3_readNested 35 = .ok (.invokevirtual 73, 3) := by decide +kernel
theorem dX3_readNested_38 : decode cX3_readNested 38 = .ok (.ifCond .ne 35, 3) := by decide +kernel
theorem dX3_readNested_41 : decode cX3_readNested 41 = .ok (.aload_n 0, 1) := by decide +kernel
theorem dX3_readNested_42 : decode cX3_readNested 42 = .ok (.bipush 33, 2) := by decide +kernel
theorem dX3_readNested_44 : decode cX3_readNested 44 = .ok (.invokevirtual 42, 3) := by decide +kernel
theorem dX3_readNested_47 : decode cX3_readNested 47 = .ok (.ifCond .eq 26, 3) := by decide +kernel
theorem dX3_readNested_50 : decode cX3_readNested 50 = .ok (.aload_n 1, 1) := by decide +kernel
theorem dX3_readNested_51 : decode cX3_readNested 51 = .ok (.iconst 3, 1) := by decide +kernel
theorem dX3_readNested_52 : decode cX3_readNested 52 = .ok (.iconst 0, 1) := by decide +kernel
theorem dX3_readNested_53 : decode cX3_readNested 53 = .ok (.invokevirtual 77, 3) := by decide +kernel
theorem dX3_readNested_56 : decode cX3_readNested 56 = .ok (.ifCond .eq 17, 3) := by decide +kernel
theorem dX3_readNested_59 : decode cX3_readNested 59 = .ok (.aload_n 0, 1) := by decide +kernel
theorem dX3_readNested_60 : decode cX3_readNested 60 = .ok (.aload_n 1, 1) := by decide +kernel
theorem dX3_readNested_61 : decode cX3_readNested 61 = .ok (.iload_n 2, 1) := by decide +kernel
theorem dX3_readNested_62 : decode cX3_readNested 62 = .ok (.iload_n 3, 1) := by decide +kernel
theorem dX3_readNested_63 : decode cX3_readNested 63 = .ok (.invokevirtual 59, 3) := by decide +kernel
theorem dX3_readNested_66 : decode cX3_readNested 66 = .ok (.ifCond .eq 7, 3) := by decide +kernel
theorem dX3_readNested_69 : decode cX3_readNested 69 = .ok (.iconst 1, 1) := by decide +kernel
theorem dX3_readNested_70 : decode cX3_readNested 70 = .ok (.goto 4, 3) := by decide +kernel
theorem dX3_readNested_73 : decode cX3_readNested 73 = .ok (.iconst 0, 1) := by decide +kernel
theorem dX3_readNested_74 : decode cX3_readNested 74 = .ok (.ireturn, 1) := by decide +kernel
theorem dX3_readLeaf_0 : decode cX3_readLeaf 0 = .ok (.aload_n 0, 1) := by decide +kernel
theorem dX3_readLeaf_1 : decode cX3_readLeaf 1 = .ok (.invokevirtual 29, 3) := by decide +kernel
theorem dX3_readLeaf_4 : decode cX3_readLeaf 4 = .ok (.istore_n 3, 1) := by decide +kernel
theorem dX3_readLeaf_5 : decode cX3_readLeaf 5 = .ok (.aload_n 1, 1) := by decide +kernel
theorem dX3_readLeaf_6 : decode cX3_readLeaf 6 = .ok (.invokevirtual 73, 3) := by decide +kernel
theorem dX3_readLeaf_9 : decode cX3_readLeaf 9 = .ok (.ifCond .eq 5, 3) := by decide +kernel
theorem dX3_readLeaf_12 : decode cX3_readLeaf 12 = .ok (.iconst 0, 1) := by decide +kernel
theorem dX3_readLeaf_13 : decode cX3_readLeaf 13 = .ok (.ireturn, 1) := by decide +kernel
theorem dX3_readLeaf_14 : decode cX3_readLeaf 14 = .ok (.iload_n 3, 1) := by decide +kernel
theorem dX3_readLeaf_15 : decode cX3_readLeaf 15 = .ok (.invokestatic 81, 3) := by decide +kernel
theorem dX3_readLeaf_18 : decode cX3_readLeaf 18 = .ok (.ifCond .eq 13, 3) := by decide +kernel
theorem dX3_readLeaf_21 : decode cX3_readLeaf 21 = .ok (.aload_n 1, 1) := by decide +kernel
theorem dX3_readLeaf_22 : decode cX3_readLeaf 22 = .ok (.iconst 0, 1) := by decide +kernel
theorem dX3_readLeaf_23 : decode cX3_readLeaf 23 = .ok (.aload_n 0, 1) := by decide +kernel
theorem dX3_readLeaf_24 : decode cX3_readLeaf 24 = .ok (.invokevirtual 84, 3) := by decide +kernel
theorem dX3_readLeaf_27 : decode cX3_readLeaf 27 = .ok (.invokevirtual 77, 3) := by decide +kernel
theorem dX3_readLeaf_30 : decode cX3_readLeaf 30 = .ok (.ireturn, 1) := by decide +kernel
theorem dX3_readLeaf_31 : decode cX3_readLeaf 31 = .ok (.iload_n 3, 1) := by decide +kernel
theorem dX3_readLeaf_32 : decode cX3_readLeaf 32 = .ok (.bipush 97, 2) := by decide +kernel
theorem dX3_readLeaf_34 : decode cX3_readLeaf 34 = .ok (.if_icmp .lt 35, 3) := by decide +kernel
theorem dX3_readLeaf_37 : decode cX3_readLeaf 37 = .ok (.iload_n 3, 1) := by decide +kernel
theorem dX3_readLeaf_38 : decode cX3_readLeaf 38 = .ok (.bipush 105, 2) := by decide +kernel
theorem dX3_readLeaf_40 : decode cX3_readLeaf 40 = .ok (.if_icmp .ge 29, 3) := by decide +kernel
theorem dX3_readLeaf_43 : decode cX3_readLeaf 43 = .ok (.aload_n 0, 1) := by decide +kernel
theorem dX3_readLeaf_44 : decode cX3_readLeaf 44 = .ok (.iload_n 3, 1) := by decide +kernel
theorem dX3_readLeaf_45 : decode cX3_readLeaf 45 = .ok (.invokevirtual 42, 3) := by decide +kernel
theorem dX3_readLeaf_48 : decode cX3_readLeaf 48 = .ok (.ifCond .eq 19, 3) := by decide +kernel
theorem dX3_readLeaf_51 : decode cX3_readLeaf 51 = .ok (.aload_n 1, 1) := by decide +kernel
theorem dX3_readLeaf_52 : decode cX3_readLeaf 52 = .ok (.iconst 1, 1) := by decide +kernel
theorem dX3_readLeaf_53 : decode cX3_readLeaf 53 = .ok (.iload_n 3, 1) := by decide +kernel
theorem dX3_readLeaf_54 : decode cX3_readLeaf 54 = .ok (.bipush 97, 2) := by decide +kernel
theorem dX3_readLeaf_56 : decode cX3_readLeaf 56 = .ok (.isub, 1) := by decide +kernel
theorem dX3_readLeaf_57 : decode cX3_readLeaf 57 = .ok (.invokevirtual 77, 3) := by decide +kernel
theorem dX3_readLeaf_60 : decode cX3_readLeaf 60 = .ok (.ifCond .eq 7, 3) := by decide +kernel
theorem dX3_readLeaf_63 : decode cX3_readLeaf 63 = .ok (.iconst 1, 1) := by decide +kernel
theorem dX3_readLeaf_64 : decode cX3_readLeaf 64 = .ok (.goto 4, 3) := by decide +kernel
theorem dX3_readLeaf_67 : decode cX3_readLeaf 67 = .ok (.iconst 0, 1) := by decide +kernel
theorem dX3_readLeaf_68 : decode cX3_readLeaf 68 = .ok (.ireturn, 1) := by decide +kernel
theorem dX3_readLeaf_69 : decode cX3_readLeaf 69 = .ok (.iload_n 3, 1) := by decide +kernel
theorem dX3_readLeaf_70 : decode cX3_readLeaf 70 = .ok (.bipush 65, 2) := by decide +kernel
theorem dX3_readLeaf_72 : decode cX3_readLeaf 72 = .ok (.if_icmp .lt 35, 3) := by decide +kernel
theorem dX3_readLeaf_75 : decode cX3_readLeaf 75 = .ok (.iload_n 3, 1) := by decide +kernel
theorem dX3_readLeaf_76 : decode cX3_readLeaf 76 = .ok (.bipush 65, 2) := by decide +kernel
theorem dX3_readLeaf_78 : decode cX3_readLeaf 78 = .ok (.iload_n 2, 1) := by decide +kernel
theorem dX3_readLeaf_79 : decode cX3_readLeaf 79 = .ok (.iadd, 1) := by decide +kernel
theorem dX3_readLeaf_80 : decode cX3_readLeaf 80 = .ok (.if_icmp .ge 27, 3) := by decide +kernel
theorem dX3_readLeaf_83 : decode cX3_readLeaf 83 = .ok (.aload_n 0, 1) := by decide +kernel
theorem dX3_readLeaf_84 : decode cX3_readLeaf 84 = .ok (.iload_n 3, 1) := by decide +kernel
theorem dX3_readLeaf_85 : decode cX3_readLeaf 85 = .ok (.invokevirtual 42, 3) := by decide +kernel
theorem dX3_readLeaf_88 : decode cX3_readLeaf 88 = .ok (.ifCond .eq 19, 3) := by decide +kernel
theorem dX3_readLeaf_91 : decode cX3_readLeaf 91 = .ok (.aload_n 1, 1) := by decide +kernel
theorem dX3_readLeaf_92 : decode cX3_readLeaf 92 = .ok (.iconst 2, 1) := by decide +kernel
theorem dX3_readLeaf_93 : decode cX3_readLeaf 93 = .ok (.iload_n 3, 1) := by decide +kernel
theorem dX3_readLeaf_94 : decode cX3_readLeaf 94 = .ok (.bipush 65, 2) := by decide +kernel
theorem dX3_readLeaf_96 : decode cX3_readLeaf 96 = .ok (.isub, 1) := by decide +kernel
theorem dX3_readLeaf_97 : decode cX3_readLeaf 97 = .ok (.invokevirtual 77, 3) := by decide +kernel
theorem dX3_readLeaf_100 : decode cX3_readLeaf 100 = .ok (.ifCond .eq 7, 3) := by decide +kernel
theorem dX3_readLeaf_103 : decode cX3_readLeaf 103 = .ok (.iconst 1, 1) := by decide +kernel
theorem dX3_readLeaf_104 : decode cX3_readLeaf 104 = .ok (.goto 4, 3) := by decide +kernel
theorem dX3_readLeaf_107 : decode cX3_readLeaf 107 = .ok (.iconst 0, 1) := by decide +kernel
theorem dX3_readLeaf_108 : decode cX3_readLeaf 108 = .ok (.ireturn, 1) := by decide +kernel
theorem dX3_readNumber_0 : decode cX3_readNumber 0 = .ok (.iconst 0, 1) := by decide +kernel
theorem dX3_readNumber_1 : decode cX3_readNumber 1 = .ok (.istore_n 1, 1) := by decide +kernel
theorem dX3_readNumber_2 : decode cX3_readNumber 2 = .ok (.iconst 0, 1) := by decide +kernel
theorem dX3_readNumber_3 : decode cX3_readNumber 3 = .ok (.istore_n 2, 1) := by decide +kernel
theorem dX3_readNumber_4 : decode cX3_readNumber 4 = .ok (.iload_n 2, 1) := by decide +kernel
theorem dX3_readNumber_5 : decode cX3_readNumber 5 = .ok (.iconst 3, 1) := by decide +kernel
theorem dX3_readNumber_6 : decode cX3_readNumber 6 = .ok (.if_icmp .ge 50, 3) := by decide +kernel
theorem dX3_readNumber_9 : decode cX3_readNumber 9 = .ok (.aload_n 0, 1) := by decide +kernel
theorem dX3_readNumber_10 : decode cX3_readNumber 10 = .ok (.invokevirtual 29, 3) := by decide +kernel
theorem dX3_readNumber_13 : decode cX3_readNumber 13 = .ok (.invokestatic 81, 3) := by decide +kernel
theorem dX3_readNumber_16 : decode cX3_readNumber 16 = .ok (.ifCond .eq 40, 3) := by decide +kernel
theorem dX3_readNumber_19 : decode cX3_readNumber 19 = .ok (.iload_n 2, 1) := by decide +kernel
theorem dX3_readNumber_20 : decode cX3_readNumber 20 = .ok (.ifCond .eq 7, 3) := by decide +kernel
theorem dX3_readNumber_23 : decode cX3_readNumber 23 = .ok (.iload_n 1, 1) := by decide +kernel
theorem dX3_readNumber_24 : decode cX3_readNumber 24 = .ok (.ifCond .le 32, 3) := by decide +kernel
theorem dX3_readNumber_27 : decode cX3_readNumber 27 = .ok (.bipush 10, 2) := by decide +kernel
theorem dX3_readNumber_29 : decode cX3_readNumber 29 = .ok (.iload_n 1, 1) := by decide +kernel
theorem dX3_readNumber_30 : decode cX3_readNumber 30 = .ok (.imul, 1) := by decide +kernel
theorem dX3_readNumber_31 : decode cX3_readNumber 31 = .ok (.aload_n 0, 1) := by decide +kernel
theorem dX3_readNumber_32 : decode cX3_readNumber 32 = .ok (.invokevirtual 29, 3) := by decide +kernel
theorem dX3_readNumber_35 : decode cX3_readNumber 35 = .ok (.iadd, 1) := by decide +kernel
theorem dX3_readNumber_36 : decode cX3_readNumber 36 = .ok (.bipush 48, 2) := by decide +kernel
theorem dX3_readNumber_38 : decode cX3_readNumber 38 = .ok (.isub, 1) := by decide +kernel
theorem dX3_readNumber_39 : decode cX3_readNumber 39 = .ok (.istore_n 1, 1) := by decide +kernel
theorem dX3_readNumber_40 : decode cX3_readNumber 40 = .ok (.iinc 2 1, 3) := by decide +kernel
theorem dX3_readNumber_43 : decode cX3_readNumber 43 = .ok (.aload_n 0, 1) := by decide +kernel
theorem dX3_readNumber_44 : decode cX3_readNumber 44 = .ok (.dup, 1) := by decide +kernel
theorem dX3_readNumber_45 : decode cX3_readNumber 45 = .ok (.getfield 26, 3) := by decide +kernel
theorem dX3_readNumber_48 : decode cX3_readNumber 48 = .ok (.iconst 1, 1) := by decide +kernel
theorem dX3_readNumber_49 : decode cX3_readNumber 49 = .ok (.iadd, 1) := by decide +kernel
theorem dX3_readNumber_50 : decode cX3_readNumber 50 = .ok (.putfield 26, 3) := by decide +kernel
theorem dX3_readNumber_53 : decode cX3_readNumber 53 = .ok (.goto (-49), 3) := by decide +kernel
theorem dX3_readNumber_56 : decode cX3_readNumber 56 = .ok (.iload_n 1, 1) := by decide +kernel
theorem dX3_readNumber_57 : decode cX3_readNumber 57 = .ok (.ireturn, 1) := by decide +kernel
theorem dX3_isDigit_0 : decode cX3_isDigit 0 = .ok (.iload_n 0, 1) := by decide +kernel
theorem dX3_isDigit_1 : decode cX3_isDigit 1 = .ok (.bipush 48, 2) := by decide +kernel
theorem dX3_isDigit_3 : decode cX3_isDigit 3 = .ok (.if_icmp .lt 13, 3) := by decide +kernel
theorem dX3_isDigit_6 : decode cX3_isDigit 6 = .ok (.iload_n 0, 1) := by decide +kernel
theorem dX3_isDigit_7 : decode cX3_isDigit 7 = .ok (.bipush 57, 2) := by decide +kernel
theorem dX3_isDigit_9 : decode cX3_isDigit 9 = .ok (.if_icmp .gt 7, 3) := by decide +kernel
theorem dX3_isDigit_12 : decode cX3_isDigit 12 = .ok (.iconst 1, 1) := by decide +kernel
theorem dX3_isDigit_13 : decode cX3_isDigit 13 = .ok (.goto 4, 3) := by decide +kernel
theorem dX3_isDigit_16 : decode cX3_isDigit 16 = .ok (.iconst 0, 1) := by decide +kernel
theorem dX3_isDigit_17 : decode cX3_isDigit 17 = .ok (.ireturn, 1) := by decide +kernel
theorem dX4_init_0 : decode cX4_init 0 = .ok (.aload_n 0, 1) := by decide +kernel
theorem dX4_init_1 : decode cX4_init 1 = .ok (.invokespecial 3, 3) := by decide +kernel
theorem dX4_init_4 : decode cX4_init 4 = .ok (.aload_n 0, 1) := by decide +kernel
theorem dX4_init_5 : decode cX4_init 5 = .ok (.bipush 6, 2) := by decide +kernel
theorem dX4_init_7 : decode cX4_init 7 = .ok (.anewarray 9, 3) := by decide +kernel
theorem dX4_init_10 : decode cX4_init 10 = .ok (.putfield 11, 3) := by decide +kernel
theorem dX4_init_13 : decode cX4_init 13 = .ok (.aload_n 0, 1) := by decide +kernel
theorem dX4_init_14 : decode cX4_init 14 = .ok (.iconst 1, 1) := by decide +kernel
theorem dX4_init_15 : decode cX4_init 15 = .ok (.putfield 17, 3) := by decide +kernel
theorem dX4_init_18 : decode cX4_init 18 = .ok (.aload_n 0, 1) := by decide +kernel
theorem dX4_init_19 : decode cX4_init 19 = .ok (.bipush 8, 2) := by decide +kernel
theorem dX4_init_21 : decode cX4_init 21 = .ok (.newarray .int, 2) := by decide +kernel
theorem dX4_init_23 : decode cX4_init 23 = .ok (.putfield 21, 3) := by decide +kernel
theorem dX4_init_26 : decode cX4_init 26 = .ok (.aload_n 0, 1) := by decide +kernel
theorem dX4_init_27 : decode cX4_init 27 = .ok (.iconst 3, 1) := by decide +kernel
theorem dX4_init_28 : decode cX4_init 28 = .ok (.putfield 25, 3) := by decide +kernel
theorem dX4_init_31 : decode cX4_init 31 = .ok (.iconst 0, 1) := by decide +kernel
theorem dX4_init_32 : decode cX4_init 32 = .ok (.istore_n 1, 1) := by decide +kernel
theorem dX4_init_33 : decode cX4_init 33 = .ok (.iload_n 1, 1) := by decide +kernel
theorem dX4_init_34 : decode cX4_init 34 = .ok (.aload_n 0, 1) := by decide +kernel
theorem dX4_init_35 : decode cX4_init 35 = .ok (.getfield 11, 3) := by decide +kernel
theorem dX4_init_38 : decode cX4_init 38 = .ok (.arraylength, 1) := by decide +kernel
theorem dX4_init_39 : decode cX4_init 39 = .ok (.if_icmp .ge 24, 3) := by decide +kernel
theorem dX4_init_42 : decode cX4_init 42 = .ok (.aload_n 0, 1) := by decide +kernel
theorem dX4_init_43 : decode cX4_init 43 = .ok (.getfield 11, 3) := by decide +kernel
theorem dX4_init_46 : decode cX4_init 46 = .ok (.iload_n 1, 1) := by decide +kernel
theorem dX4_init_47 : decode cX4_init 47 = .ok (.new 9, 3) := by decide +kernel
theorem dX4_init_50 : decode cX4_init 50 = .ok (.dup, 1) := by decide +kernel
theorem dX4_init_51 : decode cX4_init 51 = .ok (.bipush 30, 2) := by decide +kernel
theorem dX4_init_53 : decode cX4_init 53 = .ok (.invokespecial 28, 3) := by decide +kernel
theorem dX4_init_56 : decode cX4_init 56 = .ok (.aastore, 1) := by decide +kernel
theorem dX4_init_57 : decode cX4_init 57 = .ok (.iinc 1 1, 3) := by decide +kernel
theorem dX4_init_60 : decode cX4_init 60 = .ok (.goto (-27), 3) := by decide +kernel
theorem dX4_init_63 : decode cX4_init 63 = .ok (.return_, 1) := by decide +kernel
theorem dX4_copyFormulas_0 : decode cX4_copyFormulas 0 = .ok (.aload_n 0, 1) := by decide +kernel
theorem dX4_copyFormulas_1 : decode cX4_copyFormulas 1 = .ok (.aload_n 1, 1) := by decide +kernel
theorem dX4_copyFormulas_2 : decode cX4_copyFormulas 2 = .ok (.getfield 17, 3) := by decide +kernel
theorem dX4_copyFormulas_5 : decode cX4_copyFormulas 5 = .ok (.putfield 17, 3) := by decide +kernel
theorem dX4_copyFormulas_8 : decode cX4_copyFormulas 8 = .ok (.iconst 0, 1) := by decide +kernel
theorem dX4_copyFormulas_9 : decode cX4_copyFormulas 9 = .ok (.istore_n 2, 1) := by decide +kernel
theorem dX4_copyFormulas_10 : decode cX4_copyFormulas 10 = .ok (.iload_n 2, 1) := by decide +kernel
theorem dX4_copyFormulas_11 : decode cX4_copyFormulas 11 = .ok (.aload_n 0, 1) := by decide +kernel
theorem dX4_copyFormulas_12 : decode cX4_copyFormulas 12 = .ok (.getfield 17, 3) := by decide +kernel
theorem dX4_copyFormulas_15 : decode cX4_copyFormulas 15 = .ok (.if_icmp .ge 30, 3) := by decide +kernel
theorem dX4_copyFormulas_18 : decode cX4_copyFormulas 18 = .ok (.iload_n 2, 1) := by decide +kernel
theorem dX4_copyFormulas_19 : decode cX4_copyFormulas 19 = .ok (.bipush 6, 2) := by decide +kernel
theorem dX4_copyFormulas_21 : decode cX4_copyFormulas 21 = .ok (.if_icmp .ge 24, 3) := by decide +kernel
theorem dX4_copyFormulas_24 : decode cX4_copyFormulas 24 = .ok (.aload_n 0, 1) := by decide +kernel
theorem dX4_copyFormulas_25 : decode cX4_copyFormulas 25 = .ok (.getfield 11, 3) := by decide +kernel
theorem dX4_copyFormulas_28 : decode cX4_copyFormulas 28 = .ok (.iload_n 2, 1) := by decide +kernel
theorem dX4_copyFormulas_29 : decode cX4_copyFormulas 29 = .ok (.aaload, 1) := by decide +kernel
theorem dX4_copyFormulas_30 : decode cX4_copyFormulas 30 = .ok (.aload_n 1, 1) := by decide +kernel
theorem dX4_copyFormulas_31 : decode cX4_copyFormulas 31 = .ok (.getfield 11, 3) := by decide +kernel
theorem dX4_copyFormulas_34 : decode cX4_copyFormulas 34 = .ok (.iload_n 2, 1) := by decide +kernel
theorem dX4_copyFormulas_35 : decode cX4_copyFormulas 35 = .ok (.aaload, 1) := by decide +kernel
theorem dX4_copyFormulas_36 : decode cX4_copyFormulas 36 = .ok (.invokevirtual 31, 3) := by decide +kernel
theorem dX4_copyFormulas_39 : decode cX4_copyFormulas 39 = .ok (.iinc 2 1, 3) := by decide +kernel
theorem dX4_copyFormulas_42 : decode cX4_copyFormulas 42 = .ok (.goto (-32), 3) := by decide +kernel
theorem dX4_copyFormulas_45 : decode cX4_copyFormulas 45 = .ok (.return_, 1) := by decide +kernel
theorem dX4_copyState_0 : decode cX4_copyState 0 = .ok (.aload_n 0, 1) := by decide +kernel
theorem dX4_copyState_1 : decode cX4_copyState 1 = .ok (.aload_n 1, 1) := by decide +kernel
theorem dX4_copyState_2 : decode cX4_copyState 2 = .ok (.invokevirtual 35, 3) := by decide +kernel
theorem dX4_copyState_5 : decode cX4_copyState 5 = .ok (.aload_n 1, 1) := by decide +kernel
theorem dX4_copyState_6 : decode cX4_copyState 6 = .ok (.getfield 21, 3) := by decide +kernel
theorem dX4_copyState_9 : decode cX4_copyState 9 = .ok (.iconst 0, 1) := by decide +kernel
theorem dX4_copyState_10 : decode cX4_copyState 10 = .ok (.aload_n 0, 1) := by decide +kernel
theorem dX4_copyState_11 : decode cX4_copyState 11 = .ok (.getfield 21, 3) := by decide +kernel
theorem dX4_copyState_14 : decode cX4_copyState 14 = .ok (.iconst 0, 1) := by decide +kernel
theorem dX4_copyState_15 : decode cX4_copyState 15 = .ok (.bipush 8, 2) := by decide +kernel
theorem dX4_copyState_17 : decode cX4_copyState 17 = .ok (.invokestatic 39, 3) := by decide +kernel
theorem dX4_copyState_20 : decode cX4_copyState 20 = .ok (.aload_n 0, 1) := by decide +kernel
theorem dX4_copyState_21 : decode cX4_copyState 21 = .ok (.aload_n 1, 1) := by decide +kernel
theorem dX4_copyState_22 : decode cX4_copyState 22 = .ok (.getfield 25, 3) := by decide +kernel
theorem dX4_copyState_25 : decode cX4_copyState 25 = .ok (.putfield 25, 3) := by decide +kernel
theorem dX4_copyState_28 : decode cX4_copyState 28 = .ok (.return_, 1) := by decide +kernel
theorem dX5_init_0 : decode cX5_init 0 = .ok (.aload_n 0, 1) := by decide +kernel
theorem dX5_init_1 : decode cX5_init 1 = .ok (.invokespecial 3, 3) := by decide +kernel
theorem dX5_init_4 : decode cX5_init 4 = .ok (.aload_n 0, 1) := by decide +kernel
theorem dX5_init_5 : decode cX5_init 5 = .ok (.bipush 60, 2) := by decide +kernel
theorem dX5_init_7 : decode cX5_init 7 = .ok (.newarray .int, 2) := by decide +kernel
theorem dX5_init_9 : decode cX5_init 9 = .ok (.putfield 9, 3) := by decide +kernel
theorem dX5_init_12 : decode cX5_init 12 = .ok (.aload_n 0, 1) := by decide +kernel
theorem dX5_init_13 : decode cX5_init 13 = .ok (.bipush 60, 2) := by decide +kernel
theorem dX5_init_15 : decode cX5_init 15 = .ok (.newarray .int, 2) := by decide +kernel
theorem dX5_init_17 : decode cX5_init 17 = .ok (.putfield 15, 3) := by decide +kernel
theorem dX5_init_20 : decode cX5_init 20 = .ok (.return_, 1) := by decide +kernel
theorem dX5_tryOrders_0 : decode cX5_tryOrders 0 = .ok (.aload_n 0, 1) := by decide +kernel
theorem dX5_tryOrders_1 : decode cX5_tryOrders 1 = .ok (.iconst 0, 1) := by decide +kernel
theorem dX5_tryOrders_2 : decode cX5_tryOrders 2 = .ok (.putfield 18, 3) := by decide +kernel
theorem dX5_tryOrders_5 : decode cX5_tryOrders 5 = .ok (.iconst 0, 1) := by decide +kernel
theorem dX5_tryOrders_6 : decode cX5_tryOrders 6 = .ok (.istore_n 2, 1) := by decide +kernel
theorem dX5_tryOrders_7 : decode cX5_tryOrders 7 = .ok (.iload_n 2, 1) := by decide +kernel
theorem dX5_tryOrders_8 : decode cX5_tryOrders 8 = .ok (.bipush 60, 2) := by decide +kernel
theorem dX5_tryOrders_10 : decode cX5_tryOrders 10 = .ok (.if_icmp .ge 16, 3) := by decide +kernel
theorem dX5_tryOrders_13 : decode cX5_tryOrders 13 = .ok (.aload_n 0, 1) := by decide +kernel
theorem dX5_tryOrders_14 : decode cX5_tryOrders 14 = .ok (.getfield 9, 3) := by decide +kernel
theorem dX5_tryOrders_17 : decode cX5_tryOrders 17 = .ok (.iload_n 2, 1) := by decide +kernel
theorem dX5_tryOrders_18 : decode cX5_tryOrders 18 = .ok (.iconst 0, 1) := by decide +kernel
theorem dX5_tryOrders_19 : decode cX5_tryOrders 19 = .ok (.iastore, 1) := by decide +kernel
theorem dX5_tryOrders_20 : decode cX5_tryOrders 20 = .ok (.iinc 2 1, 3) := by decide +kernel
theorem dX5_tryOrders_23 : decode cX5_tryOrders 23 = .ok (.goto (-16), 3) := by decide +kernel
theorem dX5_tryOrders_26 : decode cX5_tryOrders 26 = .ok (.aload_n 0, 1) := by decide +kernel
theorem dX5_tryOrders_27 : decode cX5_tryOrders 27 = .ok (.getfield 18, 3) := by decide +kernel
theorem dX5_tryOrders_30 : decode cX5_tryOrders 30 = .ok (.bipush 10, 2) := by decide +kernel
theorem dX5_tryOrders_32 : decode cX5_tryOrders 32 = .ok (.if_icmp .gt 77, 3) := by decide +kernel
theorem dX5_tryOrders_35 : decode cX5_tryOrders 35 = .ok (.aload_n 0, 1) := by decide +kernel
theorem dX5_tryOrders_36 : decode cX5_tryOrders 36 = .ok (.getfield 9, 3) := by decide +kernel
theorem dX5_tryOrders_39 : decode cX5_tryOrders 39 = .ok (.iconst 0, 1) := by decide +kernel
theorem dX5_tryOrders_40 : decode cX5_tryOrders 40 = .ok (.iaload, 1) := by decide +kernel
theorem dX5_tryOrders_41 : decode cX5_tryOrders 41 = .ok (.ifCond .ne 68, 3) := by decide +kernel
theorem dX5_tryOrders_44 : decode cX5_tryOrders 44 = .ok (.aload_n 0, 1) := by decide +kernel
theorem dX5_tryOrders_45 : decode cX5_tryOrders 45 = .ok (.dup, 1) := by decide +kernel
theorem dX5_tryOrders_46 : decode cX5_tryOrders 46 = .ok (.getfield 18, 3) := by decide +kernel
theorem dX5_tryOrders_49 : decode cX5_tryOrders 49 = .ok (.iconst 1, 1) := by decide +kernel
theorem dX5_tryOrders_50 : decode cX5_tryOrders 50 = .ok (.iadd, 1) := by decide +kernel
theorem dX5_tryOrders_51 : decode cX5_tryOrders 51 = .ok (.putfield 18, 3) := by decide +kernel
theorem dX5_tryOrders_54 : decode cX5_tryOrders 54 = .ok (.aload_n 0, 1) := by decide +kernel
theorem dX5_tryOrders_55 : decode cX5_tryOrders 55 = .ok (.getfield 9, 3) := by decide +kernel
theorem dX5_tryOrders_58 : decode cX5_tryOrders 58 = .ok (.iconst 0, 1) := by decide +kernel
theorem dX5_tryOrders_59 : decode cX5_tryOrders 59 = .ok (.aload_n 0, 1) := by decide +kernel
theorem dX5_tryOrders_60 : decode cX5_tryOrders 60 = .ok (.getfield 15, 3) := by decide +kernel
theorem dX5_tryOrders_63 : decode cX5_tryOrders 63 = .ok (.iconst 0, 1) := by decide +kernel
theorem dX5_tryOrders_64 : decode cX5_tryOrders 64 = .ok (.bipush 60, 2) := by decide +kernel
theorem dX5_tryOrders_66 : decode cX5_tryOrders 66 = .ok (.invokestatic 22, 3) := by decide +kernel
theorem dX5_tryOrders_69 : decode cX5_tryOrders 69 = .ok (.aload_n 1, 1) := by decide +kernel
theorem dX5_tryOrders_70 : decode cX5_tryOrders 70 = .ok (.getfield 28, 3) := by decide +kernel
theorem dX5_tryOrders_73 : decode cX5_tryOrders 73 = .ok (.getfield 34, 3) := by decide +kernel
theorem dX5_tryOrders_76 : decode cX5_tryOrders 76 = .ok (.bipush 60, 2) := by decide +kernel
theorem dX5_tryOrders_78 : decode cX5_tryOrders 78 = .ok (.invokestatic 39, 3) := by decide +kernel
theorem dX5_tryOrders_81 : decode cX5_tryOrders 81 = .ok (.iconst 1, 1) := by decide +kernel
theorem dX5_tryOrders_82 : decode cX5_tryOrders 82 = .ok (.isub, 1) := by decide +kernel
theorem dX5_tryOrders_83 : decode cX5_tryOrders 83 = .ok (.istore_n 2, 1) := by decide +kernel
theorem dX5_tryOrders_84 : decode cX5_tryOrders 84 = .ok (.iload_n 2, 1) := by decide +kernel
theorem dX5_tryOrders_85 : decode cX5_tryOrders 85 = .ok (.ifCond .lt 21, 3) := by decide +kernel
theorem dX5_tryOrders_88 : decode cX5_tryOrders 88 = .ok (.aload_n 0, 1) := by decide +kernel
theorem dX5_tryOrders_89 : decode cX5_tryOrders 89 = .ok (.getfield 9, 3) := by decide +kernel
theorem dX5_tryOrders_92 : decode cX5_tryOrders 92 = .ok (.iload_n 2, 1) := by decide +kernel
theorem dX5_tryOrders_93 : decode cX5_tryOrders 93 = .ok (.aload_n 0, 1) := by decide +kernel
theorem dX5_tryOrders_94 : decode cX5_tryOrders 94 = .ok (.aload_n 1, 1) := by decide +kernel
theorem dX5_tryOrders_95 : decode cX5_tryOrders 95 = .ok (.iload_n 2, 1) := by decide +kernel
theorem dX5_tryOrders_96 : decode cX5_tryOrders 96 = .ok (.invokevirtual 45, 3) := by decide +kernel
theorem dX5_tryOrders_99 : decode cX5_tryOrders 99 = .ok (.iastore, 1) := by decide +kernel
theorem dX5_tryOrders_100 : decode cX5_tryOrders 100 = .ok (.iinc 2 (-1), 3) := by decide +kernel
theorem dX5_tryOrders_103 : decode cX5_tryOrders 103 = .ok (.goto (-19), 3) := by decide +kernel
theorem dX5_tryOrders_106 : decode cX5_tryOrders 106 = .ok (.goto (-80), 3) := by decide +kernel
theorem dX5_tryOrders_109 : decode cX5_tryOrders 109 = .ok (.return_, 1) := by decide +kernel
theorem dX5_waysFor_0 : decode cX5_waysFor 0 = .ok (.iload_n 2, 1) := by decide +kernel
theorem dX5_waysFor_1 : decode cX5_waysFor 1 = .ok (.iconst 1, 1) := by decide +kernel
theorem dX5_waysFor_2 : decode cX5_waysFor 2 = .ok (.iadd, 1) := by decide +kernel
theorem dX5_waysFor_3 : decode cX5_waysFor 3 = .ok (.istore_n 3, 1) := by decide +kernel
theorem dX5_waysFor_4 : decode cX5_waysFor 4 = .ok (.aload_n 1, 1) := by decide +kernel
theorem dX5_waysFor_5 : decode cX5_waysFor 5 = .ok (.getfield 28, 3) := by decide +kernel
theorem dX5_waysFor_8 : decode cX5_waysFor 8 = .ok (.iload_n 2, 1) := by decide +kernel
theorem dX5_waysFor_9 : decode cX5_waysFor 9 = .ok (.invokevirtual 49, 3) := by decide +kernel
theorem dX5_waysFor_12 : decode cX5_waysFor 12 = .ok (.invokestatic 53, 3) := by decide +kernel
theorem dX5_waysFor_15 : decode cX5_waysFor 15 = .ok (.istore 4, 2) := by decide +kernel
theorem dX5_waysFor_17 : decode cX5_waysFor 17 = .ok (.iload 4, 2) := by decide +kernel
theorem dX5_waysFor_19 : decode cX5_waysFor 19 = .ok (.ifCond .ne 5, 3) := by decide +kernel
theorem dX5_waysFor_22 : decode cX5_waysFor 22 = .ok (.iconst 1, 1) := by decide +kernel
theorem dX5_waysFor_23 : decode cX5_waysFor 23 = .ok (.ireturn, 1) := by decide +kernel
theorem dX5_waysFor_24 : decode cX5_waysFor 24 = .ok (.iload 4, 2) := by decide +kernel
theorem dX5_waysFor_26 : decode cX5_waysFor 26 = .ok (.iconst 1, 1) := by decide +kernel
theorem dX5_waysFor_27 : decode cX5_waysFor 27 = .ok (.if_icmp .ne 12, 3) := by decide +kernel
theorem dX5_waysFor_30 : decode cX5_waysFor 30 = .ok (.aload_n 0, 1) := by decide +kernel
theorem dX5_waysFor_31 : decode cX5_waysFor 31 = .ok (.getfield 9, 3) := by decide +kernel
theorem dX5_waysFor_34 : decode cX5_waysFor 34 = .ok (.iload_n 3, 1) := by decide +kernel
theorem dX5_waysFor_35 : decode cX5_waysFor 35 = .ok (.invokestatic 56, 3) := by decide +kernel
theorem dX5_waysFor_38 : decode cX5_waysFor 38 = .ok (.ireturn, 1) := by decide +kernel
theorem dX5_waysFor_39 : decode cX5_waysFor 39 = .ok (.aload_n 1, 1) := by decide +kernel
theorem dX5_waysFor_40 : decode cX5_waysFor 40 = .ok (.iload_n 2, 1) := by decide +kernel
theorem dX5_waysFor_41 : decode cX5_waysFor 41 = .ok (.invokevirtual 60, 3) := by decide +kernel
theorem dX5_waysFor_44 : decode cX5_waysFor 44 = .ok (.istore 5, 2) := by decide +kernel
theorem dX5_waysFor_46 : decode cX5_waysFor 46 = .ok (.aload_n 0, 1) := by decide +kernel
theorem dX5_waysFor_47 : decode cX5_waysFor 47 = .ok (.getfield 9, 3) := by decide +kernel
theorem dX5_waysFor_50 : decode cX5_waysFor 50 = .ok (.iload_n 3, 1) := by decide +kernel
theorem dX5_waysFor_51 : decode cX5_waysFor 51 = .ok (.invokestatic 56, 3) := by decide +kernel
theorem dX5_waysFor_54 : decode cX5_waysFor 54 = .ok (.aload_n 0, 1) := by decide +kernel
theorem dX5_waysFor_55 : decode cX5_waysFor 55 = .ok (.getfield 15, 3) := by decide +kernel
theorem dX5_waysFor_58 : decode cX5_waysFor 58 = .ok (.iload 5, 2) := by decide +kernel
theorem dX5_waysFor_60 : decode cX5_waysFor 60 = .ok (.invokestatic 56, 3) := by decide +kernel
theorem dX5_waysFor_63 : decode cX5_waysFor 63 = .ok (.imul, 1) := by decide +kernel
theorem dX5_waysFor_64 : decode cX5_waysFor 64 = .ok (.istore 6, 2) := by decide +kernel
theorem dX5_waysFor_66 : decode cX5_waysFor 66 = .ok (.aload_n 0, 1) := by decide +kernel
theorem dX5_waysFor_67 : decode cX5_waysFor 67 = .ok (.getfield 9, 3) := by decide +kernel
theorem dX5_waysFor_70 : decode cX5_waysFor 70 = .ok (.iload 5, 2) := by decide +kernel
theorem dX5_waysFor_72 : decode cX5_waysFor 72 = .ok (.invokestatic 56, 3) := by decide +kernel
theorem dX5_waysFor_75 : decode cX5_waysFor 75 = .ok (.aload_n 0, 1) := by decide +kernel
theorem dX5_waysFor_76 : decode cX5_waysFor 76 = .ok (.getfield 15, 3) := by decide +kernel
theorem dX5_waysFor_79 : decode cX5_waysFor 79 = .ok (.iload_n 3, 1) := by decide +kernel
theorem dX5_waysFor_80 : decode cX5_waysFor 80 = .ok (.invokestatic 56, 3) := by decide +kernel
theorem dX5_waysFor_83 : decode cX5_waysFor 83 = .ok (.imul, 1) := by decide +kernel
theorem dX5_waysFor_84 : decode cX5_waysFor 84 = .ok (.istore 7, 2) := by decide +kernel
theorem dX5_waysFor_86 : decode cX5_waysFor 86 = .ok (.iload 6, 2) := by decide +kernel
theorem dX5_waysFor_88 : decode cX5_waysFor 88 = .ok (.iload 7, 2) := by decide +kernel
theorem dX5_waysFor_90 : decode cX5_waysFor 90 = .ok (.iadd, 1) := by decide +kernel
theorem dX5_waysFor_91 : decode cX5_waysFor 91 = .ok (.ireturn, 1) := by decide +kernel
end
section
theorem dX6_init_0 : decode cX6_init 0 = .ok (.aload_n 0, 1) := by decide +kernel
theorem dX6_init_1 : decode cX6_init 1 = .ok (.invokespecial 3, 3) := by decide +kernel
theorem dX6_init_4 : decode cX6_init 4 = .ok (.aload_n 0, 1) := by decide +kernel
theorem dX6_init_5 : decode cX6_init 5 = .ok (.new 9, 3) := by decide +kernel
theorem dX6_init_8 : decode cX6_init 8 = .ok (.dup, 1) := by decide +kernel
theorem dX6_init_9 : decode cX6_init 9 = .ok (.invokespecial 11, 3) := by decide +kernel
theorem dX6_init_12 : decode cX6_init 12 = .ok (.putfield 12, 3) := by decide +kernel
theorem dX6_init_15 : decode cX6_init 15 = .ok (.aload_n 0, 1) := by decide +kernel
theorem dX6_init_16 : decode cX6_init 16 = .ok (.new 16, 3) := by decide +kernel
theorem dX6_init_19 : decode cX6_init 19 = .ok (.dup, 1) := by decide +kernel
theorem dX6_init_20 : decode cX6_init 20 = .ok (.invokespecial 18, 3) := by decide +kernel
theorem dX6_init_23 : decode cX6_init 23 = .ok (.putfield 19, 3) := by decide +kernel
theorem dX6_init_26 : decode cX6_init 26 = .ok (.aload_n 0, 1) := by decide +kernel
theorem dX6_init_27 : decode cX6_init 27 = .ok (.iconst 5, 1) := by decide +kernel
theorem dX6_init_28 : decode cX6_init 28 = .ok (.anewarray 16, 3) := by decide +kernel
theorem dX6_init_31 : decode cX6_init 31 = .ok (.putfield 23, 3) := by decide +kernel
theorem dX6_init_34 : decode cX6_init 34 = .ok (.aload_n 0, 1) := by decide +kernel
theorem dX6_init_35 : decode cX6_init 35 = .ok (.bipush 6, 2) := by decide +kernel
theorem dX6_init_37 : decode cX6_init 37 = .ok (.anewarray 27, 3) := by decide +kernel
theorem dX6_init_40 : decode cX6_init 40 = .ok (.putfield 29, 3) := by decide +kernel
theorem dX6_init_43 : decode cX6_init 43 = .ok (.aload_n 0, 1) := by decide +kernel
theorem dX6_init_44 : decode cX6_init 44 = .ok (.new 33, 3) := by decide +kernel
theorem dX6_init_47 : decode cX6_init 47 = .ok (.dup, 1) := by decide +kernel
theorem dX6_init_48 : decode cX6_init 48 = .ok (.invokespecial 35, 3) := by decide +kernel
theorem dX6_init_51 : decode cX6_init 51 = .ok (.putfield 36, 3) := by decide +kernel
theorem dX6_init_54 : decode cX6_init 54 = .ok (.aload_n 0, 1) := by decide +kernel
theorem dX6_init_55 : decode cX6_init 55 = .ok (.new 40, 3) := by decide +kernel
theorem dX6_init_58 : decode cX6_init 58 = .ok (.dup, 1) := by decide +kernel
theorem dX6_init_59 : decode cX6_init 59 = .ok (.invokespecial 42, 3) := by decide +kernel
theorem dX6_init_62 : decode cX6_init 62 = .ok (.putfield 43, 3) := by decide +kernel
theorem dX6_init_65 : decode cX6_init 65 = .ok (.iconst 0, 1) := by decide +kernel
theorem dX6_init_66 : decode cX6_init 66 = .ok (.istore_n 1, 1) := by decide +kernel
theorem dX6_init_67 : decode cX6_init 67 = .ok (.iload_n 1, 1) := by decide +kernel
theorem dX6_init_68 : decode cX6_init 68 = .ok (.aload_n 0, 1) := by decide +kernel
theorem dX6_init_69 : decode cX6_init 69 = .ok (.getfield 23, 3) := by decide +kernel
theorem dX6_init_72 : decode cX6_init 72 = .ok (.arraylength, 1) := by decide +kernel
theorem dX6_init_73 : decode cX6_init 73 = .ok (.if_icmp .ge 22, 3) := by decide +kernel
theorem dX6_init_76 : decode cX6_init 76 = .ok (.aload_n 0, 1) := by decide +kernel
theorem dX6_init_77 : decode cX6_init 77 = .ok (.getfield 23, 3) := by decide +kernel
theorem dX6_init_80 : decode cX6_init 80 = .ok (.iload_n 1, 1) := by decide +kernel
theorem dX6_init_81 : decode cX6_init 81 = .ok (.new 16, 3) := by decide +kernel
theorem dX6_init_84 : decode cX6_init 84 = .ok (.dup, 1) := by decide +kernel
theorem dX6_init_85 : decode cX6_init 85 = .ok (.invokespecial 18, 3) := by decide +kernel
theorem dX6_init_88 : decode cX6_init 88 = .ok (.aastore, 1) := by decide +kernel
theorem dX6_init_89 : decode cX6_init 89 = .ok (.iinc 1 1, 3) := by decide +kernel
theorem dX6_init_92 : decode cX6_init 92 = .ok (.goto (-25), 3) := by decide +kernel
theorem dX6_init_95 : decode cX6_init 95 = .ok (.iconst 0, 1) := by decide +kernel
theorem dX6_init_96 : decode cX6_init 96 = .ok (.istore_n 1, 1) := by decide +kernel
theorem dX6_init_97 : decode cX6_init 97 = .ok (.iload_n 1, 1) := by decide +kernel
theorem dX6_init_98 : decode cX6_init 98 = .ok (.aload_n 0, 1) := by decide +kernel
theorem dX6_init_99 : decode cX6_init 99 = .ok (.getfield 29, 3) := by decide +kernel
theorem dX6_init_102 : decode cX6_init 102 = .ok (.arraylength, 1) := by decide +kernel
theorem dX6_init_103 : decode cX6_init 103 = .ok (.if_icmp .ge 23, 3) := by decide +kernel
theorem dX6_init_106 : decode cX6_init 106 = .ok (.aload_n 0, 1) := by decide +kernel
theorem dX6_init_107 : decode cX6_init 107 = .ok (.getfield 29, 3) := by decide +kernel
theorem dX6_init_110 : decode cX6_init 110 = .ok (.iload_n 1, 1) := by decide +kernel
theorem dX6_init_111 : decode cX6_init 111 = .ok (.new 27, 3) := by decide +kernel
theorem dX6_init_114 : decode cX6_init 114 = .ok (.dup, 1) := by decide +kernel
theorem dX6_init_115 : decode cX6_init 115 = .ok (.iload_n 1, 1) := by decide +kernel
theorem dX6_init_116 : decode cX6_init 116 = .ok (.invokespecial 47, 3) := by decide +kernel
theorem dX6_init_119 : decode cX6_init 119 = .ok (.aastore, 1) := by decide +kernel
theorem dX6_init_120 : decode cX6_init 120 = .ok (.iinc 1 1, 3) := by decide +kernel
theorem dX6_init_123 : decode cX6_init 123 = .ok (.goto (-26), 3) := by decide +kernel
theorem dX6_init_126 : decode cX6_init 126 = .ok (.return_, 1) := by decide +kernel
theorem dX6_append_0 : decode cX6_append 0 = .ok (.iload_n 1, 1) := by decide +kernel
theorem dX6_append_1 : decode cX6_append 1 = .ok (.iconst 1, 1) := by decide +kernel
theorem dX6_append_2 : decode cX6_append 2 = .ok (.if_icmp .lt 10, 3) := by decide +kernel
theorem dX6_append_5 : decode cX6_append 5 = .ok (.iload_n 1, 1) := by decide +kernel
theorem dX6_append_6 : decode cX6_append 6 = .ok (.sipush 255, 3) := by decide +kernel
theorem dX6_append_9 : decode cX6_append 9 = .ok (.if_icmp .le 6, 3) := by decide +kernel
theorem dX6_append_12 : decode cX6_append 12 = .ok (.ldc 50, 2) := by decide +kernel
theorem dX6_append_14 : decode cX6_append 14 = .ok (.ireturn, 1) := by decide +kernel
theorem dX6_append_15 : decode cX6_append 15 = .ok (.aload_n 0, 1) := by decide +kernel
theorem dX6_append_16 : decode cX6_append 16 = .ok (.getfield 12, 3) := by decide +kernel
theorem dX6_append_19 : decode cX6_append 19 = .ok (.iload_n 1, 1) := by decide +kernel
theorem dX6_append_20 : decode cX6_append 20 = .ok (.invokevirtual 51, 3) := by decide +kernel
theorem dX6_append_23 : decode cX6_append 23 = .ok (.ifCond .eq 13, 3) := by decide +kernel
theorem dX6_append_26 : decode cX6_append 26 = .ok (.aload_n 0, 1) := by decide +kernel
theorem dX6_append_27 : decode cX6_append 27 = .ok (.getfield 12, 3) := by decide +kernel
theorem dX6_append_30 : decode cX6_append 30 = .ok (.getfield 55, 3) := by decide +kernel
theorem dX6_append_33 : decode cX6_append 33 = .ok (.goto 5, 3) := by decide +kernel
theorem dX6_append_36 : decode cX6_append 36 = .ok (.ldc 59, 2) := by decide +kernel
theorem dX6_append_38 : decode cX6_append 38 = .ok (.ireturn, 1) := by decide +kernel
theorem dX6_clearText_0 : decode cX6_clearText 0 = .ok (.aload_n 0, 1) := by decide +kernel
theorem dX6_clearText_1 : decode cX6_clearText 1 = .ok (.getfield 12, 3) := by decide +kernel
theorem dX6_clearText_4 : decode cX6_clearText 4 = .ok (.getfield 55, 3) := by decide +kernel
theorem dX6_clearText_7 : decode cX6_clearText 7 = .ok (.istore_n 1, 1) := by decide +kernel
theorem dX6_clearText_8 : decode cX6_clearText 8 = .ok (.aload_n 0, 1) := by decide +kernel
theorem dX6_clearText_9 : decode cX6_clearText 9 = .ok (.getfield 12, 3) := by decide +kernel
theorem dX6_clearText_12 : decode cX6_clearText 12 = .ok (.iconst 0, 1) := by decide +kernel
theorem dX6_clearText_13 : decode cX6_clearText 13 = .ok (.putfield 55, 3) := by decide +kernel
theorem dX6_clearText_16 : decode cX6_clearText 16 = .ok (.iload_n 1, 1) := by decide +kernel
theorem dX6_clearText_17 : decode cX6_clearText 17 = .ok (.ireturn, 1) := by decide +kernel
theorem dX6_read_0 : decode cX6_read 0 = .ok (.aload_n 0, 1) := by decide +kernel
theorem dX6_read_1 : decode cX6_read 1 = .ok (.getfield 12, 3) := by decide +kernel
theorem dX6_read_4 : decode cX6_read 4 = .ok (.invokevirtual 60, 3) := by decide +kernel
theorem dX6_read_7 : decode cX6_read 7 = .ok (.ifCond .ne 15, 3) := by decide +kernel
theorem dX6_read_10 : decode cX6_read 10 = .ok (.sipush (-1000), 3) := by decide +kernel
theorem dX6_read_13 : decode cX6_read 13 = .ok (.aload_n 0, 1) := by decide +kernel
theorem dX6_read_14 : decode cX6_read 14 = .ok (.getfield 12, 3) := by decide +kernel
theorem dX6_read_17 : decode cX6_read 17 = .ok (.getfield 64, 3) := by decide +kernel
theorem dX6_read_20 : decode cX6_read 20 = .ok (.isub, 1) := by decide +kernel
theorem dX6_read_21 : decode cX6_read 21 = .ok (.ireturn, 1) := by decide +kernel
theorem dX6_read_22 : decode cX6_read 22 = .ok (.aload_n 0, 1) := by decide +kernel
theorem dX6_read_23 : decode cX6_read 23 = .ok (.invokevirtual 67, 3) := by decide +kernel
theorem dX6_read_26 : decode cX6_read 26 = .ok (.aload_n 0, 1) := by decide +kernel
theorem dX6_read_27 : decode cX6_read 27 = .ok (.getfield 19, 3) := by decide +kernel
theorem dX6_read_30 : decode cX6_read 30 = .ok (.aload_n 0, 1) := by decide +kernel
theorem dX6_read_31 : decode cX6_read 31 = .ok (.getfield 12, 3) := by decide +kernel
theorem dX6_read_34 : decode cX6_read 34 = .ok (.getfield 70, 3) := by decide +kernel
theorem dX6_read_37 : decode cX6_read 37 = .ok (.invokevirtual 73, 3) := by decide +kernel
theorem dX6_read_40 : decode cX6_read 40 = .ok (.aload_n 0, 1) := by decide +kernel
theorem dX6_read_41 : decode cX6_read 41 = .ok (.invokevirtual 77, 3) := by decide +kernel
theorem dX6_read_44 : decode cX6_read 44 = .ok (.aload_n 0, 1) := by decide +kernel
theorem dX6_read_45 : decode cX6_read 45 = .ok (.getfield 19, 3) := by decide +kernel
theorem dX6_read_48 : decode cX6_read 48 = .ok (.getfield 80, 3) := by decide +kernel
theorem dX6_read_51 : decode cX6_read 51 = .ok (.ireturn, 1) := by decide +kernel
theorem dX6_turn_0 : decode cX6_turn 0 = .ok (.aload_n 0, 1) := by decide +kernel
theorem dX6_turn_1 : decode cX6_turn 1 = .ok (.iload_n 1, 1) := by decide +kernel
theorem dX6_turn_2 : decode cX6_turn 2 = .ok (.invokevirtual 83, 3) := by decide +kernel
theorem dX6_turn_5 : decode cX6_turn 5 = .ok (.ifCond .eq 19, 3) := by decide +kernel
theorem dX6_turn_8 : decode cX6_turn 8 = .ok (.aload_n 0, 1) := by decide +kernel
theorem dX6_turn_9 : decode cX6_turn 9 = .ok (.getfield 19, 3) := by decide +kernel
theorem dX6_turn_12 : decode cX6_turn 12 = .ok (.getfield 86, 3) := by decide +kernel
theorem dX6_turn_15 : decode cX6_turn 15 = .ok (.iload_n 1, 1) := by decide +kernel
theorem dX6_turn_16 : decode cX6_turn 16 = .ok (.aaload, 1) := by decide +kernel
theorem dX6_turn_17 : decode cX6_turn 17 = .ok (.iload_n 2, 1) := by decide +kernel
theorem dX6_turn_18 : decode cX6_turn 18 = .ok (.invokevirtual 90, 3) := by decide +kernel
theorem dX6_turn_21 : decode cX6_turn 21 = .ok (.ifCond .ne 6, 3) := by decide +kernel
theorem dX6_turn_24 : decode cX6_turn 24 = .ok (.ldc 50, 2) := by decide +kernel
theorem dX6_turn_26 : decode cX6_turn 26 = .ok (.ireturn, 1) := by decide +kernel
theorem dX6_turn_27 : decode cX6_turn 27 = .ok (.aload_n 0, 1) := by decide +kernel
theorem dX6_turn_28 : decode cX6_turn 28 = .ok (.getfield 19, 3) := by decide +kernel
theorem dX6_turn_31 : decode cX6_turn 31 = .ok (.getfield 86, 3) := by decide +kernel
theorem dX6_turn_34 : decode cX6_turn 34 = .ok (.iload_n 1, 1) := by decide +kernel
theorem dX6_turn_35 : decode cX6_turn 35 = .ok (.aaload, 1) := by decide +kernel
theorem dX6_turn_36 : decode cX6_turn 36 = .ok (.iload_n 2, 1) := by decide +kernel
theorem dX6_turn_37 : decode cX6_turn 37 = .ok (.invokevirtual 95, 3) := by decide +kernel
theorem dX6_turn_40 : decode cX6_turn 40 = .ok (.istore_n 3, 1) := by decide +kernel
theorem dX6_turn_41 : decode cX6_turn 41 = .ok (.iload_n 3, 1) := by decide +kernel
theorem dX6_turn_42 : decode cX6_turn 42 = .ok (.iconst 4, 1) := by decide +kernel
theorem dX6_turn_43 : decode cX6_turn 43 = .ok (.if_icmp .eq 12, 3) := by decide +kernel
theorem dX6_turn_46 : decode cX6_turn 46 = .ok (.iload_n 3, 1) := by decide +kernel
theorem dX6_turn_47 : decode cX6_turn 47 = .ok (.bipush 6, 2) := by decide +kernel
theorem dX6_turn_49 : decode cX6_turn 49 = .ok (.if_icmp .eq 6, 3) := by decide +kernel
theorem dX6_turn_52 : decode cX6_turn 52 = .ok (.ldc 99, 2) := by decide +kernel
theorem dX6_turn_54 : decode cX6_turn 54 = .ok (.ireturn, 1) := by decide +kernel
theorem dX6_turn_55 : decode cX6_turn 55 = .ok (.aload_n 0, 1) := by decide +kernel
theorem dX6_turn_56 : decode cX6_turn 56 = .ok (.invokevirtual 67, 3) := by decide +kernel
theorem dX6_turn_59 : decode cX6_turn 59 = .ok (.aload_n 0, 1) := by decide +kernel
theorem dX6_turn_60 : decode cX6_turn 60 = .ok (.getfield 19, 3) := by decide +kernel
theorem dX6_turn_63 : decode cX6_turn 63 = .ok (.getfield 86, 3) := by decide +kernel
theorem dX6_turn_66 : decode cX6_turn 66 = .ok (.iload_n 1, 1) := by decide +kernel
theorem dX6_turn_67 : decode cX6_turn 67 = .ok (.aaload, 1) := by decide +kernel
theorem dX6_turn_68 : decode cX6_turn 68 = .ok (.iload_n 2, 1) := by decide +kernel
theorem dX6_turn_69 : decode cX6_turn 69 = .ok (.invokevirtual 100, 3) := by decide +kernel
theorem dX6_turn_72 : decode cX6_turn 72 = .ok (.aload_n 0, 1) := by decide +kernel
theorem dX6_turn_73 : decode cX6_turn 73 = .ok (.invokevirtual 77, 3) := by decide +kernel
theorem dX6_turn_76 : decode cX6_turn 76 = .ok (.aload_n 0, 1) := by decide +kernel
theorem dX6_turn_77 : decode cX6_turn 77 = .ok (.getfield 29, 3) := by decide +kernel
theorem dX6_turn_80 : decode cX6_turn 80 = .ok (.iload_n 1, 1) := by decide +kernel
theorem dX6_turn_81 : decode cX6_turn 81 = .ok (.aaload, 1) := by decide +kernel
theorem dX6_turn_82 : decode cX6_turn 82 = .ok (.iconst 0, 1) := by decide +kernel
theorem dX6_turn_83 : decode cX6_turn 83 = .ok (.invokevirtual 103, 3) := by decide +kernel
theorem dX6_turn_86 : decode cX6_turn 86 = .ok (.ireturn, 1) := by decide +kernel
theorem dX6_setCell_0 : decode cX6_setCell 0 = .ok (.iload_n 1, 1) := by decide +kernel
theorem dX6_setCell_1 : decode cX6_setCell 1 = .ok (.invokestatic 106, 3) := by decide +kernel
theorem dX6_setCell_4 : decode cX6_setCell 4 = .ok (.ifCond .eq 17, 3) := by decide +kernel
theorem dX6_setCell_7 : decode cX6_setCell 7 = .ok (.iload_n 2, 1) := by decide +kernel
theorem dX6_setCell_8 : decode cX6_setCell 8 = .ok (.sipush (-999), 3) := by decide +kernel
theorem dX6_setCell_11 : decode cX6_setCell 11 = .ok (.if_icmp .lt 10, 3) := by decide +kernel
theorem dX6_setCell_14 : decode cX6_setCell 14 = .ok (.iload_n 2, 1) := by decide +kernel
theorem dX6_setCell_15 : decode cX6_setCell 15 = .ok (.sipush 999, 3) := by decide +kernel
theorem dX6_setCell_18 : decode cX6_setCell 18 = .ok (.if_icmp .le 6, 3) := by decide +kernel
theorem dX6_setCell_21 : decode cX6_setCell 21 = .ok (.ldc 50, 2) := by decide +kernel
theorem dX6_setCell_23 : decode cX6_setCell 23 = .ok (.ireturn, 1) := by decide +kernel
theorem dX6_setCell_24 : decode cX6_setCell 24 = .ok (.aload_n 0, 1) := by decide +kernel
theorem dX6_setCell_25 : decode cX6_setCell 25 = .ok (.invokevirtual 67, 3) := by decide +kernel
theorem dX6_setCell_28 : decode cX6_setCell 28 = .ok (.aload_n 0, 1) := by decide +kernel
theorem dX6_setCell_29 : decode cX6_setCell 29 = .ok (.getfield 19, 3) := by decide +kernel
theorem dX6_setCell_32 : decode cX6_setCell 32 = .ok (.getfield 109, 3) := by decide +kernel
theorem dX6_setCell_35 : decode cX6_setCell 35 = .ok (.iload_n 1, 1) := by decide +kernel
theorem dX6_setCell_36 : decode cX6_setCell 36 = .ok (.iaload, 1) := by decide +kernel
theorem dX6_setCell_37 : decode cX6_setCell 37 = .ok (.istore_n 3, 1) := by decide +kernel
theorem dX6_setCell_38 : decode cX6_setCell 38 = .ok (.aload_n 0, 1) := by decide +kernel
theorem dX6_setCell_39 : decode cX6_setCell 39 = .ok (.getfield 19, 3) := by decide +kernel
theorem dX6_setCell_42 : decode cX6_setCell 42 = .ok (.getfield 109, 3) := by decide +kernel
theorem dX6_setCell_45 : decode cX6_setCell 45 = .ok (.iload_n 1, 1) := by decide +kernel
theorem dX6_setCell_46 : decode cX6_setCell 46 = .ok (.iload_n 2, 1) := by decide +kernel
theorem dX6_setCell_47 : decode cX6_setCell 47 = .ok (.iastore, 1) := by decide +kernel
theorem dX6_setCell_48 : decode cX6_setCell 48 = .ok (.aload_n 0, 1) := by decide +kernel
theorem dX6_setCell_49 : decode cX6_setCell 49 = .ok (.invokevirtual 77, 3) := by decide +kernel
theorem dX6_setCell_52 : decode cX6_setCell 52 = .ok (.iload_n 3, 1) := by decide +kernel
theorem dX6_setCell_53 : decode cX6_setCell 53 = .ok (.ireturn, 1) := by decide +kernel
theorem dX6_setPlaces_0 : decode cX6_setPlaces 0 = .ok (.iload_n 1, 1) := by decide +kernel
theorem dX6_setPlaces_1 : decode cX6_setPlaces 1 = .ok (.invokestatic 113, 3) := by decide +kernel
theorem dX6_setPlaces_4 : decode cX6_setPlaces 4 = .ok (.ifCond .ne 6, 3) := by decide +kernel
theorem dX6_setPlaces_7 : decode cX6_setPlaces 7 = .ok (.ldc 50, 2) := by decide +kernel
theorem dX6_setPlaces_9 : decode cX6_setPlaces 9 = .ok (.ireturn, 1) := by decide +kernel
theorem dX6_setPlaces_10 : decode cX6_setPlaces 10 = .ok (.aload_n 0, 1) := by decide +kernel
theorem dX6_setPlaces_11 : decode cX6_setPlaces 11 = .ok (.invokevirtual 67, 3) := by decide +kernel
theorem dX6_setPlaces_14 : decode cX6_setPlaces 14 = .ok (.aload_n 0, 1) := by decide +kernel
theorem dX6_setPlaces_15 : decode cX6_setPlaces 15 = .ok (.getfield 19, 3) := by decide +kernel
theorem dX6_setPlaces_18 : decode cX6_setPlaces 18 = .ok (.getfield 116, 3) := by decide +kernel
theorem dX6_setPlaces_21 : decode cX6_setPlaces 21 = .ok (.istore_n 2, 1) := by decide +kernel
theorem dX6_setPlaces_22 : decode cX6_setPlaces 22 = .ok (.aload_n 0, 1) := by decide +kernel
theorem dX6_setPlaces_23 : decode cX6_setPlaces 23 = .ok (.getfield 19, 3) := by decide +kernel
theorem dX6_setPlaces_26 : decode cX6_setPlaces 26 = .ok (.iload_n 1, 1) := by decide +kernel
theorem dX6_setPlaces_27 : decode cX6_setPlaces 27 = .ok (.putfield 116, 3) := by decide +kernel
theorem dX6_setPlaces_30 : decode cX6_setPlaces 30 = .ok (.iload_n 2, 1) := by decide +kernel
theorem dX6_setPlaces_31 : decode cX6_setPlaces 31 = .ok (.ireturn, 1) := by decide +kernel
theorem dX6_count_0 : decode cX6_count 0 = .ok (.iload_n 1, 1) := by decide +kernel
theorem dX6_count_1 : decode cX6_count 1 = .ok (.tableswitch 87 0 6 #[43, 51, 56, 61, 69, 74, 79], 43) := by decide +kernel
theorem dX6_count_44 : decode cX6_count 44 = .ok (.aload_n 0, 1) := by decide +kernel
theorem dX6_count_45 : decode cX6_count 45 = .ok (.getfield 19, 3) := by decide +kernel
theorem dX6_count_48 : decode cX6_count 48 = .ok (.getfield 80, 3) := by decide +kernel
theorem dX6_count_51 : decode cX6_count 51 = .ok (.ireturn, 1) := by decide +kernel
theorem dX6_count_52 : decode cX6_count 52 = .ok (.aload_n 0, 1) := by decide +kernel
theorem dX6_count_53 : decode cX6_count 53 = .ok (.invokevirtual 125, 3) := by decide +kernel
theorem dX6_count_56 : decode cX6_count 56 = .ok (.ireturn, 1) := by decide +kernel
theorem dX6_count_57 : decode cX6_count 57 = .ok (.aload_n 0, 1) := by decide +kernel
theorem dX6_count_58 : decode cX6_count 58 = .ok (.invokevirtual 129, 3) := by decide +kernel
theorem dX6_count_61 : decode cX6_count 61 = .ok (.ireturn, 1) := by decide +kernel
theorem dX6_count_62 : decode cX6_count 62 = .ok (.aload_n 0, 1) := by decide +kernel
theorem dX6_count_63 : decode cX6_count 63 = .ok (.getfield 19, 3) := by decide +kernel
theorem dX6_count_66 : decode cX6_count 66 = .ok (.getfield 116, 3) := by decide +kernel
theorem dX6_count_69 : decode cX6_count 69 = .ok (.ireturn, 1) := by decide +kernel
theorem dX6_count_70 : decode cX6_count 70 = .ok (.aload_n 0, 1) := by decide +kernel
theorem dX6_count_71 : decode cX6_count 71 = .ok (.invokevirtual 132, 3) := by decide +kernel
theorem dX6_count_74 : decode cX6_count 74 = .ok (.ireturn, 1) := by decide +kernel
theorem dX6_count_75 : decode cX6_count 75 = .ok (.aload_n 0, 1) := by decide +kernel
theorem dX6_count_76 : decode cX6_count 76 = .ok (.getfield 119, 3) := by decide +kernel
theorem dX6_count_79 : decode cX6_count 79 = .ok (.ireturn, 1) := by decide +kernel
theorem dX6_count_80 : decode cX6_count 80 = .ok (.aload_n 0, 1) := by decide +kernel
theorem dX6_count_81 : decode cX6_count 81 = .ok (.getfield 12, 3) := by decide +kernel
theorem dX6_count_84 : decode cX6_count 84 = .ok (.getfield 55, 3) := by decide +kernel
theorem dX6_count_87 : decode cX6_count 87 = .ok (.ireturn, 1) := by decide +kernel
theorem dX6_count_88 : decode cX6_count 88 = .ok (.ldc 50, 2) := by decide +kernel
theorem dX6_count_90 : decode cX6_count 90 = .ok (.ireturn, 1) := by decide +kernel
theorem dX6_formula_0 : decode cX6_formula 0 = .ok (.aload_n 0, 1) := by decide +kernel
theorem dX6_formula_1 : decode cX6_formula 1 = .ok (.iload_n 1, 1) := by decide +kernel
theorem dX6_formula_2 : decode cX6_formula 2 = .ok (.invokevirtual 83, 3) := by decide +kernel
theorem dX6_formula_5 : decode cX6_formula 5 = .ok (.ifCond .ne 6, 3) := by decide +kernel
theorem dX6_formula_8 : decode cX6_formula 8 = .ok (.ldc 50, 2) := by decide +kernel
theorem dX6_formula_10 : decode cX6_formula 10 = .ok (.ireturn, 1) := by decide +kernel
theorem dX6_formula_11 : decode cX6_formula 11 = .ok (.aload_n 0, 1) := by decide +kernel
theorem dX6_formula_12 : decode cX6_formula 12 = .ok (.getfield 29, 3) := by decide +kernel
theorem dX6_formula_15 : decode cX6_formula 15 = .ok (.iload_n 1, 1) := by decide +kernel
theorem dX6_formula_16 : decode cX6_formula 16 = .ok (.aaload, 1) := by decide +kernel
theorem dX6_formula_17 : decode cX6_formula 17 = .ok (.astore_n 3, 1) := by decide +kernel
theorem dX6_formula_18 : decode cX6_formula 18 = .ok (.iload_n 2, 1) := by decide +kernel
theorem dX6_formula_19 : decode cX6_formula 19 = .ok (.tableswitch 99 0 6 #[41, 54, 62, 68, 81, 87, 93], 41) := by decide +kernel
theorem dX6_formula_60 : decode cX6_formula 60 = .ok (.aload_n 0, 1) := by decide +kernel
theorem dX6_formula_61 : decode cX6_formula 61 = .ok (.getfield 19, 3) := by decide +kernel
theorem dX6_formula_64 : decode cX6_formula 64 = .ok (.getfield 86, 3) := by decide +kernel
theorem dX6_formula_67 : decode cX6_formula 67 = .ok (.iload_n 1, 1) := by decide +kernel
theorem dX6_formula_68 : decode cX6_formula 68 = .ok (.aaload, 1) := by decide +kernel
theorem dX6_formula_69 : decode cX6_formula 69 = .ok (.getfield 135, 3) := by decide +kernel
theorem dX6_formula_72 : decode cX6_formula 72 = .ok (.ireturn, 1) := by decide +kernel
theorem dX6_formula_73 : decode cX6_formula 73 = .ok (.aload_n 3, 1) := by decide +kernel
theorem dX6_formula_74 : decode cX6_formula 74 = .ok (.getfield 138, 3) := by decide +kernel
theorem dX6_formula_77 : decode cX6_formula 77 = .ok (.getfield 135, 3) := by decide +kernel
theorem dX6_formula_80 : decode cX6_formula 80 = .ok (.ireturn, 1) := by decide +kernel
theorem dX6_formula_81 : decode cX6_formula 81 = .ok (.aload_n 3, 1) := by decide +kernel
theorem dX6_formula_82 : decode cX6_formula 82 = .ok (.iconst 0, 1) := by decide +kernel
theorem dX6_formula_83 : decode cX6_formula 83 = .ok (.invokevirtual 103, 3) := by decide +kernel
theorem dX6_formula_86 : decode cX6_formula 86 = .ok (.ireturn, 1) := by decide +kernel
theorem dX6_formula_87 : decode cX6_formula 87 = .ok (.aload_n 3, 1) := by decide +kernel
theorem dX6_formula_88 : decode cX6_formula 88 = .ok (.getfield 142, 3) := by decide +kernel
theorem dX6_formula_91 : decode cX6_formula 91 = .ok (.ifCond .eq 7, 3) := by decide +kernel
theorem dX6_formula_94 : decode cX6_formula 94 = .ok (.iconst 1, 1) := by decide +kernel
theorem dX6_formula_95 : decode cX6_formula 95 = .ok (.goto 4, 3) := by decide +kernel
theorem dX6_formula_98 : decode cX6_formula 98 = .ok (.iconst 0, 1) := by decide +kernel
theorem dX6_formula_99 : decode cX6_formula 99 = .ok (.ireturn, 1) := by decide +kernel
theorem dX6_formula_100 : decode cX6_formula 100 = .ok (.aload_n 3, 1) := by decide +kernel
theorem dX6_formula_101 : decode cX6_formula 101 = .ok (.iconst 0, 1) := by decide +kernel
theorem dX6_formula_102 : decode cX6_formula 102 = .ok (.invokevirtual 146, 3) := by decide +kernel
theorem dX6_formula_105 : decode cX6_formula 105 = .ok (.ireturn, 1) := by decide +kernel
theorem dX6_formula_106 : decode cX6_formula 106 = .ok (.aload_n 3, 1) := by decide +kernel
theorem dX6_formula_107 : decode cX6_formula 107 = .ok (.iconst 0, 1) := by decide +kernel
theorem dX6_formula_108 : decode cX6_formula 108 = .ok (.invokevirtual 149, 3) := by decide +kernel
theorem dX6_formula_111 : decode cX6_formula 111 = .ok (.ireturn, 1) := by decide +kernel
theorem dX6_formula_112 : decode cX6_formula 112 = .ok (.aload_n 0, 1) := by decide +kernel
theorem dX6_formula_113 : decode cX6_formula 113 = .ok (.iload_n 1, 1) := by decide +kernel
theorem dX6_formula_114 : decode cX6_formula 114 = .ok (.invokevirtual 152, 3) := by decide +kernel
theorem dX6_formula_117 : decode cX6_formula 117 = .ok (.ireturn, 1) := by decide +kernel
theorem dX6_formula_118 : decode cX6_formula 118 = .ok (.ldc 50, 2) := by decide +kernel
theorem dX6_formula_120 : decode cX6_formula 120 = .ok (.ireturn, 1) := by decide +kernel
theorem dX6_node_0 : decode cX6_node 0 = .ok (.aload_n 0, 1) := by decide +kernel
theorem dX6_node_1 : decode cX6_node 1 = .ok (.iload_n 1, 1) := by decide +kernel
theorem dX6_node_2 : decode cX6_node 2 = .ok (.invokevirtual 83, 3) := by decide +kernel
theorem dX6_node_5 : decode cX6_node 5 = .ok (.ifCond .eq 19, 3) := by decide +kernel
theorem dX6_node_8 : decode cX6_node 8 = .ok (.aload_n 0, 1) := by decide +kernel
theorem dX6_node_9 : decode cX6_node 9 = .ok (.getfield 29, 3) := by decide +kernel
theorem dX6_node_12 : decode cX6_node 12 = .ok (.iload_n 1, 1) := by decide +kernel
theorem dX6_node_13 : decode cX6_node 13 = .ok (.aaload, 1) := by decide +kernel
theorem dX6_node_14 : decode cX6_node 14 = .ok (.getfield 138, 3) := by decide +kernel
theorem dX6_node_17 : decode cX6_node 17 = .ok (.iload_n 2, 1) := by decide +kernel
theorem dX6_node_18 : decode cX6_node 18 = .ok (.invokevirtual 90, 3) := by decide +kernel
theorem dX6_node_21 : decode cX6_node 21 = .ok (.ifCond .ne 6, 3) := by decide +kernel
theorem dX6_node_24 : decode cX6_node 24 = .ok (.ldc 50, 2) := by decide +kernel
theorem dX6_node_26 : decode cX6_node 26 = .ok (.ireturn, 1) := by decide +kernel
theorem dX6_node_27 : decode cX6_node 27 = .ok (.aload_n 0, 1) := by decide +kernel
theorem dX6_node_28 : decode cX6_node 28 = .ok (.getfield 29, 3) := by decide +kernel
theorem dX6_node_31 : decode cX6_node 31 = .ok (.iload_n 1, 1) := by decide +kernel
theorem dX6_node_32 : decode cX6_node 32 = .ok (.aaload, 1) := by decide +kernel
theorem dX6_node_33 : decode cX6_node 33 = .ok (.astore 4, 2) := by decide +kernel
theorem dX6_node_35 : decode cX6_node 35 = .ok (.aload 4, 2) := by decide +kernel
theorem dX6_node_37 : decode cX6_node 37 = .ok (.getfield 138, 3) := by decide +kernel
theorem dX6_node_40 : decode cX6_node 40 = .ok (.iload_n 2, 1) := by decide +kernel
theorem dX6_node_41 : decode cX6_node 41 = .ok (.invokevirtual 95, 3) := by decide +kernel
theorem dX6_node_44 : decode cX6_node 44 = .ok (.invokestatic 155, 3) := by decide +kernel
theorem dX6_node_47 : decode cX6_node 47 = .ok (.istore 5, 2) := by decide +kernel
theorem dX6_node_49 : decode cX6_node 49 = .ok (.iload_n 3, 1) := by decide +kernel
theorem dX6_node_50 : decode cX6_node 50 = .ok (.tableswitch 125 0 6 #[42, 52, 72, 86, 104, 111, 118], 42) := by decide +kernel
theorem dX6_node_92 : decode cX6_node 92 = .ok (.aload 4, 2) := by decide +kernel
theorem dX6_node_94 : decode cX6_node 94 = .ok (.getfield 138, 3) := by decide +kernel
theorem dX6_node_97 : decode cX6_node 97 = .ok (.iload_n 2, 1) := by decide +kernel
theorem dX6_node_98 : decode cX6_node 98 = .ok (.invokevirtual 95, 3) := by decide +kernel
theorem dX6_node_101 : decode cX6_node 101 = .ok (.ireturn, 1) := by decide +kernel
theorem dX6_node_102 : decode cX6_node 102 = .ok (.iload 5, 2) := by decide +kernel
theorem dX6_node_104 : decode cX6_node 104 = .ok (.ifCond .ne 15, 3) := by decide +kernel
theorem dX6_node_107 : decode cX6_node 107 = .ok (.aload 4, 2) := by decide +kernel
theorem dX6_node_109 : decode cX6_node 109 = .ok (.getfield 138, 3) := by decide +kernel
theorem dX6_node_112 : decode cX6_node 112 = .ok (.iload_n 2, 1) := by decide +kernel
theorem dX6_node_113 : decode cX6_node 113 = .ok (.invokevirtual 158, 3) := by decide +kernel
theorem dX6_node_116 : decode cX6_node 116 = .ok (.goto 5, 3) := by decide +kernel
theorem dX6_node_119 : decode cX6_node 119 = .ok (.ldc 161, 2) := by decide +kernel
theorem dX6_node_121 : decode cX6_node 121 = .ok (.ireturn, 1) := by decide +kernel
theorem dX6_node_122 : decode cX6_node 122 = .ok (.iload 5, 2) := by decide +kernel
theorem dX6_node_124 : decode cX6_node 124 = .ok (.ifCond .le 9, 3) := by decide +kernel
theorem dX6_node_127 : decode cX6_node 127 = .ok (.iload_n 2, 1) := by decide +kernel
theorem dX6_node_128 : decode cX6_node 128 = .ok (.iconst 1, 1) := by decide +kernel
theorem dX6_node_129 : decode cX6_node 129 = .ok (.iadd, 1) := by decide +kernel
theorem dX6_node_130 : decode cX6_node 130 = .ok (.goto 5, 3) := by decide +kernel
theorem dX6_node_133 : decode cX6_node 133 = .ok (.ldc 161, 2) := by decide +kernel
theorem dX6_node_135 : decode cX6_node 135 = .ok (.ireturn, 1) := by decide +kernel
theorem dX6_node_136 : decode cX6_node 136 = .ok (.iload 5, 2) := by decide +kernel
theorem dX6_node_138 : decode cX6_node 138 = .ok (.iconst 1, 1) := by decide +kernel
theorem dX6_node_139 : decode cX6_node 139 = .ok (.if_icmp .le 12, 3) := by decide +kernel
theorem dX6_node_142 : decode cX6_node 142 = .ok (.aload 4, 2) := by decide +kernel
theorem dX6_node_144 : decode cX6_node 144 = .ok (.iload_n 2, 1) := by decide +kernel
theorem dX6_node_145 : decode cX6_node 145 = .ok (.invokevirtual 162, 3) := by decide +kernel
theorem dX6_node_148 : decode cX6_node 148 = .ok (.goto 5, 3) := by decide +kernel
theorem dX6_node_151 : decode cX6_node 151 = .ok (.ldc 161, 2) := by decide +kernel
theorem dX6_node_153 : decode cX6_node 153 = .ok (.ireturn, 1) := by decide +kernel
theorem dX6_node_154 : decode cX6_node 154 = .ok (.aload 4, 2) := by decide +kernel
theorem dX6_node_156 : decode cX6_node 156 = .ok (.iload_n 2, 1) := by decide +kernel
theorem dX6_node_157 : decode cX6_node 157 = .ok (.invokevirtual 103, 3) := by decide +kernel
theorem dX6_node_160 : decode cX6_node 160 = .ok (.ireturn, 1) := by decide +kernel
theorem dX6_node_161 : decode cX6_node 161 = .ok (.aload 4, 2) := by decide +kernel
theorem dX6_node_163 : decode cX6_node 163 = .ok (.iload_n 2, 1) := by decide +kernel
theorem dX6_node_164 : decode cX6_node 164 = .ok (.invokevirtual 165, 3) := by decide +kernel
theorem dX6_node_167 : decode cX6_node 167 = .ok (.ireturn, 1) := by decide +kernel
theorem dX6_node_168 : decode cX6_node 168 = .ok (.aload 4, 2) := by decide +kernel
theorem dX6_node_170 : decode cX6_node 170 = .ok (.iload_n 2, 1) := by decide +kernel
theorem dX6_node_171 : decode cX6_node 171 = .ok (.invokevirtual 146, 3) := by decide +kernel
theorem dX6_node_174 : decode cX6_node 174 = .ok (.ireturn, 1) := by decide +kernel
theorem dX6_node_175 : decode cX6_node 175 = .ok (.ldc 50, 2) := by decide +kernel
theorem dX6_node_177 : decode cX6_node 177 = .ok (.ireturn, 1) := by decide +kernel
theorem dX6_cell_0 : decode cX6_cell 0 = .ok (.iload_n 1, 1) := by decide +kernel
theorem dX6_cell_1 : decode cX6_cell 1 = .ok (.invokestatic 106, 3) := by decide +kernel
theorem dX6_cell_4 : decode cX6_cell 4 = .ok (.ifCond .eq 15, 3) := by decide +kernel
theorem dX6_cell_7 : decode cX6_cell 7 = .ok (.aload_n 0, 1) := by decide +kernel
theorem dX6_cell_8 : decode cX6_cell 8 = .ok (.getfield 19, 3) := by decide +kernel
theorem dX6_cell_11 : decode cX6_cell 11 = .ok (.getfield 109, 3) := by decide +kernel
theorem dX6_cell_14 : decode cX6_cell 14 = .ok (.iload_n 1, 1) := by decide +kernel
theorem dX6_cell_15 : decode cX6_cell 15 = .ok (.iaload, 1) := by decide +kernel
theorem dX6_cell_16 : decode cX6_cell 16 = .ok (.goto 5, 3) := by decide +kernel
theorem dX6_cell_19 : decode cX6_cell 19 = .ok (.ldc 50, 2) := by decide +kernel
theorem dX6_cell_21 : decode cX6_cell 21 = .ok (.ireturn, 1) := by decide +kernel
theorem dX6_proved_0 : decode cX6_proved 0 = .ok (.aload_n 0, 1) := by decide +kernel
theorem dX6_proved_1 : decode cX6_proved 1 = .ok (.iload_n 1, 1) := by decide +kernel
theorem dX6_proved_2 : decode cX6_proved 2 = .ok (.invokevirtual 196, 3) := by decide +kernel
theorem dX6_proved_5 : decode cX6_proved 5 = .ok (.istore_n 2, 1) := by decide +kernel
theorem dX6_proved_6 : decode cX6_proved 6 = .ok (.iload_n 2, 1) := by decide +kernel
theorem dX6_proved_7 : decode cX6_proved 7 = .ok (.ifCond .eq 5, 3) := by decide +kernel
theorem dX6_proved_10 : decode cX6_proved 10 = .ok (.iload_n 2, 1) := by decide +kernel
theorem dX6_proved_11 : decode cX6_proved 11 = .ok (.ireturn, 1) := by decide +kernel
theorem dX6_proved_12 : decode cX6_proved 12 = .ok (.aload_n 0, 1) := by decide +kernel
theorem dX6_proved_13 : decode cX6_proved 13 = .ok (.getfield 43, 3) := by decide +kernel
theorem dX6_proved_16 : decode cX6_proved 16 = .ok (.aload_n 0, 1) := by decide +kernel
theorem dX6_proved_17 : decode cX6_proved 17 = .ok (.getfield 29, 3) := by decide +kernel
theorem dX6_proved_20 : decode cX6_proved 20 = .ok (.iload_n 1, 1) := by decide +kernel
theorem dX6_proved_21 : decode cX6_proved 21 = .ok (.aaload, 1) := by decide +kernel
theorem dX6_proved_22 : decode cX6_proved 22 = .ok (.invokevirtual 199, 3) := by decide +kernel
theorem dX6_proved_25 : decode cX6_proved 25 = .ok (.aload_n 0, 1) := by decide +kernel
theorem dX6_proved_26 : decode cX6_proved 26 = .ok (.getfield 43, 3) := by decide +kernel
theorem dX6_proved_29 : decode cX6_proved 29 = .ok (.getfield 203, 3) := by decide +kernel
theorem dX6_proved_32 : decode cX6_proved 32 = .ok (.ireturn, 1) := by decide +kernel
theorem dX6_isFormula_0 : decode cX6_isFormula 0 = .ok (.iload_n 1, 1) := by decide +kernel
theorem dX6_isFormula_1 : decode cX6_isFormula 1 = .ok (.ifCond .lt 24, 3) := by decide +kernel
theorem dX6_isFormula_4 : decode cX6_isFormula 4 = .ok (.iload_n 1, 1) := by decide +kernel
theorem dX6_isFormula_5 : decode cX6_isFormula 5 = .ok (.aload_n 0, 1) := by decide +kernel
theorem dX6_isFormula_6 : decode cX6_isFormula 6 = .ok (.getfield 19, 3) := by decide +kernel
theorem dX6_isFormula_9 : decode cX6_isFormula 9 = .ok (.getfield 80, 3) := by decide +kernel
theorem dX6_isFormula_12 : decode cX6_isFormula 12 = .ok (.if_icmp .ge 13, 3) := by decide +kernel
theorem dX6_isFormula_15 : decode cX6_isFormula 15 = .ok (.iload_n 1, 1) := by decide +kernel
theorem dX6_isFormula_16 : decode cX6_isFormula 16 = .ok (.bipush 6, 2) := by decide +kernel
theorem dX6_isFormula_18 : decode cX6_isFormula 18 = .ok (.if_icmp .ge 7, 3) := by decide +kernel
theorem dX6_isFormula_21 : decode cX6_isFormula 21 = .ok (.iconst 1, 1) := by decide +kernel
theorem dX6_isFormula_22 : decode cX6_isFormula 22 = .ok (.goto 4, 3) := by decide +kernel
theorem dX6_isFormula_25 : decode cX6_isFormula 25 = .ok (.iconst 0, 1) := by decide +kernel
theorem dX6_isFormula_26 : decode cX6_isFormula 26 = .ok (.ireturn, 1) := by decide +kernel
theorem dX6_isCell_0 : decode cX6_isCell 0 = .ok (.iload_n 0, 1) := by decide +kernel
theorem dX6_isCell_1 : decode cX6_isCell 1 = .ok (.ifCond .lt 13, 3) := by decide +kernel
theorem dX6_isCell_4 : decode cX6_isCell 4 = .ok (.iload_n 0, 1) := by decide +kernel
theorem dX6_isCell_5 : decode cX6_isCell 5 = .ok (.bipush 8, 2) := by decide +kernel
theorem dX6_isCell_7 : decode cX6_isCell 7 = .ok (.if_icmp .ge 7, 3) := by decide +kernel
theorem dX6_isCell_10 : decode cX6_isCell 10 = .ok (.iconst 1, 1) := by decide +kernel
theorem dX6_isCell_11 : decode cX6_isCell 11 = .ok (.goto 4, 3) := by decide +kernel
theorem dX6_isCell_14 : decode cX6_isCell 14 = .ok (.iconst 0, 1) := by decide +kernel
theorem dX6_isCell_15 : decode cX6_isCell 15 = .ok (.ireturn, 1) := by decide +kernel
theorem dX6_arePlaces_0 : decode cX6_arePlaces 0 = .ok (.iload_n 0, 1) := by decide +kernel
theorem dX6_arePlaces_1 : decode cX6_arePlaces 1 = .ok (.iconst 2, 1) := by decide +kernel
theorem dX6_arePlaces_2 : decode cX6_arePlaces 2 = .ok (.if_icmp .lt 13, 3) := by decide +kernel
theorem dX6_arePlaces_5 : decode cX6_arePlaces 5 = .ok (.iload_n 0, 1) := by decide +kernel
theorem dX6_arePlaces_6 : decode cX6_arePlaces 6 = .ok (.bipush 8, 2) := by decide +kernel
theorem dX6_arePlaces_8 : decode cX6_arePlaces 8 = .ok (.if_icmp .gt 7, 3) := by decide +kernel
theorem dX6_arePlaces_11 : decode cX6_arePlaces 11 = .ok (.iconst 1, 1) := by decide +kernel
theorem dX6_arePlaces_12 : decode cX6_arePlaces 12 = .ok (.goto 4, 3) := by decide +kernel
theorem dX6_arePlaces_15 : decode cX6_arePlaces 15 = .ok (.iconst 0, 1) := by decide +kernel
theorem dX6_arePlaces_16 : decode cX6_arePlaces 16 = .ok (.ireturn, 1) := by decide +kernel
theorem dX6_refusalToTry_0 : decode cX6_refusalToTry 0 = .ok (.aload_n 0, 1) := by decide +kernel
theorem dX6_refusalToTry_1 : decode cX6_refusalToTry 1 = .ok (.iload_n 1, 1) := by decide +kernel
theorem dX6_refusalToTry_2 : decode cX6_refusalToTry 2 = .ok (.invokevirtual 83, 3) := by decide +kernel
theorem dX6_refusalToTry_5 : decode cX6_refusalToTry 5 = .ok (.ifCond .ne 6, 3) := by decide +kernel
theorem dX6_refusalToTry_8 : decode cX6_refusalToTry 8 = .ok (.ldc 50, 2) := by decide +kernel
theorem dX6_refusalToTry_10 : decode cX6_refusalToTry 10 = .ok (.ireturn, 1) := by decide +kernel
theorem dX6_refusalToTry_11 : decode cX6_refusalToTry 11 = .ok (.aload_n 0, 1) := by decide +kernel
theorem dX6_refusalToTry_12 : decode cX6_refusalToTry 12 = .ok (.getfield 29, 3) := by decide +kernel
theorem dX6_refusalToTry_15 : decode cX6_refusalToTry 15 = .ok (.iload_n 1, 1) := by decide +kernel
theorem dX6_refusalToTry_16 : decode cX6_refusalToTry 16 = .ok (.aaload, 1) := by decide +kernel
theorem dX6_refusalToTry_17 : decode cX6_refusalToTry 17 = .ok (.invokevirtual 207, 3) := by decide +kernel
theorem dX6_refusalToTry_20 : decode cX6_refusalToTry 20 = .ok (.bipush 10, 2) := by decide +kernel
theorem dX6_refusalToTry_22 : decode cX6_refusalToTry 22 = .ok (.if_icmp .le 8, 3) := by decide +kernel
theorem dX6_refusalToTry_25 : decode cX6_refusalToTry 25 = .ok (.ldc 161, 2) := by decide +kernel
theorem dX6_refusalToTry_27 : decode cX6_refusalToTry 27 = .ok (.goto 4, 3) := by decide +kernel
theorem dX6_refusalToTry_30 : decode cX6_refusalToTry 30 = .ok (.iconst 0, 1) := by decide +kernel
theorem dX6_refusalToTry_31 : decode cX6_refusalToTry 31 = .ok (.ireturn, 1) := by decide +kernel
theorem dX6_partsOf_0 : decode cX6_partsOf 0 = .ok (.iload_n 0, 1) := by decide +kernel
theorem dX6_partsOf_1 : decode cX6_partsOf 1 = .ok (.iconst 3, 1) := by decide +kernel
theorem dX6_partsOf_2 : decode cX6_partsOf 2 = .ok (.if_icmp .ge 5, 3) := by decide +kernel
theorem dX6_partsOf_5 : decode cX6_partsOf 5 = .ok (.iconst 0, 1) := by decide +kernel
theorem dX6_partsOf_6 : decode cX6_partsOf 6 = .ok (.ireturn, 1) := by decide +kernel
theorem dX6_partsOf_7 : decode cX6_partsOf 7 = .ok (.iload_n 0, 1) := by decide +kernel
theorem dX6_partsOf_8 : decode cX6_partsOf 8 = .ok (.iconst 3, 1) := by decide +kernel
theorem dX6_partsOf_9 : decode cX6_partsOf 9 = .ok (.if_icmp .ne 7, 3) := by decide +kernel
theorem dX6_partsOf_12 : decode cX6_partsOf 12 = .ok (.iconst 1, 1) := by decide +kernel
theorem dX6_partsOf_13 : decode cX6_partsOf 13 = .ok (.goto 4, 3) := by decide +kernel
theorem dX6_partsOf_16 : decode cX6_partsOf 16 = .ok (.iconst 2, 1) := by decide +kernel
theorem dX6_partsOf_17 : decode cX6_partsOf 17 = .ok (.ireturn, 1) := by decide +kernel
theorem dX6_recordState_0 : decode cX6_recordState 0 = .ok (.aload_n 0, 1) := by decide +kernel
theorem dX6_recordState_1 : decode cX6_recordState 1 = .ok (.getfield 119, 3) := by decide +kernel
theorem dX6_recordState_4 : decode cX6_recordState 4 = .ok (.aload_n 0, 1) := by decide +kernel
theorem dX6_recordState_5 : decode cX6_recordState 5 = .ok (.getfield 23, 3) := by decide +kernel
theorem dX6_recordState_8 : decode cX6_recordState 8 = .ok (.arraylength, 1) := by decide +kernel
theorem dX6_recordState_9 : decode cX6_recordState 9 = .ok (.if_icmp .lt 7, 3) := by decide +kernel
theorem dX6_recordState_12 : decode cX6_recordState 12 = .ok (.aload_n 0, 1) := by decide +kernel
theorem dX6_recordState_13 : decode cX6_recordState 13 = .ok (.invokevirtual 210, 3) := by decide +kernel
theorem dX6_recordState_16 : decode cX6_recordState 16 = .ok (.aload_n 0, 1) := by decide +kernel
theorem dX6_recordState_17 : decode cX6_recordState 17 = .ok (.getfield 119, 3) := by decide +kernel
theorem dX6_recordState_20 : decode cX6_recordState 20 = .ok (.ifCond .lt 41, 3) := by decide +kernel
theorem dX6_recordState_23 : decode cX6_recordState 23 = .ok (.aload_n 0, 1) := by decide +kernel
theorem dX6_recordState_24 : decode cX6_recordState 24 = .ok (.getfield 119, 3) := by decide +kernel
theorem dX6_recordState_27 : decode cX6_recordState 27 = .ok (.aload_n 0, 1) := by decide +kernel
theorem dX6_recordState_28 : decode cX6_recordState 28 = .ok (.getfield 23, 3) := by decide +kernel
theorem dX6_recordState_31 : decode cX6_recordState 31 = .ok (.arraylength, 1) := by decide +kernel
theorem dX6_recordState_32 : decode cX6_recordState 32 = .ok (.if_icmp .ge 29, 3) := by decide +kernel
theorem dX6_recordState_35 : decode cX6_recordState 35 = .ok (.aload_n 0, 1) := by decide +kernel
theorem dX6_recordState_36 : decode cX6_recordState 36 = .ok (.getfield 23, 3) := by decide +kernel
theorem dX6_recordState_39 : decode cX6_recordState 39 = .ok (.aload_n 0, 1) := by decide +kernel
theorem dX6_recordState_40 : decode cX6_recordState 40 = .ok (.getfield 119, 3) := by decide +kernel
theorem dX6_recordState_43 : decode cX6_recordState 43 = .ok (.aaload, 1) := by decide +kernel
theorem dX6_recordState_44 : decode cX6_recordState 44 = .ok (.aload_n 0, 1) := by decide +kernel
theorem dX6_recordState_45 : decode cX6_recordState 45 = .ok (.getfield 19, 3) := by decide +kernel
theorem dX6_recordState_48 : decode cX6_recordState 48 = .ok (.invokevirtual 122, 3) := by decide +kernel
theorem dX6_recordState_51 : decode cX6_recordState 51 = .ok (.aload_n 0, 1) := by decide +kernel
theorem dX6_recordState_52 : decode cX6_recordState 52 = .ok (.dup, 1) := by decide +kernel
theorem dX6_recordState_53 : decode cX6_recordState 53 = .ok (.getfield 119, 3) := by decide +kernel
theorem dX6_recordState_56 : decode cX6_recordState 56 = .ok (.iconst 1, 1) := by decide +kernel
theorem dX6_recordState_57 : decode cX6_recordState 57 = .ok (.iadd, 1) := by decide +kernel
theorem dX6_recordState_58 : decode cX6_recordState 58 = .ok (.putfield 119, 3) := by decide +kernel
theorem dX6_recordState_61 : decode cX6_recordState 61 = .ok (.return_, 1) := by decide +kernel
theorem dX6_dropOldestState_0 : decode cX6_dropOldestState 0 = .ok (.aload_n 0, 1) := by decide +kernel
theorem dX6_dropOldestState_1 : decode cX6_dropOldestState 1 = .ok (.getfield 23, 3) := by decide +kernel
theorem dX6_dropOldestState_4 : decode cX6_dropOldestState 4 = .ok (.iconst 0, 1) := by decide +kernel
theorem dX6_dropOldestState_5 : decode cX6_dropOldestState 5 = .ok (.aaload, 1) := by decide +kernel
theorem dX6_dropOldestState_6 : decode cX6_dropOldestState 6 = .ok (.astore_n 1, 1) := by decide +kernel
theorem dX6_dropOldestState_7 : decode cX6_dropOldestState 7 = .ok (.iconst 1, 1) := by decide +kernel
theorem dX6_dropOldestState_8 : decode cX6_dropOldestState 8 = .ok (.istore_n 2, 1) := by decide +kernel
theorem dX6_dropOldestState_9 : decode cX6_dropOldestState 9 = .ok (.iload_n 2, 1) := by decide +kernel
theorem dX6_dropOldestState_10 : decode cX6_dropOldestState 10 = .ok (.aload_n 0, 1) := by decide +kernel
theorem dX6_dropOldestState_11 : decode cX6_dropOldestState 11 = .ok (.getfield 23, 3) := by decide +kernel
theorem dX6_dropOldestState_14 : decode cX6_dropOldestState 14 = .ok (.arraylength, 1) := by decide +kernel
theorem dX6_dropOldestState_15 : decode cX6_dropOldestState 15 = .ok (.if_icmp .ge 23, 3) := by decide +kernel
theorem dX6_dropOldestState_18 : decode cX6_dropOldestState 18 = .ok (.aload_n 0, 1) := by decide +kernel
theorem dX6_dropOldestState_19 : decode cX6_dropOldestState 19 = .ok (.getfield 23, 3) := by decide +kernel
theorem dX6_dropOldestState_22 : decode cX6_dropOldestState 22 = .ok (.iload_n 2, 1) := by decide +kernel
theorem dX6_dropOldestState_23 : decode cX6_dropOldestState 23 = .ok (.iconst 1, 1) := by decide +kernel
theorem dX6_dropOldestState_24 : decode cX6_dropOldestState 24 = .ok (.isub, 1) := by decide +kernel
theorem dX6_dropOldestState_25 : decode cX6_dropOldestState 25 = .ok (.aload_n 0, 1) := by decide +kernel
theorem dX6_dropOldestState_26 : decode cX6_dropOldestState 26 = .ok (.getfield 23, 3) := by decide +kernel
theorem dX6_dropOldestState_29 : decode cX6_dropOldestState 29 = .ok (.iload_n 2, 1) := by decide +kernel
theorem dX6_dropOldestState_30 : decode cX6_dropOldestState 30 = .ok (.aaload, 1) := by decide +kernel
theorem dX6_dropOldestState_31 : decode cX6_dropOldestState 31 = .ok (.aastore, 1) := by decide +kernel
theorem dX6_dropOldestState_32 : decode cX6_dropOldestState 32 = .ok (.iinc 2 1, 3) := by decide +kernel
theorem dX6_dropOldestState_35 : decode cX6_dropOldestState 35 = .ok (.goto (-26), 3) := by decide +kernel
theorem dX6_dropOldestState_38 : decode cX6_dropOldestState 38 = .ok (.aload_n 0, 1) := by decide +kernel
theorem dX6_dropOldestState_39 : decode cX6_dropOldestState 39 = .ok (.getfield 23, 3) := by decide +kernel
theorem dX6_dropOldestState_42 : decode cX6_dropOldestState 42 = .ok (.aload_n 0, 1) := by decide +kernel
theorem dX6_dropOldestState_43 : decode cX6_dropOldestState 43 = .ok (.getfield 23, 3) := by decide +kernel
theorem dX6_dropOldestState_46 : decode cX6_dropOldestState 46 = .ok (.arraylength, 1) := by decide +kernel
theorem dX6_dropOldestState_47 : decode cX6_dropOldestState 47 = .ok (.iconst 1, 1) := by decide +kernel
theorem dX6_dropOldestState_48 : decode cX6_dropOldestState 48 = .ok (.isub, 1) := by decide +kernel
theorem dX6_dropOldestState_49 : decode cX6_dropOldestState 49 = .ok (.aload_n 1, 1) := by decide +kernel
theorem dX6_dropOldestState_50 : decode cX6_dropOldestState 50 = .ok (.aastore, 1) := by decide +kernel
theorem dX6_dropOldestState_51 : decode cX6_dropOldestState 51 = .ok (.aload_n 0, 1) := by decide +kernel
theorem dX6_dropOldestState_52 : decode cX6_dropOldestState 52 = .ok (.aload_n 0, 1) := by decide +kernel
theorem dX6_dropOldestState_53 : decode cX6_dropOldestState 53 = .ok (.getfield 23, 3) := by decide +kernel
theorem dX6_dropOldestState_56 : decode cX6_dropOldestState 56 = .ok (.arraylength, 1) := by decide +kernel
theorem dX6_dropOldestState_57 : decode cX6_dropOldestState 57 = .ok (.iconst 1, 1) := by decide +kernel
theorem dX6_dropOldestState_58 : decode cX6_dropOldestState 58 = .ok (.isub, 1) := by decide +kernel
theorem dX6_dropOldestState_59 : decode cX6_dropOldestState 59 = .ok (.putfield 119, 3) := by decide +kernel
theorem dX6_dropOldestState_62 : decode cX6_dropOldestState 62 = .ok (.return_, 1) := by decide +kernel
theorem dX6_workAnew_0 : decode cX6_workAnew 0 = .ok (.iconst 0, 1) := by decide +kernel
theorem dX6_workAnew_1 : decode cX6_workAnew 1 = .ok (.istore_n 1, 1) := by decide +kernel
theorem dX6_workAnew_2 : decode cX6_workAnew 2 = .ok (.iload_n 1, 1) := by decide +kernel
theorem dX6_workAnew_3 : decode cX6_workAnew 3 = .ok (.aload_n 0, 1) := by decide +kernel
theorem dX6_workAnew_4 : decode cX6_workAnew 4 = .ok (.getfield 19, 3) := by decide +kernel
theorem dX6_workAnew_7 : decode cX6_workAnew 7 = .ok (.getfield 80, 3) := by decide +kernel
theorem dX6_workAnew_10 : decode cX6_workAnew 10 = .ok (.if_icmp .ge 77, 3) := by decide +kernel
theorem dX6_workAnew_13 : decode cX6_workAnew 13 = .ok (.iload_n 1, 1) := by decide +kernel
theorem dX6_workAnew_14 : decode cX6_workAnew 14 = .ok (.bipush 6, 2) := by decide +kernel
theorem dX6_workAnew_16 : decode cX6_workAnew 16 = .ok (.if_icmp .ge 71, 3) := by decide +kernel
theorem dX6_workAnew_19 : decode cX6_workAnew 19 = .ok (.iload_n 1, 1) := by decide +kernel
theorem dX6_workAnew_20 : decode cX6_workAnew 20 = .ok (.aload_n 0, 1) := by decide +kernel
theorem dX6_workAnew_21 : decode cX6_workAnew 21 = .ok (.getfield 19, 3) := by decide +kernel
theorem dX6_workAnew_24 : decode cX6_workAnew 24 = .ok (.getfield 80, 3) := by decide +kernel
theorem dX6_workAnew_27 : decode cX6_workAnew 27 = .ok (.iconst 1, 1) := by decide +kernel
theorem dX6_workAnew_28 : decode cX6_workAnew 28 = .ok (.isub, 1) := by decide +kernel
theorem dX6_workAnew_29 : decode cX6_workAnew 29 = .ok (.if_icmp .ge 7, 3) := by decide +kernel
theorem dX6_workAnew_32 : decode cX6_workAnew 32 = .ok (.iconst 1, 1) := by decide +kernel
theorem dX6_workAnew_33 : decode cX6_workAnew 33 = .ok (.goto 4, 3) := by decide +kernel
theorem dX6_workAnew_36 : decode cX6_workAnew 36 = .ok (.iconst 0, 1) := by decide +kernel
theorem dX6_workAnew_37 : decode cX6_workAnew 37 = .ok (.istore_n 2, 1) := by decide +kernel
theorem dX6_workAnew_38 : decode cX6_workAnew 38 = .ok (.aload_n 0, 1) := by decide +kernel
theorem dX6_workAnew_39 : decode cX6_workAnew 39 = .ok (.getfield 29, 3) := by decide +kernel
theorem dX6_workAnew_42 : decode cX6_workAnew 42 = .ok (.iload_n 1, 1) := by decide +kernel
theorem dX6_workAnew_43 : decode cX6_workAnew 43 = .ok (.aaload, 1) := by decide +kernel
theorem dX6_workAnew_44 : decode cX6_workAnew 44 = .ok (.aload_n 0, 1) := by decide +kernel
theorem dX6_workAnew_45 : decode cX6_workAnew 45 = .ok (.getfield 19, 3) := by decide +kernel
theorem dX6_workAnew_48 : decode cX6_workAnew 48 = .ok (.getfield 86, 3) := by decide +kernel
theorem dX6_workAnew_51 : decode cX6_workAnew 51 = .ok (.iload_n 1, 1) := by decide +kernel
theorem dX6_workAnew_52 : decode cX6_workAnew 52 = .ok (.aaload, 1) := by decide +kernel
theorem dX6_workAnew_53 : decode cX6_workAnew 53 = .ok (.iload_n 2, 1) := by decide +kernel
theorem dX6_workAnew_54 : decode cX6_workAnew 54 = .ok (.aload_n 0, 1) := by decide +kernel
theorem dX6_workAnew_55 : decode cX6_workAnew 55 = .ok (.getfield 29, 3) := by decide +kernel
theorem dX6_workAnew_58 : decode cX6_workAnew 58 = .ok (.invokevirtual 213, 3) := by decide +kernel
theorem dX6_workAnew_61 : decode cX6_workAnew 61 = .ok (.aload_n 0, 1) := by decide +kernel
theorem dX6_workAnew_62 : decode cX6_workAnew 62 = .ok (.getfield 29, 3) := by decide +kernel
theorem dX6_workAnew_65 : decode cX6_workAnew 65 = .ok (.iload_n 1, 1) := by decide +kernel
theorem dX6_workAnew_66 : decode cX6_workAnew 66 = .ok (.aaload, 1) := by decide +kernel
theorem dX6_workAnew_67 : decode cX6_workAnew 67 = .ok (.aload_n 0, 1) := by decide +kernel
theorem dX6_workAnew_68 : decode cX6_workAnew 68 = .ok (.getfield 19, 3) := by decide +kernel
theorem dX6_workAnew_71 : decode cX6_workAnew 71 = .ok (.getfield 109, 3) := by decide +kernel
theorem dX6_workAnew_74 : decode cX6_workAnew 74 = .ok (.aload_n 0, 1) := by decide +kernel
theorem dX6_workAnew_75 : decode cX6_workAnew 75 = .ok (.getfield 29, 3) := by decide +kernel
theorem dX6_workAnew_78 : decode cX6_workAnew 78 = .ok (.invokevirtual 216, 3) := by decide +kernel
theorem dX6_workAnew_81 : decode cX6_workAnew 81 = .ok (.iinc 1 1, 3) := by decide +kernel
theorem dX6_workAnew_84 : decode cX6_workAnew 84 = .ok (.goto (-82), 3) := by decide +kernel
theorem dX6_workAnew_87 : decode cX6_workAnew 87 = .ok (.return_, 1) := by decide +kernel
theorem dX6_cheapDefinitions_0 : decode cX6_cheapDefinitions 0 = .ok (.iconst 0, 1) := by decide +kernel
theorem dX6_cheapDefinitions_1 : decode cX6_cheapDefinitions 1 = .ok (.istore_n 1, 1) := by decide +kernel
theorem dX6_cheapDefinitions_2 : decode cX6_cheapDefinitions 2 = .ok (.iconst 0, 1) := by decide +kernel
theorem dX6_cheapDefinitions_3 : decode cX6_cheapDefinitions 3 = .ok (.istore_n 2, 1) := by decide +kernel
theorem dX6_cheapDefinitions_4 : decode cX6_cheapDefinitions 4 = .ok (.iload_n 2, 1) := by decide +kernel
theorem dX6_cheapDefinitions_5 : decode cX6_cheapDefinitions 5 = .ok (.aload_n 0, 1) := by decide +kernel
theorem dX6_cheapDefinitions_6 : decode cX6_cheapDefinitions 6 = .ok (.getfield 19, 3) := by decide +kernel
theorem dX6_cheapDefinitions_9 : decode cX6_cheapDefinitions 9 = .ok (.getfield 80, 3) := by decide +kernel
theorem dX6_cheapDefinitions_12 : decode cX6_cheapDefinitions 12 = .ok (.if_icmp .ge 35, 3) := by decide +kernel
theorem dX6_cheapDefinitions_15 : decode cX6_cheapDefinitions 15 = .ok (.iload_n 2, 1) := by decide +kernel
theorem dX6_cheapDefinitions_16 : decode cX6_cheapDefinitions 16 = .ok (.bipush 6, 2) := by decide +kernel
theorem dX6_cheapDefinitions_18 : decode cX6_cheapDefinitions 18 = .ok (.if_icmp .ge 29, 3) := by decide +kernel
theorem dX6_cheapDefinitions_21 : decode cX6_cheapDefinitions 21 = .ok (.iload_n 1, 1) := by decide +kernel
theorem dX6_cheapDefinitions_22 : decode cX6_cheapDefinitions 22 = .ok (.aload_n 0, 1) := by decide +kernel
theorem dX6_cheapDefinitions_23 : decode cX6_cheapDefinitions 23 = .ok (.getfield 29, 3) := by decide +kernel
theorem dX6_cheapDefinitions_26 : decode cX6_cheapDefinitions 26 = .ok (.iload_n 2, 1) := by decide +kernel
theorem dX6_cheapDefinitions_27 : decode cX6_cheapDefinitions 27 = .ok (.aaload, 1) := by decide +kernel
theorem dX6_cheapDefinitions_28 : decode cX6_cheapDefinitions 28 = .ok (.getfield 142, 3) := by decide +kernel
theorem dX6_cheapDefinitions_31 : decode cX6_cheapDefinitions 31 = .ok (.ifCond .eq 7, 3) := by decide +kernel
theorem dX6_cheapDefinitions_34 : decode cX6_cheapDefinitions 34 = .ok (.iconst 1, 1) := by decide +kernel
theorem dX6_cheapDefinitions_35 : decode cX6_cheapDefinitions 35 = .ok (.goto 4, 3) := by decide +kernel
theorem dX6_cheapDefinitions_38 : decode cX6_cheapDefinitions 38 = .ok (.iconst 0, 1) := by decide +kernel
theorem dX6_cheapDefinitions_39 : decode cX6_cheapDefinitions 39 = .ok (.iadd, 1) := by decide +kernel
theorem dX6_cheapDefinitions_40 : decode cX6_cheapDefinitions 40 = .ok (.istore_n 1, 1) := by decide +kernel
theorem dX6_cheapDefinitions_41 : decode cX6_cheapDefinitions 41 = .ok (.iinc 2 1, 3) := by decide +kernel
theorem dX6_cheapDefinitions_44 : decode cX6_cheapDefinitions 44 = .ok (.goto (-40), 3) := by decide +kernel
theorem dX6_cheapDefinitions_47 : decode cX6_cheapDefinitions 47 = .ok (.iload_n 1, 1) := by decide +kernel
theorem dX6_cheapDefinitions_48 : decode cX6_cheapDefinitions 48 = .ok (.ireturn, 1) := by decide +kernel
theorem dX6_nodesAsRead_0 : decode cX6_nodesAsRead 0 = .ok (.iconst 0, 1) := by decide +kernel
theorem dX6_nodesAsRead_1 : decode cX6_nodesAsRead 1 = .ok (.istore_n 1, 1) := by decide +kernel
theorem dX6_nodesAsRead_2 : decode cX6_nodesAsRead 2 = .ok (.iconst 0, 1) := by decide +kernel
theorem dX6_nodesAsRead_3 : decode cX6_nodesAsRead 3 = .ok (.istore_n 2, 1) := by decide +kernel
theorem dX6_nodesAsRead_4 : decode cX6_nodesAsRead 4 = .ok (.iload_n 2, 1) := by decide +kernel
theorem dX6_nodesAsRead_5 : decode cX6_nodesAsRead 5 = .ok (.aload_n 0, 1) := by decide +kernel
theorem dX6_nodesAsRead_6 : decode cX6_nodesAsRead 6 = .ok (.getfield 19, 3) := by decide +kernel
theorem dX6_nodesAsRead_9 : decode cX6_nodesAsRead 9 = .ok (.getfield 80, 3) := by decide +kernel
theorem dX6_nodesAsRead_12 : decode cX6_nodesAsRead 12 = .ok (.if_icmp .ge 30, 3) := by decide +kernel
theorem dX6_nodesAsRead_15 : decode cX6_nodesAsRead 15 = .ok (.iload_n 2, 1) := by decide +kernel
theorem dX6_nodesAsRead_16 : decode cX6_nodesAsRead 16 = .ok (.bipush 6, 2) := by decide +kernel
theorem dX6_nodesAsRead_18 : decode cX6_nodesAsRead 18 = .ok (.if_icmp .ge 24, 3) := by decide +kernel
theorem dX6_nodesAsRead_21 : decode cX6_nodesAsRead 21 = .ok (.iload_n 1, 1) := by decide +kernel
theorem dX6_nodesAsRead_22 : decode cX6_nodesAsRead 22 = .ok (.aload_n 0, 1) := by decide +kernel
theorem dX6_nodesAsRead_23 : decode cX6_nodesAsRead 23 = .ok (.getfield 19, 3) := by decide +kernel
theorem dX6_nodesAsRead_26 : decode cX6_nodesAsRead 26 = .ok (.getfield 86, 3) := by decide +kernel
theorem dX6_nodesAsRead_29 : decode cX6_nodesAsRead 29 = .ok (.iload_n 2, 1) := by decide +kernel
theorem dX6_nodesAsRead_30 : decode cX6_nodesAsRead 30 = .ok (.aaload, 1) := by decide +kernel
theorem dX6_nodesAsRead_31 : decode cX6_nodesAsRead 31 = .ok (.getfield 135, 3) := by decide +kernel
theorem dX6_nodesAsRead_34 : decode cX6_nodesAsRead 34 = .ok (.iadd, 1) := by decide +kernel
theorem dX6_nodesAsRead_35 : decode cX6_nodesAsRead 35 = .ok (.istore_n 1, 1) := by decide +kernel
theorem dX6_nodesAsRead_36 : decode cX6_nodesAsRead 36 = .ok (.iinc 2 1, 3) := by decide +kernel
theorem dX6_nodesAsRead_39 : decode cX6_nodesAsRead 39 = .ok (.goto (-35), 3) := by decide +kernel
theorem dX6_nodesAsRead_42 : decode cX6_nodesAsRead 42 = .ok (.iload_n 1, 1) := by decide +kernel
theorem dX6_nodesAsRead_43 : decode cX6_nodesAsRead 43 = .ok (.ireturn, 1) := by decide +kernel
theorem dX6_greatestNeed_0 : decode cX6_greatestNeed 0 = .ok (.iconst 0, 1) := by decide +kernel
theorem dX6_greatestNeed_1 : decode cX6_greatestNeed 1 = .ok (.istore_n 1, 1) := by decide +kernel
theorem dX6_greatestNeed_2 : decode cX6_greatestNeed 2 = .ok (.iconst 0, 1) := by decide +kernel
theorem dX6_greatestNeed_3 : decode cX6_greatestNeed 3 = .ok (.istore_n 2, 1) := by decide +kernel
theorem dX6_greatestNeed_4 : decode cX6_greatestNeed 4 = .ok (.iload_n 2, 1) := by decide +kernel
theorem dX6_greatestNeed_5 : decode cX6_greatestNeed 5 = .ok (.aload_n 0, 1) := by decide +kernel
theorem dX6_greatestNeed_6 : decode cX6_greatestNeed 6 = .ok (.getfield 19, 3) := by decide +kernel
theorem dX6_greatestNeed_9 : decode cX6_greatestNeed 9 = .ok (.getfield 80, 3) := by decide +kernel
theorem dX6_greatestNeed_12 : decode cX6_greatestNeed 12 = .ok (.if_icmp .ge 42, 3) := by decide +kernel
theorem dX6_greatestNeed_15 : decode cX6_greatestNeed 15 = .ok (.iload_n 2, 1) := by decide +kernel
theorem dX6_greatestNeed_16 : decode cX6_greatestNeed 16 = .ok (.bipush 6, 2) := by decide +kernel
theorem dX6_greatestNeed_18 : decode cX6_greatestNeed 18 = .ok (.if_icmp .ge 36, 3) := by decide +kernel
theorem dX6_greatestNeed_21 : decode cX6_greatestNeed 21 = .ok (.aload_n 0, 1) := by decide +kernel
theorem dX6_greatestNeed_22 : decode cX6_greatestNeed 22 = .ok (.getfield 29, 3) := by decide +kernel
theorem dX6_greatestNeed_25 : decode cX6_greatestNeed 25 = .ok (.iload_n 2, 1) := by decide +kernel
theorem dX6_greatestNeed_26 : decode cX6_greatestNeed 26 = .ok (.aaload, 1) := by decide +kernel
theorem dX6_greatestNeed_27 : decode cX6_greatestNeed 27 = .ok (.getfield 142, 3) := by decide +kernel
theorem dX6_greatestNeed_30 : decode cX6_greatestNeed 30 = .ok (.ifCond .ne 18, 3) := by decide +kernel
theorem dX6_greatestNeed_33 : decode cX6_greatestNeed 33 = .ok (.iload_n 1, 1) := by decide +kernel
theorem dX6_greatestNeed_34 : decode cX6_greatestNeed 34 = .ok (.aload_n 0, 1) := by decide +kernel
theorem dX6_greatestNeed_35 : decode cX6_greatestNeed 35 = .ok (.getfield 29, 3) := by decide +kernel
theorem dX6_greatestNeed_38 : decode cX6_greatestNeed 38 = .ok (.iload_n 2, 1) := by decide +kernel
theorem dX6_greatestNeed_39 : decode cX6_greatestNeed 39 = .ok (.aaload, 1) := by decide +kernel
theorem dX6_greatestNeed_40 : decode cX6_greatestNeed 40 = .ok (.iconst 0, 1) := by decide +kernel
theorem dX6_greatestNeed_41 : decode cX6_greatestNeed 41 = .ok (.invokevirtual 103, 3) := by decide +kernel
theorem dX6_greatestNeed_44 : decode cX6_greatestNeed 44 = .ok (.invokestatic 220, 3) := by decide +kernel
theorem dX6_greatestNeed_47 : decode cX6_greatestNeed 47 = .ok (.istore_n 1, 1) := by decide +kernel
theorem dX6_greatestNeed_48 : decode cX6_greatestNeed 48 = .ok (.iinc 2 1, 3) := by decide +kernel
theorem dX6_greatestNeed_51 : decode cX6_greatestNeed 51 = .ok (.goto (-47), 3) := by decide +kernel
theorem dX6_greatestNeed_54 : decode cX6_greatestNeed 54 = .ok (.iload_n 1, 1) := by decide +kernel
theorem dX6_greatestNeed_55 : decode cX6_greatestNeed 55 = .ok (.ireturn, 1) := by decide +kernel
theorem dX6_usesOf_0 : decode cX6_usesOf 0 = .ok (.iconst 0, 1) := by decide +kernel
theorem dX6_usesOf_1 : decode cX6_usesOf 1 = .ok (.istore_n 2, 1) := by decide +kernel
theorem dX6_usesOf_2 : decode cX6_usesOf 2 = .ok (.iconst 0, 1) := by decide +kernel
theorem dX6_usesOf_3 : decode cX6_usesOf 3 = .ok (.istore_n 3, 1) := by decide +kernel
theorem dX6_usesOf_4 : decode cX6_usesOf 4 = .ok (.iload_n 3, 1) := by decide +kernel
theorem dX6_usesOf_5 : decode cX6_usesOf 5 = .ok (.aload_n 0, 1) := by decide +kernel
theorem dX6_usesOf_6 : decode cX6_usesOf 6 = .ok (.getfield 19, 3) := by decide +kernel
theorem dX6_usesOf_9 : decode cX6_usesOf 9 = .ok (.getfield 80, 3) := by decide +kernel
theorem dX6_usesOf_12 : decode cX6_usesOf 12 = .ok (.if_icmp .ge 87, 3) := by decide +kernel
theorem dX6_usesOf_15 : decode cX6_usesOf 15 = .ok (.iload_n 3, 1) := by decide +kernel
theorem dX6_usesOf_16 : decode cX6_usesOf 16 = .ok (.bipush 6, 2) := by decide +kernel
theorem dX6_usesOf_18 : decode cX6_usesOf 18 = .ok (.if_icmp .ge 81, 3) := by decide +kernel
theorem dX6_usesOf_21 : decode cX6_usesOf 21 = .ok (.aload_n 0, 1) := by decide +kernel
theorem dX6_usesOf_22 : decode cX6_usesOf 22 = .ok (.getfield 29, 3) := by decide +kernel
theorem dX6_usesOf_25 : decode cX6_usesOf 25 = .ok (.iload_n 3, 1) := by decide +kernel
theorem dX6_usesOf_26 : decode cX6_usesOf 26 = .ok (.aaload, 1) := by decide +kernel
theorem dX6_usesOf_27 : decode cX6_usesOf 27 = .ok (.getfield 138, 3) := by decide +kernel
theorem dX6_usesOf_30 : decode cX6_usesOf 30 = .ok (.astore 4, 2) := by decide +kernel
theorem dX6_usesOf_32 : decode cX6_usesOf 32 = .ok (.iconst 0, 1) := by decide +kernel
theorem dX6_usesOf_33 : decode cX6_usesOf 33 = .ok (.istore 5, 2) := by decide +kernel
theorem dX6_usesOf_35 : decode cX6_usesOf 35 = .ok (.iload 5, 2) := by decide +kernel
theorem dX6_usesOf_37 : decode cX6_usesOf 37 = .ok (.aload 4, 2) := by decide +kernel
theorem dX6_usesOf_39 : decode cX6_usesOf 39 = .ok (.getfield 135, 3) := by decide +kernel
theorem dX6_usesOf_42 : decode cX6_usesOf 42 = .ok (.if_icmp .ge 51, 3) := by decide +kernel
theorem dX6_usesOf_45 : decode cX6_usesOf 45 = .ok (.aload 4, 2) := by decide +kernel
theorem dX6_usesOf_47 : decode cX6_usesOf 47 = .ok (.iload 5, 2) := by decide +kernel
theorem dX6_usesOf_49 : decode cX6_usesOf 49 = .ok (.invokevirtual 95, 3) := by decide +kernel
theorem dX6_usesOf_52 : decode cX6_usesOf 52 = .ok (.iconst 2, 1) := by decide +kernel
theorem dX6_usesOf_53 : decode cX6_usesOf 53 = .ok (.if_icmp .ne 18, 3) := by decide +kernel
theorem dX6_usesOf_56 : decode cX6_usesOf 56 = .ok (.aload 4, 2) := by decide +kernel
theorem dX6_usesOf_58 : decode cX6_usesOf 58 = .ok (.iload 5, 2) := by decide +kernel
theorem dX6_usesOf_60 : decode cX6_usesOf 60 = .ok (.invokevirtual 158, 3) := by decide +kernel
theorem dX6_usesOf_63 : decode cX6_usesOf 63 = .ok (.iload_n 1, 1) := by decide +kernel
theorem dX6_usesOf_64 : decode cX6_usesOf 64 = .ok (.if_icmp .ne 7, 3) := by decide +kernel
theorem dX6_usesOf_67 : decode cX6_usesOf 67 = .ok (.iconst 1, 1) := by decide +kernel
theorem dX6_usesOf_68 : decode cX6_usesOf 68 = .ok (.goto 4, 3) := by decide +kernel
theorem dX6_usesOf_71 : decode cX6_usesOf 71 = .ok (.iconst 0, 1) := by decide +kernel
theorem dX6_usesOf_72 : decode cX6_usesOf 72 = .ok (.istore 6, 2) := by decide +kernel
theorem dX6_usesOf_74 : decode cX6_usesOf 74 = .ok (.iload_n 2, 1) := by decide +kernel
theorem dX6_usesOf_75 : decode cX6_usesOf 75 = .ok (.iload 6, 2) := by decide +kernel
theorem dX6_usesOf_77 : decode cX6_usesOf 77 = .ok (.ifCond .eq 7, 3) := by decide +kernel
theorem dX6_usesOf_80 : decode cX6_usesOf 80 = .ok (.iconst 1, 1) := by decide +kernel
theorem dX6_usesOf_81 : decode cX6_usesOf 81 = .ok (.goto 4, 3) := by decide +kernel
theorem dX6_usesOf_84 : decode cX6_usesOf 84 = .ok (.iconst 0, 1) := by decide +kernel
theorem dX6_usesOf_85 : decode cX6_usesOf 85 = .ok (.iadd, 1) := by decide +kernel
theorem dX6_usesOf_86 : decode cX6_usesOf 86 = .ok (.istore_n 2, 1) := by decide +kernel
theorem dX6_usesOf_87 : decode cX6_usesOf 87 = .ok (.iinc 5 1, 3) := by decide +kernel
theorem dX6_usesOf_90 : decode cX6_usesOf 90 = .ok (.goto (-55), 3) := by decide +kernel
theorem dX6_usesOf_93 : decode cX6_usesOf 93 = .ok (.iinc 3 1, 3) := by decide +kernel
theorem dX6_usesOf_96 : decode cX6_usesOf 96 = .ok (.goto (-92), 3) := by decide +kernel
theorem dX6_usesOf_99 : decode cX6_usesOf 99 = .ok (.iload_n 2, 1) := by decide +kernel
theorem dX6_usesOf_100 : decode cX6_usesOf 100 = .ok (.ireturn, 1) := by decide +kernel
end
section
/-! the heap of the law as a memory: its cells' kinds, the references that never change, the numbers that do -/
/-- the numbers (address, place), and the references of the history -/
abbrev Mem : Type := (Nat → Nat → Int32) × (Nat → Nat)
def shT : List (Nat × Nat) := [(6, 7), (3, 4), (10, 100), (4, 4), (12, 6), (10, 8), (1, 3), (10, 30), (10, 30), (1, 3), (10, 30), (10, 30), (1, 3), (10, 30), (10, 30), (1, 3), (10, 30), (10, 30), (1, 3), (10, 30), (10, 30), (1, 3), (10, 30), (10, 30), (4, 4), (12, 6), (10, 8), (1, 3), (10, 30), (10, 30), (1, 3), (10, 30), (10, 30), (1, 3), (10, 30), (10, 30), (1, 3), (10, 30), (10, 30), (1, 3), (10, 30), (10, 30), (1, 3), (10, 30), (10, 30), (13, 5), (14, 6), (2, 10), (10, 726), (10, 726), (10, 726), (10, 726), (5, 3), (10, 60), (10, 60), (4, 4), (12, 6), (10, 8), (1, 3), (10, 30), (10, 30), (1, 3), (10, 30), (10, 30), (1, 3), (10, 30), (10, 30), (1, 3), (10, 30), (10, 30), (1, 3), (10, 30), (10, 30), (1, 3), (10, 30), (10, 30), (4, 4), (12, 6), (10, 8), (1, 3), (10, 30), (10, 30), (1, 3), (10, 30), (10, 30), (1, 3), (10, 30), (10, 30), (1, 3), (10, 30), (10, 30), (1, 3), (10, 30), (10, 30), (1, 3), (10, 30), (10, 30), (4, 4), (12, 6), (10, 8), (1, 3), (10, 30), (10, 30), (1, 3), (10, 30), (10, 30), (1, 3), (10, 30), (10, 30), (1, 3), (10, 30), (10, 30), (1, 3), (10, 30), (10, 30), (1, 3), (10, 30), (10, 30), (4, 4), (12, 6), (10, 8), (1, 3), (10, 30), (10, 30), (1, 3), (10, 30), (10, 30), (1, 3), (10, 30), (10, 30), (1, 3), (10, 30), (10, 30), (1, 3), (10, 30), (10, 30), (1, 3), (10, 30), (10, 30), (4, 4), (12, 6), (10, 8), (1, 3), (10, 30), (10, 30), (1, 3), (10, 30), (10, 30), (1, 3), (10, 30), (10, 30), (1, 3), (10, 30), (10, 30), (1, 3), (10, 30), (10, 30), (1, 3), (10, 30), (10, 30), (0, 7), (1, 3), (10, 60), (10, 60), (10, 60), (10, 60), (10, 60), (10, 60), (0, 7), (1, 3), (10, 60), (10, 60), (10, 60), (10, 60), (10, 60), (10, 60), (0, 7), (1, 3), (10, 60), (10, 60), (10, 60), (10, 60), (10, 60), (10, 60), (0, 7), (1, 3), (10, 60), (10, 60), (10, 60), (10, 60), (10, 60), (10, 60), (0, 7), (1, 3), (10, 60), (10, 60), (10, 60), (10, 60), (10, 60), (10, 60), (0, 7), (1, 3), (10, 60), (10, 60), (10, 60), (10, 60), (10, 60), (10, 60)]
def rfT : List (List Nat) := [[1, 24, 45, 0, 46, 47, 52], [2, 0, 0, 3], [], [4, 0, 5, 0], [6, 9, 12, 15, 18, 21], [], [7, 8, 0], [], [], [10, 11, 0], [], [], [13, 14, 0], [], [], [16, 17, 0], [], [], [19, 20, 0], [], [], [22, 23, 0], [], [], [25, 0, 26, 0], [27, 30, 33, 36, 39, 42], [], [28, 29, 0], [], [], [31, 32, 0], [], [], [34, 35, 0], [], [], [37, 38, 0], [], [], [40, 41, 0], [], [], [43, 44, 0], [], [], [0, 0, 0, 0, 0], [160, 168, 176, 184, 192, 200], [48, 49, 50, 51, 0, 0, 0, 0, 0, 0], [], [], [], [], [53, 54, 0], [], [], [56, 0, 57, 0], [58, 61, 64, 67, 70, 73], [], [59, 60, 0], [], [], [62, 63, 0], [], [], [65, 66, 0], [], [], [68, 69, 0], [], [], [71, 72, 0], [], [], [74, 75, 0], [], [], [77, 0, 78, 0], [79, 82, 85, 88, 91, 94], [], [80, 81, 0], [], [], [83, 84, 0], [], [], [86, 87, 0], [], [], [89, 90, 0], [], [], [92, 93, 0], [], [], [95, 96, 0], [], [], [98, 0, 99, 0], [100, 103, 106, 109, 112, 115], [], [101, 102, 0], [], [], [104, 105, 0], [], [], [107, 108, 0], [], [], [110, 111, 0], [], [], [113, 114, 0], [], [], [116, 117, 0], [], [], [119, 0, 120, 0], [121, 124, 127, 130, 133, 136], [], [122, 123, 0], [], [], [125, 126, 0], [], [], [128, 129, 0], [], [], [131, 132, 0], [], [], [134, 135, 0], [], [], [137, 138, 0], [], [], [140, 0, 141, 0], [142, 145, 148, 151, 154, 157], [], [143, 144, 0], [], [], [146, 147, 0], [], [], [149, 150, 0], [], [], [152, 153, 0], [], [], [155, 156, 0], [], [], [158, 159, 0], [], [], [0, 161, 0, 164, 165, 166, 167], [162, 163, 0], [], [], [], [], [], [], [0, 169, 0, 172, 173, 174, 175], [170, 171, 0], [], [], [], [], [], [], [0, 177, 0, 180, 181, 182, 183], [178, 179, 0], [], [], [], [], [], [], [0, 185, 0, 188, 189, 190, 191], [186, 187, 0], [], [], [], [], [], [], [0, 193, 0, 196, 197, 198, 199], [194, 195, 0], [], [], [], [], [], [], [0, 201, 0, 204, 205, 206, 207], [202, 203, 0], [], [], [], [], [], []]
def refT : List (List Nat) := [[1, 3, 4, 5, 6], [0, 1], [0, 1, 2, 3], [0, 3], [0, 2], [0, 1], [0, 1, 2, 4, 5, 6], []]
/-- kind (0 to 7 an object of a class, 10 int[], 11 boolean[], 12 Form[], 13 Sheet[], 14 Expanded[]) and how many places -/
def sh (a : Nat) : Nat × Nat := shT.getD a (99, 0)
def rf (a k : Nat) : Nat := (rfT.getD a []).getD k 0
def isRf (c k : Nat) : Bool := (refT.getD c []).contains k
def ln (a : Nat) : Nat := (sh a).2
abbrev ix (i : Int32) : Nat := i.toNatClampNeg
def inb (i : Int32) (n : Nat) : Bool := !(decide (i < 0) || decide (n ≤ i.toNatClampNeg))
theorem inb_vp {i : Int32} {n : Nat} (h : inb i n = true) : vp_in i n := by
  simp only [inb, Bool.not_eq_true', Bool.or_eq_false_iff, decide_eq_false_iff_not] at h
  rintro (q | q)
  · exact h.1 q
  · exact h.2 q
theorem inb_lt {i : Int32} {n : Nat} (h : inb i n = true) : ix i < n := Nat.not_le.mp fun q => inb_vp h (Or.inr q)
theorem lt_of_sh {a c : Nat} (h : (sh a).1 = c) (hc : c < 50) : a < 208 := by
  rcases Nat.lt_or_ge a 208 with q | q
  · exact q
  · have hl : shT.length = 208 := rfl
    rw [sh, List.getD_eq_getElem?_getD, List.getElem?_eq_none (by rw [hl]; exact q)] at h
    exact absurd h (by show ¬ 99 = c; omega)
abbrev GT : Type := (va_G × (Nat → ClassId)) × Nat
def fv (b c a : Nat) (M : Mem) (k : Nat) : Value := if isRf c k = true then .ref (b + rf a k) else .int (M.1 a k)
/-- the history's references -/
def hM (M : Mem) (i : Nat) : Nat := if i < 5 then M.2 i else 0
theorem hM_lt {M : Mem} {i : Nat} (h : i < 5) : hM M i = M.2 i := if_pos h
def ent (b : Nat) (dA : Nat → ClassId) (M : Mem) (a : Nat) : va_E :=
  if 208 ≤ a then .inl (dA 0, M.2 (10 + a), .inl (M.1 a))
  else if (sh a).1 = 10 then .inl (dA 0, ln a, .inl (M.1 a))
  else if (sh a).1 = 12 then .inl (dA 2, ln a, .inr (.inr (.inr (.inr (fun i => some (b + rf a i))))))
  else if (sh a).1 = 13 then .inl (dA 3, ln a, .inr (.inr (.inr (.inr (fun i => some (b + hM M i))))))
  else if (sh a).1 = 14 then .inl (dA 4, ln a, .inr (.inr (.inr (.inr (fun i => some (b + rf a i))))))
  else .inr ((sh a).1, (List.range (ln a)).map (fv b (sh a).1 a M))
def cellsOf (G : GT) (M : Mem) : va_W := (List.range (M.2 5)).map (fun a => (G.2 + a, ent G.2 G.1.2 M a))
def Rep (G : GT) (M : Mem) (H : Heap) : Prop := va_P G.1.1 vwCl (cellsOf G M) H ∧ (∀ i, i < 5 → (sh (M.2 i)).1 = 4) ∧ 208 ≤ M.2 5
theorem Rep.lt {G : GT} {M : Mem} {H : Heap} {a : Nat} (h : Rep G M H) (ha : a < 208) : a < M.2 5 := Nat.lt_of_lt_of_le ha h.2.2
theorem cells_at {G : GT} {M : Mem} {a : Nat} (h : a < M.2 5) : (cellsOf G M)[a]? = some (G.2 + a, ent G.2 G.1.2 M a) := by simp [cellsOf, h]
theorem cells_len {G : GT} {M : Mem} : (cellsOf G M).length = M.2 5 := by simp [cellsOf]
theorem cells_inv {G : GT} {M : Mem} {k : Nat} {q : Nat × va_E} (h : (cellsOf G M)[k]? = some q) : q = (G.2 + k, ent G.2 G.1.2 M k) ∧ k < M.2 5 := by
  have hk : k < M.2 5 := by
    have := (List.getElem?_eq_some_iff.mp h).1
    rwa [cells_len] at this
  rw [cells_at hk] at h
  exact ⟨(Option.some.inj h).symm, hk⟩
theorem cells_D {G : GT} {M : Mem} : va_D (fun q => G.2 ≤ q) (cellsOf G M) := by
  refine ⟨fun i j p q hi hj hpq => ?_, fun k q hk => ?_⟩
  · obtain ⟨rfl, -⟩ := cells_inv hi
    obtain ⟨rfl, -⟩ := cells_inv hj
    have : G.2 + i = G.2 + j := hpq
    omega
  · obtain ⟨rfl, -⟩ := cells_inv hk
    exact Nat.le_add_right _ _
theorem cells_set {G : GT} {M M' : Mem} {a : Nat} {e : va_E} (ha : a < M.2 5) (hn : M'.2 5 = M.2 5) (he : ent G.2 G.1.2 M' a = e) (hne : ∀ b, b ≠ a → ent G.2 G.1.2 M' b = ent G.2 G.1.2 M b) : (cellsOf G M).set a (G.2 + a, e) = cellsOf G M' := by
  apply List.ext_getElem?
  intro k
  by_cases hk : k = a
  · subst hk
    rw [List.getElem?_set_self (by rw [cells_len]; exact ha), cells_at (by rw [hn]; exact ha), he]
  · rw [List.getElem?_set_ne (Ne.symm hk)]
    by_cases hl : k < M.2 5
    · rw [cells_at hl, cells_at (by rw [hn]; exact hl), hne k hk]
    · rw [List.getElem?_eq_none (by rw [cells_len]; omega), List.getElem?_eq_none (by rw [cells_len]; omega)]
/-- one number is written -/
def mset (M : Mem) (a k : Nat) (v : Int32) : Mem := (fun b => if b = a then upd (M.1 a) k v else M.1 b, M.2)
/-- an array's stretch is copied -/
def mcpy (M : Mem) (a0 sp a1 dp n : Nat) : Mem := (fun b => if b = a1 then va_cpy (M.1 a0) (M.1 a1) sp dp n else M.1 b, M.2)
/-- a reference of the history is written -/
def hset (M : Mem) (i v : Nat) : Mem := (M.1, fun j => if j = i then v else M.2 j)
theorem ent_row {b : Nat} {dA : Nat → ClassId} {M M' : Mem} {c : Nat} (h1 : M'.1 c = M.1 c) (h2 : M'.2 = M.2) : ent b dA M' c = ent b dA M c := by
  have hf : fv b (sh c).1 c M' = fv b (sh c).1 c M := by funext k; simp only [fv, h1]
  have hh : hM M' = hM M := by funext i; simp only [hM, h2]
  simp only [ent, h1, h2, hf, hh]
theorem mset_ne {M : Mem} {a k c : Nat} {v : Int32} (h : c ≠ a) : (mset M a k v).1 c = M.1 c := if_neg h
theorem mset_eq {M : Mem} {a k : Nat} {v : Int32} : (mset M a k v).1 a = upd (M.1 a) k v := if_pos rfl
theorem mset_2 {M : Mem} {a k : Nat} {v : Int32} : (mset M a k v).2 = M.2 := rfl
theorem ent_c {b : Nat} {dA : Nat → ClassId} {M : Mem} {a c : Nat} (h : (sh a).1 = c) (hc : c < 50) : ent b dA M a = if (sh a).1 = 10 then .inl (dA 0, ln a, .inl (M.1 a))
  else if (sh a).1 = 12 then .inl (dA 2, ln a, .inr (.inr (.inr (.inr (fun i => some (b + rf a i))))))
  else if (sh a).1 = 13 then .inl (dA 3, ln a, .inr (.inr (.inr (.inr (fun i => some (b + hM M i))))))
  else if (sh a).1 = 14 then .inl (dA 4, ln a, .inr (.inr (.inr (.inr (fun i => some (b + rf a i))))))
  else .inr ((sh a).1, (List.range (ln a)).map (fv b (sh a).1 a M)) := if_neg (Nat.not_le.mpr (lt_of_sh h hc))
theorem ent_i {b : Nat} {dA : Nat → ClassId} {M : Mem} {a : Nat} (h : (sh a).1 = 10) : ent b dA M a = .inl (dA 0, ln a, .inl (M.1 a)) := by rw [ent_c h (by omega), if_pos h]
theorem ent_f {b : Nat} {dA : Nat → ClassId} {M : Mem} {a : Nat} (h : (sh a).1 = 12) : ent b dA M a = .inl (dA 2, ln a, .inr (.inr (.inr (.inr (fun i => some (b + rf a i)))))) := by rw [ent_c h (by omega)]; simp [h]
theorem ent_h {b : Nat} {dA : Nat → ClassId} {M : Mem} {a : Nat} (h : (sh a).1 = 13) : ent b dA M a = .inl (dA 3, ln a, .inr (.inr (.inr (.inr (fun i => some (b + hM M i)))))) := by rw [ent_c h (by omega)]; simp [h]
theorem ent_e {b : Nat} {dA : Nat → ClassId} {M : Mem} {a : Nat} (h : (sh a).1 = 14) : ent b dA M a = .inl (dA 4, ln a, .inr (.inr (.inr (.inr (fun i => some (b + rf a i)))))) := by rw [ent_c h (by omega)]; simp [h]
theorem ent_o {b : Nat} {dA : Nat → ClassId} {M : Mem} {a c N : Nat} (h : sh a = (c, N)) (hc : c < 10) : ent b dA M a = .inr (c, (List.range N).map (fv b c a M)) := by
  have h1 : (sh a).1 = c := by rw [h]
  have h2 : ln a = N := by rw [ln, h]
  rw [ent_c h1 (by omega), if_neg (by omega), if_neg (by omega), if_neg (by omega), if_neg (by omega), h1, h2]
/-- a row of the law's own -/
theorem ent_x {b : Nat} {dA : Nat → ClassId} {M : Mem} {a : Nat} (h : 208 ≤ a) : ent b dA M a = .inl (dA 0, M.2 (10 + a), .inl (M.1 a)) := if_pos h
theorem map_set {N k : Nat} {f g : Nat → Value} {v : Value} (hk : k < N) (h1 : g k = v) (h2 : ∀ j, j ≠ k → g j = f j) : ((List.range N).map f).set k v = (List.range N).map g := by
  apply List.ext_getElem?
  intro j
  by_cases hj : j = k
  · subst hj
    rw [List.getElem?_set_self (by simpa using hk)]
    simp [hk, h1]
  · rw [List.getElem?_set_ne (Ne.symm hj)]
    by_cases hl : j < N
    · simp [hl, h2 j hj]
    · simp [hl]
theorem ent_put {b : Nat} {dA : Nat → ClassId} {M : Mem} {a c N k : Nat} {v : Int32} (h : sh a = (c, N)) (hc : c < 10) (hk : k < N) (hr : isRf c k = false) : ent b dA (mset M a k v) a = .inr (c, ((List.range N).map (fv b c a M)).set k (.int v)) := by
  rw [ent_o h hc, map_set hk (g := fv b c a (mset M a k v))]
  · simp [fv, hr, mset_eq, upd]
  · intro j hj
    simp [fv, mset_eq, upd, hj]
theorem cells_put {G : GT} {M : Mem} {a c N k : Nat} {v : Int32} (hn : 208 ≤ M.2 5) (h : sh a = (c, N)) (hc : c < 10) (hk : k < N) (hr : isRf c k = false) : (cellsOf G M).set a (G.2 + a, .inr (c, ((List.range N).map (fv G.2 c a M)).set k (.int v))) = cellsOf G (mset M a k v) :=
  cells_set (Nat.lt_of_lt_of_le (lt_of_sh (c := c) (by rw [h]) (by omega)) hn) rfl (ent_put h hc hk hr) fun _ hb => ent_row (mset_ne hb) rfl
theorem cells_i {G : GT} {M : Mem} {a k : Nat} {v : Int32} (hn : 208 ≤ M.2 5) (h : (sh a).1 = 10) : (cellsOf G M).set a (G.2 + a, .inl (G.1.2 0, ln a, .inl (upd (M.1 a) k v))) = cellsOf G (mset M a k v) :=
  cells_set (Nat.lt_of_lt_of_le (lt_of_sh h (by omega)) hn) rfl (by rw [ent_i h, mset_eq]) fun _ hb => ent_row (mset_ne hb) rfl
theorem cells_c {G : GT} {M : Mem} {a0 a sp dp n : Nat} (hn : 208 ≤ M.2 5) (h : (sh a).1 = 10) : (cellsOf G M).set a (G.2 + a, .inl (G.1.2 0, ln a, .inl (va_cpy (M.1 a0) (M.1 a) sp dp n))) = cellsOf G (mcpy M a0 sp a dp n) :=
  cells_set (Nat.lt_of_lt_of_le (lt_of_sh h (by omega)) hn) rfl (by rw [ent_i h]; simp [mcpy]) fun _ hb => ent_row (if_neg hb) rfl
theorem cells_x {G : GT} {M : Mem} {a k : Nat} {v : Int32} (h : 208 ≤ a) (h2 : a < M.2 5) : (cellsOf G M).set a (G.2 + a, .inl (G.1.2 0, M.2 (10 + a), .inl (upd (M.1 a) k v))) = cellsOf G (mset M a k v) :=
  cells_set h2 rfl (by rw [ent_x h, mset_eq]; rfl) fun _ hb => ent_row (mset_ne hb) rfl
/-- a new row of the law's -/
def mnew (M : Mem) (n : Nat) : Mem := (fun b => if b = M.2 5 then fun _ => 0 else M.1 b, fun j => if j = 5 then M.2 5 + 1 else if j = 6 then M.2 6 + n else if j = 10 + M.2 5 then n else M.2 j)
theorem mnew_5 {M : Mem} {n : Nat} : (mnew M n).2 5 = M.2 5 + 1 := rfl
theorem mnew_6 {M : Mem} {n : Nat} : (mnew M n).2 6 = M.2 6 + n := rfl
theorem mnew_lt {M : Mem} {n i : Nat} (h : i < 5) : (mnew M n).2 i = M.2 i := by
  show (if i = 5 then _ else if i = 6 then _ else if i = 10 + M.2 5 then _ else _) = _
  rw [if_neg (by omega), if_neg (by omega), if_neg (by omega)]
theorem mnew_ln {M : Mem} {n : Nat} : (mnew M n).2 (10 + M.2 5) = n := by
  show (if 10 + M.2 5 = 5 then _ else if 10 + M.2 5 = 6 then _ else if 10 + M.2 5 = 10 + M.2 5 then _ else _) = _
  rw [if_neg (by omega), if_neg (by omega), if_pos rfl]
theorem mnew_ln2 {M : Mem} {n a : Nat} (h : a ≠ M.2 5) : (mnew M n).2 (10 + a) = M.2 (10 + a) := by
  show (if 10 + a = 5 then _ else if 10 + a = 6 then _ else if 10 + a = 10 + M.2 5 then _ else _) = _
  rw [if_neg (by omega), if_neg (by omega), if_neg (by omega)]
theorem mnew_1 {M : Mem} {n : Nat} : (mnew M n).1 (M.2 5) = fun _ => 0 := if_pos rfl
theorem mnew_ne {M : Mem} {n a : Nat} (h : a ≠ M.2 5) : (mnew M n).1 a = M.1 a := if_neg h
theorem ent_new {b : Nat} {dA : Nat → ClassId} {M : Mem} {n a : Nat} (h : a < M.2 5) : ent b dA (mnew M n) a = ent b dA M a := by
  have h1 := mnew_ne (M := M) (n := n) (Nat.ne_of_lt h)
  have h2 := mnew_ln2 (M := M) (n := n) (Nat.ne_of_lt h)
  have hf : fv b (sh a).1 a (mnew M n) = fv b (sh a).1 a M := by funext k; simp only [fv, h1]
  have hh : hM (mnew M n) = hM M := by
    funext i
    by_cases hi : i < 5
    · rw [hM_lt hi, hM_lt hi, mnew_lt hi]
    · rw [hM, hM, if_neg hi, if_neg hi]
  rw [ent, ent, h1, h2, hf, hh]
theorem cells_new {G : GT} {M : Mem} {n : Nat} (h : 208 ≤ M.2 5) : cellsOf G (mnew M n) = cellsOf G M ++ [(G.2 + M.2 5, .inl (G.1.2 0, n, .inl fun _ => 0))] := by
  rw [cellsOf, mnew_5, List.range_succ, List.map_append]
  congr 1
  · exact List.map_congr_left fun a ha => by rw [ent_new (List.mem_range.mp ha)]
  · rw [List.map_cons, List.map_nil, ent_x h, mnew_ln, mnew_1]
theorem sh_h : ∀ a, a < 208 → (sh a).1 = 13 → a = 45 := by decide +kernel
theorem hset_2 {M : Mem} {i v j : Nat} (h : i ≠ j) : (hset M i v).2 j = M.2 j := if_neg (Ne.symm h)
theorem cells_h {G : GT} {M : Mem} {i v : Nat} (hn : 208 ≤ M.2 5) (hi : i < 5) : (cellsOf G M).set 45 (G.2 + 45, .inl (G.1.2 3, ln 45, .inr (.inr (.inr (.inr (va_up (fun i => some (G.2 + hM M i)) i (some (G.2 + v)))))))) = cellsOf G (hset M i v) := by
  refine cells_set (by omega) (hset_2 (by omega)) ?_ fun b hb => ?_
  · rw [ent_h rfl]
    have hj : (fun j => some (G.2 + hM (hset M i v) j)) = va_up (fun j => some (G.2 + hM M j)) i (some (G.2 + v)) := by
      funext j
      by_cases hj : j = i <;> simp [hset, va_up, hj, hM, hi]
    rw [hj]
  · have hf : fv G.2 (sh b).1 b (hset M i v) = fv G.2 (sh b).1 b M := by funext k; rfl
    by_cases hl : 208 ≤ b
    · rw [ent_x hl, ent_x hl, hset_2 (by omega)]
      rfl
    · have h13 : (sh b).1 ≠ 13 := fun q => hb (sh_h b (by omega) q)
      rw [ent, ent, if_neg hl, if_neg hl]
      simp only [if_neg h13, hf]
      rfl
end
section
/-! words, room, contracts, and the judgement V of a walk against a function of the memory -/
def isNestW : Cond → Bool
  | .fieldLinkNest .. => true
  | .methodLinkNest .. => true
  | _ => false
def TBLG : List Cond := lw_tbl.filter goodWord
def NWL : List Cond := lw_tbl.filter isNestW
theorem tblg_good {w : Cond} (h : w ∈ TBLG) : (w.onTables && w.keeps) = true ∨ ∃ ty, w = .arrayClass ty := good_of_word (List.mem_filter.mp h).2
theorem tblg_in {w : Cond} (h : w ∈ TBLG) : w ∈ lw_tbl := (List.mem_filter.mp h).1
theorem nwl_warm {w : Cond} (h : w ∈ NWL) {s U : State} (hW : s.WarmedH U.vm) (hZ : va_Nw w s) : va_Nw w U := by
  have h2 : isNestW w = true := (List.mem_filter.mp h).2
  cases w <;> first | exact va_Nw.warmF hW hZ | exact va_Nw.warmM hW hZ | (exact absurd h2 (by decide)) | (simp [isNestW] at h2)
theorem nwl_on {w : Cond} (h : w ∈ NWL) : w.onTables = true := by
  have h2 : isNestW w = true := (List.mem_filter.mp h).2
  cases w <;> first | rfl | (simp [isNestW] at h2)
def WS (y : MethodName) (cc : ByteArray) (maxL : Nat) (ret : Option FieldType) : List Cond := .code y cc maxL ret :: TBLG
theorem ws_in {y : MethodName} {cc : ByteArray} {maxL : Nat} {ret : Option FieldType} (h : Cond.code y cc maxL ret ∈ TBLG) : GoodIn TBLG (WS y cc maxL ret) := by
  intro w hw
  rcases List.mem_cons.mp hw with rfl | hw
  · exact ⟨h, tblg_good h⟩
  · exact ⟨hw, tblg_good hw⟩
theorem ws_app {a b : List Cond} (ha : ∀ w ∈ a, w ∈ TBLG) (hb : GoodIn TBLG b) : GoodIn TBLG (a ++ b) := fun w h => (List.mem_append.mp h).elim (fun h => ⟨ha w h, tblg_good (ha w h)⟩) (hb w)
def rm (h : Nat) : Jvm.Room := { frames := h, cells := 0, slots := 0, locals := 40 * h }
def tysL (dA : Nat → ClassId) : List (ClassId × FieldType) := [(dA 0, .int), (dA 1, .int), (dA 2, .object RX1), (dA 3, .object RX4), (dA 4, .object RX0)]
def Kx (G : GT) (U : State) : Prop := va_K G.1.1 vwCl (tysL G.1.2) U ∧ ∀ w ∈ NWL, va_Nw w U
theorem Kx.warm {G : GT} {s U : State} (hW : s.WarmedH U.vm) (h : Kx G s) : Kx G U := ⟨h.1.moved hW.alike, fun w hw => nwl_warm hw hW (h.2 w hw)⟩
theorem Kx.call {G : GT} {U : State} {g : JFrame} {mk : MethodId} {a : Array Value} (h : Kx G U) : Kx G (U.calling g mk a) :=
  ⟨va_K.moved (u := U) (U := U.calling g mk a) (Vm.Alike.refl U.vm) h.1, fun w hw => va_Nw.same (u := U) (U := U.calling g mk a) (nwl_on hw) rfl (h.2 w hw)⟩
/-- the worlds behind a method -/
def QV (G : GT) (v : Option Value) (M' : Mem) : Array Value → State → Outcome → State → Prop := fun _ st oc t => oc = .returned v ∧ Rep G M' t.heap ∧ va_F (fun q => G.2 ≤ q) st t
def PV (G : GT) (av : List Value) (M : Mem) : Array Value → State → Prop := va_Pc av (fun U => Kx G U ∧ Rep G M U.heap)
theorem PV.blind {G : GT} {av : List Value} {M : Mem} : FrameBlind (PV G av M) := fun _ _ _ _ q => ⟨q.1, q.2.1.call, q.2.2⟩
/-- a contract: from the memory M, with these arguments, the method returns v and leaves the memory M' -/
def MC (l : Launch) (G : GT) (y : MethodName) (cc : ByteArray) (maxL : Nat) (ret : Option FieldType) (h : Nat) (av : List Value) (M : Mem) (v : Option Value) (M' : Mem) : Prop :=
  Met l y (WS y cc maxL ret) (rm h) (PV G av M) (QV G v M') 0 0 (fun q => G.2 ≤ q)
abbrev XT : Type := Program × Launch × Env × State × MethodId × Array Value × List Frame × Method × Code
def Cx (X : XT) (G : GT) (cc : ByteArray) (nL : Nat) (own : String) (ret : Option FieldType) : Prop :=
  match X with
  | (p, _, _, s, m, args, _, meth, c) => p.tables.exec = Jvm.exec ∧ c.code = cc ∧ c.maxLocals = nL ∧ s.vm.findClass own = some m.cls ∧ (∀ w ∈ TBLG, w.before args s = true) ∧ Kx G s ∧ meth.sig.returnType = ret ∧ meth.locks = false
def V (X : XT) (G : GT) (h : Nat) {ρ : Type} (val : ρ → Option Value) (nL pc : Nat) (lv : List (Nat × Value)) (st : List Value) (M : Mem) (o : Option (ρ × Mem)) : Prop :=
  match X with
  | (p, l, e, s, m, args, below, meth, c) => ∀ (r : ρ) (M' : Mem), o = some (r, M') → ∀ (H : Heap) (locs : List Loc) (ls : Array Slot), lv_has ls nL lv → Rep G M H → va_S (fun q => G.2 ≤ q) s.heap H locs →
    W p l e (rm h) s m args below meth c H locs 0 0 (MQ below (QV G (val r) M') args s 0 0 (fun q => G.2 ≤ q)) (F0 m pc ls st)
def vI (r : Int32) : Option Value := some (.int r)
def vU (_ : Unit) : Option Value := none
def mxI (x y : Int32) : Int32 := if x < y then y else x
def mnI (x y : Int32) : Int32 := if y < x then y else x
def mxL (x y : Int64) : Int64 := if y < x then x else y
def mnL (x y : Int64) : Int64 := if y < x then y else x
/-- words of the pure functions -/
def gd {α : Type} (b : Bool) (o : Option α) : Option α := if b = true then o else none
def bd {α β : Type} (o : Option (α × Mem)) (k : α → Mem → Option β) : Option β := match o with | some q => k q.1 q.2 | none => none
def bm {α : Type} (M : Mem) (f : Mem → α) : α := f M
def bi {α : Type} (x : Int32) (f : Int32 → α) : α := f x
def bl {α : Type} (x : Int64) (f : Int64 → α) : α := f x
def bn {α : Type} (x : Nat) (f : Nat → α) : α := f x
def isB (x : Int32) : Bool := x == 0 || x == 1
theorem isB_or {x : Int32} (h : isB x = true) : x = 0 ∨ x = 1 := by simpa [isB] using h
theorem MC.ofV {l : Launch} {G : GT} {y : MethodName} {cc : ByteArray} {maxL : Nat} {ret : Option FieldType} {h : Nat} {av : List Value} {M M' : Mem} {ρ : Type} {val : ρ → Option Value} {r : ρ} {o : Option (ρ × Mem)} {lv : List (Nat × Value)} {own : String} (hy : plainName y.cls = true) (hown : y.cls = own) (hlv : lv_args 0 av = lv) (hlen : (lg_sl av).length ≤ maxL) (ho : o = some (r, M'))
    (body : ∀ X : XT, X.2.1 = l → Cx X G cc maxL own ret → V X G h val maxL 0 lv [] M o) : MC l G y cc maxL ret h av M (val r) M' := by
  refine Met.ofW (cc := cc) (maxL := maxL) (ret := ret) (ws' := TBLG) hy rfl ?_
  intro p e s m args below meth c s₁ B hml hv
  obtain ⟨rfl, hK, hR⟩ := hv
  have hx := B.exec
  have hb := B.bytes
  have hr := B.returns
  have hts := atoms_spec (ws := WS y cc maxL ret) B.pre
  have hw : s.vm.findClass own = some m.cls := hown ▸ findClass_of_methodNamed B.named
  have hlocks := B.notSynchronized
  have hl := lv_entry av (n := maxL) hlen
  rw [lg_entry_eq]
  rw [hlv] at hl
  exact body (p, l, e, s, m, av.toArray, below, meth, c) rfl ⟨hx, hb, hml, hw, fun w h => hts w (List.mem_cons_of_mem _ h), hK, hr, hlocks⟩ r M' ho s.heap [] _ hl hR va_S.rf
section VR
variable {X : XT} {G : GT} {h : Nat} {ρ : Type} {val : ρ → Option Value} {nL pc : Nat} {lv : List (Nat × Value)} {st : List Value} {M : Mem} {o o1 o2 : Option (ρ × Mem)} {cc : ByteArray} {own : String} {ret : Option FieldType}
theorem V_none : V X G h val nL pc lv st M none := by
  obtain ⟨p, l, e, s, m, args, below, meth, c⟩ := X
  intro r M' ho
  cases ho
theorem V_sub {lv' : List (Nat × Value)} (ks : List Nat) (hl : lv_pick lv ks = lv') (k : V X G h val nL pc lv' st M o) : V X G h val nL pc lv st M o := by
  obtain ⟨p, l, e, s, m, args, below, meth, c⟩ := X
  intro r M' ho H locs ls hL hP hS
  exact k r M' ho H locs ls (lv_sub hL ks hl) hP hS
theorem V_gd {b : Bool} (k : b = true → V X G h val nL pc lv st M o) : V X G h val nL pc lv st M (gd b o) := by
  cases b with
  | false => exact V_none
  | true => exact k rfl
theorem V_bi {x : Int32} {f : Int32 → Option (ρ × Mem)} (k : ∀ y : Int32, V X G h val nL pc lv (.int y :: st) M (f y)) : V X G h val nL pc lv (.int x :: st) M (bi x f) := k x
theorem V_bl {x : Int64} {f : Int64 → Option (ρ × Mem)} (k : ∀ y : Int64, V X G h val nL pc lv (.long y :: st) M (f y)) : V X G h val nL pc lv (.long x :: st) M (bl x f) := k x
theorem V_bn {x c : Nat} {f : Nat → Option (ρ × Mem)} (hx : (sh x).1 = c) (k : ∀ y : Nat, (sh y).1 = c → V X G h val nL pc lv (.ref (G.2 + y) :: st) M (f y)) : V X G h val nL pc lv (.ref (G.2 + x) :: st) M (bn x f) := k x hx

theorem V_iconst (C0 : Cx X G cc nL own ret) {v : Int32} {n : Int} (hdg : decode cc pc = .ok (.iconst n, 1)) (hv : Int32.ofInt n = v) (k : V X G h val nL (pc + 1) lv (.int v :: st) M o) : V X G h val nL pc lv st M o := by
  obtain ⟨p, l, e, s, m, args, below, meth, c⟩ := X
  intro r M' ho H locs ls hL hP hS
  exact lv_iconst C0.1 C0.2.1 hdg hv (k r M' ho H locs ls hL hP hS)
theorem V_bipush (C0 : Cx X G cc nL own ret) {v : Int32} {n : Int} (hdg : decode cc pc = .ok (.bipush n, 2)) (hv : (Int8.ofInt n).toInt32 = v) (k : V X G h val nL (pc + 2) lv (.int v :: st) M o) : V X G h val nL pc lv st M o := by
  obtain ⟨p, l, e, s, m, args, below, meth, c⟩ := X
  intro r M' ho H locs ls hL hP hS
  exact lv_bipush C0.1 C0.2.1 hdg hv (k r M' ho H locs ls hL hP hS)
theorem V_sipush (C0 : Cx X G cc nL own ret) {v : Int32} {n : Int} (hdg : decode cc pc = .ok (.sipush n, 3)) (hv : (Int16.ofInt n).toInt32 = v) (k : V X G h val nL (pc + 3) lv (.int v :: st) M o) : V X G h val nL pc lv st M o := by
  obtain ⟨p, l, e, s, m, args, below, meth, c⟩ := X
  intro r M' ho H locs ls hL hP hS
  exact lv_sipush C0.1 C0.2.1 hdg hv (k r M' ho H locs ls hL hP hS)
theorem V_ldc (C0 : Cx X G cc nL own ret) {v : Int32} {index : Nat} (hw : Cond.constant own index v ∈ TBLG) (hdg : decode cc pc = .ok (.ldc index, 2)) (k : V X G h val nL (pc + 2) lv (.int v :: st) M o) : V X G h val nL pc lv st M o := by
  obtain ⟨p, l, e, s, m, args, below, meth, c⟩ := X
  intro r M' ho H locs ls hL hP hS
  exact lv_ldc C0.1 C0.2.1 C0.2.2.2.1 (C0.2.2.2.2.1 _ hw) hdg (k r M' ho H locs ls hL hP hS)
theorem V_ldc2 (C0 : Cx X G cc nL own ret) {v : Int64} {index : Nat} (hw : Cond.constantLong own index v ∈ TBLG) (hdg : decode cc pc = .ok (.ldc2_w index, 3)) (k : V X G h val nL (pc + 3) lv (.long v :: st) M o) : V X G h val nL pc lv st M o := by
  obtain ⟨p, l, e, s, m, args, below, meth, c⟩ := X
  intro r M' ho H locs ls hL hP hS
  exact lv_ldc2 C0.1 C0.2.1 C0.2.2.2.1 (C0.2.2.2.2.1 _ hw) hdg (k r M' ho H locs ls hL hP hS)
theorem V_iload_n (C0 : Cx X G cc nL own ret) {kk : Fin 4} {x : Int32} (i : Nat) (hi : (kk : Nat) = i) (q : Nat) (hq : lv[q]? = some (i, .int x)) (hdg : decode cc pc = .ok (.iload_n kk, 1)) (k : V X G h val nL (pc + 1) lv (.int x :: st) M o) : V X G h val nL pc lv st M o := by
  obtain ⟨p, l, e, s, m, args, below, meth, c⟩ := X
  intro r M' ho H locs ls hL hP hS
  exact lv_iload_n C0.1 C0.2.1 hdg hi (lv_at hL q hq) (k r M' ho H locs ls hL hP hS)
theorem V_iload (C0 : Cx X G cc nL own ret) {x : Int32} (i : Nat) (q : Nat) (hq : lv[q]? = some (i, .int x)) (hdg : decode cc pc = .ok (.iload i, 2)) (k : V X G h val nL (pc + 2) lv (.int x :: st) M o) : V X G h val nL pc lv st M o := by
  obtain ⟨p, l, e, s, m, args, below, meth, c⟩ := X
  intro r M' ho H locs ls hL hP hS
  exact lv_iload C0.1 C0.2.1 hdg (lv_at hL q hq) (k r M' ho H locs ls hL hP hS)
theorem V_lload_n (C0 : Cx X G cc nL own ret) {kk : Fin 4} {x : Int64} (i : Nat) (hi : (kk : Nat) = i) (q : Nat) (hq : lv[q]? = some (i, .long x)) (hdg : decode cc pc = .ok (.lload_n kk, 1)) (k : V X G h val nL (pc + 1) lv (.long x :: st) M o) : V X G h val nL pc lv st M o := by
  obtain ⟨p, l, e, s, m, args, below, meth, c⟩ := X
  intro r M' ho H locs ls hL hP hS
  exact lv_lload_n C0.1 C0.2.1 hdg hi (lv_at hL q hq) (k r M' ho H locs ls hL hP hS)
theorem V_lload (C0 : Cx X G cc nL own ret) {x : Int64} (i : Nat) (q : Nat) (hq : lv[q]? = some (i, .long x)) (hdg : decode cc pc = .ok (.lload i, 2)) (k : V X G h val nL (pc + 2) lv (.long x :: st) M o) : V X G h val nL pc lv st M o := by
  obtain ⟨p, l, e, s, m, args, below, meth, c⟩ := X
  intro r M' ho H locs ls hL hP hS
  exact lv_lload C0.1 C0.2.1 hdg (lv_at hL q hq) (k r M' ho H locs ls hL hP hS)
theorem V_aload_n (C0 : Cx X G cc nL own ret) {kk : Fin 4} {x : Nat} (i : Nat) (hi : (kk : Nat) = i) (q : Nat) (hq : lv[q]? = some (i, .ref x)) (hdg : decode cc pc = .ok (.aload_n kk, 1)) (k : V X G h val nL (pc + 1) lv (.ref x :: st) M o) : V X G h val nL pc lv st M o := by
  obtain ⟨p, l, e, s, m, args, below, meth, c⟩ := X
  intro r M' ho H locs ls hL hP hS
  exact lv_aload_n C0.1 C0.2.1 hdg hi (lv_at hL q hq) (k r M' ho H locs ls hL hP hS)
theorem V_aload (C0 : Cx X G cc nL own ret) {x : Nat} (i : Nat) (q : Nat) (hq : lv[q]? = some (i, .ref x)) (hdg : decode cc pc = .ok (.aload i, 2)) (k : V X G h val nL (pc + 2) lv (.ref x :: st) M o) : V X G h val nL pc lv st M o := by
  obtain ⟨p, l, e, s, m, args, below, meth, c⟩ := X
  intro r M' ho H locs ls hL hP hS
  exact lv_aload C0.1 C0.2.1 hdg (lv_at hL q hq) (k r M' ho H locs ls hL hP hS)
theorem V_istore_n (C0 : Cx X G cc nL own ret) {kk : Fin 4} {x : Int32} (i : Nat) (lv' : List (Nat × Value)) (hi : (kk : Nat) = i) (hn : i < nL) (hl : (i, Value.int x) :: lv.filter (fun q => !(q.1 == i) && !(q.1 + 1 == i && q.2.category == 2)) = lv') (hdg : decode cc pc = .ok (.istore_n kk, 1)) (k : V X G h val nL (pc + 1) lv' st M o) : V X G h val nL pc lv (.int x :: st) M o := by
  obtain ⟨p, l, e, s, m, args, below, meth, c⟩ := X
  intro r M' ho H locs ls hL hP hS
  exact lv_istore_n C0.1 C0.2.1 hdg hi hL hn hl (fun ls' hL' => k r M' ho H locs ls' hL' hP hS)
theorem V_istore (C0 : Cx X G cc nL own ret) {x : Int32} (i : Nat) (lv' : List (Nat × Value)) (hn : i < nL) (hl : (i, Value.int x) :: lv.filter (fun q => !(q.1 == i) && !(q.1 + 1 == i && q.2.category == 2)) = lv') (hdg : decode cc pc = .ok (.istore i, 2)) (k : V X G h val nL (pc + 2) lv' st M o) : V X G h val nL pc lv (.int x :: st) M o := by
  obtain ⟨p, l, e, s, m, args, below, meth, c⟩ := X
  intro r M' ho H locs ls hL hP hS
  exact lv_istore C0.1 C0.2.1 hdg hL hn hl (fun ls' hL' => k r M' ho H locs ls' hL' hP hS)
theorem V_lstore_n (C0 : Cx X G cc nL own ret) {kk : Fin 4} {x : Int64} (i : Nat) (lv' : List (Nat × Value)) (hi : (kk : Nat) = i) (hn : i + 1 < nL) (hl : (i, Value.long x) :: lv.filter (fun q => !(q.1 == i) && (!(q.1 == i + 1) && !(q.1 + 1 == i && q.2.category == 2))) = lv') (hdg : decode cc pc = .ok (.lstore_n kk, 1)) (k : V X G h val nL (pc + 1) lv' st M o) : V X G h val nL pc lv (.long x :: st) M o := by
  obtain ⟨p, l, e, s, m, args, below, meth, c⟩ := X
  intro r M' ho H locs ls hL hP hS
  exact lv_lstore_n C0.1 C0.2.1 hdg hi hL hn hl (fun ls' hL' => k r M' ho H locs ls' hL' hP hS)
theorem V_lstore (C0 : Cx X G cc nL own ret) {x : Int64} (i : Nat) (lv' : List (Nat × Value)) (hn : i + 1 < nL) (hl : (i, Value.long x) :: lv.filter (fun q => !(q.1 == i) && (!(q.1 == i + 1) && !(q.1 + 1 == i && q.2.category == 2))) = lv') (hdg : decode cc pc = .ok (.lstore i, 2)) (k : V X G h val nL (pc + 2) lv' st M o) : V X G h val nL pc lv (.long x :: st) M o := by
  obtain ⟨p, l, e, s, m, args, below, meth, c⟩ := X
  intro r M' ho H locs ls hL hP hS
  exact lv_lstore C0.1 C0.2.1 hdg hL hn hl (fun ls' hL' => k r M' ho H locs ls' hL' hP hS)
theorem V_astore_n (C0 : Cx X G cc nL own ret) {kk : Fin 4} {x : Nat} (i : Nat) (lv' : List (Nat × Value)) (hi : (kk : Nat) = i) (hn : i < nL) (hl : (i, Value.ref x) :: lv.filter (fun q => !(q.1 == i) && !(q.1 + 1 == i && q.2.category == 2)) = lv') (hdg : decode cc pc = .ok (.astore_n kk, 1)) (k : V X G h val nL (pc + 1) lv' st M o) : V X G h val nL pc lv (.ref x :: st) M o := by
  obtain ⟨p, l, e, s, m, args, below, meth, c⟩ := X
  intro r M' ho H locs ls hL hP hS
  exact lv_astore_n C0.1 C0.2.1 hdg hi hL hn hl (fun ls' hL' => k r M' ho H locs ls' hL' hP hS)
theorem V_astore (C0 : Cx X G cc nL own ret) {x : Nat} (i : Nat) (lv' : List (Nat × Value)) (hn : i < nL) (hl : (i, Value.ref x) :: lv.filter (fun q => !(q.1 == i) && !(q.1 + 1 == i && q.2.category == 2)) = lv') (hdg : decode cc pc = .ok (.astore i, 2)) (k : V X G h val nL (pc + 2) lv' st M o) : V X G h val nL pc lv (.ref x :: st) M o := by
  obtain ⟨p, l, e, s, m, args, below, meth, c⟩ := X
  intro r M' ho H locs ls hL hP hS
  exact lv_astore C0.1 C0.2.1 hdg hL hn hl (fun ls' hL' => k r M' ho H locs ls' hL' hP hS)
theorem V_iinc (C0 : Cx X G cc nL own ret) {n : Int} {x y : Int32} (i q : Nat) (lv' : List (Nat × Value)) (hq : lv[q]? = some (i, .int x)) (hv : Int32.ofInt n = y) (hn : i < nL) (hl : (i, Value.int (x + y)) :: lv.filter (fun q => !(q.1 == i) && !(q.1 + 1 == i && q.2.category == 2)) = lv') (hdg : decode cc pc = .ok (.iinc i n, 3)) (k : V X G h val nL (pc + 3) lv' st M o) : V X G h val nL pc lv st M o := by
  subst hv
  obtain ⟨p, l, e, s, m, args, below, meth, c⟩ := X
  intro r M' ho H locs ls hL hP hS
  exact lv_iinc C0.1 C0.2.1 hdg hL hq rfl hn hl (fun ls' hL' => k r M' ho H locs ls' hL' hP hS)
theorem V_iincB (C0 : Cx X G cc nL own ret) {n : Int} {x y : Int32} {f : Int32 → Option (ρ × Mem)} (i q : Nat) (lv' : Int32 → List (Nat × Value)) (hq : lv[q]? = some (i, .int x)) (hv : Int32.ofInt n = y) (hn : i < nL) (hl : ∀ z : Int32, (i, Value.int z) :: lv.filter (fun q => !(q.1 == i) && !(q.1 + 1 == i && q.2.category == 2)) = lv' z) (hdg : decode cc pc = .ok (.iinc i n, 3)) (k : ∀ z : Int32, V X G h val nL (pc + 3) (lv' z) st M (f z)) : V X G h val nL pc lv st M (bi (x + y) f) :=
  V_iinc C0 i q (lv' (x + y)) hq hv hn (hl _) hdg (k (x + y))
theorem V_iadd (C0 : Cx X G cc nL own ret) {x y : Int32} (hdg : decode cc pc = .ok (.iadd, 1)) (k : V X G h val nL (pc + 1) lv (.int (x + y) :: st) M o) : V X G h val nL pc lv (.int y :: .int x :: st) M o := by
  obtain ⟨p, l, e, s, m, args, below, meth, c⟩ := X
  intro r M' ho H locs ls hL hP hS
  exact lv_iadd C0.1 C0.2.1 hdg (k r M' ho H locs ls hL hP hS)
theorem V_isub (C0 : Cx X G cc nL own ret) {x y : Int32} (hdg : decode cc pc = .ok (.isub, 1)) (k : V X G h val nL (pc + 1) lv (.int (x - y) :: st) M o) : V X G h val nL pc lv (.int y :: .int x :: st) M o := by
  obtain ⟨p, l, e, s, m, args, below, meth, c⟩ := X
  intro r M' ho H locs ls hL hP hS
  exact lv_isub C0.1 C0.2.1 hdg (k r M' ho H locs ls hL hP hS)
theorem V_imul (C0 : Cx X G cc nL own ret) {x y : Int32} (hdg : decode cc pc = .ok (.imul, 1)) (k : V X G h val nL (pc + 1) lv (.int (x * y) :: st) M o) : V X G h val nL pc lv (.int y :: .int x :: st) M o := by
  obtain ⟨p, l, e, s, m, args, below, meth, c⟩ := X
  intro r M' ho H locs ls hL hP hS
  exact lv_imul C0.1 C0.2.1 hdg (k r M' ho H locs ls hL hP hS)
theorem V_iand (C0 : Cx X G cc nL own ret) {x y : Int32} (hdg : decode cc pc = .ok (.iand, 1)) (k : V X G h val nL (pc + 1) lv (.int (x &&& y) :: st) M o) : V X G h val nL pc lv (.int y :: .int x :: st) M o := by
  obtain ⟨p, l, e, s, m, args, below, meth, c⟩ := X
  intro r M' ho H locs ls hL hP hS
  exact lv_iand C0.1 C0.2.1 hdg (k r M' ho H locs ls hL hP hS)
theorem V_ladd (C0 : Cx X G cc nL own ret) {x y : Int64} (hdg : decode cc pc = .ok (.ladd, 1)) (k : V X G h val nL (pc + 1) lv (.long (x + y) :: st) M o) : V X G h val nL pc lv (.long y :: .long x :: st) M o := by
  obtain ⟨p, l, e, s, m, args, below, meth, c⟩ := X
  intro r M' ho H locs ls hL hP hS
  exact lv_ladd C0.1 C0.2.1 hdg (k r M' ho H locs ls hL hP hS)
theorem V_lsub (C0 : Cx X G cc nL own ret) {x y : Int64} (hdg : decode cc pc = .ok (.lsub, 1)) (k : V X G h val nL (pc + 1) lv (.long (x - y) :: st) M o) : V X G h val nL pc lv (.long y :: .long x :: st) M o := by
  obtain ⟨p, l, e, s, m, args, below, meth, c⟩ := X
  intro r M' ho H locs ls hL hP hS
  exact lv_lsub C0.1 C0.2.1 hdg (k r M' ho H locs ls hL hP hS)
theorem V_lmul (C0 : Cx X G cc nL own ret) {x y : Int64} (hdg : decode cc pc = .ok (.lmul, 1)) (k : V X G h val nL (pc + 1) lv (.long (x * y) :: st) M o) : V X G h val nL pc lv (.long y :: .long x :: st) M o := by
  obtain ⟨p, l, e, s, m, args, below, meth, c⟩ := X
  intro r M' ho H locs ls hL hP hS
  exact lv_lmul C0.1 C0.2.1 hdg (k r M' ho H locs ls hL hP hS)
theorem V_ineg (C0 : Cx X G cc nL own ret) {x : Int32} (hdg : decode cc pc = .ok (.ineg, 1)) (k : V X G h val nL (pc + 1) lv (.int (-x) :: st) M o) : V X G h val nL pc lv (.int x :: st) M o := by
  obtain ⟨p, l, e, s, m, args, below, meth, c⟩ := X
  intro r M' ho H locs ls hL hP hS
  exact lv_ineg C0.1 C0.2.1 hdg (k r M' ho H locs ls hL hP hS)
theorem V_idiv (C0 : Cx X G cc nL own ret) {x y : Int32} (hne : ¬ y = 0) (hdg : decode cc pc = .ok (.idiv, 1)) (k : V X G h val nL (pc + 1) lv (.int (x / y) :: st) M o) : V X G h val nL pc lv (.int y :: .int x :: st) M o := by
  obtain ⟨p, l, e, s, m, args, below, meth, c⟩ := X
  intro r M' ho H locs ls hL hP hS
  exact lv_idiv C0.1 C0.2.1 hdg hne (k r M' ho H locs ls hL hP hS)
theorem V_irem (C0 : Cx X G cc nL own ret) {x y : Int32} (hne : ¬ y = 0) (hdg : decode cc pc = .ok (.irem, 1)) (k : V X G h val nL (pc + 1) lv (.int (x - x / y * y) :: st) M o) : V X G h val nL pc lv (.int y :: .int x :: st) M o := by
  obtain ⟨p, l, e, s, m, args, below, meth, c⟩ := X
  intro r M' ho H locs ls hL hP hS
  exact lv_irem C0.1 C0.2.1 hdg hne (k r M' ho H locs ls hL hP hS)
theorem V_i2l (C0 : Cx X G cc nL own ret) {x : Int32} (hdg : decode cc pc = .ok (.i2l, 1)) (k : V X G h val nL (pc + 1) lv (.long x.toInt64 :: st) M o) : V X G h val nL pc lv (.int x :: st) M o := by
  obtain ⟨p, l, e, s, m, args, below, meth, c⟩ := X
  intro r M' ho H locs ls hL hP hS
  exact lv_i2l C0.1 C0.2.1 hdg rfl (k r M' ho H locs ls hL hP hS)
theorem V_l2i (C0 : Cx X G cc nL own ret) {x : Int64} (hdg : decode cc pc = .ok (.l2i, 1)) (k : V X G h val nL (pc + 1) lv (.int x.toInt32 :: st) M o) : V X G h val nL pc lv (.long x :: st) M o := by
  obtain ⟨p, l, e, s, m, args, below, meth, c⟩ := X
  intro r M' ho H locs ls hL hP hS
  exact lv_l2i C0.1 C0.2.1 hdg rfl (k r M' ho H locs ls hL hP hS)
theorem V_lcmp (C0 : Cx X G cc nL own ret) {x y : Int64} (hdg : decode cc pc = .ok (.lcmp, 1)) (k : V X G h val nL (pc + 1) lv (.int (lg_cmp x y) :: st) M o) : V X G h val nL pc lv (.long y :: .long x :: st) M o := by
  obtain ⟨p, l, e, s, m, args, below, meth, c⟩ := X
  intro r M' ho H locs ls hL hP hS
  exact W.lcmp C0.1 C0.2.1 hdg (k r M' ho H locs ls hL hP hS)
theorem V_dup (C0 : Cx X G cc nL own ret) {va : Value} (hva : va.category = 1) (hdg : decode cc pc = .ok (.dup, 1)) (k : V X G h val nL (pc + 1) lv (va :: va :: st) M o) : V X G h val nL pc lv (va :: st) M o := by
  obtain ⟨p, l, e, s, m, args, below, meth, c⟩ := X
  intro r M' ho H locs ls hL hP hS
  exact lv_dup C0.1 C0.2.1 hdg hva (k r M' ho H locs ls hL hP hS)
theorem V_dup2 (C0 : Cx X G cc nL own ret) {va vb : Value} (hva : va.category = 1) (hvb : vb.category = 1) (hdg : decode cc pc = .ok (.dup2, 1)) (k : V X G h val nL (pc + 1) lv (va :: vb :: va :: vb :: st) M o) : V X G h val nL pc lv (va :: vb :: st) M o := by
  obtain ⟨p, l, e, s, m, args, below, meth, c⟩ := X
  intro r M' ho H locs ls hL hP hS
  exact lv_dup2_11 C0.1 C0.2.1 hdg hva hvb (k r M' ho H locs ls hL hP hS)
theorem V_pop (C0 : Cx X G cc nL own ret) {va : Value} (hva : va.category = 1) (hdg : decode cc pc = .ok (.pop, 1)) (k : V X G h val nL (pc + 1) lv st M o) : V X G h val nL pc lv (va :: st) M o := by
  obtain ⟨p, l, e, s, m, args, below, meth, c⟩ := X
  intro r M' ho H locs ls hL hP hS
  exact lv_pop C0.1 C0.2.1 hdg hva (k r M' ho H locs ls hL hP hS)
theorem V_goto (C0 : Cx X G cc nL own ret) {off : Int} (tgt : Nat) (hdg : decode cc pc = .ok (.goto off, 3)) (ht : (pc : Int) + off = (tgt : Int)) (k : V X G h val nL tgt lv st M o) : V X G h val nL pc lv st M o := by
  obtain ⟨p, l, e, s, m, args, below, meth, c⟩ := X
  intro r M' ho H locs ls hL hP hS
  exact lv_goto C0.1 C0.2.1 hdg ht (k r M' ho H locs ls hL hP hS)
theorem V_ifeq (C0 : Cx X G cc nL own ret) {x : Int32} {off : Int} (tgt : Nat) (hdg : decode cc pc = .ok (.ifCond .eq off, 3)) (ht : (pc : Int) + off = (tgt : Int)) (k1 : x = 0 → V X G h val nL tgt lv st M o1) (k2 : ¬ x = 0 → V X G h val nL (pc + 3) lv st M o2) : V X G h val nL pc lv (.int x :: st) M (if x = 0 then o1 else o2) := by
  obtain ⟨p, l, e, s, m, args, below, meth, c⟩ := X
  intro r M' ho H locs ls hL hP hS
  exact lv_if_eq C0.1 C0.2.1 hdg ht (fun q => k1 q r M' (by rw [if_pos q] at ho; exact ho) H locs ls hL hP hS) (fun q => k2 q r M' (by rw [if_neg q] at ho; exact ho) H locs ls hL hP hS)
theorem V_ifne (C0 : Cx X G cc nL own ret) {x : Int32} {off : Int} (tgt : Nat) (hdg : decode cc pc = .ok (.ifCond .ne off, 3)) (ht : (pc : Int) + off = (tgt : Int)) (k1 : ¬ x = 0 → V X G h val nL tgt lv st M o1) (k2 : x = 0 → V X G h val nL (pc + 3) lv st M o2) : V X G h val nL pc lv (.int x :: st) M (if x = 0 then o2 else o1) := by
  obtain ⟨p, l, e, s, m, args, below, meth, c⟩ := X
  intro r M' ho H locs ls hL hP hS
  exact lv_if_ne C0.1 C0.2.1 hdg ht (fun q => k1 q r M' (by rw [if_neg q] at ho; exact ho) H locs ls hL hP hS) (fun q => k2 q r M' (by rw [if_pos q] at ho; exact ho) H locs ls hL hP hS)
theorem V_iflt (C0 : Cx X G cc nL own ret) {x : Int32} {off : Int} (tgt : Nat) (hdg : decode cc pc = .ok (.ifCond .lt off, 3)) (ht : (pc : Int) + off = (tgt : Int)) (k1 : x < 0 → V X G h val nL tgt lv st M o1) (k2 : ¬ x < 0 → V X G h val nL (pc + 3) lv st M o2) : V X G h val nL pc lv (.int x :: st) M (if x < 0 then o1 else o2) := by
  obtain ⟨p, l, e, s, m, args, below, meth, c⟩ := X
  intro r M' ho H locs ls hL hP hS
  exact lv_if_lt C0.1 C0.2.1 hdg ht (fun q => k1 q r M' (by rw [if_pos q] at ho; exact ho) H locs ls hL hP hS) (fun q => k2 q r M' (by rw [if_neg q] at ho; exact ho) H locs ls hL hP hS)
theorem V_ifge (C0 : Cx X G cc nL own ret) {x : Int32} {off : Int} (tgt : Nat) (hdg : decode cc pc = .ok (.ifCond .ge off, 3)) (ht : (pc : Int) + off = (tgt : Int)) (k1 : 0 ≤ x → V X G h val nL tgt lv st M o1) (k2 : ¬ 0 ≤ x → V X G h val nL (pc + 3) lv st M o2) : V X G h val nL pc lv (.int x :: st) M (if 0 ≤ x then o1 else o2) := by
  obtain ⟨p, l, e, s, m, args, below, meth, c⟩ := X
  intro r M' ho H locs ls hL hP hS
  exact lv_if_ge C0.1 C0.2.1 hdg ht (fun q => k1 q r M' (by rw [if_pos q] at ho; exact ho) H locs ls hL hP hS) (fun q => k2 q r M' (by rw [if_neg q] at ho; exact ho) H locs ls hL hP hS)
theorem V_ifgt (C0 : Cx X G cc nL own ret) {x : Int32} {off : Int} (tgt : Nat) (hdg : decode cc pc = .ok (.ifCond .gt off, 3)) (ht : (pc : Int) + off = (tgt : Int)) (k1 : 0 < x → V X G h val nL tgt lv st M o1) (k2 : ¬ 0 < x → V X G h val nL (pc + 3) lv st M o2) : V X G h val nL pc lv (.int x :: st) M (if 0 < x then o1 else o2) := by
  obtain ⟨p, l, e, s, m, args, below, meth, c⟩ := X
  intro r M' ho H locs ls hL hP hS
  exact lv_if_gt C0.1 C0.2.1 hdg ht (fun q => k1 q r M' (by rw [if_pos q] at ho; exact ho) H locs ls hL hP hS) (fun q => k2 q r M' (by rw [if_neg q] at ho; exact ho) H locs ls hL hP hS)
theorem V_ifle (C0 : Cx X G cc nL own ret) {x : Int32} {off : Int} (tgt : Nat) (hdg : decode cc pc = .ok (.ifCond .le off, 3)) (ht : (pc : Int) + off = (tgt : Int)) (k1 : x ≤ 0 → V X G h val nL tgt lv st M o1) (k2 : ¬ x ≤ 0 → V X G h val nL (pc + 3) lv st M o2) : V X G h val nL pc lv (.int x :: st) M (if x ≤ 0 then o1 else o2) := by
  obtain ⟨p, l, e, s, m, args, below, meth, c⟩ := X
  intro r M' ho H locs ls hL hP hS
  exact lv_if_le C0.1 C0.2.1 hdg ht (fun q => k1 q r M' (by rw [if_pos q] at ho; exact ho) H locs ls hL hP hS) (fun q => k2 q r M' (by rw [if_neg q] at ho; exact ho) H locs ls hL hP hS)
theorem V_icmpeq (C0 : Cx X G cc nL own ret) {x y : Int32} {off : Int} (tgt : Nat) (hdg : decode cc pc = .ok (.if_icmp .eq off, 3)) (ht : (pc : Int) + off = (tgt : Int)) (k1 : x = y → V X G h val nL tgt lv st M o1) (k2 : ¬ x = y → V X G h val nL (pc + 3) lv st M o2) : V X G h val nL pc lv (.int y :: .int x :: st) M (if x = y then o1 else o2) := by
  obtain ⟨p, l, e, s, m, args, below, meth, c⟩ := X
  intro r M' ho H locs ls hL hP hS
  exact lv_icmp_eq C0.1 C0.2.1 hdg ht (fun q => k1 q r M' (by rw [if_pos q] at ho; exact ho) H locs ls hL hP hS) (fun q => k2 q r M' (by rw [if_neg q] at ho; exact ho) H locs ls hL hP hS)
theorem V_icmpne (C0 : Cx X G cc nL own ret) {x y : Int32} {off : Int} (tgt : Nat) (hdg : decode cc pc = .ok (.if_icmp .ne off, 3)) (ht : (pc : Int) + off = (tgt : Int)) (k1 : ¬ x = y → V X G h val nL tgt lv st M o1) (k2 : x = y → V X G h val nL (pc + 3) lv st M o2) : V X G h val nL pc lv (.int y :: .int x :: st) M (if x = y then o2 else o1) := by
  obtain ⟨p, l, e, s, m, args, below, meth, c⟩ := X
  intro r M' ho H locs ls hL hP hS
  exact lv_icmp_ne C0.1 C0.2.1 hdg ht (fun q => k1 q r M' (by rw [if_neg q] at ho; exact ho) H locs ls hL hP hS) (fun q => k2 q r M' (by rw [if_pos q] at ho; exact ho) H locs ls hL hP hS)
theorem V_icmplt (C0 : Cx X G cc nL own ret) {x y : Int32} {off : Int} (tgt : Nat) (hdg : decode cc pc = .ok (.if_icmp .lt off, 3)) (ht : (pc : Int) + off = (tgt : Int)) (k1 : x < y → V X G h val nL tgt lv st M o1) (k2 : ¬ x < y → V X G h val nL (pc + 3) lv st M o2) : V X G h val nL pc lv (.int y :: .int x :: st) M (if x < y then o1 else o2) := by
  obtain ⟨p, l, e, s, m, args, below, meth, c⟩ := X
  intro r M' ho H locs ls hL hP hS
  exact lv_icmp_lt C0.1 C0.2.1 hdg ht (fun q => k1 q r M' (by rw [if_pos q] at ho; exact ho) H locs ls hL hP hS) (fun q => k2 q r M' (by rw [if_neg q] at ho; exact ho) H locs ls hL hP hS)
theorem V_icmpge (C0 : Cx X G cc nL own ret) {x y : Int32} {off : Int} (tgt : Nat) (hdg : decode cc pc = .ok (.if_icmp .ge off, 3)) (ht : (pc : Int) + off = (tgt : Int)) (k1 : y ≤ x → V X G h val nL tgt lv st M o1) (k2 : ¬ y ≤ x → V X G h val nL (pc + 3) lv st M o2) : V X G h val nL pc lv (.int y :: .int x :: st) M (if y ≤ x then o1 else o2) := by
  obtain ⟨p, l, e, s, m, args, below, meth, c⟩ := X
  intro r M' ho H locs ls hL hP hS
  exact lv_icmp_ge C0.1 C0.2.1 hdg ht (fun q => k1 q r M' (by rw [if_pos q] at ho; exact ho) H locs ls hL hP hS) (fun q => k2 q r M' (by rw [if_neg q] at ho; exact ho) H locs ls hL hP hS)
theorem V_icmpgt (C0 : Cx X G cc nL own ret) {x y : Int32} {off : Int} (tgt : Nat) (hdg : decode cc pc = .ok (.if_icmp .gt off, 3)) (ht : (pc : Int) + off = (tgt : Int)) (k1 : y < x → V X G h val nL tgt lv st M o1) (k2 : ¬ y < x → V X G h val nL (pc + 3) lv st M o2) : V X G h val nL pc lv (.int y :: .int x :: st) M (if y < x then o1 else o2) := by
  obtain ⟨p, l, e, s, m, args, below, meth, c⟩ := X
  intro r M' ho H locs ls hL hP hS
  exact lv_icmp_gt C0.1 C0.2.1 hdg ht (fun q => k1 q r M' (by rw [if_pos q] at ho; exact ho) H locs ls hL hP hS) (fun q => k2 q r M' (by rw [if_neg q] at ho; exact ho) H locs ls hL hP hS)
theorem V_icmple (C0 : Cx X G cc nL own ret) {x y : Int32} {off : Int} (tgt : Nat) (hdg : decode cc pc = .ok (.if_icmp .le off, 3)) (ht : (pc : Int) + off = (tgt : Int)) (k1 : x ≤ y → V X G h val nL tgt lv st M o1) (k2 : ¬ x ≤ y → V X G h val nL (pc + 3) lv st M o2) : V X G h val nL pc lv (.int y :: .int x :: st) M (if x ≤ y then o1 else o2) := by
  obtain ⟨p, l, e, s, m, args, below, meth, c⟩ := X
  intro r M' ho H locs ls hL hP hS
  exact lv_icmp_le C0.1 C0.2.1 hdg ht (fun q => k1 q r M' (by rw [if_pos q] at ho; exact ho) H locs ls hL hP hS) (fun q => k2 q r M' (by rw [if_neg q] at ho; exact ho) H locs ls hL hP hS)
/-- a switch: one value, the others behind it -/
theorem V_ts (C0 : Cx X G cc nL own ret) {x : Int32} {dflt lo hi off : Int} {offs : Array Int} {len : Nat} (v : Int32) (tgt : Nat) (hdg : decode cc pc = .ok (.tableswitch dflt lo hi offs, len)) (h1 : ¬ v.toInt < lo) (h2 : ¬ hi < v.toInt) (hof : offs[(v.toInt - lo).toNat]? = some off) (ht : (pc : Int) + off = (tgt : Int)) (k1 : x = v → V X G h val nL tgt lv st M o1) (k2 : ¬ x = v → V X G h val nL pc lv (.int x :: st) M o2) : V X G h val nL pc lv (.int x :: st) M (if x = v then o1 else o2) := by
  by_cases q : x = v
  · rw [if_pos q]
    subst q
    obtain ⟨p, l, e, s, m, args, below, meth, c⟩ := X
    intro r M' ho H locs ls hL hP hS
    exact lv_tableIn C0.1 C0.2.1 hdg h1 h2 hof ht (k1 rfl r M' ho H locs ls hL hP hS)
  · rw [if_neg q]
    exact k2 q
theorem V_tsO (C0 : Cx X G cc nL own ret) {x : Int32} {dflt lo hi : Int} {offs : Array Int} {len : Nat} (tgt : Nat) (hdg : decode cc pc = .ok (.tableswitch dflt lo hi offs, len)) (hx : x.toInt < lo ∨ hi < x.toInt) (ht : (pc : Int) + dflt = (tgt : Int)) (k : V X G h val nL tgt lv st M o) : V X G h val nL pc lv (.int x :: st) M o := by
  obtain ⟨p, l, e, s, m, args, below, meth, c⟩ := X
  intro r M' ho H locs ls hL hP hS
  exact lv_tableOut C0.1 C0.2.1 hdg hx ht (k r M' ho H locs ls hL hP hS)
theorem V_getI (C0 : Cx X G cc nL own ret) {C : String} {T : u_T} {N ci index a : Nat} (kf : Nat) (hin : ∀ w ∈ u_ws C T N, w ∈ TBLG) (hc : vwCl[ci]? = some (C, T, N)) (hci : ci < 10) (hk : kf < N) (hw : Cond.fieldLink own index C (T kf).2.1 (T kf).2.2.1 ∈ TBLG) (hT : (T kf).1 = C) (hsh : sh a = (ci, N)) (hrf : isRf ci kf = false) (hdg : decode cc pc = .ok (.getfield index, 3)) (k : V X G h val nL (pc + 3) lv (.int (M.1 a kf) :: st) M o) : V X G h val nL pc lv (.ref (G.2 + a) :: st) M o := by
  obtain ⟨p, l, e, s, m, args, below, meth, c⟩ := X
  intro r M' ho H locs ls hL hP hS
  exact va_get (C := C) (T := T) (N := N) C0.1 C0.2.1 C0.2.2.2.2.1 hin C0.2.2.2.1 C0.2.2.2.2.2.1.1 hP.1 a (by rw [cells_at (hP.lt (lt_of_sh (by rw [hsh]) (show ci < 50 by omega))), ent_o hsh hci]) hc kf hk (C0.2.2.2.2.1 _ hw) (fun _ hx => by rw [← hT]; exact hx) (by simp [hk, fv, hrf]) hdg (k r M' ho H locs ls hL hP hS)
theorem V_getR (C0 : Cx X G cc nL own ret) {C : String} {T : u_T} {N ci index a : Nat} (kf : Nat) (hin : ∀ w ∈ u_ws C T N, w ∈ TBLG) (hc : vwCl[ci]? = some (C, T, N)) (hci : ci < 10) (hk : kf < N) (hw : Cond.fieldLink own index C (T kf).2.1 (T kf).2.2.1 ∈ TBLG) (hT : (T kf).1 = C) (hsh : sh a = (ci, N)) {b : Nat} (hrf : isRf ci kf = true) (hb : rf a kf = b) (hdg : decode cc pc = .ok (.getfield index, 3)) (k : V X G h val nL (pc + 3) lv (.ref (G.2 + b) :: st) M o) : V X G h val nL pc lv (.ref (G.2 + a) :: st) M o := by
  subst hb
  obtain ⟨p, l, e, s, m, args, below, meth, c⟩ := X
  intro r M' ho H locs ls hL hP hS
  exact va_get (C := C) (T := T) (N := N) C0.1 C0.2.1 C0.2.2.2.2.1 hin C0.2.2.2.1 C0.2.2.2.2.2.1.1 hP.1 a (by rw [cells_at (hP.lt (lt_of_sh (by rw [hsh]) (show ci < 50 by omega))), ent_o hsh hci]) hc kf hk (C0.2.2.2.2.1 _ hw) (fun _ hx => by rw [← hT]; exact hx) (by simp [hk, fv, hrf]) hdg (k r M' ho H locs ls hL hP hS)
theorem V_put (C0 : Cx X G cc nL own ret) {C : String} {T : u_T} {N ci index a : Nat} (kf : Nat) (hin : ∀ w ∈ u_ws C T N, w ∈ TBLG) (hc : vwCl[ci]? = some (C, T, N)) (hci : ci < 10) (hk : kf < N) (hw : Cond.fieldLink own index C (T kf).2.1 (T kf).2.2.1 ∈ TBLG) (hT : (T kf).1 = C) (hsh : sh a = (ci, N)) {v : Int32} {f : Mem → Option (ρ × Mem)} {ty : FieldType} (ty0 : Nat → FieldType) (hty : ∀ k, k < N → parseFieldDescriptor (T k).2.2.1 = some (ty0 k)) (hnm : ∀ a, a < N → ∀ b, b < N → a ≠ b → (T a).2.1 ≠ (T b).2.1) (hrf : isRf ci kf = false) (hfin : (T kf).2.2.2 = false) (hd : parseFieldDescriptor (T kf).2.2.1 = some ty) (hn : narrow ty (.int v) = .int v) (hfit : fits ty (.int v) = true) (hdg : decode cc pc = .ok (.putfield index, 3)) (k : ∀ M1, V X G h val nL (pc + 3) lv st M1 (f M1)) : V X G h val nL pc lv (.int v :: .ref (G.2 + a) :: st) M (bm (mset M a kf v) f) := by
  obtain ⟨p, l, e, s, m, args, below, meth, c⟩ := X
  intro r M' ho H locs ls hL hP hS
  exact va_put (C := C) (T := T) (N := N) C0.1 C0.2.1 C0.2.2.2.2.1 hin ty0 hty hnm C0.2.2.2.1 C0.2.2.2.2.2.1.1 hP.1 cells_D hS a (by rw [cells_at (hP.lt (lt_of_sh (by rw [hsh]) (show ci < 50 by omega))), ent_o hsh hci]) hc kf hk (C0.2.2.2.2.1 _ hw) (fun _ hx => by rw [← hT]; exact hx) hfin hd hn hfit (by simpa using hk) hdg (fun H1 locs1 hP1 _ hS1 => k _ r M' ho H1 locs1 ls hL ⟨by rw [cells_put hP.2.2 hsh hci hk hrf] at hP1; exact hP1, hP.2⟩ hS1)
theorem V_getIN (C0 : Cx X G cc nL own ret) {C : String} {T : u_T} {N ci index a : Nat} {host : String} (kf : Nat) (hin : ∀ w ∈ u_ws C T N, w ∈ TBLG) (hc : vwCl[ci]? = some (C, T, N)) (hci : ci < 10) (hk : kf < N) (hw : Cond.fieldLinkNest own index C (T kf).2.1 (T kf).2.2.1 host ∈ NWL) (hT : (T kf).1 = C) (hsh : sh a = (ci, N)) (hrf : isRf ci kf = false) (hdg : decode cc pc = .ok (.getfield index, 3)) (k : V X G h val nL (pc + 3) lv (.int (M.1 a kf) :: st) M o) : V X G h val nL pc lv (.ref (G.2 + a) :: st) M o := by
  obtain ⟨p, l, e, s, m, args, below, meth, c⟩ := X
  intro r M' ho H locs ls hL hP hS
  exact va_getN (C := C) (T := T) (N := N) C0.1 C0.2.1 C0.2.2.2.2.1 hin C0.2.2.2.1 C0.2.2.2.2.2.1.1 hP.1 a (by rw [cells_at (hP.lt (lt_of_sh (by rw [hsh]) (show ci < 50 by omega))), ent_o hsh hci]) hc kf hk (va_Nw.use rfl (C0.2.2.2.2.2.1.2 _ hw)) (fun _ hx => by rw [← hT]; exact hx) (by simp [hk, fv, hrf]) hdg (k r M' ho H locs ls hL hP hS)
theorem V_getRN (C0 : Cx X G cc nL own ret) {C : String} {T : u_T} {N ci index a : Nat} {host : String} (kf : Nat) (hin : ∀ w ∈ u_ws C T N, w ∈ TBLG) (hc : vwCl[ci]? = some (C, T, N)) (hci : ci < 10) (hk : kf < N) (hw : Cond.fieldLinkNest own index C (T kf).2.1 (T kf).2.2.1 host ∈ NWL) (hT : (T kf).1 = C) (hsh : sh a = (ci, N)) {b : Nat} (hrf : isRf ci kf = true) (hb : rf a kf = b) (hdg : decode cc pc = .ok (.getfield index, 3)) (k : V X G h val nL (pc + 3) lv (.ref (G.2 + b) :: st) M o) : V X G h val nL pc lv (.ref (G.2 + a) :: st) M o := by
  subst hb
  obtain ⟨p, l, e, s, m, args, below, meth, c⟩ := X
  intro r M' ho H locs ls hL hP hS
  exact va_getN (C := C) (T := T) (N := N) C0.1 C0.2.1 C0.2.2.2.2.1 hin C0.2.2.2.1 C0.2.2.2.2.2.1.1 hP.1 a (by rw [cells_at (hP.lt (lt_of_sh (by rw [hsh]) (show ci < 50 by omega))), ent_o hsh hci]) hc kf hk (va_Nw.use rfl (C0.2.2.2.2.2.1.2 _ hw)) (fun _ hx => by rw [← hT]; exact hx) (by simp [hk, fv, hrf]) hdg (k r M' ho H locs ls hL hP hS)
theorem V_putN (C0 : Cx X G cc nL own ret) {C : String} {T : u_T} {N ci index a : Nat} {host : String} (kf : Nat) (hin : ∀ w ∈ u_ws C T N, w ∈ TBLG) (hc : vwCl[ci]? = some (C, T, N)) (hci : ci < 10) (hk : kf < N) (hw : Cond.fieldLinkNest own index C (T kf).2.1 (T kf).2.2.1 host ∈ NWL) (hT : (T kf).1 = C) (hsh : sh a = (ci, N)) {v : Int32} {f : Mem → Option (ρ × Mem)} {ty : FieldType} (ty0 : Nat → FieldType) (hty : ∀ k, k < N → parseFieldDescriptor (T k).2.2.1 = some (ty0 k)) (hnm : ∀ a, a < N → ∀ b, b < N → a ≠ b → (T a).2.1 ≠ (T b).2.1) (hrf : isRf ci kf = false) (hfin : (T kf).2.2.2 = false) (hd : parseFieldDescriptor (T kf).2.2.1 = some ty) (hn : narrow ty (.int v) = .int v) (hfit : fits ty (.int v) = true) (hdg : decode cc pc = .ok (.putfield index, 3)) (k : ∀ M1, V X G h val nL (pc + 3) lv st M1 (f M1)) : V X G h val nL pc lv (.int v :: .ref (G.2 + a) :: st) M (bm (mset M a kf v) f) := by
  obtain ⟨p, l, e, s, m, args, below, meth, c⟩ := X
  intro r M' ho H locs ls hL hP hS
  exact va_putN (C := C) (T := T) (N := N) C0.1 C0.2.1 C0.2.2.2.2.1 hin ty0 hty hnm C0.2.2.2.1 C0.2.2.2.2.2.1.1 hP.1 cells_D hS a (by rw [cells_at (hP.lt (lt_of_sh (by rw [hsh]) (show ci < 50 by omega))), ent_o hsh hci]) hc kf hk (va_Nw.use rfl (C0.2.2.2.2.2.1.2 _ hw)) (fun _ hx => by rw [← hT]; exact hx) hfin hd hn hfit (by simpa using hk) hdg (fun H1 locs1 hP1 _ hS1 => k _ r M' ho H1 locs1 ls hL ⟨by rw [cells_put hP.2.2 hsh hci hk hrf] at hP1; exact hP1, hP.2⟩ hS1)
theorem V_iald (C0 : Cx X G cc nL own ret) {a : Nat} {i : Int32} (n : Nat) (ha : (sh a).1 = 10) (hn : ln a = n) (hdg : decode cc pc = .ok (.iaload, 1)) (k : V X G h val nL (pc + 1) lv (.int (M.1 a (ix i)) :: st) M o) : V X G h val nL pc lv (.int i :: .ref (G.2 + a) :: st) M (gd (inb i n) o) := by
  refine V_gd fun hi => ?_
  subst hn
  obtain ⟨p, l, e, s, m, args, below, meth, c⟩ := X
  intro r M' ho H locs ls hL hP hS
  exact va_iald C0.1 C0.2.1 C0.2.2.2.2.2.1.1 hP.1 a 0 (by rw [cells_at (hP.lt (lt_of_sh ha (by omega))), ent_i ha]) rfl (inb_vp hi) hdg (k r M' ho H locs ls hL hP hS)
theorem V_iast (C0 : Cx X G cc nL own ret) {a : Nat} {i x : Int32} {f : Mem → Option (ρ × Mem)} (n : Nat) (ha : (sh a).1 = 10) (hn : ln a = n) (hdg : decode cc pc = .ok (.iastore, 1)) (k : ∀ M1, V X G h val nL (pc + 1) lv st M1 (f M1)) : V X G h val nL pc lv (.int x :: .int i :: .ref (G.2 + a) :: st) M (gd (inb i n) (bm (mset M a (ix i) x) f)) := by
  refine V_gd fun hi => ?_
  subst hn
  obtain ⟨p, l, e, s, m, args, below, meth, c⟩ := X
  intro r M' ho H locs ls hL hP hS
  exact va_iast C0.1 C0.2.1 C0.2.2.2.2.2.1.1 hP.1 cells_D hS a 0 (by rw [cells_at (hP.lt (lt_of_sh ha (by omega))), ent_i ha]) rfl (inb_vp hi) hdg (fun H1 locs1 hP1 _ hS1 => k _ r M' ho H1 locs1 ls hL ⟨by rw [cells_i hP.2.2 ha] at hP1; exact hP1, hP.2⟩ hS1)
theorem V_alenI (C0 : Cx X G cc nL own ret) {a : Nat} (v : Int32) (ha : (sh a).1 = 10) (hv : Int32.ofNat (ln a) = v) (hdg : decode cc pc = .ok (.arraylength, 1)) (k : V X G h val nL (pc + 1) lv (.int v :: st) M o) : V X G h val nL pc lv (.ref (G.2 + a) :: st) M o := by
  obtain ⟨p, l, e, s, m, args, below, meth, c⟩ := X
  intro r M' ho H locs ls hL hP hS
  exact va_alen C0.1 C0.2.1 C0.2.2.2.2.2.1.1 hP.1 a 0 (by rw [cells_at (hP.lt (lt_of_sh ha (by omega))), ent_i ha]) (ty := .int) rfl hv hdg (k r M' ho H locs ls hL hP hS)
theorem V_alenF (C0 : Cx X G cc nL own ret) {a : Nat} (v : Int32) (ha : (sh a).1 = 12) (hv : Int32.ofNat (ln a) = v) (hdg : decode cc pc = .ok (.arraylength, 1)) (k : V X G h val nL (pc + 1) lv (.int v :: st) M o) : V X G h val nL pc lv (.ref (G.2 + a) :: st) M o := by
  obtain ⟨p, l, e, s, m, args, below, meth, c⟩ := X
  intro r M' ho H locs ls hL hP hS
  exact va_alen C0.1 C0.2.1 C0.2.2.2.2.2.1.1 hP.1 a 2 (by rw [cells_at (hP.lt (lt_of_sh ha (by omega))), ent_f ha]) (ty := .object RX1) rfl hv hdg (k r M' ho H locs ls hL hP hS)
theorem V_alenH (C0 : Cx X G cc nL own ret) {a : Nat} (v : Int32) (ha : (sh a).1 = 13) (hv : Int32.ofNat (ln a) = v) (hdg : decode cc pc = .ok (.arraylength, 1)) (k : V X G h val nL (pc + 1) lv (.int v :: st) M o) : V X G h val nL pc lv (.ref (G.2 + a) :: st) M o := by
  obtain ⟨p, l, e, s, m, args, below, meth, c⟩ := X
  intro r M' ho H locs ls hL hP hS
  exact va_alen C0.1 C0.2.1 C0.2.2.2.2.2.1.1 hP.1 a 3 (by rw [cells_at (hP.lt (lt_of_sh ha (by omega))), ent_h ha]) (ty := .object RX4) rfl hv hdg (k r M' ho H locs ls hL hP hS)
theorem V_alenE (C0 : Cx X G cc nL own ret) {a : Nat} (v : Int32) (ha : (sh a).1 = 14) (hv : Int32.ofNat (ln a) = v) (hdg : decode cc pc = .ok (.arraylength, 1)) (k : V X G h val nL (pc + 1) lv (.int v :: st) M o) : V X G h val nL pc lv (.ref (G.2 + a) :: st) M o := by
  obtain ⟨p, l, e, s, m, args, below, meth, c⟩ := X
  intro r M' ho H locs ls hL hP hS
  exact va_alen C0.1 C0.2.1 C0.2.2.2.2.2.1.1 hP.1 a 4 (by rw [cells_at (hP.lt (lt_of_sh ha (by omega))), ent_e ha]) (ty := .object RX0) rfl hv hdg (k r M' ho H locs ls hL hP hS)
theorem sh_F : ∀ a, a < 208 → (sh a).1 = 12 → ln a = 6 ∧ ∀ i, i < 6 → rf a i = a + 2 + 3 * i ∧ (sh (a + 2 + 3 * i)).1 = 1 := by decide +kernel
theorem sh_E : ln 46 = 6 ∧ ∀ i, i < 6 → rf 46 i = 160 + 8 * i ∧ (sh (160 + 8 * i)).1 = 0 := by decide +kernel
theorem V_aaldF (C0 : Cx X G cc nL own ret) {a : Nat} {i : Int32} (a2 : Nat) (ha : (sh a).1 = 12) (ha2 : a + 2 = a2) (hdg : decode cc pc = .ok (.aaload, 1)) (k : (sh (a2 + 3 * ix i)).1 = 1 → V X G h val nL (pc + 1) lv (.ref (G.2 + (a2 + 3 * ix i)) :: st) M o) : V X G h val nL pc lv (.int i :: .ref (G.2 + a) :: st) M (gd (inb i 6) o) := by
  refine V_gd fun hi => ?_
  subst ha2
  obtain ⟨hn, hf⟩ := sh_F a (lt_of_sh ha (by omega)) ha
  obtain ⟨hf1, hf2⟩ := hf (ix i) (inb_lt hi)
  obtain ⟨p, l, e, s, m, args, below, meth, c⟩ := X
  intro r M' ho H locs ls hL hP hS
  refine va_aldq C0.1 C0.2.1 C0.2.2.2.2.2.1.1 hP.1 a 2 (by rw [cells_at (hP.lt (lt_of_sh ha (by omega))), ent_f ha]) rfl (by rw [hn]; exact inb_vp hi) hdg ?_
  show W _ _ _ _ _ _ _ _ _ _ _ _ _ _ _ (F0 m (pc + 1) ls (.ref (G.2 + rf a (ix i)) :: st))
  rw [hf1]
  exact k hf2 r M' ho H locs ls hL hP hS
theorem V_aaldE (C0 : Cx X G cc nL own ret) {i : Int32} (hdg : decode cc pc = .ok (.aaload, 1)) (k : (sh (160 + 8 * ix i)).1 = 0 → V X G h val nL (pc + 1) lv (.ref (G.2 + (160 + 8 * ix i)) :: st) M o) : V X G h val nL pc lv (.int i :: .ref (G.2 + 46) :: st) M (gd (inb i 6) o) := by
  refine V_gd fun hi => ?_
  obtain ⟨hn, hf⟩ := sh_E
  obtain ⟨hf1, hf2⟩ := hf (ix i) (inb_lt hi)
  obtain ⟨p, l, e, s, m, args, below, meth, c⟩ := X
  intro r M' ho H locs ls hL hP hS
  refine va_aldq C0.1 C0.2.1 C0.2.2.2.2.2.1.1 hP.1 46 4 (by rw [cells_at (hP.lt (by omega)), ent_e rfl]) rfl (by rw [hn]; exact inb_vp hi) hdg ?_
  show W _ _ _ _ _ _ _ _ _ _ _ _ _ _ _ (F0 m (pc + 1) ls (.ref (G.2 + rf 46 (ix i)) :: st))
  rw [hf1]
  exact k hf2 r M' ho H locs ls hL hP hS
theorem V_aaldH (C0 : Cx X G cc nL own ret) {i : Int32} (hdg : decode cc pc = .ok (.aaload, 1)) (k : (sh (M.2 (ix i))).1 = 4 → V X G h val nL (pc + 1) lv (.ref (G.2 + M.2 (ix i)) :: st) M o) : V X G h val nL pc lv (.int i :: .ref (G.2 + 45) :: st) M (gd (inb i 5) o) := by
  refine V_gd fun hi => ?_
  obtain ⟨p, l, e, s, m, args, below, meth, c⟩ := X
  intro r M' ho H locs ls hL hP hS
  refine va_aldq C0.1 C0.2.1 C0.2.2.2.2.2.1.1 hP.1 45 3 (by rw [cells_at (hP.lt (by omega)), ent_h rfl]) rfl (by rw [show ln 45 = 5 from rfl]; exact inb_vp hi) hdg ?_
  show W _ _ _ _ _ _ _ _ _ _ _ _ _ _ _ (F0 m (pc + 1) ls (.ref (G.2 + hM M (ix i)) :: st))
  rw [hM_lt (inb_lt hi)]
  exact k (hP.2.1 _ (inb_lt hi)) r M' ho H locs ls hL hP hS
theorem sh_4 : ∀ a, a < 208 → (sh a).1 = 4 → sh a = (4, 4) := by decide +kernel
theorem V_aastH (C0 : Cx X G cc nL own ret) {i : Int32} {v : Nat} {f : Mem → Option (ρ × Mem)} (hv : (sh v).1 = 4) (hdg : decode cc pc = .ok (.aastore, 1)) (k : ∀ M1, V X G h val nL (pc + 1) lv st M1 (f M1)) : V X G h val nL pc lv (.ref (G.2 + v) :: .int i :: .ref (G.2 + 45) :: st) M (gd (inb i 5) (bm (hset M (ix i) v) f)) := by
  refine V_gd fun hi => ?_
  have hv2 : v < 208 := lt_of_sh hv (by omega)
  obtain ⟨p, l, e, s, m, args, below, meth, c⟩ := X
  intro r M' ho H locs ls hL hP hS
  refine va_astq (r := (RX4, TX4, 4)) C0.1 C0.2.1 C0.2.2.2.2.2.1.1 hP.1 cells_D hS 45 3 v 4 (by rw [cells_at (hP.lt (by omega)), ent_h rfl]) rfl (by rw [cells_at (hP.lt hv2), ent_o (sh_4 v hv2 hv) (by omega)]) rfl (by rw [show ln 45 = 5 from rfl]; exact inb_vp hi) hdg (fun H1 locs1 hP1 _ hS1 => k _ r M' ho H1 locs1 ls hL ⟨by rw [cells_h hP.2.2 (inb_lt hi)] at hP1; exact hP1, fun j hj => ?_, by rw [hset_2 (by have := inb_lt hi; omega)]; exact hP.2.2⟩ hS1)
  by_cases hji : j = ix i
  · simp [hset, hji, hv]
  · simp [hset, hji, hP.2.1 j hj]
theorem cp_words {h x : Nat} (hx : x ≤ 8) (hh : 1 ≤ h) : x + (nativeFrameWords "java/lang/System" "arraycopy" 5 + 11) ≤ 40 * h := by
  have h9 : nativeFrameWords "java/lang/System" "arraycopy" 5 + 11 ≤ 32 := by decide
  omega
/-- System.arraycopy between rows of ints -/
theorem V_copy (C0 : Cx X G cc nL own ret) {a0 a index : Nat} {sp dp n : Int32} {f : Mem → Option (ρ × Mem)} (n0 n1 : Nat) (hw : Cond.methodLink own index arraycopyName ∈ TBLG) (hnat : Cond.native arraycopyName ∈ TBLG) (hstat : Cond.static arraycopyName ∈ TBLG) (hini : Cond.initialized "java/lang/System" ∈ TBLG) (ha0 : (sh a0).1 = 10) (ha : (sh a).1 = 10) (h0 : ln a0 = n0) (h1 : ln a = n1) (hh : 1 ≤ h) (hst : (st.map fun v => v.category).sum ≤ 8) (hdg : decode cc pc = .ok (.invokestatic index, 3)) (k : ∀ M1, V X G h val nL (pc + 3) lv st M1 (f M1)) : V X G h val nL pc lv (.int n :: .int dp :: .ref (G.2 + a) :: .int sp :: .ref (G.2 + a0) :: st) M (gd (!(decide (sp < 0)) && !(decide (dp < 0)) && !(decide (n < 0)) && decide (ix sp + ix n ≤ n0) && decide (ix dp + ix n ≤ n1)) (bm (mcpy M a0 (ix sp) a (ix dp) (ix n)) f)) := by
  refine V_gd fun hi => ?_
  simp only [Bool.and_eq_true, Bool.not_eq_true', decide_eq_false_iff_not, decide_eq_true_eq] at hi
  subst h0; subst h1
  obtain ⟨p, l, e, s, m, args, below, meth, c⟩ := X
  intro r M' ho H locs ls hL hP hS
  exact va_copyi C0.1 C0.2.1 (by rw [C0.2.2.1]; exact hL.1.symm) C0.2.2.2.1 (C0.2.2.2.2.1 _ hw) (C0.2.2.2.2.1 _ hnat) (C0.2.2.2.2.1 _ hstat) (C0.2.2.2.2.1 _ hini) C0.2.2.2.2.2.1.1 hP.1 cells_D hS a0 a 0 0 (by rw [cells_at (hP.lt (lt_of_sh ha0 (by omega))), ent_i ha0]) (by rw [cells_at (hP.lt (lt_of_sh ha (by omega))), ent_i ha]) rfl rfl rfl hi.1.1.1.1 hi.1.1.1.2 hi.1.1.2 hi.1.2 hi.2 (fun _ _ => rfl) hh (show (st.map fun v => v.category).sum + (nativeFrameWords "java/lang/System" "arraycopy" 5 + 11) ≤ 40 * h from cp_words hst hh) hdg (fun H1 locs1 hP1 _ hS1 => k _ r M' ho H1 locs1 ls hL ⟨by rw [cells_c hP.2.2 ha] at hP1; exact hP1, hP.2⟩ hS1)
theorem V_mmax (C0 : Cx X G cc nL own ret) {index : Nat} {x y : Int32} (hw : Cond.methodLink own index Lib.Math.max.name ∈ TBLG) (hstat : Cond.static Lib.Math.max.name ∈ TBLG) (hini : Cond.initialized "java/lang/Math" ∈ TBLG) (hcode : Cond.code Lib.Math.max.name Lib.Math.max.code 2 (some .int) ∈ TBLG) (hh : 1 ≤ h) (hst : (st.map fun v => v.category).sum ≤ 8) (hdg : decode cc pc = .ok (.invokestatic index, 3)) (k : V X G h val nL (pc + 3) lv (.int (mxI x y) :: st) M o) : V X G h val nL pc lv (.int y :: .int x :: st) M o := by
  obtain ⟨p, l, e, s, m, args, below, meth, c⟩ := X
  intro r M' ho H locs ls hL hP hS
  exact va_mmax C0.1 C0.2.1 (by rw [C0.2.2.1]; exact hL.1.symm) C0.2.2.2.1 (C0.2.2.2.2.1 _ hw) (C0.2.2.2.2.1 _ hstat) (C0.2.2.2.2.1 _ hini) (C0.2.2.2.2.1 _ hcode) hh (by show _ + 13 ≤ 40 * h; omega) (Nat.zero_le _) (Nat.zero_le _) hdg (k r M' ho H locs ls hL hP hS)
theorem V_mmin (C0 : Cx X G cc nL own ret) {index : Nat} {x y : Int32} (hw : Cond.methodLink own index Lib.Math.min.name ∈ TBLG) (hstat : Cond.static Lib.Math.min.name ∈ TBLG) (hini : Cond.initialized "java/lang/Math" ∈ TBLG) (hcode : Cond.code Lib.Math.min.name Lib.Math.min.code 2 (some .int) ∈ TBLG) (hh : 1 ≤ h) (hst : (st.map fun v => v.category).sum ≤ 8) (hdg : decode cc pc = .ok (.invokestatic index, 3)) (k : V X G h val nL (pc + 3) lv (.int (mnI x y) :: st) M o) : V X G h val nL pc lv (.int y :: .int x :: st) M o := by
  obtain ⟨p, l, e, s, m, args, below, meth, c⟩ := X
  intro r M' ho H locs ls hL hP hS
  exact va_mmin C0.1 C0.2.1 (by rw [C0.2.2.1]; exact hL.1.symm) C0.2.2.2.1 (C0.2.2.2.2.1 _ hw) (C0.2.2.2.2.1 _ hstat) (C0.2.2.2.2.1 _ hini) (C0.2.2.2.2.1 _ hcode) hh (by show _ + 13 ≤ 40 * h; omega) (Nat.zero_le _) (Nat.zero_le _) hdg (k r M' ho H locs ls hL hP hS)
theorem V_mmax_long (C0 : Cx X G cc nL own ret) {index : Nat} {x y : Int64} (hw : Cond.methodLink own index Lib.MathLoose.max_long.x ∈ TBLG) (hstat : Cond.static Lib.MathLoose.max_long.x ∈ TBLG) (hini : Cond.initialized "java/lang/Math" ∈ TBLG) (hcode : Cond.code Lib.MathLoose.max_long.x Lib.MathLoose.max_long.code 4 (some .long) ∈ TBLG) (hh : 1 ≤ h) (hst : (st.map fun v => v.category).sum ≤ 8) (hdg : decode cc pc = .ok (.invokestatic index, 3)) (k : V X G h val nL (pc + 3) lv (.long (mxL x y) :: st) M o) : V X G h val nL pc lv (.long y :: .long x :: st) M o := by
  obtain ⟨p, l, e, s, m, args, below, meth, c⟩ := X
  intro r M' ho H locs ls hL hP hS
  exact va_mmax_long C0.1 C0.2.1 (by rw [C0.2.2.1]; exact hL.1.symm) C0.2.2.2.1 (C0.2.2.2.2.1 _ hw) (C0.2.2.2.2.1 _ hstat) (C0.2.2.2.2.1 _ hini) (C0.2.2.2.2.1 _ hcode) hh (by show _ + 15 ≤ 40 * h; omega) (Nat.zero_le _) (Nat.zero_le _) hdg (k r M' ho H locs ls hL hP hS)
theorem V_mmin_long (C0 : Cx X G cc nL own ret) {index : Nat} {x y : Int64} (hw : Cond.methodLink own index Lib.MathLoose.min_long.x ∈ TBLG) (hstat : Cond.static Lib.MathLoose.min_long.x ∈ TBLG) (hini : Cond.initialized "java/lang/Math" ∈ TBLG) (hcode : Cond.code Lib.MathLoose.min_long.x Lib.MathLoose.min_long.code 4 (some .long) ∈ TBLG) (hh : 1 ≤ h) (hst : (st.map fun v => v.category).sum ≤ 8) (hdg : decode cc pc = .ok (.invokestatic index, 3)) (k : V X G h val nL (pc + 3) lv (.long (mnL x y) :: st) M o) : V X G h val nL pc lv (.long y :: .long x :: st) M o := by
  obtain ⟨p, l, e, s, m, args, below, meth, c⟩ := X
  intro r M' ho H locs ls hL hP hS
  exact va_mmin_long C0.1 C0.2.1 (by rw [C0.2.2.1]; exact hL.1.symm) C0.2.2.2.1 (C0.2.2.2.2.1 _ hw) (C0.2.2.2.2.1 _ hstat) (C0.2.2.2.2.1 _ hini) (C0.2.2.2.2.1 _ hcode) hh (by show _ + 15 ≤ 40 * h; omega) (Nat.zero_le _) (Nat.zero_le _) hdg (k r M' ho H locs ls hL hP hS)
theorem V_iret {v : Int32} (C0 : Cx X G cc nL own (some .int)) (hdg : decode cc pc = .ok (.ireturn, 1)) : V X G h vI nL pc lv [.int v] M (some (v, M)) := by
  obtain ⟨p, l, e, s, m, args, below, meth, c⟩ := X
  intro r M' ho H locs ls hL hP hS
  cases ho
  exact W.iret C0.1 C0.2.1 C0.2.2.2.2.2.2.1 (fun t ht hW => ⟨rfl, by rw [ht]; exact hP, hS.F ht⟩) hS.2.2 hdg (hlocks := C0.2.2.2.2.2.2.2)
theorem V_zret {v : Int32} (C0 : Cx X G cc nL own (some .boolean)) (hdg : decode cc pc = .ok (.ireturn, 1)) : V X G h vI nL pc lv [.int v] M (gd (isB v) (some (v, M))) := by
  refine V_gd fun hi => ?_
  obtain ⟨p, l, e, s, m, args, below, meth, c⟩ := X
  intro r M' ho H locs ls hL hP hS
  cases ho
  exact W.zret C0.1 C0.2.1 C0.2.2.2.2.2.2.1 (by rcases isB_or hi with q | q <;> subst q <;> rfl) (fun t ht hW => ⟨rfl, by rw [ht]; exact hP, hS.F ht⟩) hS.2.2 hdg (hlocks := C0.2.2.2.2.2.2.2)
theorem V_vret (C0 : Cx X G cc nL own none) (hdg : decode cc pc = .ok (.return_, 1)) : V X G h vU nL pc lv [] M (some ((), M)) := by
  obtain ⟨p, l, e, s, m, args, below, meth, c⟩ := X
  intro r M' ho H locs ls hL hP hS
  cases ho
  exact W.vret C0.1 C0.2.1 C0.2.2.2.2.2.2.1 (fun t ht hW => ⟨rfl, by rw [ht]; exact hP, hS.F ht⟩) hS.2.2 hdg (hlocks := C0.2.2.2.2.2.2.2)
end VR
section VRUN
variable {p : Program} {l : Launch} {e : Env} {R : Jvm.Room} {s : State} {m : MethodId} {args : Array Value} {below : List Frame} {meth : Method} {c : Code} {H : Heap} {locs : List Loc} {cells slots : Nat} {Q : State → Prop} {G : GT} {pc : Nat} {ls : Array Slot} {st0 rest : List Value} {a : Array Value} {v : Option Value} {M1 : Mem}
theorem V_run (hr : va_Run p l e R s m args below meth c H locs cells slots 0 0 (F0 m pc ls st0) rest (QV G v M1 a) (fun q => G.2 ≤ q)) (hS : va_S (fun q => G.2 ≤ q) s.heap H locs)
    (kk : ∀ (H1 : Heap) (locs1 : List Loc), Rep G M1 H1 → va_S (fun q => G.2 ≤ q) s.heap H1 locs1 → W p l e R s m args below meth c H1 locs1 cells slots Q (F0 m (pc + 3) ls (v.toList ++ rest))) : W p l e R s m args below meth c H locs cells slots Q (F0 m pc ls st0) := by
  intro T hT X
  obtain ⟨v', st₀, t, T', L, h0, X', hL, e1, e2, ⟨hv, hR, hz, hk⟩, st⟩ := hr T hT X
  cases hv
  rw [h0] at hz hk
  obtain ⟨t2, a1, b1⟩ := kk T'.heap (locs ++ L) (by rw [e1]; exact hR) ⟨Nat.le_trans hS.1 (by rw [e1]; exact hz), fun q h1 h2 => by rw [e1, hk q (Nat.lt_of_lt_of_le h1 hS.1) h2]; exact hS.2.1 q h1 h2, fun q hq => by
      rcases List.mem_append.mp hq with hq | hq
      · exact hS.2.2 q hq
      · exact hL q hq⟩ T' rfl X'
  exact ⟨t2, st t2 a1, b1⟩
end VRUN
section VC
variable {X : XT} {G : GT} {h : Nat} {ρ : Type} {val : ρ → Option Value} {nL pc : Nat} {lv : List (Nat × Value)} {st : List Value} {M : Mem} {o o1 o2 : Option (ρ × Mem)} {cc : ByteArray} {own : String} {ret : Option FieldType}
theorem PV.pre {s : State} {H : Heap} {av : List Value} (hK : Kx G s) (hR : Rep G M H) : PreS s H (PV G av M) av := ⟨PV.blind, fun U hU hW => ⟨rfl, hK.warm hW, by rw [hU]; exact hR⟩⟩
theorem PV.preV {s : State} {H : Heap} {av : List Value} {ci a N : Nat} {C : String} {T : u_T} (hc : vwCl[ci]? = some (C, T, N)) (hci : ci < 10) (hsh : sh a = (ci, N)) (hK : Kx G s) (hR : Rep G M H) : PreV s H C (G.2 + a) (PV G (.ref (G.2 + a) :: av) M) av :=
  ⟨PV.blind, va_recv hK.1 hR.1 hc (q0 := a) (by rw [cells_at (hR.lt (lt_of_sh (by rw [hsh]) (show ci < 50 by omega))), ent_o hsh hci]), fun U hU hW => ⟨rfl, hK.warm hW, by rw [hU]; exact hR⟩⟩
theorem V_callVi (C0 : Cx X G cc nL own ret) {y : MethodName} {bytes : ByteArray} {maxL n index h2 : Nat} {ret2 : Option FieldType} {av : List Value} {oc : Option (Int32 × Mem)} {kf : Int32 → Mem → Option (ρ × Mem)} {C : String} {T : u_T} {N ci a : Nat} (hM : ∀ l r M1, oc = some (r, M1) → MC l G y bytes maxL ret2 h2 (.ref (G.2 + a) :: av) M (vI r) M1) (hc : vwCl[ci]? = some (C, T, N)) (hci : ci < 10) (hsh : sh a = (ci, N)) (hw : ∀ w ∈ ([.methodLink own index y, .instanceMethod y, .selects C y y, .initialized C] : List Cond), w ∈ TBLG) (hd : y.cls = C ∧ y.cls ≠ "java/lang/invoke/MethodHandle" ∧ y.cls ≠ "java/lang/invoke/VarHandle" ∧ (parseMethodDescriptor y.desc).map (fun d => d.parameters.length) = some n) (hcode : Cond.code y bytes maxL ret2 ∈ TBLG) (hn : av.length = n) (hh : h2 < h) (hm : maxL ≤ 21) (hst : (st.map fun v => v.category).sum ≤ 8) (hdg : decode cc pc = .ok (.invokevirtual index, 3)) (k : ∀ r M1, V X G h val nL (pc + 3) lv (.int r :: st) M1 (kf r M1)) : V X G h val nL pc lv (av.reverse ++ .ref (G.2 + a) :: st) M (bd oc kf) := by
  cases hoc : oc with
  | none => exact V_none
  | some q =>
    obtain ⟨r1, M1⟩ := q
    obtain ⟨p, l, e, s, m, args, below, meth, c⟩ := X
    intro r M' ho H locs ls hL hP hS
    exact V_run (va_runV (As := av) (rest := st) (C := C) ⟨C0.1, C0.2.1, C0.2.2.1, C0.2.2.2.1, C0.2.2.2.2.1⟩ (hM l r1 M1 hoc) (cwV (R := rm h) n C0.2.2.2.2.1 (ws_app hw (ws_in hcode)) rfl rfl rfl hd ⟨hh, by show 8 + (maxL + 11) + 40 * h2 ≤ 40 * h; omega⟩) (PV.preV hc hci hsh C0.2.2.2.2.2.1 hP) rfl hn hL.1 rfl (lv_room hst) hdg ⟨Nat.le_refl _, Nat.le_refl _⟩) hS (fun H1 locs1 hR hS1 => k r1 M1 r M' ho H1 locs1 ls hL hR hS1)
theorem V_callNi (C0 : Cx X G cc nL own ret) {y : MethodName} {bytes : ByteArray} {maxL n index h2 : Nat} {ret2 : Option FieldType} {av : List Value} {oc : Option (Int32 × Mem)} {kf : Int32 → Mem → Option (ρ × Mem)} {C host : String} {T : u_T} {N ci a : Nat} (hM : ∀ l r M1, oc = some (r, M1) → MC l G y bytes maxL ret2 h2 (.ref (G.2 + a) :: av) M (vI r) M1) (hc : vwCl[ci]? = some (C, T, N)) (hci : ci < 10) (hsh : sh a = (ci, N)) (hw : Cond.methodLinkNest own index y host ∈ NWL) (hi : Cond.instanceMethod y ∈ TBLG) (hs : Cond.selects C y y ∈ TBLG) (hini : Cond.initialized y.cls ∈ TBLG) (hd : y.cls ≠ "java/lang/invoke/MethodHandle" ∧ y.cls ≠ "java/lang/invoke/VarHandle" ∧ (parseMethodDescriptor y.desc).map (fun d => d.parameters.length) = some n) (hcode : Cond.code y bytes maxL ret2 ∈ TBLG) (hn : av.length = n) (hh : h2 < h) (hm : maxL ≤ 21) (hst : (st.map fun v => v.category).sum ≤ 8) (hdg : decode cc pc = .ok (.invokevirtual index, 3)) (k : ∀ r M1, V X G h val nL (pc + 3) lv (.int r :: st) M1 (kf r M1)) : V X G h val nL pc lv (av.reverse ++ .ref (G.2 + a) :: st) M (bd oc kf) := by
  cases hoc : oc with
  | none => exact V_none
  | some q =>
    obtain ⟨r1, M1⟩ := q
    obtain ⟨p, l, e, s, m, args, below, meth, c⟩ := X
    intro r M' ho H locs ls hL hP hS
    exact V_run (va_runVN (As := av) (rest := st) (C := C) ⟨C0.1, C0.2.1, C0.2.2.1, C0.2.2.2.1, C0.2.2.2.2.1⟩ (hM l r1 M1 hoc) ⟨va_cnB (R := rm h) n C0.2.2.2.2.1 (ws_in hcode) rfl rfl rfl (C0.2.2.2.2.2.1.2 _ hw) (C0.2.2.2.2.1 _ hini) hd ⟨hh, by show 8 + (maxL + 11) + 40 * h2 ≤ 40 * h; omega⟩, C0.2.2.2.2.1 _ hi, C0.2.2.2.2.1 _ hs⟩ (PV.preV hc hci hsh C0.2.2.2.2.2.1 hP) rfl hn hL.1 rfl (lv_room hst) hdg ⟨Nat.le_refl _, Nat.le_refl _⟩) hS (fun H1 locs1 hR hS1 => k r1 M1 r M' ho H1 locs1 ls hL hR hS1)
theorem V_callSi (C0 : Cx X G cc nL own ret) {y : MethodName} {bytes : ByteArray} {maxL n index h2 : Nat} {ret2 : Option FieldType} {av : List Value} {oc : Option (Int32 × Mem)} {kf : Int32 → Mem → Option (ρ × Mem)} (hM : ∀ l r M1, oc = some (r, M1) → MC l G y bytes maxL ret2 h2 av M (vI r) M1) (hw : ∀ w ∈ ([.methodLink own index y, .static y, .initialized own] : List Cond), w ∈ TBLG) (hd : y.cls = own ∧ y.cls ≠ "java/lang/invoke/MethodHandle" ∧ y.cls ≠ "java/lang/invoke/VarHandle" ∧ (parseMethodDescriptor y.desc).map (fun d => d.parameters.length) = some n) (hcode : Cond.code y bytes maxL ret2 ∈ TBLG) (hn : av.length = n) (hh : h2 < h) (hm : maxL ≤ 21) (hst : (st.map fun v => v.category).sum ≤ 8) (hdg : decode cc pc = .ok (.invokestatic index, 3)) (k : ∀ r M1, V X G h val nL (pc + 3) lv (.int r :: st) M1 (kf r M1)) : V X G h val nL pc lv (av.reverse ++ st) M (bd oc kf) := by
  cases hoc : oc with
  | none => exact V_none
  | some q =>
    obtain ⟨r1, M1⟩ := q
    obtain ⟨p, l, e, s, m, args, below, meth, c⟩ := X
    intro r M' ho H locs ls hL hP hS
    exact V_run (va_runS (As := av) (rest := st) ⟨C0.1, C0.2.1, C0.2.2.1, C0.2.2.2.1, C0.2.2.2.2.1⟩ (hM l r1 M1 hoc) (cwS (R := rm h) n C0.2.2.2.2.1 (ws_app hw (ws_in hcode)) rfl rfl rfl hd ⟨hh, by show 8 + (maxL + 11) + 40 * h2 ≤ 40 * h; omega⟩) (PV.pre C0.2.2.2.2.2.1 hP) rfl hn hL.1 rfl (lv_room hst) hdg ⟨Nat.le_refl _, Nat.le_refl _⟩) hS (fun H1 locs1 hR hS1 => k r1 M1 r M' ho H1 locs1 ls hL hR hS1)
theorem V_callTi (C0 : Cx X G cc nL own ret) {y : MethodName} {bytes : ByteArray} {maxL n index h2 : Nat} {ret2 : Option FieldType} {av : List Value} {oc : Option (Int32 × Mem)} {kf : Int32 → Mem → Option (ρ × Mem)} {host : String} (hM : ∀ l r M1, oc = some (r, M1) → MC l G y bytes maxL ret2 h2 av M (vI r) M1) (hw : Cond.methodLinkNest own index y host ∈ NWL) (hs : Cond.static y ∈ TBLG) (hini : Cond.initialized y.cls ∈ TBLG) (hd : y.cls ≠ "java/lang/invoke/MethodHandle" ∧ y.cls ≠ "java/lang/invoke/VarHandle" ∧ (parseMethodDescriptor y.desc).map (fun d => d.parameters.length) = some n) (hcode : Cond.code y bytes maxL ret2 ∈ TBLG) (hn : av.length = n) (hh : h2 < h) (hm : maxL ≤ 21) (hst : (st.map fun v => v.category).sum ≤ 8) (hdg : decode cc pc = .ok (.invokestatic index, 3)) (k : ∀ r M1, V X G h val nL (pc + 3) lv (.int r :: st) M1 (kf r M1)) : V X G h val nL pc lv (av.reverse ++ st) M (bd oc kf) := by
  cases hoc : oc with
  | none => exact V_none
  | some q =>
    obtain ⟨r1, M1⟩ := q
    obtain ⟨p, l, e, s, m, args, below, meth, c⟩ := X
    intro r M' ho H locs ls hL hP hS
    exact V_run (va_runSN (As := av) (rest := st) ⟨C0.1, C0.2.1, C0.2.2.1, C0.2.2.2.1, C0.2.2.2.2.1⟩ (hM l r1 M1 hoc) ⟨va_cnB (R := rm h) n C0.2.2.2.2.1 (ws_in hcode) rfl rfl rfl (C0.2.2.2.2.2.1.2 _ hw) (C0.2.2.2.2.1 _ hini) hd ⟨hh, by show 8 + (maxL + 11) + 40 * h2 ≤ 40 * h; omega⟩, C0.2.2.2.2.1 _ hs, trivial⟩ (PV.pre C0.2.2.2.2.2.1 hP) rfl hn hL.1 rfl (lv_room hst) hdg ⟨Nat.le_refl _, Nat.le_refl _⟩) hS (fun H1 locs1 hR hS1 => k r1 M1 r M' ho H1 locs1 ls hL hR hS1)
theorem V_callVv (C0 : Cx X G cc nL own ret) {y : MethodName} {bytes : ByteArray} {maxL n index h2 : Nat} {ret2 : Option FieldType} {av : List Value} {oc : Option (Unit × Mem)} {kf : Unit → Mem → Option (ρ × Mem)} {C : String} {T : u_T} {N ci a : Nat} (hM : ∀ l r M1, oc = some (r, M1) → MC l G y bytes maxL ret2 h2 (.ref (G.2 + a) :: av) M (vU r) M1) (hc : vwCl[ci]? = some (C, T, N)) (hci : ci < 10) (hsh : sh a = (ci, N)) (hw : ∀ w ∈ ([.methodLink own index y, .instanceMethod y, .selects C y y, .initialized C] : List Cond), w ∈ TBLG) (hd : y.cls = C ∧ y.cls ≠ "java/lang/invoke/MethodHandle" ∧ y.cls ≠ "java/lang/invoke/VarHandle" ∧ (parseMethodDescriptor y.desc).map (fun d => d.parameters.length) = some n) (hcode : Cond.code y bytes maxL ret2 ∈ TBLG) (hn : av.length = n) (hh : h2 < h) (hm : maxL ≤ 21) (hst : (st.map fun v => v.category).sum ≤ 8) (hdg : decode cc pc = .ok (.invokevirtual index, 3)) (k : ∀ r M1, V X G h val nL (pc + 3) lv st M1 (kf r M1)) : V X G h val nL pc lv (av.reverse ++ .ref (G.2 + a) :: st) M (bd oc kf) := by
  cases hoc : oc with
  | none => exact V_none
  | some q =>
    obtain ⟨r1, M1⟩ := q
    obtain ⟨p, l, e, s, m, args, below, meth, c⟩ := X
    intro r M' ho H locs ls hL hP hS
    exact V_run (va_runV (As := av) (rest := st) (C := C) ⟨C0.1, C0.2.1, C0.2.2.1, C0.2.2.2.1, C0.2.2.2.2.1⟩ (hM l r1 M1 hoc) (cwV (R := rm h) n C0.2.2.2.2.1 (ws_app hw (ws_in hcode)) rfl rfl rfl hd ⟨hh, by show 8 + (maxL + 11) + 40 * h2 ≤ 40 * h; omega⟩) (PV.preV hc hci hsh C0.2.2.2.2.2.1 hP) rfl hn hL.1 rfl (lv_room hst) hdg ⟨Nat.le_refl _, Nat.le_refl _⟩) hS (fun H1 locs1 hR hS1 => k r1 M1 r M' ho H1 locs1 ls hL hR hS1)
theorem V_callNv (C0 : Cx X G cc nL own ret) {y : MethodName} {bytes : ByteArray} {maxL n index h2 : Nat} {ret2 : Option FieldType} {av : List Value} {oc : Option (Unit × Mem)} {kf : Unit → Mem → Option (ρ × Mem)} {C host : String} {T : u_T} {N ci a : Nat} (hM : ∀ l r M1, oc = some (r, M1) → MC l G y bytes maxL ret2 h2 (.ref (G.2 + a) :: av) M (vU r) M1) (hc : vwCl[ci]? = some (C, T, N)) (hci : ci < 10) (hsh : sh a = (ci, N)) (hw : Cond.methodLinkNest own index y host ∈ NWL) (hi : Cond.instanceMethod y ∈ TBLG) (hs : Cond.selects C y y ∈ TBLG) (hini : Cond.initialized y.cls ∈ TBLG) (hd : y.cls ≠ "java/lang/invoke/MethodHandle" ∧ y.cls ≠ "java/lang/invoke/VarHandle" ∧ (parseMethodDescriptor y.desc).map (fun d => d.parameters.length) = some n) (hcode : Cond.code y bytes maxL ret2 ∈ TBLG) (hn : av.length = n) (hh : h2 < h) (hm : maxL ≤ 21) (hst : (st.map fun v => v.category).sum ≤ 8) (hdg : decode cc pc = .ok (.invokevirtual index, 3)) (k : ∀ r M1, V X G h val nL (pc + 3) lv st M1 (kf r M1)) : V X G h val nL pc lv (av.reverse ++ .ref (G.2 + a) :: st) M (bd oc kf) := by
  cases hoc : oc with
  | none => exact V_none
  | some q =>
    obtain ⟨r1, M1⟩ := q
    obtain ⟨p, l, e, s, m, args, below, meth, c⟩ := X
    intro r M' ho H locs ls hL hP hS
    exact V_run (va_runVN (As := av) (rest := st) (C := C) ⟨C0.1, C0.2.1, C0.2.2.1, C0.2.2.2.1, C0.2.2.2.2.1⟩ (hM l r1 M1 hoc) ⟨va_cnB (R := rm h) n C0.2.2.2.2.1 (ws_in hcode) rfl rfl rfl (C0.2.2.2.2.2.1.2 _ hw) (C0.2.2.2.2.1 _ hini) hd ⟨hh, by show 8 + (maxL + 11) + 40 * h2 ≤ 40 * h; omega⟩, C0.2.2.2.2.1 _ hi, C0.2.2.2.2.1 _ hs⟩ (PV.preV hc hci hsh C0.2.2.2.2.2.1 hP) rfl hn hL.1 rfl (lv_room hst) hdg ⟨Nat.le_refl _, Nat.le_refl _⟩) hS (fun H1 locs1 hR hS1 => k r1 M1 r M' ho H1 locs1 ls hL hR hS1)
theorem V_callSv (C0 : Cx X G cc nL own ret) {y : MethodName} {bytes : ByteArray} {maxL n index h2 : Nat} {ret2 : Option FieldType} {av : List Value} {oc : Option (Unit × Mem)} {kf : Unit → Mem → Option (ρ × Mem)} (hM : ∀ l r M1, oc = some (r, M1) → MC l G y bytes maxL ret2 h2 av M (vU r) M1) (hw : ∀ w ∈ ([.methodLink own index y, .static y, .initialized own] : List Cond), w ∈ TBLG) (hd : y.cls = own ∧ y.cls ≠ "java/lang/invoke/MethodHandle" ∧ y.cls ≠ "java/lang/invoke/VarHandle" ∧ (parseMethodDescriptor y.desc).map (fun d => d.parameters.length) = some n) (hcode : Cond.code y bytes maxL ret2 ∈ TBLG) (hn : av.length = n) (hh : h2 < h) (hm : maxL ≤ 21) (hst : (st.map fun v => v.category).sum ≤ 8) (hdg : decode cc pc = .ok (.invokestatic index, 3)) (k : ∀ r M1, V X G h val nL (pc + 3) lv st M1 (kf r M1)) : V X G h val nL pc lv (av.reverse ++ st) M (bd oc kf) := by
  cases hoc : oc with
  | none => exact V_none
  | some q =>
    obtain ⟨r1, M1⟩ := q
    obtain ⟨p, l, e, s, m, args, below, meth, c⟩ := X
    intro r M' ho H locs ls hL hP hS
    exact V_run (va_runS (As := av) (rest := st) ⟨C0.1, C0.2.1, C0.2.2.1, C0.2.2.2.1, C0.2.2.2.2.1⟩ (hM l r1 M1 hoc) (cwS (R := rm h) n C0.2.2.2.2.1 (ws_app hw (ws_in hcode)) rfl rfl rfl hd ⟨hh, by show 8 + (maxL + 11) + 40 * h2 ≤ 40 * h; omega⟩) (PV.pre C0.2.2.2.2.2.1 hP) rfl hn hL.1 rfl (lv_room hst) hdg ⟨Nat.le_refl _, Nat.le_refl _⟩) hS (fun H1 locs1 hR hS1 => k r1 M1 r M' ho H1 locs1 ls hL hR hS1)
theorem V_callTv (C0 : Cx X G cc nL own ret) {y : MethodName} {bytes : ByteArray} {maxL n index h2 : Nat} {ret2 : Option FieldType} {av : List Value} {oc : Option (Unit × Mem)} {kf : Unit → Mem → Option (ρ × Mem)} {host : String} (hM : ∀ l r M1, oc = some (r, M1) → MC l G y bytes maxL ret2 h2 av M (vU r) M1) (hw : Cond.methodLinkNest own index y host ∈ NWL) (hs : Cond.static y ∈ TBLG) (hini : Cond.initialized y.cls ∈ TBLG) (hd : y.cls ≠ "java/lang/invoke/MethodHandle" ∧ y.cls ≠ "java/lang/invoke/VarHandle" ∧ (parseMethodDescriptor y.desc).map (fun d => d.parameters.length) = some n) (hcode : Cond.code y bytes maxL ret2 ∈ TBLG) (hn : av.length = n) (hh : h2 < h) (hm : maxL ≤ 21) (hst : (st.map fun v => v.category).sum ≤ 8) (hdg : decode cc pc = .ok (.invokestatic index, 3)) (k : ∀ r M1, V X G h val nL (pc + 3) lv st M1 (kf r M1)) : V X G h val nL pc lv (av.reverse ++ st) M (bd oc kf) := by
  cases hoc : oc with
  | none => exact V_none
  | some q =>
    obtain ⟨r1, M1⟩ := q
    obtain ⟨p, l, e, s, m, args, below, meth, c⟩ := X
    intro r M' ho H locs ls hL hP hS
    exact V_run (va_runSN (As := av) (rest := st) ⟨C0.1, C0.2.1, C0.2.2.1, C0.2.2.2.1, C0.2.2.2.2.1⟩ (hM l r1 M1 hoc) ⟨va_cnB (R := rm h) n C0.2.2.2.2.1 (ws_in hcode) rfl rfl rfl (C0.2.2.2.2.2.1.2 _ hw) (C0.2.2.2.2.1 _ hini) hd ⟨hh, by show 8 + (maxL + 11) + 40 * h2 ≤ 40 * h; omega⟩, C0.2.2.2.2.1 _ hs, trivial⟩ (PV.pre C0.2.2.2.2.2.1 hP) rfl hn hL.1 rfl (lv_room hst) hdg ⟨Nat.le_refl _, Nat.le_refl _⟩) hS (fun H1 locs1 hR hS1 => k r1 M1 r M' ho H1 locs1 ls hL hR hS1)
end VC
end
section
/-! the law's own methods: rows of ints are made while it runs; the judgement U, by which a walk follows a function of the memory -/
/-- height, cells and slots at the entry, cells and slots at the end, room -/
abbrev ZT : Type := Nat × Nat × Nat × Nat × Nat × Jvm.Room
def CxL (X : XT) (G : GT) (Z : ZT) (cc : ByteArray) (nL : Nat) (ret : Option FieldType) : Prop :=
  match X with
  | (p, _, _, s, m, args, _, meth, c) => p.tables.exec = Jvm.exec ∧ c.code = cc ∧ c.maxLocals = nL ∧ s.vm.findClass RL = some m.cls ∧ (∀ w ∈ TBLG, w.before args s = true) ∧ Kx G s ∧ meth.sig.returnType = ret ∧ meth.locks = false ∧ s.heap.size = G.2 + Z.2.1 ∧ (Z.2.2.2.2.2.cells = Z.2.2.2.1 - Z.2.1 ∧ Z.2.2.2.2.2.slots = Z.2.2.2.2.1 - Z.2.2.1) ∧ Z.1 ≤ Z.2.2.2.2.2.frames ∧ 60 * Z.1 ≤ Z.2.2.2.2.2.locals
def U (X : XT) (G : GT) (Z : ZT) (cc : ByteArray) (ret : Option FieldType) {ρ : Type} (Q : ρ → Mem → State → Prop) (nL pc : Nat) (lv : List (Nat × Value)) (st : List Value) (M : Mem) (o : Option (ρ × Mem)) : Prop :=
  match X with
  | (p, l, e, s, m, args, below, meth, c) => ∀ (r : ρ) (M' : Mem), o = some (r, M') → (M.2 5 ≤ M'.2 5 ∧ M.2 6 ≤ M'.2 6) ∧ (CxL (p, l, e, s, m, args, below, meth, c) G Z cc nL ret → ∀ (H : Heap) (locs : List Loc) (ls : Array Slot), lv_has ls nL lv → Rep G M H → va_S (fun q => G.2 ≤ q) s.heap H locs → (Z.2.1 ≤ M.2 5 ∧ Z.2.2.1 ≤ M.2 6 ∧ M'.2 5 ≤ Z.2.2.2.1 ∧ M'.2 6 ≤ Z.2.2.2.2.1) →
    W p l e Z.2.2.2.2.2 s m args below meth c H locs (M.2 5 - Z.2.1) (M.2 6 - Z.2.2.1) (Q r M') (F0 m pc ls st))
def rmL (h mc ms : Nat) : Jvm.Room := { frames := h, cells := mc, slots := ms, locals := 60 * h }
def PVL (G : GT) (av : List Value) (M : Mem) : Array Value → State → Prop := va_Pc av (fun U => Kx G U ∧ U.heap.size = G.2 + M.2 5 ∧ Rep G M U.heap)
theorem PVL.blind {G : GT} {av : List Value} {M : Mem} : FrameBlind (PVL G av M) := fun _ _ _ _ q => ⟨q.1, q.2.1.call, q.2.2⟩
/-- a contract of the law: from the memory M, with these arguments, the method returns v and leaves the memory M' -/
def MCL (l : Launch) (G : GT) (y : MethodName) (cc : ByteArray) (maxL : Nat) (ret : Option FieldType) (h : Nat) (av : List Value) (M : Mem) (v : Option Value) (M' : Mem) : Prop :=
  Met l y (WS y cc maxL ret) (rmL h (M'.2 5 - M.2 5) (M'.2 6 - M.2 6)) (PVL G av M) (QV G v M') (M'.2 5 - M.2 5) (M'.2 6 - M.2 6) (fun q => G.2 ≤ q)
/-- how a method of the law ends -/
def QM (X : XT) (G : GT) (Z : ZT) {ρ : Type} (val : ρ → Option Value) (r : ρ) (M' : Mem) : State → Prop :=
  match X with
  | (_, _, _, s, _, args, below, _, _) => MQ below (QV G (val r) M') args s (M'.2 5 - Z.2.1) (M'.2 6 - Z.2.2.1) (fun q => G.2 ≤ q)
/-- words of the pure functions of the law -/
def lx (M : Mem) (a : Nat) (i : Int32) : Bool := decide (208 ≤ a) && (decide (a < M.2 5) && inb i (M.2 (10 + a)))
def nz (x : Int32) : Bool := !(decide (x = 0))
def bN {α : Type} (M : Mem) (n : Int32) (f : Nat → Mem → Option α) : Option α := if n < 0 then none else if 1000 < ix n then none else f (M.2 5) (mnew M (ix n))
def bk {α β : Type} (M : Mem) (o : Option (α × Mem)) (k : α → Mem → Option β) : Option β := match o with | some q => (if q.2.2 5 = M.2 5 ∧ q.2.2 6 = M.2 6 then k q.1 q.2 else none) | none => none
theorem MCL.ofU {l : Launch} {G : GT} {y : MethodName} {cc : ByteArray} {maxL : Nat} {ret : Option FieldType} {h : Nat} {av : List Value} {M M' : Mem} {ρ : Type} {val : ρ → Option Value} {r : ρ} {o : Option (ρ × Mem)} {lv : List (Nat × Value)} (hy : plainName y.cls = true) (hown : y.cls = RL) (hlv : lv_args 0 av = lv) (hlen : (lg_sl av).length ≤ maxL) (ho : o = some (r, M'))
    (body : ∀ (X : XT) (Z : ZT), Z.1 = h → U X G Z cc ret (QM X G Z val) maxL 0 lv [] M o) : MCL l G y cc maxL ret h av M (val r) M' := by
  refine Met.ofW (cc := cc) (maxL := maxL) (ret := ret) (ws' := TBLG) hy rfl ?_
  intro p e s m args below meth c s₁ B hml hv
  obtain ⟨rfl, hK, hz, hR⟩ := hv
  have hx := B.exec
  have hb := B.bytes
  have hr := B.returns
  have hts := atoms_spec (ws := WS y cc maxL ret) B.pre
  have hw : s.vm.findClass RL = some m.cls := hown ▸ findClass_of_methodNamed B.named
  have hlocks := B.notSynchronized
  have hl := lv_entry av (n := maxL) hlen
  rw [lg_entry_eq]
  rw [hlv] at hl
  have hB := (body (p, l, e, s, m, av.toArray, below, meth, c) (h, M.2 5, M.2 6, M'.2 5, M'.2 6, rmL h (M'.2 5 - M.2 5) (M'.2 6 - M.2 6)) rfl r M' ho).2 ⟨hx, hb, hml, hw, fun w h => hts w (List.mem_cons_of_mem _ h), hK, hr, hlocks, hz, ⟨rfl, rfl⟩, Nat.le_refl _, Nat.le_refl _⟩ s.heap [] _ hl hR va_S.rf ⟨Nat.le_refl _, Nat.le_refl _, Nat.le_refl _, Nat.le_refl _⟩
  simp only [Nat.sub_self] at hB
  exact hB
section UR
variable {X : XT} {G : GT} {Z : ZT} {ρ : Type} {Q : ρ → Mem → State → Prop} {val : ρ → Option Value} {nL pc : Nat} {lv : List (Nat × Value)} {st : List Value} {M : Mem} {o o1 o2 : Option (ρ × Mem)} {cc : ByteArray} {ret : Option FieldType}
theorem U_none : U X G Z cc ret Q nL pc lv st M none := by
  obtain ⟨p, l, e, s, m, args, below, meth, c⟩ := X
  intro r M' ho
  cases ho
theorem U_sub {lv' : List (Nat × Value)} (ks : List Nat) (hl : lv_pick lv ks = lv') (k : U X G Z cc ret Q nL pc lv' st M o) : U X G Z cc ret Q nL pc lv st M o := by
  obtain ⟨p, l, e, s, m, args, below, meth, c⟩ := X
  intro r M' ho
  exact ⟨(k r M' ho).1, fun C0 H locs ls hL hP hS hN => (k r M' ho).2 C0 H locs ls (lv_sub hL ks hl) hP hS hN⟩
theorem U_gd {b : Bool} (k : b = true → U X G Z cc ret Q nL pc lv st M o) : U X G Z cc ret Q nL pc lv st M (gd b o) := by
  cases b with
  | false => exact U_none
  | true => exact k rfl
theorem U_bi {x : Int32} {f : Int32 → Option (ρ × Mem)} (k : ∀ y : Int32, U X G Z cc ret Q nL pc lv (.int y :: st) M (f y)) : U X G Z cc ret Q nL pc lv (.int x :: st) M (bi x f) := k x
theorem U_bl {x : Int64} {f : Int64 → Option (ρ × Mem)} (k : ∀ y : Int64, U X G Z cc ret Q nL pc lv (.long y :: st) M (f y)) : U X G Z cc ret Q nL pc lv (.long x :: st) M (bl x f) := k x
theorem U_bn {x : Nat} {f : Nat → Option (ρ × Mem)} (k : ∀ y : Nat, U X G Z cc ret Q nL pc lv (.ref (G.2 + y) :: st) M (f y)) : U X G Z cc ret Q nL pc lv (.ref (G.2 + x) :: st) M (bn x f) := k x
theorem U_iconst {v : Int32} {n : Int} (hdg : decode cc pc = .ok (.iconst n, 1)) (hv : Int32.ofInt n = v) (k : U X G Z cc ret Q nL (pc + 1) lv (.int v :: st) M o) : U X G Z cc ret Q nL pc lv st M o := by
  obtain ⟨p, l, e, s, m, args, below, meth, c⟩ := X
  intro r M' ho
  refine ⟨(k r M' ho).1, fun C0 H locs ls hL hP hS hN => ?_⟩
  exact lv_iconst C0.1 C0.2.1 hdg hv ((k r M' ho).2 C0 H locs ls hL hP hS hN)
theorem U_bipush {v : Int32} {n : Int} (hdg : decode cc pc = .ok (.bipush n, 2)) (hv : (Int8.ofInt n).toInt32 = v) (k : U X G Z cc ret Q nL (pc + 2) lv (.int v :: st) M o) : U X G Z cc ret Q nL pc lv st M o := by
  obtain ⟨p, l, e, s, m, args, below, meth, c⟩ := X
  intro r M' ho
  refine ⟨(k r M' ho).1, fun C0 H locs ls hL hP hS hN => ?_⟩
  exact lv_bipush C0.1 C0.2.1 hdg hv ((k r M' ho).2 C0 H locs ls hL hP hS hN)
theorem U_sipush {v : Int32} {n : Int} (hdg : decode cc pc = .ok (.sipush n, 3)) (hv : (Int16.ofInt n).toInt32 = v) (k : U X G Z cc ret Q nL (pc + 3) lv (.int v :: st) M o) : U X G Z cc ret Q nL pc lv st M o := by
  obtain ⟨p, l, e, s, m, args, below, meth, c⟩ := X
  intro r M' ho
  refine ⟨(k r M' ho).1, fun C0 H locs ls hL hP hS hN => ?_⟩
  exact lv_sipush C0.1 C0.2.1 hdg hv ((k r M' ho).2 C0 H locs ls hL hP hS hN)
theorem U_ldc {v : Int32} {index : Nat} (hw : Cond.constant RL index v ∈ TBLG) (hdg : decode cc pc = .ok (.ldc index, 2)) (k : U X G Z cc ret Q nL (pc + 2) lv (.int v :: st) M o) : U X G Z cc ret Q nL pc lv st M o := by
  obtain ⟨p, l, e, s, m, args, below, meth, c⟩ := X
  intro r M' ho
  refine ⟨(k r M' ho).1, fun C0 H locs ls hL hP hS hN => ?_⟩
  exact lv_ldc C0.1 C0.2.1 C0.2.2.2.1 (C0.2.2.2.2.1 _ hw) hdg ((k r M' ho).2 C0 H locs ls hL hP hS hN)
theorem U_ldc2 {v : Int64} {index : Nat} (hw : Cond.constantLong RL index v ∈ TBLG) (hdg : decode cc pc = .ok (.ldc2_w index, 3)) (k : U X G Z cc ret Q nL (pc + 3) lv (.long v :: st) M o) : U X G Z cc ret Q nL pc lv st M o := by
  obtain ⟨p, l, e, s, m, args, below, meth, c⟩ := X
  intro r M' ho
  refine ⟨(k r M' ho).1, fun C0 H locs ls hL hP hS hN => ?_⟩
  exact lv_ldc2 C0.1 C0.2.1 C0.2.2.2.1 (C0.2.2.2.2.1 _ hw) hdg ((k r M' ho).2 C0 H locs ls hL hP hS hN)
theorem U_iload_n {kk : Fin 4} {x : Int32} (i : Nat) (hi : (kk : Nat) = i) (q : Nat) (hq : lv[q]? = some (i, .int x)) (hdg : decode cc pc = .ok (.iload_n kk, 1)) (k : U X G Z cc ret Q nL (pc + 1) lv (.int x :: st) M o) : U X G Z cc ret Q nL pc lv st M o := by
  obtain ⟨p, l, e, s, m, args, below, meth, c⟩ := X
  intro r M' ho
  refine ⟨(k r M' ho).1, fun C0 H locs ls hL hP hS hN => ?_⟩
  exact lv_iload_n C0.1 C0.2.1 hdg hi (lv_at hL q hq) ((k r M' ho).2 C0 H locs ls hL hP hS hN)
theorem U_iload {x : Int32} (i : Nat) (q : Nat) (hq : lv[q]? = some (i, .int x)) (hdg : decode cc pc = .ok (.iload i, 2)) (k : U X G Z cc ret Q nL (pc + 2) lv (.int x :: st) M o) : U X G Z cc ret Q nL pc lv st M o := by
  obtain ⟨p, l, e, s, m, args, below, meth, c⟩ := X
  intro r M' ho
  refine ⟨(k r M' ho).1, fun C0 H locs ls hL hP hS hN => ?_⟩
  exact lv_iload C0.1 C0.2.1 hdg (lv_at hL q hq) ((k r M' ho).2 C0 H locs ls hL hP hS hN)
theorem U_lload_n {kk : Fin 4} {x : Int64} (i : Nat) (hi : (kk : Nat) = i) (q : Nat) (hq : lv[q]? = some (i, .long x)) (hdg : decode cc pc = .ok (.lload_n kk, 1)) (k : U X G Z cc ret Q nL (pc + 1) lv (.long x :: st) M o) : U X G Z cc ret Q nL pc lv st M o := by
  obtain ⟨p, l, e, s, m, args, below, meth, c⟩ := X
  intro r M' ho
  refine ⟨(k r M' ho).1, fun C0 H locs ls hL hP hS hN => ?_⟩
  exact lv_lload_n C0.1 C0.2.1 hdg hi (lv_at hL q hq) ((k r M' ho).2 C0 H locs ls hL hP hS hN)
theorem U_lload {x : Int64} (i : Nat) (q : Nat) (hq : lv[q]? = some (i, .long x)) (hdg : decode cc pc = .ok (.lload i, 2)) (k : U X G Z cc ret Q nL (pc + 2) lv (.long x :: st) M o) : U X G Z cc ret Q nL pc lv st M o := by
  obtain ⟨p, l, e, s, m, args, below, meth, c⟩ := X
  intro r M' ho
  refine ⟨(k r M' ho).1, fun C0 H locs ls hL hP hS hN => ?_⟩
  exact lv_lload C0.1 C0.2.1 hdg (lv_at hL q hq) ((k r M' ho).2 C0 H locs ls hL hP hS hN)
theorem U_aload_n {kk : Fin 4} {x : Nat} (i : Nat) (hi : (kk : Nat) = i) (q : Nat) (hq : lv[q]? = some (i, .ref x)) (hdg : decode cc pc = .ok (.aload_n kk, 1)) (k : U X G Z cc ret Q nL (pc + 1) lv (.ref x :: st) M o) : U X G Z cc ret Q nL pc lv st M o := by
  obtain ⟨p, l, e, s, m, args, below, meth, c⟩ := X
  intro r M' ho
  refine ⟨(k r M' ho).1, fun C0 H locs ls hL hP hS hN => ?_⟩
  exact lv_aload_n C0.1 C0.2.1 hdg hi (lv_at hL q hq) ((k r M' ho).2 C0 H locs ls hL hP hS hN)
theorem U_aload {x : Nat} (i : Nat) (q : Nat) (hq : lv[q]? = some (i, .ref x)) (hdg : decode cc pc = .ok (.aload i, 2)) (k : U X G Z cc ret Q nL (pc + 2) lv (.ref x :: st) M o) : U X G Z cc ret Q nL pc lv st M o := by
  obtain ⟨p, l, e, s, m, args, below, meth, c⟩ := X
  intro r M' ho
  refine ⟨(k r M' ho).1, fun C0 H locs ls hL hP hS hN => ?_⟩
  exact lv_aload C0.1 C0.2.1 hdg (lv_at hL q hq) ((k r M' ho).2 C0 H locs ls hL hP hS hN)
theorem U_istore_n {kk : Fin 4} {x : Int32} (i : Nat) (lv' : List (Nat × Value)) (hi : (kk : Nat) = i) (hn : i < nL) (hl : (i, Value.int x) :: lv.filter (fun q => !(q.1 == i) && !(q.1 + 1 == i && q.2.category == 2)) = lv') (hdg : decode cc pc = .ok (.istore_n kk, 1)) (k : U X G Z cc ret Q nL (pc + 1) lv' st M o) : U X G Z cc ret Q nL pc lv (.int x :: st) M o := by
  obtain ⟨p, l, e, s, m, args, below, meth, c⟩ := X
  intro r M' ho
  refine ⟨(k r M' ho).1, fun C0 H locs ls hL hP hS hN => ?_⟩
  exact lv_istore_n C0.1 C0.2.1 hdg hi hL hn hl (fun ls' hL' => (k r M' ho).2 C0 H locs ls' hL' hP hS hN)
theorem U_istore {x : Int32} (i : Nat) (lv' : List (Nat × Value)) (hn : i < nL) (hl : (i, Value.int x) :: lv.filter (fun q => !(q.1 == i) && !(q.1 + 1 == i && q.2.category == 2)) = lv') (hdg : decode cc pc = .ok (.istore i, 2)) (k : U X G Z cc ret Q nL (pc + 2) lv' st M o) : U X G Z cc ret Q nL pc lv (.int x :: st) M o := by
  obtain ⟨p, l, e, s, m, args, below, meth, c⟩ := X
  intro r M' ho
  refine ⟨(k r M' ho).1, fun C0 H locs ls hL hP hS hN => ?_⟩
  exact lv_istore C0.1 C0.2.1 hdg hL hn hl (fun ls' hL' => (k r M' ho).2 C0 H locs ls' hL' hP hS hN)
theorem U_lstore_n {kk : Fin 4} {x : Int64} (i : Nat) (lv' : List (Nat × Value)) (hi : (kk : Nat) = i) (hn : i + 1 < nL) (hl : (i, Value.long x) :: lv.filter (fun q => !(q.1 == i) && (!(q.1 == i + 1) && !(q.1 + 1 == i && q.2.category == 2))) = lv') (hdg : decode cc pc = .ok (.lstore_n kk, 1)) (k : U X G Z cc ret Q nL (pc + 1) lv' st M o) : U X G Z cc ret Q nL pc lv (.long x :: st) M o := by
  obtain ⟨p, l, e, s, m, args, below, meth, c⟩ := X
  intro r M' ho
  refine ⟨(k r M' ho).1, fun C0 H locs ls hL hP hS hN => ?_⟩
  exact lv_lstore_n C0.1 C0.2.1 hdg hi hL hn hl (fun ls' hL' => (k r M' ho).2 C0 H locs ls' hL' hP hS hN)
theorem U_lstore {x : Int64} (i : Nat) (lv' : List (Nat × Value)) (hn : i + 1 < nL) (hl : (i, Value.long x) :: lv.filter (fun q => !(q.1 == i) && (!(q.1 == i + 1) && !(q.1 + 1 == i && q.2.category == 2))) = lv') (hdg : decode cc pc = .ok (.lstore i, 2)) (k : U X G Z cc ret Q nL (pc + 2) lv' st M o) : U X G Z cc ret Q nL pc lv (.long x :: st) M o := by
  obtain ⟨p, l, e, s, m, args, below, meth, c⟩ := X
  intro r M' ho
  refine ⟨(k r M' ho).1, fun C0 H locs ls hL hP hS hN => ?_⟩
  exact lv_lstore C0.1 C0.2.1 hdg hL hn hl (fun ls' hL' => (k r M' ho).2 C0 H locs ls' hL' hP hS hN)
theorem U_astore_n {kk : Fin 4} {x : Nat} (i : Nat) (lv' : List (Nat × Value)) (hi : (kk : Nat) = i) (hn : i < nL) (hl : (i, Value.ref x) :: lv.filter (fun q => !(q.1 == i) && !(q.1 + 1 == i && q.2.category == 2)) = lv') (hdg : decode cc pc = .ok (.astore_n kk, 1)) (k : U X G Z cc ret Q nL (pc + 1) lv' st M o) : U X G Z cc ret Q nL pc lv (.ref x :: st) M o := by
  obtain ⟨p, l, e, s, m, args, below, meth, c⟩ := X
  intro r M' ho
  refine ⟨(k r M' ho).1, fun C0 H locs ls hL hP hS hN => ?_⟩
  exact lv_astore_n C0.1 C0.2.1 hdg hi hL hn hl (fun ls' hL' => (k r M' ho).2 C0 H locs ls' hL' hP hS hN)
theorem U_astore {x : Nat} (i : Nat) (lv' : List (Nat × Value)) (hn : i < nL) (hl : (i, Value.ref x) :: lv.filter (fun q => !(q.1 == i) && !(q.1 + 1 == i && q.2.category == 2)) = lv') (hdg : decode cc pc = .ok (.astore i, 2)) (k : U X G Z cc ret Q nL (pc + 2) lv' st M o) : U X G Z cc ret Q nL pc lv (.ref x :: st) M o := by
  obtain ⟨p, l, e, s, m, args, below, meth, c⟩ := X
  intro r M' ho
  refine ⟨(k r M' ho).1, fun C0 H locs ls hL hP hS hN => ?_⟩
  exact lv_astore C0.1 C0.2.1 hdg hL hn hl (fun ls' hL' => (k r M' ho).2 C0 H locs ls' hL' hP hS hN)
theorem U_iinc {n : Int} {x y : Int32} (i q : Nat) (lv' : List (Nat × Value)) (hq : lv[q]? = some (i, .int x)) (hv : Int32.ofInt n = y) (hn : i < nL) (hl : (i, Value.int (x + y)) :: lv.filter (fun q => !(q.1 == i) && !(q.1 + 1 == i && q.2.category == 2)) = lv') (hdg : decode cc pc = .ok (.iinc i n, 3)) (k : U X G Z cc ret Q nL (pc + 3) lv' st M o) : U X G Z cc ret Q nL pc lv st M o := by
  subst hv
  obtain ⟨p, l, e, s, m, args, below, meth, c⟩ := X
  intro r M' ho
  refine ⟨(k r M' ho).1, fun C0 H locs ls hL hP hS hN => ?_⟩
  exact lv_iinc C0.1 C0.2.1 hdg hL hq rfl hn hl (fun ls' hL' => (k r M' ho).2 C0 H locs ls' hL' hP hS hN)
theorem U_iincB {n : Int} {x y : Int32} {f : Int32 → Option (ρ × Mem)} (i q : Nat) (lv' : Int32 → List (Nat × Value)) (hq : lv[q]? = some (i, .int x)) (hv : Int32.ofInt n = y) (hn : i < nL) (hl : ∀ z : Int32, (i, Value.int z) :: lv.filter (fun q => !(q.1 == i) && !(q.1 + 1 == i && q.2.category == 2)) = lv' z) (hdg : decode cc pc = .ok (.iinc i n, 3)) (k : ∀ z : Int32, U X G Z cc ret Q nL (pc + 3) (lv' z) st M (f z)) : U X G Z cc ret Q nL pc lv st M (bi (x + y) f) :=
  U_iinc i q (lv' (x + y)) hq hv hn (hl _) hdg (k (x + y))
theorem U_iadd {x y : Int32} (hdg : decode cc pc = .ok (.iadd, 1)) (k : U X G Z cc ret Q nL (pc + 1) lv (.int (x + y) :: st) M o) : U X G Z cc ret Q nL pc lv (.int y :: .int x :: st) M o := by
  obtain ⟨p, l, e, s, m, args, below, meth, c⟩ := X
  intro r M' ho
  refine ⟨(k r M' ho).1, fun C0 H locs ls hL hP hS hN => ?_⟩
  exact lv_iadd C0.1 C0.2.1 hdg ((k r M' ho).2 C0 H locs ls hL hP hS hN)
theorem U_isub {x y : Int32} (hdg : decode cc pc = .ok (.isub, 1)) (k : U X G Z cc ret Q nL (pc + 1) lv (.int (x - y) :: st) M o) : U X G Z cc ret Q nL pc lv (.int y :: .int x :: st) M o := by
  obtain ⟨p, l, e, s, m, args, below, meth, c⟩ := X
  intro r M' ho
  refine ⟨(k r M' ho).1, fun C0 H locs ls hL hP hS hN => ?_⟩
  exact lv_isub C0.1 C0.2.1 hdg ((k r M' ho).2 C0 H locs ls hL hP hS hN)
theorem U_imul {x y : Int32} (hdg : decode cc pc = .ok (.imul, 1)) (k : U X G Z cc ret Q nL (pc + 1) lv (.int (x * y) :: st) M o) : U X G Z cc ret Q nL pc lv (.int y :: .int x :: st) M o := by
  obtain ⟨p, l, e, s, m, args, below, meth, c⟩ := X
  intro r M' ho
  refine ⟨(k r M' ho).1, fun C0 H locs ls hL hP hS hN => ?_⟩
  exact lv_imul C0.1 C0.2.1 hdg ((k r M' ho).2 C0 H locs ls hL hP hS hN)
theorem U_iand {x y : Int32} (hdg : decode cc pc = .ok (.iand, 1)) (k : U X G Z cc ret Q nL (pc + 1) lv (.int (x &&& y) :: st) M o) : U X G Z cc ret Q nL pc lv (.int y :: .int x :: st) M o := by
  obtain ⟨p, l, e, s, m, args, below, meth, c⟩ := X
  intro r M' ho
  refine ⟨(k r M' ho).1, fun C0 H locs ls hL hP hS hN => ?_⟩
  exact lv_iand C0.1 C0.2.1 hdg ((k r M' ho).2 C0 H locs ls hL hP hS hN)
theorem U_ixor {x y : Int32} (hdg : decode cc pc = .ok (.ixor, 1)) (k : U X G Z cc ret Q nL (pc + 1) lv (.int (x ^^^ y) :: st) M o) : U X G Z cc ret Q nL pc lv (.int y :: .int x :: st) M o := by
  obtain ⟨p, l, e, s, m, args, below, meth, c⟩ := X
  intro r M' ho
  refine ⟨(k r M' ho).1, fun C0 H locs ls hL hP hS hN => ?_⟩
  exact lv_ixor C0.1 C0.2.1 hdg ((k r M' ho).2 C0 H locs ls hL hP hS hN)
theorem U_ishl {x y : Int32} (hdg : decode cc pc = .ok (.ishl, 1)) (k : U X G Z cc ret Q nL (pc + 1) lv (.int (x <<< (y &&& 31)) :: st) M o) : U X G Z cc ret Q nL pc lv (.int y :: .int x :: st) M o := by
  obtain ⟨p, l, e, s, m, args, below, meth, c⟩ := X
  intro r M' ho
  refine ⟨(k r M' ho).1, fun C0 H locs ls hL hP hS hN => ?_⟩
  exact lv_ishl C0.1 C0.2.1 hdg ((k r M' ho).2 C0 H locs ls hL hP hS hN)
theorem U_ishr {x y : Int32} (hdg : decode cc pc = .ok (.ishr, 1)) (k : U X G Z cc ret Q nL (pc + 1) lv (.int (x >>> (y &&& 31)) :: st) M o) : U X G Z cc ret Q nL pc lv (.int y :: .int x :: st) M o := by
  obtain ⟨p, l, e, s, m, args, below, meth, c⟩ := X
  intro r M' ho
  refine ⟨(k r M' ho).1, fun C0 H locs ls hL hP hS hN => ?_⟩
  exact lv_ishr C0.1 C0.2.1 hdg ((k r M' ho).2 C0 H locs ls hL hP hS hN)
theorem U_lmul {x y : Int64} (hdg : decode cc pc = .ok (.lmul, 1)) (k : U X G Z cc ret Q nL (pc + 1) lv (.long (x * y) :: st) M o) : U X G Z cc ret Q nL pc lv (.long y :: .long x :: st) M o := by
  obtain ⟨p, l, e, s, m, args, below, meth, c⟩ := X
  intro r M' ho
  refine ⟨(k r M' ho).1, fun C0 H locs ls hL hP hS hN => ?_⟩
  exact lv_lmul C0.1 C0.2.1 hdg ((k r M' ho).2 C0 H locs ls hL hP hS hN)
theorem U_ineg {x : Int32} (hdg : decode cc pc = .ok (.ineg, 1)) (k : U X G Z cc ret Q nL (pc + 1) lv (.int (-x) :: st) M o) : U X G Z cc ret Q nL pc lv (.int x :: st) M o := by
  obtain ⟨p, l, e, s, m, args, below, meth, c⟩ := X
  intro r M' ho
  refine ⟨(k r M' ho).1, fun C0 H locs ls hL hP hS hN => ?_⟩
  exact lv_ineg C0.1 C0.2.1 hdg ((k r M' ho).2 C0 H locs ls hL hP hS hN)
theorem U_idiv {x y : Int32} (hne : ¬ y = 0) (hdg : decode cc pc = .ok (.idiv, 1)) (k : U X G Z cc ret Q nL (pc + 1) lv (.int (x / y) :: st) M o) : U X G Z cc ret Q nL pc lv (.int y :: .int x :: st) M o := by
  obtain ⟨p, l, e, s, m, args, below, meth, c⟩ := X
  intro r M' ho
  refine ⟨(k r M' ho).1, fun C0 H locs ls hL hP hS hN => ?_⟩
  exact lv_idiv C0.1 C0.2.1 hdg hne ((k r M' ho).2 C0 H locs ls hL hP hS hN)
theorem U_irem {x y : Int32} (hne : ¬ y = 0) (hdg : decode cc pc = .ok (.irem, 1)) (k : U X G Z cc ret Q nL (pc + 1) lv (.int (x - x / y * y) :: st) M o) : U X G Z cc ret Q nL pc lv (.int y :: .int x :: st) M o := by
  obtain ⟨p, l, e, s, m, args, below, meth, c⟩ := X
  intro r M' ho
  refine ⟨(k r M' ho).1, fun C0 H locs ls hL hP hS hN => ?_⟩
  exact lv_irem C0.1 C0.2.1 hdg hne ((k r M' ho).2 C0 H locs ls hL hP hS hN)
theorem U_i2l {x : Int32} (hdg : decode cc pc = .ok (.i2l, 1)) (k : U X G Z cc ret Q nL (pc + 1) lv (.long x.toInt64 :: st) M o) : U X G Z cc ret Q nL pc lv (.int x :: st) M o := by
  obtain ⟨p, l, e, s, m, args, below, meth, c⟩ := X
  intro r M' ho
  refine ⟨(k r M' ho).1, fun C0 H locs ls hL hP hS hN => ?_⟩
  exact lv_i2l C0.1 C0.2.1 hdg rfl ((k r M' ho).2 C0 H locs ls hL hP hS hN)
theorem U_l2i {x : Int64} (hdg : decode cc pc = .ok (.l2i, 1)) (k : U X G Z cc ret Q nL (pc + 1) lv (.int x.toInt32 :: st) M o) : U X G Z cc ret Q nL pc lv (.long x :: st) M o := by
  obtain ⟨p, l, e, s, m, args, below, meth, c⟩ := X
  intro r M' ho
  refine ⟨(k r M' ho).1, fun C0 H locs ls hL hP hS hN => ?_⟩
  exact lv_l2i C0.1 C0.2.1 hdg rfl ((k r M' ho).2 C0 H locs ls hL hP hS hN)
theorem U_lcmp {x y : Int64} (hdg : decode cc pc = .ok (.lcmp, 1)) (k : U X G Z cc ret Q nL (pc + 1) lv (.int (lg_cmp x y) :: st) M o) : U X G Z cc ret Q nL pc lv (.long y :: .long x :: st) M o := by
  obtain ⟨p, l, e, s, m, args, below, meth, c⟩ := X
  intro r M' ho
  refine ⟨(k r M' ho).1, fun C0 H locs ls hL hP hS hN => ?_⟩
  exact W.lcmp C0.1 C0.2.1 hdg ((k r M' ho).2 C0 H locs ls hL hP hS hN)
theorem U_dup {va : Value} (hva : va.category = 1) (hdg : decode cc pc = .ok (.dup, 1)) (k : U X G Z cc ret Q nL (pc + 1) lv (va :: va :: st) M o) : U X G Z cc ret Q nL pc lv (va :: st) M o := by
  obtain ⟨p, l, e, s, m, args, below, meth, c⟩ := X
  intro r M' ho
  refine ⟨(k r M' ho).1, fun C0 H locs ls hL hP hS hN => ?_⟩
  exact lv_dup C0.1 C0.2.1 hdg hva ((k r M' ho).2 C0 H locs ls hL hP hS hN)
theorem U_dup2 {va vb : Value} (hva : va.category = 1) (hvb : vb.category = 1) (hdg : decode cc pc = .ok (.dup2, 1)) (k : U X G Z cc ret Q nL (pc + 1) lv (va :: vb :: va :: vb :: st) M o) : U X G Z cc ret Q nL pc lv (va :: vb :: st) M o := by
  obtain ⟨p, l, e, s, m, args, below, meth, c⟩ := X
  intro r M' ho
  refine ⟨(k r M' ho).1, fun C0 H locs ls hL hP hS hN => ?_⟩
  exact lv_dup2_11 C0.1 C0.2.1 hdg hva hvb ((k r M' ho).2 C0 H locs ls hL hP hS hN)
theorem U_pop {va : Value} (hva : va.category = 1) (hdg : decode cc pc = .ok (.pop, 1)) (k : U X G Z cc ret Q nL (pc + 1) lv st M o) : U X G Z cc ret Q nL pc lv (va :: st) M o := by
  obtain ⟨p, l, e, s, m, args, below, meth, c⟩ := X
  intro r M' ho
  refine ⟨(k r M' ho).1, fun C0 H locs ls hL hP hS hN => ?_⟩
  exact lv_pop C0.1 C0.2.1 hdg hva ((k r M' ho).2 C0 H locs ls hL hP hS hN)
theorem U_goto {off : Int} (tgt : Nat) (hdg : decode cc pc = .ok (.goto off, 3)) (ht : (pc : Int) + off = (tgt : Int)) (k : U X G Z cc ret Q nL tgt lv st M o) : U X G Z cc ret Q nL pc lv st M o := by
  obtain ⟨p, l, e, s, m, args, below, meth, c⟩ := X
  intro r M' ho
  refine ⟨(k r M' ho).1, fun C0 H locs ls hL hP hS hN => ?_⟩
  exact lv_goto C0.1 C0.2.1 hdg ht ((k r M' ho).2 C0 H locs ls hL hP hS hN)
theorem U_ifeq {x : Int32} {off : Int} (tgt : Nat) (hdg : decode cc pc = .ok (.ifCond .eq off, 3)) (ht : (pc : Int) + off = (tgt : Int)) (k1 : x = 0 → U X G Z cc ret Q nL tgt lv st M o1) (k2 : ¬ x = 0 → U X G Z cc ret Q nL (pc + 3) lv st M o2) : U X G Z cc ret Q nL pc lv (.int x :: st) M (if x = 0 then o1 else o2) := by
  obtain ⟨p, l, e, s, m, args, below, meth, c⟩ := X
  intro r M' ho
  refine ⟨by
    by_cases q : x = 0
    · exact (k1 q r M' (by rw [if_pos q] at ho; exact ho)).1
    · exact (k2 q r M' (by rw [if_neg q] at ho; exact ho)).1, fun C0 H locs ls hL hP hS hN => ?_⟩
  exact lv_if_eq C0.1 C0.2.1 hdg ht (fun q => (k1 q r M' (by rw [if_pos q] at ho; exact ho)).2 C0 H locs ls hL hP hS hN) (fun q => (k2 q r M' (by rw [if_neg q] at ho; exact ho)).2 C0 H locs ls hL hP hS hN)
theorem U_ifne {x : Int32} {off : Int} (tgt : Nat) (hdg : decode cc pc = .ok (.ifCond .ne off, 3)) (ht : (pc : Int) + off = (tgt : Int)) (k1 : ¬ x = 0 → U X G Z cc ret Q nL tgt lv st M o1) (k2 : x = 0 → U X G Z cc ret Q nL (pc + 3) lv st M o2) : U X G Z cc ret Q nL pc lv (.int x :: st) M (if x = 0 then o2 else o1) := by
  obtain ⟨p, l, e, s, m, args, below, meth, c⟩ := X
  intro r M' ho
  refine ⟨by
    by_cases q : x = 0
    · exact (k2 q r M' (by rw [if_pos q] at ho; exact ho)).1
    · exact (k1 q r M' (by rw [if_neg q] at ho; exact ho)).1, fun C0 H locs ls hL hP hS hN => ?_⟩
  exact lv_if_ne C0.1 C0.2.1 hdg ht (fun q => (k1 q r M' (by rw [if_neg q] at ho; exact ho)).2 C0 H locs ls hL hP hS hN) (fun q => (k2 q r M' (by rw [if_pos q] at ho; exact ho)).2 C0 H locs ls hL hP hS hN)
theorem U_iflt {x : Int32} {off : Int} (tgt : Nat) (hdg : decode cc pc = .ok (.ifCond .lt off, 3)) (ht : (pc : Int) + off = (tgt : Int)) (k1 : x < 0 → U X G Z cc ret Q nL tgt lv st M o1) (k2 : ¬ x < 0 → U X G Z cc ret Q nL (pc + 3) lv st M o2) : U X G Z cc ret Q nL pc lv (.int x :: st) M (if x < 0 then o1 else o2) := by
  obtain ⟨p, l, e, s, m, args, below, meth, c⟩ := X
  intro r M' ho
  refine ⟨by
    by_cases q : x < 0
    · exact (k1 q r M' (by rw [if_pos q] at ho; exact ho)).1
    · exact (k2 q r M' (by rw [if_neg q] at ho; exact ho)).1, fun C0 H locs ls hL hP hS hN => ?_⟩
  exact lv_if_lt C0.1 C0.2.1 hdg ht (fun q => (k1 q r M' (by rw [if_pos q] at ho; exact ho)).2 C0 H locs ls hL hP hS hN) (fun q => (k2 q r M' (by rw [if_neg q] at ho; exact ho)).2 C0 H locs ls hL hP hS hN)
theorem U_ifge {x : Int32} {off : Int} (tgt : Nat) (hdg : decode cc pc = .ok (.ifCond .ge off, 3)) (ht : (pc : Int) + off = (tgt : Int)) (k1 : 0 ≤ x → U X G Z cc ret Q nL tgt lv st M o1) (k2 : ¬ 0 ≤ x → U X G Z cc ret Q nL (pc + 3) lv st M o2) : U X G Z cc ret Q nL pc lv (.int x :: st) M (if 0 ≤ x then o1 else o2) := by
  obtain ⟨p, l, e, s, m, args, below, meth, c⟩ := X
  intro r M' ho
  refine ⟨by
    by_cases q : 0 ≤ x
    · exact (k1 q r M' (by rw [if_pos q] at ho; exact ho)).1
    · exact (k2 q r M' (by rw [if_neg q] at ho; exact ho)).1, fun C0 H locs ls hL hP hS hN => ?_⟩
  exact lv_if_ge C0.1 C0.2.1 hdg ht (fun q => (k1 q r M' (by rw [if_pos q] at ho; exact ho)).2 C0 H locs ls hL hP hS hN) (fun q => (k2 q r M' (by rw [if_neg q] at ho; exact ho)).2 C0 H locs ls hL hP hS hN)
theorem U_ifgt {x : Int32} {off : Int} (tgt : Nat) (hdg : decode cc pc = .ok (.ifCond .gt off, 3)) (ht : (pc : Int) + off = (tgt : Int)) (k1 : 0 < x → U X G Z cc ret Q nL tgt lv st M o1) (k2 : ¬ 0 < x → U X G Z cc ret Q nL (pc + 3) lv st M o2) : U X G Z cc ret Q nL pc lv (.int x :: st) M (if 0 < x then o1 else o2) := by
  obtain ⟨p, l, e, s, m, args, below, meth, c⟩ := X
  intro r M' ho
  refine ⟨by
    by_cases q : 0 < x
    · exact (k1 q r M' (by rw [if_pos q] at ho; exact ho)).1
    · exact (k2 q r M' (by rw [if_neg q] at ho; exact ho)).1, fun C0 H locs ls hL hP hS hN => ?_⟩
  exact lv_if_gt C0.1 C0.2.1 hdg ht (fun q => (k1 q r M' (by rw [if_pos q] at ho; exact ho)).2 C0 H locs ls hL hP hS hN) (fun q => (k2 q r M' (by rw [if_neg q] at ho; exact ho)).2 C0 H locs ls hL hP hS hN)
theorem U_ifle {x : Int32} {off : Int} (tgt : Nat) (hdg : decode cc pc = .ok (.ifCond .le off, 3)) (ht : (pc : Int) + off = (tgt : Int)) (k1 : x ≤ 0 → U X G Z cc ret Q nL tgt lv st M o1) (k2 : ¬ x ≤ 0 → U X G Z cc ret Q nL (pc + 3) lv st M o2) : U X G Z cc ret Q nL pc lv (.int x :: st) M (if x ≤ 0 then o1 else o2) := by
  obtain ⟨p, l, e, s, m, args, below, meth, c⟩ := X
  intro r M' ho
  refine ⟨by
    by_cases q : x ≤ 0
    · exact (k1 q r M' (by rw [if_pos q] at ho; exact ho)).1
    · exact (k2 q r M' (by rw [if_neg q] at ho; exact ho)).1, fun C0 H locs ls hL hP hS hN => ?_⟩
  exact lv_if_le C0.1 C0.2.1 hdg ht (fun q => (k1 q r M' (by rw [if_pos q] at ho; exact ho)).2 C0 H locs ls hL hP hS hN) (fun q => (k2 q r M' (by rw [if_neg q] at ho; exact ho)).2 C0 H locs ls hL hP hS hN)
theorem U_icmpeq {x y : Int32} {off : Int} (tgt : Nat) (hdg : decode cc pc = .ok (.if_icmp .eq off, 3)) (ht : (pc : Int) + off = (tgt : Int)) (k1 : x = y → U X G Z cc ret Q nL tgt lv st M o1) (k2 : ¬ x = y → U X G Z cc ret Q nL (pc + 3) lv st M o2) : U X G Z cc ret Q nL pc lv (.int y :: .int x :: st) M (if x = y then o1 else o2) := by
  obtain ⟨p, l, e, s, m, args, below, meth, c⟩ := X
  intro r M' ho
  refine ⟨by
    by_cases q : x = y
    · exact (k1 q r M' (by rw [if_pos q] at ho; exact ho)).1
    · exact (k2 q r M' (by rw [if_neg q] at ho; exact ho)).1, fun C0 H locs ls hL hP hS hN => ?_⟩
  exact lv_icmp_eq C0.1 C0.2.1 hdg ht (fun q => (k1 q r M' (by rw [if_pos q] at ho; exact ho)).2 C0 H locs ls hL hP hS hN) (fun q => (k2 q r M' (by rw [if_neg q] at ho; exact ho)).2 C0 H locs ls hL hP hS hN)
theorem U_icmpne {x y : Int32} {off : Int} (tgt : Nat) (hdg : decode cc pc = .ok (.if_icmp .ne off, 3)) (ht : (pc : Int) + off = (tgt : Int)) (k1 : ¬ x = y → U X G Z cc ret Q nL tgt lv st M o1) (k2 : x = y → U X G Z cc ret Q nL (pc + 3) lv st M o2) : U X G Z cc ret Q nL pc lv (.int y :: .int x :: st) M (if x = y then o2 else o1) := by
  obtain ⟨p, l, e, s, m, args, below, meth, c⟩ := X
  intro r M' ho
  refine ⟨by
    by_cases q : x = y
    · exact (k2 q r M' (by rw [if_pos q] at ho; exact ho)).1
    · exact (k1 q r M' (by rw [if_neg q] at ho; exact ho)).1, fun C0 H locs ls hL hP hS hN => ?_⟩
  exact lv_icmp_ne C0.1 C0.2.1 hdg ht (fun q => (k1 q r M' (by rw [if_neg q] at ho; exact ho)).2 C0 H locs ls hL hP hS hN) (fun q => (k2 q r M' (by rw [if_pos q] at ho; exact ho)).2 C0 H locs ls hL hP hS hN)
theorem U_icmplt {x y : Int32} {off : Int} (tgt : Nat) (hdg : decode cc pc = .ok (.if_icmp .lt off, 3)) (ht : (pc : Int) + off = (tgt : Int)) (k1 : x < y → U X G Z cc ret Q nL tgt lv st M o1) (k2 : ¬ x < y → U X G Z cc ret Q nL (pc + 3) lv st M o2) : U X G Z cc ret Q nL pc lv (.int y :: .int x :: st) M (if x < y then o1 else o2) := by
  obtain ⟨p, l, e, s, m, args, below, meth, c⟩ := X
  intro r M' ho
  refine ⟨by
    by_cases q : x < y
    · exact (k1 q r M' (by rw [if_pos q] at ho; exact ho)).1
    · exact (k2 q r M' (by rw [if_neg q] at ho; exact ho)).1, fun C0 H locs ls hL hP hS hN => ?_⟩
  exact lv_icmp_lt C0.1 C0.2.1 hdg ht (fun q => (k1 q r M' (by rw [if_pos q] at ho; exact ho)).2 C0 H locs ls hL hP hS hN) (fun q => (k2 q r M' (by rw [if_neg q] at ho; exact ho)).2 C0 H locs ls hL hP hS hN)
theorem U_icmpge {x y : Int32} {off : Int} (tgt : Nat) (hdg : decode cc pc = .ok (.if_icmp .ge off, 3)) (ht : (pc : Int) + off = (tgt : Int)) (k1 : y ≤ x → U X G Z cc ret Q nL tgt lv st M o1) (k2 : ¬ y ≤ x → U X G Z cc ret Q nL (pc + 3) lv st M o2) : U X G Z cc ret Q nL pc lv (.int y :: .int x :: st) M (if y ≤ x then o1 else o2) := by
  obtain ⟨p, l, e, s, m, args, below, meth, c⟩ := X
  intro r M' ho
  refine ⟨by
    by_cases q : y ≤ x
    · exact (k1 q r M' (by rw [if_pos q] at ho; exact ho)).1
    · exact (k2 q r M' (by rw [if_neg q] at ho; exact ho)).1, fun C0 H locs ls hL hP hS hN => ?_⟩
  exact lv_icmp_ge C0.1 C0.2.1 hdg ht (fun q => (k1 q r M' (by rw [if_pos q] at ho; exact ho)).2 C0 H locs ls hL hP hS hN) (fun q => (k2 q r M' (by rw [if_neg q] at ho; exact ho)).2 C0 H locs ls hL hP hS hN)
theorem U_icmpgt {x y : Int32} {off : Int} (tgt : Nat) (hdg : decode cc pc = .ok (.if_icmp .gt off, 3)) (ht : (pc : Int) + off = (tgt : Int)) (k1 : y < x → U X G Z cc ret Q nL tgt lv st M o1) (k2 : ¬ y < x → U X G Z cc ret Q nL (pc + 3) lv st M o2) : U X G Z cc ret Q nL pc lv (.int y :: .int x :: st) M (if y < x then o1 else o2) := by
  obtain ⟨p, l, e, s, m, args, below, meth, c⟩ := X
  intro r M' ho
  refine ⟨by
    by_cases q : y < x
    · exact (k1 q r M' (by rw [if_pos q] at ho; exact ho)).1
    · exact (k2 q r M' (by rw [if_neg q] at ho; exact ho)).1, fun C0 H locs ls hL hP hS hN => ?_⟩
  exact lv_icmp_gt C0.1 C0.2.1 hdg ht (fun q => (k1 q r M' (by rw [if_pos q] at ho; exact ho)).2 C0 H locs ls hL hP hS hN) (fun q => (k2 q r M' (by rw [if_neg q] at ho; exact ho)).2 C0 H locs ls hL hP hS hN)
theorem U_icmple {x y : Int32} {off : Int} (tgt : Nat) (hdg : decode cc pc = .ok (.if_icmp .le off, 3)) (ht : (pc : Int) + off = (tgt : Int)) (k1 : x ≤ y → U X G Z cc ret Q nL tgt lv st M o1) (k2 : ¬ x ≤ y → U X G Z cc ret Q nL (pc + 3) lv st M o2) : U X G Z cc ret Q nL pc lv (.int y :: .int x :: st) M (if x ≤ y then o1 else o2) := by
  obtain ⟨p, l, e, s, m, args, below, meth, c⟩ := X
  intro r M' ho
  refine ⟨by
    by_cases q : x ≤ y
    · exact (k1 q r M' (by rw [if_pos q] at ho; exact ho)).1
    · exact (k2 q r M' (by rw [if_neg q] at ho; exact ho)).1, fun C0 H locs ls hL hP hS hN => ?_⟩
  exact lv_icmp_le C0.1 C0.2.1 hdg ht (fun q => (k1 q r M' (by rw [if_pos q] at ho; exact ho)).2 C0 H locs ls hL hP hS hN) (fun q => (k2 q r M' (by rw [if_neg q] at ho; exact ho)).2 C0 H locs ls hL hP hS hN)
theorem nz_ne {x : Int32} (h : nz x = true) : ¬ x = 0 := by simpa [nz] using h
theorem U_iald {a : Nat} {i : Int32} (hdg : decode cc pc = .ok (.iaload, 1)) (k : U X G Z cc ret Q nL (pc + 1) lv (.int (M.1 a (ix i)) :: st) M o) : U X G Z cc ret Q nL pc lv (.int i :: .ref (G.2 + a) :: st) M (gd (lx M a i) o) := by
  refine U_gd fun hi => ?_
  simp only [lx, Bool.and_eq_true, decide_eq_true_eq] at hi
  obtain ⟨p, l, e, s, m, args, below, meth, c⟩ := X
  intro r M' ho
  refine ⟨(k r M' ho).1, fun C0 H locs ls hL hP hS hN => ?_⟩
  exact va_iald C0.1 C0.2.1 C0.2.2.2.2.2.1.1 hP.1 a 0 (by rw [cells_at hi.2.1, ent_x hi.1]) rfl (inb_vp hi.2.2) hdg ((k r M' ho).2 C0 H locs ls hL hP hS hN)
theorem U_iast {a : Nat} {i x : Int32} {f : Mem → Option (ρ × Mem)} (hdg : decode cc pc = .ok (.iastore, 1)) (k : ∀ M1, U X G Z cc ret Q nL (pc + 1) lv st M1 (f M1)) : U X G Z cc ret Q nL pc lv (.int x :: .int i :: .ref (G.2 + a) :: st) M (gd (lx M a i) (bm (mset M a (ix i) x) f)) := by
  refine U_gd fun hi => ?_
  simp only [lx, Bool.and_eq_true, decide_eq_true_eq] at hi
  obtain ⟨p, l, e, s, m, args, below, meth, c⟩ := X
  intro r M' ho
  refine ⟨(k _ r M' ho).1, fun C0 H locs ls hL hP hS hN => ?_⟩
  exact va_iast C0.1 C0.2.1 C0.2.2.2.2.2.1.1 hP.1 cells_D hS a 0 (by rw [cells_at hi.2.1, ent_x hi.1]) rfl (inb_vp hi.2.2) hdg (fun H1 locs1 hP1 _ hS1 => (k _ r M' ho).2 C0 H1 locs1 ls hL ⟨by rw [cells_x hi.1 hi.2.1] at hP1; exact hP1, hP.2⟩ hS1 hN)
end UR
section US
variable {p : Program} {l : Launch} {e : Env} {R : Jvm.Room} {s : State} {m : MethodId} {args : Array Value} {below : List Frame} {meth : Method} {c : Code} {H : Heap} {locs : List Loc} {cells slots : Nat} {Q : State → Prop} {G : GT} {M : Mem}
/-- how many cells there are -/
theorem U_sz {g : JFrame} {n0 : Nat} (h0 : s.heap.size = G.2 + n0) (hc : cells = M.2 5 - n0) (hn : n0 ≤ M.2 5) (hP : Rep G M H) (k : H.size = G.2 + M.2 5 → W p l e R s m args below meth c H locs cells slots Q g) : W p l e R s m args below meth c H locs cells slots Q g := by
  intro T hT X
  have h1 := X.heapSize
  have h2 : G.2 + (M.2 5 - 1) < H.size := (hP.1 (M.2 5 - 1) _ (cells_at (by have := hP.2.2; omega))).lt
  rw [hT] at h1
  have := hP.2.2
  exact k (by omega) T hT X
end US
section UC
variable {X : XT} {G : GT} {Z : ZT} {ρ : Type} {Q : ρ → Mem → State → Prop} {val : ρ → Option Value} {nL pc : Nat} {lv : List (Nat × Value)} {st : List Value} {M : Mem} {o o1 o2 : Option (ρ × Mem)} {cc : ByteArray} {ret : Option FieldType}
theorem U_newa (harr : Cond.arrayClass .int ∈ TBLG) {n : Int32} {f : Nat → Mem → Option (ρ × Mem)} (hdg : decode cc pc = .ok (.newarray .int, 2)) (k : ∀ a M1, U X G Z cc ret Q nL (pc + 2) lv (.ref (G.2 + a) :: st) M1 (f a M1)) : U X G Z cc ret Q nL pc lv (.int n :: st) M (bN M n f) := by
  unfold bN
  by_cases h1 : n < 0
  · rw [if_pos h1]; exact U_none
  rw [if_neg h1]
  by_cases h2 : 1000 < ix n
  · rw [if_pos h2]; exact U_none
  rw [if_neg h2]
  obtain ⟨p, l, e, s, m, args, below, meth, c⟩ := X
  intro r M' ho
  have hk := (k _ _ r M' ho).1
  rw [mnew_5, mnew_6] at hk
  refine ⟨⟨by omega, by omega⟩, fun C0 H locs ls hL hP hS hN => ?_⟩
  refine U_sz C0.2.2.2.2.2.2.2.2.1 rfl hN.1 hP fun hz => ?_
  have hK := (C0.2.2.2.2.2.1.1.2 0 _ rfl).2
  have hR := C0.2.2.2.2.2.2.2.2.2.1
  refine va_newaK C0.1 C0.2.1 (atype := .int) (C0.2.2.2.2.1 _ harr) rfl hdg rfl h1 rfl (by show ix n * 4 ≤ _; omega) (by rw [hR.1]; omega) (by rw [hR.2]; show M.2 6 - Z.2.2.1 + ix n ≤ _; omega) hz fun H1 cA e1 z1 o1 _ hNm => ?_
  have hcA : cA = G.1.2 0 := Option.some.inj (hNm.symm.trans hK)
  subst hcA
  have hW := (k _ _ r M' ho).2 C0 H1 locs ls hL ⟨?_, fun i hi => by rw [mnew_lt hi]; exact hP.2.1 i hi, by rw [mnew_5]; have := hP.2.2; omega⟩ ⟨by rw [z1, ← hz]; exact Nat.le_succ_of_le hS.1, fun x h1 h2 => (o1 x (by rw [← hz]; exact Nat.lt_of_lt_of_le h1 hS.1)).trans (hS.2.1 x h1 h2), hS.2.2⟩ ⟨by rw [mnew_5]; omega, by rw [mnew_6]; omega, hN.2.2⟩
  · rw [mnew_5, mnew_6, show M.2 5 + 1 - Z.2.1 = M.2 5 - Z.2.1 + 1 by omega, show M.2 6 + ix n - Z.2.2.1 = M.2 6 - Z.2.2.1 + ix n by omega] at hW
    exact hW
  · rw [cells_new hP.2.2]
    refine va_P.app (va_P.kept hP.1 fun k x hx => o1 x.1 (by rw [← hz]; exact (hP.1 k x hx).lt)) fun k x hx => ?_
    have hk : k < 1 := (List.getElem?_eq_some_iff.mp hx).1
    rw [show k = 0 by omega] at hx
    cases hx
    exact e1
theorem PVL.pre {s : State} {H : Heap} {av : List Value} (hK : Kx G s) (hz : H.size = G.2 + M.2 5) (hR : Rep G M H) : PreS s H (PVL G av M) av := ⟨PVL.blind, fun U hU hW => ⟨rfl, hK.warm hW, by rw [hU]; exact hz, by rw [hU]; exact hR⟩⟩
/-- a method of the class -/
theorem U_callC {y : MethodName} {bytes : ByteArray} {maxL n index h2 : Nat} {av : List Value} {oc : Option (Int32 × Mem)} {kf : Int32 → Mem → Option (ρ × Mem)} (hM : ∀ l r M1, oc = some (r, M1) → MC l G y bytes maxL (some .int) h2 (.ref (G.2 + 0) :: av) M (vI r) M1) (hw : ∀ w ∈ ([.methodLink RL index y, .instanceMethod y, .selects RX6 y y, .initialized RX6] : List Cond), w ∈ TBLG) (hd : y.cls = RX6 ∧ y.cls ≠ "java/lang/invoke/MethodHandle" ∧ y.cls ≠ "java/lang/invoke/VarHandle" ∧ (parseMethodDescriptor y.desc).map (fun d => d.parameters.length) = some n) (hcode : Cond.code y bytes maxL (some .int) ∈ TBLG) (hsh : sh 0 = (6, 7)) (hn : av.length = n) (hh : h2 < Z.1) (hm : maxL ≤ 21) (hst : (st.map fun v => v.category).sum ≤ 8) (hdg : decode cc pc = .ok (.invokevirtual index, 3)) (k : ∀ r M1, U X G Z cc ret Q nL (pc + 3) lv (.int r :: st) M1 (kf r M1)) : U X G Z cc ret Q nL pc lv (av.reverse ++ .ref (G.2 + 0) :: st) M (bk M oc kf) := by
  cases hoc : oc with
  | none => exact U_none
  | some q =>
    obtain ⟨r1, M1⟩ := q
    show U X G Z cc ret Q nL pc lv (av.reverse ++ .ref (G.2 + 0) :: st) M (if M1.2 5 = M.2 5 ∧ M1.2 6 = M.2 6 then kf r1 M1 else none)
    by_cases hq : M1.2 5 = M.2 5 ∧ M1.2 6 = M.2 6
    · rw [if_pos hq]
      obtain ⟨p, l, e, s, m, args, below, meth, c⟩ := X
      intro r M' ho
      have hk := k r1 M1 r M' ho
      rw [hq.1, hq.2] at hk
      refine ⟨hk.1, fun C0 H locs ls hL hP hS hN => ?_⟩
      obtain ⟨hx, hb, hml, hown, hts, hK, hr, hlk, hsz, hR, hfr, hlo⟩ := C0
      exact V_run (va_runV (As := av) (rest := st) (C := RX6) ⟨hx, hb, hml, hown, hts⟩ (hM l r1 M1 hoc) (cwV (R := Z.2.2.2.2.2) n hts (ws_app hw (ws_in hcode)) rfl rfl rfl hd ⟨by show h2 + 1 ≤ _; omega, by show 8 + (maxL + 11) + 40 * h2 ≤ _; omega⟩) (PV.preV (ci := 6) rfl (by omega) hsh hK hP) rfl hn hL.1 rfl (lv_room hst) hdg ⟨by rw [hR.1]; omega, by rw [hR.2]; omega⟩) hS (fun H1 locs1 hR1 hS1 => hk.2 ⟨hx, hb, hml, hown, hts, hK, hr, hlk, hsz, hR, hfr, hlo⟩ H1 locs1 ls hL hR1 hS1 hN)
    · rw [if_neg hq]
      exact U_none
theorem U_back {p : Program} {l : Launch} {e : Env} {R : Jvm.Room} {s : State} {m : MethodId} {args : Array Value} {below : List Frame} {meth : Method} {c : Code} {H : Heap} {locs : List Loc} {cells slots mc ms : Nat} {Q : State → Prop} {ls : Array Slot} {st0 rest : List Value} {a : Array Value} {v : Option Value} {M1 : Mem} (hr : va_Run p l e R s m args below meth c H locs cells slots mc ms (F0 m pc ls st0) rest (QV G v M1 a) (fun q => G.2 ≤ q)) (hS : va_S (fun q => G.2 ≤ q) s.heap H locs)
    (kk : ∀ (H1 : Heap) (locs1 : List Loc), Rep G M1 H1 → va_S (fun q => G.2 ≤ q) s.heap H1 locs1 → W p l e R s m args below meth c H1 locs1 (cells + mc) (slots + ms) Q (F0 m (pc + 3) ls (v.toList ++ rest))) : W p l e R s m args below meth c H locs cells slots Q (F0 m pc ls st0) := by
  intro T hT X
  obtain ⟨v', st₀, t, T', L, h0, X', hL, e1, e2, ⟨hv, hR, hz, hk⟩, st⟩ := hr T hT X
  cases hv
  rw [h0] at hz hk
  obtain ⟨t2, a1, b1⟩ := kk T'.heap (locs ++ L) (by rw [e1]; exact hR) ⟨Nat.le_trans hS.1 (by rw [e1]; exact hz), fun q h1 h2 => by rw [e1, hk q (Nat.lt_of_lt_of_le h1 hS.1) h2]; exact hS.2.1 q h1 h2, fun q hq => by
      rcases List.mem_append.mp hq with hq | hq
      · exact hS.2.2 q hq
      · exact hL q hq⟩ T' rfl X'
  exact ⟨t2, st t2 a1, b1⟩
/-- a method of the law's own -/
theorem U_callSi {y : MethodName} {bytes : ByteArray} {maxL n index h2 : Nat} {ret2 : Option FieldType} {av : List Value} {oc : Option (Int32 × Mem)} {kf : Int32 → Mem → Option (ρ × Mem)} (hM : ∀ l r M1, oc = some (r, M1) → MCL l G y bytes maxL ret2 h2 av M (vI r) M1) (hmo : ∀ r M1, oc = some (r, M1) → M.2 5 ≤ M1.2 5 ∧ M.2 6 ≤ M1.2 6) (hw : ∀ w ∈ ([.methodLink RL index y, .static y, .initialized RL] : List Cond), w ∈ TBLG) (hd : y.cls = RL ∧ y.cls ≠ "java/lang/invoke/MethodHandle" ∧ y.cls ≠ "java/lang/invoke/VarHandle" ∧ (parseMethodDescriptor y.desc).map (fun d => d.parameters.length) = some n) (hcode : Cond.code y bytes maxL ret2 ∈ TBLG) (hn : av.length = n) (hh : h2 < Z.1) (hm : maxL ≤ 41) (hst : (st.map fun v => v.category).sum ≤ 8) (hdg : decode cc pc = .ok (.invokestatic index, 3)) (k : ∀ r M1, U X G Z cc ret Q nL (pc + 3) lv (.int r :: st) M1 (kf r M1)) : U X G Z cc ret Q nL pc lv (av.reverse ++ st) M (bd oc kf) := by
  cases hoc : oc with
  | none => exact U_none
  | some q =>
    obtain ⟨r1, M1⟩ := q
    obtain ⟨p, l, e, s, m, args, below, meth, c⟩ := X
    intro r M' ho
    have hk := k r1 M1 r M' ho
    have h0 := hmo r1 M1 hoc
    have h3 := hk.1
    refine ⟨⟨by omega, by omega⟩, fun C0 H locs ls hL hP hS hN => ?_⟩
    refine U_sz C0.2.2.2.2.2.2.2.2.1 rfl hN.1 hP fun hz => ?_
    obtain ⟨hx, hb, hml, hown, hts, hK, hr, hlk, hsz, hR, hfr, hlo⟩ := C0
    refine U_back (va_runS (As := av) (rest := st) ⟨hx, hb, hml, hown, hts⟩ (hM l r1 M1 hoc) (cwS (R := Z.2.2.2.2.2) n hts (ws_app hw (ws_in hcode)) rfl rfl rfl hd ⟨by show h2 + 1 ≤ _; omega, by show 8 + (maxL + 11) + 60 * h2 ≤ _; omega⟩) (PVL.pre hK hz hP) rfl hn hL.1 rfl (lv_room hst) hdg ⟨by rw [hR.1]; omega, by rw [hR.2]; omega⟩) hS (fun H1 locs1 hR1 hS1 => ?_)
    have hW := hk.2 ⟨hx, hb, hml, hown, hts, hK, hr, hlk, hsz, hR, hfr, hlo⟩ H1 locs1 ls hL hR1 hS1 ⟨by omega, by omega, hN.2.2⟩
    rw [show M.2 5 - Z.2.1 + (M1.2 5 - M.2 5) = M1.2 5 - Z.2.1 by omega, show M.2 6 - Z.2.2.1 + (M1.2 6 - M.2 6) = M1.2 6 - Z.2.2.1 by omega]
    exact hW
/-- a method of the law's own -/
theorem U_callSv {y : MethodName} {bytes : ByteArray} {maxL n index h2 : Nat} {ret2 : Option FieldType} {av : List Value} {oc : Option (Unit × Mem)} {kf : Unit → Mem → Option (ρ × Mem)} (hM : ∀ l r M1, oc = some (r, M1) → MCL l G y bytes maxL ret2 h2 av M (vU r) M1) (hmo : ∀ r M1, oc = some (r, M1) → M.2 5 ≤ M1.2 5 ∧ M.2 6 ≤ M1.2 6) (hw : ∀ w ∈ ([.methodLink RL index y, .static y, .initialized RL] : List Cond), w ∈ TBLG) (hd : y.cls = RL ∧ y.cls ≠ "java/lang/invoke/MethodHandle" ∧ y.cls ≠ "java/lang/invoke/VarHandle" ∧ (parseMethodDescriptor y.desc).map (fun d => d.parameters.length) = some n) (hcode : Cond.code y bytes maxL ret2 ∈ TBLG) (hn : av.length = n) (hh : h2 < Z.1) (hm : maxL ≤ 41) (hst : (st.map fun v => v.category).sum ≤ 8) (hdg : decode cc pc = .ok (.invokestatic index, 3)) (k : ∀ r M1, U X G Z cc ret Q nL (pc + 3) lv st M1 (kf r M1)) : U X G Z cc ret Q nL pc lv (av.reverse ++ st) M (bd oc kf) := by
  cases hoc : oc with
  | none => exact U_none
  | some q =>
    obtain ⟨r1, M1⟩ := q
    obtain ⟨p, l, e, s, m, args, below, meth, c⟩ := X
    intro r M' ho
    have hk := k r1 M1 r M' ho
    have h0 := hmo r1 M1 hoc
    have h3 := hk.1
    refine ⟨⟨by omega, by omega⟩, fun C0 H locs ls hL hP hS hN => ?_⟩
    refine U_sz C0.2.2.2.2.2.2.2.2.1 rfl hN.1 hP fun hz => ?_
    obtain ⟨hx, hb, hml, hown, hts, hK, hr, hlk, hsz, hR, hfr, hlo⟩ := C0
    refine U_back (va_runS (As := av) (rest := st) ⟨hx, hb, hml, hown, hts⟩ (hM l r1 M1 hoc) (cwS (R := Z.2.2.2.2.2) n hts (ws_app hw (ws_in hcode)) rfl rfl rfl hd ⟨by show h2 + 1 ≤ _; omega, by show 8 + (maxL + 11) + 60 * h2 ≤ _; omega⟩) (PVL.pre hK hz hP) rfl hn hL.1 rfl (lv_room hst) hdg ⟨by rw [hR.1]; omega, by rw [hR.2]; omega⟩) hS (fun H1 locs1 hR1 hS1 => ?_)
    have hW := hk.2 ⟨hx, hb, hml, hown, hts, hK, hr, hlk, hsz, hR, hfr, hlo⟩ H1 locs1 ls hL hR1 hS1 ⟨by omega, by omega, hN.2.2⟩
    rw [show M.2 5 - Z.2.1 + (M1.2 5 - M.2 5) = M1.2 5 - Z.2.1 by omega, show M.2 6 - Z.2.2.1 + (M1.2 6 - M.2 6) = M1.2 6 - Z.2.2.1 by omega]
    exact hW
theorem U_iret {v : Int32} (hdg : decode cc pc = .ok (.ireturn, 1)) : U X G Z cc (some .int) (QM X G Z vI) nL pc lv [.int v] M (some (v, M)) := by
  obtain ⟨p, l, e, s, m, args, below, meth, c⟩ := X
  intro r M' ho
  cases ho
  exact ⟨⟨Nat.le_refl _, Nat.le_refl _⟩, fun C0 H locs ls hL hP hS hN => W.iret C0.1 C0.2.1 C0.2.2.2.2.2.2.1 (fun t ht hW => ⟨rfl, by rw [ht]; exact hP, hS.F ht⟩) hS.2.2 hdg (hlocks := C0.2.2.2.2.2.2.2.1)⟩
theorem U_zret {v : Int32} (hdg : decode cc pc = .ok (.ireturn, 1)) : U X G Z cc (some .boolean) (QM X G Z vI) nL pc lv [.int v] M (gd (isB v) (some (v, M))) := by
  refine U_gd fun hi => ?_
  obtain ⟨p, l, e, s, m, args, below, meth, c⟩ := X
  intro r M' ho
  cases ho
  exact ⟨⟨Nat.le_refl _, Nat.le_refl _⟩, fun C0 H locs ls hL hP hS hN => W.zret C0.1 C0.2.1 C0.2.2.2.2.2.2.1 (by rcases isB_or hi with q | q <;> subst q <;> rfl) (fun t ht hW => ⟨rfl, by rw [ht]; exact hP, hS.F ht⟩) hS.2.2 hdg (hlocks := C0.2.2.2.2.2.2.2.1)⟩
theorem U_vret (hdg : decode cc pc = .ok (.return_, 1)) : U X G Z cc none (QM X G Z vU) nL pc lv [] M (some ((), M)) := by
  obtain ⟨p, l, e, s, m, args, below, meth, c⟩ := X
  intro r M' ho
  cases ho
  exact ⟨⟨Nat.le_refl _, Nat.le_refl _⟩, fun C0 H locs ls hL hP hS hN => W.vret C0.1 C0.2.1 C0.2.2.2.2.2.2.1 (fun t ht hW => ⟨rfl, by rw [ht]; exact hP, hS.F ht⟩) hS.2.2 hdg (hlocks := C0.2.2.2.2.2.2.2.1)⟩
end UC
end
section
/-! words of the tables, by their places -/
theorem wf6_12 : (.fieldLink RX6 12 RX6 (TX6 0).2.1 (TX6 0).2.2.1 : Cond) ∈ TBLG := List.mem_filter.mpr ⟨List.mem_of_getElem? (i := 221) (by decide +kernel), by decide +kernel⟩
theorem wf6_19 : (.fieldLink RX6 19 RX6 (TX6 1).2.1 (TX6 1).2.2.1 : Cond) ∈ TBLG := List.mem_filter.mpr ⟨List.mem_of_getElem? (i := 222) (by decide +kernel), by decide +kernel⟩
theorem wf6_23 : (.fieldLink RX6 23 RX6 (TX6 2).2.1 (TX6 2).2.2.1 : Cond) ∈ TBLG := List.mem_filter.mpr ⟨List.mem_of_getElem? (i := 223) (by decide +kernel), by decide +kernel⟩
theorem wf6_29 : (.fieldLink RX6 29 RX6 (TX6 4).2.1 (TX6 4).2.2.1 : Cond) ∈ TBLG := List.mem_filter.mpr ⟨List.mem_of_getElem? (i := 225) (by decide +kernel), by decide +kernel⟩
theorem wf6_43 : (.fieldLink RX6 43 RX6 (TX6 6).2.1 (TX6 6).2.2.1 : Cond) ∈ TBLG := List.mem_filter.mpr ⟨List.mem_of_getElem? (i := 227) (by decide +kernel), by decide +kernel⟩
theorem wf6_55 : (.fieldLinkNest RX6 55 RX3 (TX3 1).2.1 (TX3 1).2.2.1 RX6 : Cond) ∈ NWL := List.mem_filter.mpr ⟨List.mem_of_getElem? (i := 122) (by decide +kernel), by decide +kernel⟩
theorem wf6_64 : (.fieldLinkNest RX6 64 RX3 (TX3 2).2.1 (TX3 2).2.2.1 RX6 : Cond) ∈ NWL := List.mem_filter.mpr ⟨List.mem_of_getElem? (i := 124) (by decide +kernel), by decide +kernel⟩
theorem wf6_70 : (.fieldLinkNest RX6 70 RX3 (TX3 3).2.1 (TX3 3).2.2.1 RX6 : Cond) ∈ NWL := List.mem_filter.mpr ⟨List.mem_of_getElem? (i := 126) (by decide +kernel), by decide +kernel⟩
theorem wf6_80 : (.fieldLinkNest RX6 80 RX4 (TX4 1).2.1 (TX4 1).2.2.1 RX6 : Cond) ∈ NWL := List.mem_filter.mpr ⟨List.mem_of_getElem? (i := 105) (by decide +kernel), by decide +kernel⟩
theorem wf6_86 : (.fieldLinkNest RX6 86 RX4 (TX4 0).2.1 (TX4 0).2.2.1 RX6 : Cond) ∈ NWL := List.mem_filter.mpr ⟨List.mem_of_getElem? (i := 102) (by decide +kernel), by decide +kernel⟩
theorem wf6_109 : (.fieldLinkNest RX6 109 RX4 (TX4 2).2.1 (TX4 2).2.2.1 RX6 : Cond) ∈ NWL := List.mem_filter.mpr ⟨List.mem_of_getElem? (i := 108) (by decide +kernel), by decide +kernel⟩
theorem wf6_116 : (.fieldLinkNest RX6 116 RX4 (TX4 3).2.1 (TX4 3).2.2.1 RX6 : Cond) ∈ NWL := List.mem_filter.mpr ⟨List.mem_of_getElem? (i := 110) (by decide +kernel), by decide +kernel⟩
theorem wf6_119 : (.fieldLink RX6 119 RX6 (TX6 3).2.1 (TX6 3).2.2.1 : Cond) ∈ TBLG := List.mem_filter.mpr ⟨List.mem_of_getElem? (i := 224) (by decide +kernel), by decide +kernel⟩
theorem wf6_135 : (.fieldLinkNest RX6 135 RX1 (TX1 2).2.1 (TX1 2).2.2.1 RX6 : Cond) ∈ NWL := List.mem_filter.mpr ⟨List.mem_of_getElem? (i := 92) (by decide +kernel), by decide +kernel⟩
theorem wf6_138 : (.fieldLinkNest RX6 138 RX0 (TX0 1).2.1 (TX0 1).2.2.1 RX6 : Cond) ∈ NWL := List.mem_filter.mpr ⟨List.mem_of_getElem? (i := 199) (by decide +kernel), by decide +kernel⟩
theorem wf6_142 : (.fieldLinkNest RX6 142 RX0 (TX0 2).2.1 (TX0 2).2.2.1 RX6 : Cond) ∈ NWL := List.mem_filter.mpr ⟨List.mem_of_getElem? (i := 201) (by decide +kernel), by decide +kernel⟩
theorem wf6_203 : (.fieldLinkNest RX6 203 RX5 (TX5 2).2.1 (TX5 2).2.2.1 RX6 : Cond) ∈ NWL := List.mem_filter.mpr ⟨List.mem_of_getElem? (i := 181) (by decide +kernel), by decide +kernel⟩
theorem wf0_14 : (.fieldLink RX0 14 RX0 (TX0 1).2.1 (TX0 1).2.2.1 : Cond) ∈ TBLG := List.mem_filter.mpr ⟨List.mem_of_getElem? (i := 197) (by decide +kernel), by decide +kernel⟩
theorem wf0_20 : (.fieldLink RX0 20 RX0 (TX0 3).2.1 (TX0 3).2.2.1 : Cond) ∈ TBLG := List.mem_filter.mpr ⟨List.mem_of_getElem? (i := 202) (by decide +kernel), by decide +kernel⟩
theorem wf0_24 : (.fieldLink RX0 24 RX0 (TX0 4).2.1 (TX0 4).2.2.1 : Cond) ∈ TBLG := List.mem_filter.mpr ⟨List.mem_of_getElem? (i := 203) (by decide +kernel), by decide +kernel⟩
theorem wf0_27 : (.fieldLink RX0 27 RX0 (TX0 5).2.1 (TX0 5).2.2.1 : Cond) ∈ TBLG := List.mem_filter.mpr ⟨List.mem_of_getElem? (i := 204) (by decide +kernel), by decide +kernel⟩
theorem wf0_30 : (.fieldLink RX0 30 RX0 (TX0 6).2.1 (TX0 6).2.2.1 : Cond) ∈ TBLG := List.mem_filter.mpr ⟨List.mem_of_getElem? (i := 205) (by decide +kernel), by decide +kernel⟩
theorem wf0_33 : (.fieldLink RX0 33 RX0 (TX0 0).2.1 (TX0 0).2.2.1 : Cond) ∈ TBLG := List.mem_filter.mpr ⟨List.mem_of_getElem? (i := 196) (by decide +kernel), by decide +kernel⟩
theorem wf0_45 : (.fieldLinkNest RX0 45 RX1 (TX1 2).2.1 (TX1 2).2.2.1 RX6 : Cond) ∈ NWL := List.mem_filter.mpr ⟨List.mem_of_getElem? (i := 91) (by decide +kernel), by decide +kernel⟩
theorem wf0_57 : (.fieldLink RX0 57 RX0 (TX0 2).2.1 (TX0 2).2.2.1 : Cond) ∈ TBLG := List.mem_filter.mpr ⟨List.mem_of_getElem? (i := 200) (by decide +kernel), by decide +kernel⟩
theorem wf1_9 : (.fieldLink RX1 9 RX1 (TX1 2).2.1 (TX1 2).2.2.1 : Cond) ∈ TBLG := List.mem_filter.mpr ⟨List.mem_of_getElem? (i := 88) (by decide +kernel), by decide +kernel⟩
theorem wf1_21 : (.fieldLink RX1 21 RX1 (TX1 0).2.1 (TX1 0).2.2.1 : Cond) ∈ TBLG := List.mem_filter.mpr ⟨List.mem_of_getElem? (i := 86) (by decide +kernel), by decide +kernel⟩
theorem wf1_25 : (.fieldLink RX1 25 RX1 (TX1 1).2.1 (TX1 1).2.2.1 : Cond) ∈ TBLG := List.mem_filter.mpr ⟨List.mem_of_getElem? (i := 87) (by decide +kernel), by decide +kernel⟩
theorem wf3_9 : (.fieldLink RX3 9 RX3 (TX3 0).2.1 (TX3 0).2.2.1 : Cond) ∈ TBLG := List.mem_filter.mpr ⟨List.mem_of_getElem? (i := 120) (by decide +kernel), by decide +kernel⟩
theorem wf3_18 : (.fieldLink RX3 18 RX3 (TX3 3).2.1 (TX3 3).2.2.1 : Cond) ∈ TBLG := List.mem_filter.mpr ⟨List.mem_of_getElem? (i := 125) (by decide +kernel), by decide +kernel⟩
theorem wf3_22 : (.fieldLink RX3 22 RX3 (TX3 1).2.1 (TX3 1).2.2.1 : Cond) ∈ TBLG := List.mem_filter.mpr ⟨List.mem_of_getElem? (i := 121) (by decide +kernel), by decide +kernel⟩
theorem wf3_26 : (.fieldLink RX3 26 RX3 (TX3 2).2.1 (TX3 2).2.2.1 : Cond) ∈ TBLG := List.mem_filter.mpr ⟨List.mem_of_getElem? (i := 123) (by decide +kernel), by decide +kernel⟩
theorem wf3_33 : (.fieldLinkNest RX3 33 RX4 (TX4 0).2.1 (TX4 0).2.2.1 RX6 : Cond) ∈ NWL := List.mem_filter.mpr ⟨List.mem_of_getElem? (i := 103) (by decide +kernel), by decide +kernel⟩
theorem wf3_37 : (.fieldLinkNest RX3 37 RX1 (TX1 2).2.1 (TX1 2).2.2.1 RX6 : Cond) ∈ NWL := List.mem_filter.mpr ⟨List.mem_of_getElem? (i := 90) (by decide +kernel), by decide +kernel⟩
theorem wf3_50 : (.fieldLinkNest RX3 50 RX4 (TX4 1).2.1 (TX4 1).2.2.1 RX6 : Cond) ∈ NWL := List.mem_filter.mpr ⟨List.mem_of_getElem? (i := 106) (by decide +kernel), by decide +kernel⟩
theorem wf4_11 : (.fieldLink RX4 11 RX4 (TX4 0).2.1 (TX4 0).2.2.1 : Cond) ∈ TBLG := List.mem_filter.mpr ⟨List.mem_of_getElem? (i := 101) (by decide +kernel), by decide +kernel⟩
theorem wf4_17 : (.fieldLink RX4 17 RX4 (TX4 1).2.1 (TX4 1).2.2.1 : Cond) ∈ TBLG := List.mem_filter.mpr ⟨List.mem_of_getElem? (i := 104) (by decide +kernel), by decide +kernel⟩
theorem wf4_21 : (.fieldLink RX4 21 RX4 (TX4 2).2.1 (TX4 2).2.2.1 : Cond) ∈ TBLG := List.mem_filter.mpr ⟨List.mem_of_getElem? (i := 107) (by decide +kernel), by decide +kernel⟩
theorem wf4_25 : (.fieldLink RX4 25 RX4 (TX4 3).2.1 (TX4 3).2.2.1 : Cond) ∈ TBLG := List.mem_filter.mpr ⟨List.mem_of_getElem? (i := 109) (by decide +kernel), by decide +kernel⟩
theorem wf5_9 : (.fieldLink RX5 9 RX5 (TX5 0).2.1 (TX5 0).2.2.1 : Cond) ∈ TBLG := List.mem_filter.mpr ⟨List.mem_of_getElem? (i := 178) (by decide +kernel), by decide +kernel⟩
theorem wf5_15 : (.fieldLink RX5 15 RX5 (TX5 1).2.1 (TX5 1).2.2.1 : Cond) ∈ TBLG := List.mem_filter.mpr ⟨List.mem_of_getElem? (i := 179) (by decide +kernel), by decide +kernel⟩
theorem wf5_18 : (.fieldLink RX5 18 RX5 (TX5 2).2.1 (TX5 2).2.2.1 : Cond) ∈ TBLG := List.mem_filter.mpr ⟨List.mem_of_getElem? (i := 180) (by decide +kernel), by decide +kernel⟩
theorem wf5_28 : (.fieldLinkNest RX5 28 RX0 (TX0 1).2.1 (TX0 1).2.2.1 RX6 : Cond) ∈ NWL := List.mem_filter.mpr ⟨List.mem_of_getElem? (i := 198) (by decide +kernel), by decide +kernel⟩
theorem wf5_34 : (.fieldLinkNest RX5 34 RX1 (TX1 2).2.1 (TX1 2).2.2.1 RX6 : Cond) ∈ NWL := List.mem_filter.mpr ⟨List.mem_of_getElem? (i := 89) (by decide +kernel), by decide +kernel⟩
theorem wk6_50 : (.constant RX6 50 (-1000001) : Cond) ∈ TBLG := List.mem_filter.mpr ⟨List.mem_of_getElem? (i := 267) (by decide +kernel), by decide +kernel⟩
theorem wk6_59 : (.constant RX6 59 (-1000003) : Cond) ∈ TBLG := List.mem_filter.mpr ⟨List.mem_of_getElem? (i := 307) (by decide +kernel), by decide +kernel⟩
theorem wk6_99 : (.constant RX6 99 (-1000002) : Cond) ∈ TBLG := List.mem_filter.mpr ⟨List.mem_of_getElem? (i := 504) (by decide +kernel), by decide +kernel⟩
theorem wk6_161 : (.constant RX6 161 (-1000009) : Cond) ∈ TBLG := List.mem_filter.mpr ⟨List.mem_of_getElem? (i := 561) (by decide +kernel), by decide +kernel⟩
theorem wk0_109 : (.constantLong RX0 109 (-99999) : Cond) ∈ TBLG := List.mem_filter.mpr ⟨List.mem_of_getElem? (i := 471) (by decide +kernel), by decide +kernel⟩
theorem wk0_111 : (.constantLong RX0 111 (99999) : Cond) ∈ TBLG := List.mem_filter.mpr ⟨List.mem_of_getElem? (i := 472) (by decide +kernel), by decide +kernel⟩
theorem wkL_7 : (.constant RL 7 (40503) : Cond) ∈ TBLG := List.mem_filter.mpr ⟨List.mem_of_getElem? (i := 278) (by decide +kernel), by decide +kernel⟩
theorem wkL_8 : (.constant RL 8 (2147483647) : Cond) ∈ TBLG := List.mem_filter.mpr ⟨List.mem_of_getElem? (i := 282) (by decide +kernel), by decide +kernel⟩
theorem wkL_15 : (.constantLong RL 15 (99999) : Cond) ∈ TBLG := List.mem_filter.mpr ⟨List.mem_of_getElem? (i := 532) (by decide +kernel), by decide +kernel⟩
theorem wkL_17 : (.constant RL 17 (99999) : Cond) ∈ TBLG := List.mem_filter.mpr ⟨List.mem_of_getElem? (i := 533) (by decide +kernel), by decide +kernel⟩
theorem wkL_18 : (.constantLong RL 18 (-99999) : Cond) ∈ TBLG := List.mem_filter.mpr ⟨List.mem_of_getElem? (i := 534) (by decide +kernel), by decide +kernel⟩
theorem wkL_20 : (.constant RL 20 (-99999) : Cond) ∈ TBLG := List.mem_filter.mpr ⟨List.mem_of_getElem? (i := 535) (by decide +kernel), by decide +kernel⟩
theorem wkL_35 : (.constant RL 35 (100000) : Cond) ∈ TBLG := List.mem_filter.mpr ⟨List.mem_of_getElem? (i := 294) (by decide +kernel), by decide +kernel⟩
theorem wkL_40 : (.constant RL 40 (-1000009) : Cond) ∈ TBLG := List.mem_filter.mpr ⟨List.mem_of_getElem? (i := 295) (by decide +kernel), by decide +kernel⟩
theorem wkL_49 : (.constant RL 49 (100000000) : Cond) ∈ TBLG := List.mem_filter.mpr ⟨List.mem_of_getElem? (i := 290) (by decide +kernel), by decide +kernel⟩
theorem wkL_64 : (.constant RL 64 (10000000) : Cond) ∈ TBLG := List.mem_filter.mpr ⟨List.mem_of_getElem? (i := 482) (by decide +kernel), by decide +kernel⟩
theorem wkL_78 : (.constant RL 78 (-1000001) : Cond) ∈ TBLG := List.mem_filter.mpr ⟨List.mem_of_getElem? (i := 518) (by decide +kernel), by decide +kernel⟩
theorem wkL_79 : (.constant RL 79 (-1000002) : Cond) ∈ TBLG := List.mem_filter.mpr ⟨List.mem_of_getElem? (i := 519) (by decide +kernel), by decide +kernel⟩
theorem wm6_51 : (.methodLinkNest RX6 51 yX3_take RX6 : Cond) ∈ NWL := List.mem_filter.mpr ⟨List.mem_of_getElem? (i := 303) (by decide +kernel), by decide +kernel⟩
theorem wm6_60 : (.methodLinkNest RX6 60 yX3_readSheet RX6 : Cond) ∈ NWL := List.mem_filter.mpr ⟨List.mem_of_getElem? (i := 315) (by decide +kernel), by decide +kernel⟩
theorem wm6_67 : (.methodLink RX6 67 yX6_recordState : Cond) ∈ TBLG := List.mem_filter.mpr ⟨List.mem_of_getElem? (i := 374) (by decide +kernel), by decide +kernel⟩
theorem wm6_73 : (.methodLinkNest RX6 73 yX4_copyFormulas RX6 : Cond) ∈ NWL := List.mem_filter.mpr ⟨List.mem_of_getElem? (i := 412) (by decide +kernel), by decide +kernel⟩
theorem wm6_77 : (.methodLink RX6 77 yX6_workAnew : Cond) ∈ TBLG := List.mem_filter.mpr ⟨List.mem_of_getElem? (i := 413) (by decide +kernel), by decide +kernel⟩
theorem wm6_83 : (.methodLink RX6 83 yX6_isFormula : Cond) ∈ TBLG := List.mem_filter.mpr ⟨List.mem_of_getElem? (i := 498) (by decide +kernel), by decide +kernel⟩
theorem wm6_90 : (.methodLinkNest RX6 90 yX1_has RX6 : Cond) ∈ NWL := List.mem_filter.mpr ⟨List.mem_of_getElem? (i := 502) (by decide +kernel), by decide +kernel⟩
theorem wm6_95 : (.methodLinkNest RX6 95 yX1_kindOf RX6 : Cond) ∈ NWL := List.mem_filter.mpr ⟨List.mem_of_getElem? (i := 503) (by decide +kernel), by decide +kernel⟩
theorem wm6_100 : (.methodLinkNest RX6 100 yX1_exchange RX6 : Cond) ∈ NWL := List.mem_filter.mpr ⟨List.mem_of_getElem? (i := 505) (by decide +kernel), by decide +kernel⟩
theorem wm6_103 : (.methodLinkNest RX6 103 yX0_needOf RX6 : Cond) ∈ NWL := List.mem_filter.mpr ⟨List.mem_of_getElem? (i := 259) (by decide +kernel), by decide +kernel⟩
theorem wm6_106 : (.methodLink RX6 106 yX6_isCell : Cond) ∈ TBLG := List.mem_filter.mpr ⟨List.mem_of_getElem? (i := 272) (by decide +kernel), by decide +kernel⟩
theorem wm6_113 : (.methodLink RX6 113 yX6_arePlaces : Cond) ∈ TBLG := List.mem_filter.mpr ⟨List.mem_of_getElem? (i := 491) (by decide +kernel), by decide +kernel⟩
theorem wm6_122 : (.methodLinkNest RX6 122 yX4_copyState RX6 : Cond) ∈ NWL := List.mem_filter.mpr ⟨List.mem_of_getElem? (i := 382) (by decide +kernel), by decide +kernel⟩
theorem wm6_125 : (.methodLink RX6 125 yX6_cheapDefinitions : Cond) ∈ TBLG := List.mem_filter.mpr ⟨List.mem_of_getElem? (i := 247) (by decide +kernel), by decide +kernel⟩
theorem wm6_129 : (.methodLink RX6 129 yX6_nodesAsRead : Cond) ∈ TBLG := List.mem_filter.mpr ⟨List.mem_of_getElem? (i := 251) (by decide +kernel), by decide +kernel⟩
theorem wm6_132 : (.methodLink RX6 132 yX6_greatestNeed : Cond) ∈ TBLG := List.mem_filter.mpr ⟨List.mem_of_getElem? (i := 255) (by decide +kernel), by decide +kernel⟩
theorem wm6_146 : (.methodLinkNest RX6 146 yX0_valueOf RX6 : Cond) ∈ NWL := List.mem_filter.mpr ⟨List.mem_of_getElem? (i := 549) (by decide +kernel), by decide +kernel⟩
theorem wm6_149 : (.methodLinkNest RX6 149 yX0_depthOf RX6 : Cond) ∈ NWL := List.mem_filter.mpr ⟨List.mem_of_getElem? (i := 550) (by decide +kernel), by decide +kernel⟩
theorem wm6_152 : (.methodLink RX6 152 yX6_usesOf : Cond) ∈ TBLG := List.mem_filter.mpr ⟨List.mem_of_getElem? (i := 551) (by decide +kernel), by decide +kernel⟩
theorem wm6_155 : (.methodLink RX6 155 yX6_partsOf : Cond) ∈ TBLG := List.mem_filter.mpr ⟨List.mem_of_getElem? (i := 560) (by decide +kernel), by decide +kernel⟩
theorem wm6_158 : (.methodLinkNest RX6 158 yX1_contentOf RX6 : Cond) ∈ NWL := List.mem_filter.mpr ⟨List.mem_of_getElem? (i := 555) (by decide +kernel), by decide +kernel⟩
theorem wm6_162 : (.methodLinkNest RX6 162 yX0_rightOf RX6 : Cond) ∈ NWL := List.mem_filter.mpr ⟨List.mem_of_getElem? (i := 562) (by decide +kernel), by decide +kernel⟩
theorem wm6_165 : (.methodLinkNest RX6 165 yX0_sizeOf RX6 : Cond) ∈ NWL := List.mem_filter.mpr ⟨List.mem_of_getElem? (i := 563) (by decide +kernel), by decide +kernel⟩
theorem wm6_196 : (.methodLink RX6 196 yX6_refusalToTry : Cond) ∈ TBLG := List.mem_filter.mpr ⟨List.mem_of_getElem? (i := 568) (by decide +kernel), by decide +kernel⟩
theorem wm6_199 : (.methodLinkNest RX6 199 yX5_tryOrders RX6 : Cond) ∈ NWL := List.mem_filter.mpr ⟨List.mem_of_getElem? (i := 576) (by decide +kernel), by decide +kernel⟩
theorem wm6_207 : (.methodLinkNest RX6 207 yX0_pairs RX6 : Cond) ∈ NWL := List.mem_filter.mpr ⟨List.mem_of_getElem? (i := 572) (by decide +kernel), by decide +kernel⟩
theorem wm6_210 : (.methodLink RX6 210 yX6_dropOldestState : Cond) ∈ TBLG := List.mem_filter.mpr ⟨List.mem_of_getElem? (i := 378) (by decide +kernel), by decide +kernel⟩
theorem wm6_213 : (.methodLinkNest RX6 213 yX0_make RX6 : Cond) ∈ NWL := List.mem_filter.mpr ⟨List.mem_of_getElem? (i := 417) (by decide +kernel), by decide +kernel⟩
theorem wm6_216 : (.methodLinkNest RX6 216 yX0_measure RX6 : Cond) ∈ NWL := List.mem_filter.mpr ⟨List.mem_of_getElem? (i := 429) (by decide +kernel), by decide +kernel⟩
theorem wm6_220 : (.methodLink RX6 220 Lib.Math.max.name : Cond) ∈ TBLG := List.mem_filter.mpr ⟨List.mem_of_getElem? (i := 266) (by decide +kernel), by decide +kernel⟩
theorem wm0_37 : (.methodLink RX0 37 yX0_entry : Cond) ∈ TBLG := List.mem_filter.mpr ⟨List.mem_of_getElem? (i := 263) (by decide +kernel), by decide +kernel⟩
theorem wm0_41 : (.methodLink RX0 41 yX0_sizeOf : Cond) ∈ TBLG := List.mem_filter.mpr ⟨List.mem_of_getElem? (i := 451) (by decide +kernel), by decide +kernel⟩
theorem wm0_48 : (.methodLinkNest RX0 48 yX1_kindOf RX6 : Cond) ∈ NWL := List.mem_filter.mpr ⟨List.mem_of_getElem? (i := 422) (by decide +kernel), by decide +kernel⟩
theorem wm0_51 : (.methodLinkNest RX0 51 yX6_partsOf RX6 : Cond) ∈ NWL := List.mem_filter.mpr ⟨List.mem_of_getElem? (i := 436) (by decide +kernel), by decide +kernel⟩
theorem wm0_54 : (.methodLinkNest RX0 54 yX1_contentOf RX6 : Cond) ∈ NWL := List.mem_filter.mpr ⟨List.mem_of_getElem? (i := 421) (by decide +kernel), by decide +kernel⟩
theorem wm0_61 : (.methodLinkNest RX0 61 yX1_addAll RX6 : Cond) ∈ NWL := List.mem_filter.mpr ⟨List.mem_of_getElem? (i := 423) (by decide +kernel), by decide +kernel⟩
theorem wm0_65 : (.methodLinkNest RX0 65 yX1_add RX6 : Cond) ∈ NWL := List.mem_filter.mpr ⟨List.mem_of_getElem? (i := 424) (by decide +kernel), by decide +kernel⟩
theorem wm0_69 : (.methodLinkNest RX0 69 yX1_hasKind RX6 : Cond) ∈ NWL := List.mem_filter.mpr ⟨List.mem_of_getElem? (i := 425) (by decide +kernel), by decide +kernel⟩
theorem wm0_73 : (.methodLink RX0 73 Lib.Math.min.name : Cond) ∈ TBLG := List.mem_filter.mpr ⟨List.mem_of_getElem? (i := 433) (by decide +kernel), by decide +kernel⟩
theorem wm0_79 : (.methodLink RX0 79 yX0_put : Cond) ∈ TBLG := List.mem_filter.mpr ⟨List.mem_of_getElem? (i := 439) (by decide +kernel), by decide +kernel⟩
theorem wm0_83 : (.methodLink RX0 83 yX0_leafValue : Cond) ∈ TBLG := List.mem_filter.mpr ⟨List.mem_of_getElem? (i := 443) (by decide +kernel), by decide +kernel⟩
theorem wm0_87 : (.methodLink RX0 87 yX0_needOf : Cond) ∈ TBLG := List.mem_filter.mpr ⟨List.mem_of_getElem? (i := 455) (by decide +kernel), by decide +kernel⟩
theorem wm0_90 : (.methodLink RX0 90 yX0_depthOf : Cond) ∈ TBLG := List.mem_filter.mpr ⟨List.mem_of_getElem? (i := 456) (by decide +kernel), by decide +kernel⟩
theorem wm0_93 : (.methodLink RX0 93 yX0_valueOf : Cond) ∈ TBLG := List.mem_filter.mpr ⟨List.mem_of_getElem? (i := 447) (by decide +kernel), by decide +kernel⟩
theorem wm0_96 : (.methodLink RX0 96 yX0_rightOf : Cond) ∈ TBLG := List.mem_filter.mpr ⟨List.mem_of_getElem? (i := 460) (by decide +kernel), by decide +kernel⟩
theorem wm0_99 : (.methodLink RX0 99 Lib.Math.max.name : Cond) ∈ TBLG := List.mem_filter.mpr ⟨List.mem_of_getElem? (i := 464) (by decide +kernel), by decide +kernel⟩
theorem wm0_102 : (.methodLink RX0 102 yX0_needOfPair : Cond) ∈ TBLG := List.mem_filter.mpr ⟨List.mem_of_getElem? (i := 465) (by decide +kernel), by decide +kernel⟩
theorem wm0_105 : (.methodLink RX0 105 yX0_operate : Cond) ∈ TBLG := List.mem_filter.mpr ⟨List.mem_of_getElem? (i := 468) (by decide +kernel), by decide +kernel⟩
theorem wm0_113 : (.methodLink RX0 113 Lib.MathLoose.min_long.x : Cond) ∈ TBLG := List.mem_filter.mpr ⟨List.mem_of_getElem? (i := 473) (by decide +kernel), by decide +kernel⟩
theorem wm0_116 : (.methodLink RX0 116 Lib.MathLoose.max_long.x : Cond) ∈ TBLG := List.mem_filter.mpr ⟨List.mem_of_getElem? (i := 476) (by decide +kernel), by decide +kernel⟩
theorem wm1_15 : (.methodLink RX1 15 Lib.Math.max.name : Cond) ∈ TBLG := List.mem_filter.mpr ⟨List.mem_of_getElem? (i := 83) (by decide +kernel), by decide +kernel⟩
theorem wm1_28 : (.methodLink RX1 28 yX1_has : Cond) ∈ TBLG := List.mem_filter.mpr ⟨List.mem_of_getElem? (i := 402) (by decide +kernel), by decide +kernel⟩
theorem wm1_32 : (.methodLink RX1 32 yX1_kindOf : Cond) ∈ TBLG := List.mem_filter.mpr ⟨List.mem_of_getElem? (i := 398) (by decide +kernel), by decide +kernel⟩
theorem wm1_36 : (.methodLink RX1 36 yX1_isFull : Cond) ∈ TBLG := List.mem_filter.mpr ⟨List.mem_of_getElem? (i := 351) (by decide +kernel), by decide +kernel⟩
theorem wm1_40 : (.methodLink RX1 40 arraycopyName : Cond) ∈ TBLG := List.mem_filter.mpr ⟨List.mem_of_getElem? (i := 371) (by decide +kernel), by decide +kernel⟩
theorem wm1_46 : (.methodLink RX1 46 yX1_contentOf : Cond) ∈ TBLG := List.mem_filter.mpr ⟨List.mem_of_getElem? (i := 406) (by decide +kernel), by decide +kernel⟩
theorem wm1_49 : (.methodLink RX1 49 yX1_add : Cond) ∈ TBLG := List.mem_filter.mpr ⟨List.mem_of_getElem? (i := 410) (by decide +kernel), by decide +kernel⟩
theorem wm1_53 : (.methodLink RX1 53 yX1_addAll : Cond) ∈ TBLG := List.mem_filter.mpr ⟨List.mem_of_getElem? (i := 394) (by decide +kernel), by decide +kernel⟩
theorem wm1_57 : (.methodLinkNest RX1 57 yX6_partsOf RX6 : Cond) ∈ NWL := List.mem_filter.mpr ⟨List.mem_of_getElem? (i := 513) (by decide +kernel), by decide +kernel⟩
theorem wm1_60 : (.methodLink RX1 60 yX1_behind : Cond) ∈ TBLG := List.mem_filter.mpr ⟨List.mem_of_getElem? (i := 509) (by decide +kernel), by decide +kernel⟩
theorem wm1_63 : (.methodLink RX1 63 yX1_turnAround : Cond) ∈ TBLG := List.mem_filter.mpr ⟨List.mem_of_getElem? (i := 514) (by decide +kernel), by decide +kernel⟩
theorem wm3_29 : (.methodLink RX3 29 yX3_sign : Cond) ∈ TBLG := List.mem_filter.mpr ⟨List.mem_of_getElem? (i := 323) (by decide +kernel), by decide +kernel⟩
theorem wm3_42 : (.methodLink RX3 42 yX3_pass : Cond) ∈ TBLG := List.mem_filter.mpr ⟨List.mem_of_getElem? (i := 319) (by decide +kernel), by decide +kernel⟩
theorem wm3_46 : (.methodLink RX3 46 yX3_readSum : Cond) ∈ TBLG := List.mem_filter.mpr ⟨List.mem_of_getElem? (i := 327) (by decide +kernel), by decide +kernel⟩
theorem wm3_53 : (.methodLink RX3 53 yX3_readProduct : Cond) ∈ TBLG := List.mem_filter.mpr ⟨List.mem_of_getElem? (i := 331) (by decide +kernel), by decide +kernel⟩
theorem wm3_56 : (.methodLink RX3 56 yX3_readOperation : Cond) ∈ TBLG := List.mem_filter.mpr ⟨List.mem_of_getElem? (i := 363) (by decide +kernel), by decide +kernel⟩
theorem wm3_59 : (.methodLink RX3 59 yX3_readFactor : Cond) ∈ TBLG := List.mem_filter.mpr ⟨List.mem_of_getElem? (i := 335) (by decide +kernel), by decide +kernel⟩
theorem wm3_62 : (.methodLinkNest RX3 62 yX1_insert RX6 : Cond) ∈ NWL := List.mem_filter.mpr ⟨List.mem_of_getElem? (i := 367) (by decide +kernel), by decide +kernel⟩
theorem wm3_66 : (.methodLink RX3 66 yX3_readNested : Cond) ∈ TBLG := List.mem_filter.mpr ⟨List.mem_of_getElem? (i := 339) (by decide +kernel), by decide +kernel⟩
theorem wm3_69 : (.methodLink RX3 69 yX3_readLeaf : Cond) ∈ TBLG := List.mem_filter.mpr ⟨List.mem_of_getElem? (i := 352) (by decide +kernel), by decide +kernel⟩
theorem wm3_73 : (.methodLinkNest RX3 73 yX1_isFull RX6 : Cond) ∈ NWL := List.mem_filter.mpr ⟨List.mem_of_getElem? (i := 343) (by decide +kernel), by decide +kernel⟩
theorem wm3_77 : (.methodLinkNest RX3 77 yX1_add RX6 : Cond) ∈ NWL := List.mem_filter.mpr ⟨List.mem_of_getElem? (i := 347) (by decide +kernel), by decide +kernel⟩
theorem wm3_81 : (.methodLink RX3 81 yX3_isDigit : Cond) ∈ TBLG := List.mem_filter.mpr ⟨List.mem_of_getElem? (i := 356) (by decide +kernel), by decide +kernel⟩
theorem wm3_84 : (.methodLink RX3 84 yX3_readNumber : Cond) ∈ TBLG := List.mem_filter.mpr ⟨List.mem_of_getElem? (i := 359) (by decide +kernel), by decide +kernel⟩
theorem wm4_31 : (.methodLinkNest RX4 31 yX1_copy RX6 : Cond) ∈ NWL := List.mem_filter.mpr ⟨List.mem_of_getElem? (i := 390) (by decide +kernel), by decide +kernel⟩
theorem wm4_35 : (.methodLink RX4 35 yX4_copyFormulas : Cond) ∈ TBLG := List.mem_filter.mpr ⟨List.mem_of_getElem? (i := 386) (by decide +kernel), by decide +kernel⟩
theorem wm4_39 : (.methodLink RX4 39 arraycopyName : Cond) ∈ TBLG := List.mem_filter.mpr ⟨List.mem_of_getElem? (i := 411) (by decide +kernel), by decide +kernel⟩
theorem wm5_22 : (.methodLink RX5 22 arraycopyName : Cond) ∈ TBLG := List.mem_filter.mpr ⟨List.mem_of_getElem? (i := 580) (by decide +kernel), by decide +kernel⟩
theorem wm5_39 : (.methodLink RX5 39 Lib.Math.min.name : Cond) ∈ TBLG := List.mem_filter.mpr ⟨List.mem_of_getElem? (i := 581) (by decide +kernel), by decide +kernel⟩
theorem wm5_45 : (.methodLink RX5 45 yX5_waysFor : Cond) ∈ TBLG := List.mem_filter.mpr ⟨List.mem_of_getElem? (i := 582) (by decide +kernel), by decide +kernel⟩
theorem wm5_49 : (.methodLinkNest RX5 49 yX1_kindOf RX6 : Cond) ∈ NWL := List.mem_filter.mpr ⟨List.mem_of_getElem? (i := 586) (by decide +kernel), by decide +kernel⟩
theorem wm5_53 : (.methodLinkNest RX5 53 yX6_partsOf RX6 : Cond) ∈ NWL := List.mem_filter.mpr ⟨List.mem_of_getElem? (i := 587) (by decide +kernel), by decide +kernel⟩
theorem wm5_56 : (.methodLinkNest RX5 56 yX0_entry RX6 : Cond) ∈ NWL := List.mem_filter.mpr ⟨List.mem_of_getElem? (i := 588) (by decide +kernel), by decide +kernel⟩
theorem wm5_60 : (.methodLinkNest RX5 60 yX0_rightOf RX6 : Cond) ∈ NWL := List.mem_filter.mpr ⟨List.mem_of_getElem? (i := 589) (by decide +kernel), by decide +kernel⟩
theorem wmL_9 : (.methodLink RL 9 yL_isCheap : Cond) ∈ TBLG := List.mem_filter.mpr ⟨List.mem_of_getElem? (i := 526) (by decide +kernel), by decide +kernel⟩
theorem wmL_21 : (.methodLink RL 21 yL_expand : Cond) ∈ TBLG := List.mem_filter.mpr ⟨List.mem_of_getElem? (i := 523) (by decide +kernel), by decide +kernel⟩
theorem wmL_25 : (.methodLink RL 25 yL_tell : Cond) ∈ TBLG := List.mem_filter.mpr ⟨List.mem_of_getElem? (i := 529) (by decide +kernel), by decide +kernel⟩
theorem wmL_29 : (.methodLink RL 29 yX6_append : Cond) ∈ TBLG := List.mem_filter.mpr ⟨List.mem_of_getElem? (i := 299) (by decide +kernel), by decide +kernel⟩
theorem wmL_36 : (.methodLink RL 36 yL_low : Cond) ∈ TBLG := List.mem_filter.mpr ⟨List.mem_of_getElem? (i := 279) (by decide +kernel), by decide +kernel⟩
theorem wmL_41 : (.methodLink RL 41 yL_put : Cond) ∈ TBLG := List.mem_filter.mpr ⟨List.mem_of_getElem? (i := 296) (by decide +kernel), by decide +kernel⟩
theorem wmL_45 : (.methodLink RL 45 yX6_clearText : Cond) ∈ TBLG := List.mem_filter.mpr ⟨List.mem_of_getElem? (i := 286) (by decide +kernel), by decide +kernel⟩
theorem wmL_50 : (.methodLink RL 50 yL_grow : Cond) ∈ TBLG := List.mem_filter.mpr ⟨List.mem_of_getElem? (i := 291) (by decide +kernel), by decide +kernel⟩
theorem wmL_54 : (.methodLink RL 54 yL_types : Cond) ∈ TBLG := List.mem_filter.mpr ⟨List.mem_of_getElem? (i := 308) (by decide +kernel), by decide +kernel⟩
theorem wmL_58 : (.methodLink RL 58 yX6_count : Cond) ∈ TBLG := List.mem_filter.mpr ⟨List.mem_of_getElem? (i := 243) (by decide +kernel), by decide +kernel⟩
theorem wmL_61 : (.methodLink RL 61 yX6_read : Cond) ∈ TBLG := List.mem_filter.mpr ⟨List.mem_of_getElem? (i := 311) (by decide +kernel), by decide +kernel⟩
theorem wmL_65 : (.methodLink RL 65 yL_reads : Cond) ∈ TBLG := List.mem_filter.mpr ⟨List.mem_of_getElem? (i := 283) (by decide +kernel), by decide +kernel⟩
theorem wmL_69 : (.methodLink RL 69 yX6_setCell : Cond) ∈ TBLG := List.mem_filter.mpr ⟨List.mem_of_getElem? (i := 483) (by decide +kernel), by decide +kernel⟩
theorem wmL_72 : (.methodLink RL 72 yX6_setPlaces : Cond) ∈ TBLG := List.mem_filter.mpr ⟨List.mem_of_getElem? (i := 487) (by decide +kernel), by decide +kernel⟩
theorem wmL_75 : (.methodLink RL 75 yX6_turn : Cond) ∈ TBLG := List.mem_filter.mpr ⟨List.mem_of_getElem? (i := 494) (by decide +kernel), by decide +kernel⟩
theorem wmL_80 : (.methodLink RL 80 yL_part : Cond) ∈ TBLG := List.mem_filter.mpr ⟨List.mem_of_getElem? (i := 520) (by decide +kernel), by decide +kernel⟩
theorem wmL_84 : (.methodLink RL 84 yX6_formula : Cond) ∈ TBLG := List.mem_filter.mpr ⟨List.mem_of_getElem? (i := 545) (by decide +kernel), by decide +kernel⟩
theorem wmL_87 : (.methodLink RL 87 yX6_node : Cond) ∈ TBLG := List.mem_filter.mpr ⟨List.mem_of_getElem? (i := 556) (by decide +kernel), by decide +kernel⟩
theorem wmL_91 : (.methodLink RL 91 yX6_proved : Cond) ∈ TBLG := List.mem_filter.mpr ⟨List.mem_of_getElem? (i := 564) (by decide +kernel), by decide +kernel⟩
theorem wmL_94 : (.methodLink RL 94 yL_worths : Cond) ∈ TBLG := List.mem_filter.mpr ⟨List.mem_of_getElem? (i := 539) (by decide +kernel), by decide +kernel⟩
theorem wmL_98 : (.methodLink RL 98 yL_isFormula : Cond) ∈ TBLG := List.mem_filter.mpr ⟨List.mem_of_getElem? (i := 542) (by decide +kernel), by decide +kernel⟩
theorem wmL_101 : (.methodLink RL 101 yX6_cell : Cond) ∈ TBLG := List.mem_filter.mpr ⟨List.mem_of_getElem? (i := 268) (by decide +kernel), by decide +kernel⟩
theorem wmL_104 : (.methodLink RL 104 yX6_init : Cond) ∈ TBLG := List.mem_filter.mpr ⟨List.mem_of_getElem? (i := 58) (by decide +kernel), by decide +kernel⟩
theorem wmL_105 : (.methodLink RL 105 yL_isSo : Cond) ∈ TBLG := List.mem_filter.mpr ⟨List.mem_of_getElem? (i := 536) (by decide +kernel), by decide +kernel⟩
theorem wmL_109 : (.methodLink RL 109 yL_cell : Cond) ∈ TBLG := List.mem_filter.mpr ⟨List.mem_of_getElem? (i := 275) (by decide +kernel), by decide +kernel⟩
theorem wmL_112 : (.methodLink RL 112 yL_acts : Cond) ∈ TBLG := List.mem_filter.mpr ⟨List.mem_of_getElem? (i := 479) (by decide +kernel), by decide +kernel⟩
theorem wiX6_init : (.instanceMethod yX6_init : Cond) ∈ TBLG := List.mem_filter.mpr ⟨List.mem_of_getElem? (i := 59) (by decide +kernel), by decide +kernel⟩
theorem wcX6_init : (.code yX6_init cX6_init 2 none : Cond) ∈ TBLG := List.mem_filter.mpr ⟨List.mem_of_getElem? (i := 60) (by decide +kernel), by decide +kernel⟩
theorem wiX6_append : (.instanceMethod yX6_append : Cond) ∈ TBLG := List.mem_filter.mpr ⟨List.mem_of_getElem? (i := 300) (by decide +kernel), by decide +kernel⟩
theorem wvX6_append : (.selects RX6 yX6_append yX6_append : Cond) ∈ TBLG := List.mem_filter.mpr ⟨List.mem_of_getElem? (i := 301) (by decide +kernel), by decide +kernel⟩
theorem wcX6_append : (.code yX6_append cX6_append 2 (some .int) : Cond) ∈ TBLG := List.mem_filter.mpr ⟨List.mem_of_getElem? (i := 302) (by decide +kernel), by decide +kernel⟩
theorem wsX6_arePlaces : (.static yX6_arePlaces : Cond) ∈ TBLG := List.mem_filter.mpr ⟨List.mem_of_getElem? (i := 492) (by decide +kernel), by decide +kernel⟩
theorem wcX6_arePlaces : (.code yX6_arePlaces cX6_arePlaces 1 (some .boolean) : Cond) ∈ TBLG := List.mem_filter.mpr ⟨List.mem_of_getElem? (i := 493) (by decide +kernel), by decide +kernel⟩
theorem wiX6_cell : (.instanceMethod yX6_cell : Cond) ∈ TBLG := List.mem_filter.mpr ⟨List.mem_of_getElem? (i := 269) (by decide +kernel), by decide +kernel⟩
theorem wvX6_cell : (.selects RX6 yX6_cell yX6_cell : Cond) ∈ TBLG := List.mem_filter.mpr ⟨List.mem_of_getElem? (i := 270) (by decide +kernel), by decide +kernel⟩
theorem wcX6_cell : (.code yX6_cell cX6_cell 2 (some .int) : Cond) ∈ TBLG := List.mem_filter.mpr ⟨List.mem_of_getElem? (i := 271) (by decide +kernel), by decide +kernel⟩
theorem wiX6_cheapDefinitions : (.instanceMethod yX6_cheapDefinitions : Cond) ∈ TBLG := List.mem_filter.mpr ⟨List.mem_of_getElem? (i := 249) (by decide +kernel), by decide +kernel⟩
theorem wvX6_cheapDefinitions : (.selects RX6 yX6_cheapDefinitions yX6_cheapDefinitions : Cond) ∈ TBLG := List.mem_filter.mpr ⟨List.mem_of_getElem? (i := 0) (by decide +kernel), by decide +kernel⟩
theorem wcX6_cheapDefinitions : (.code yX6_cheapDefinitions cX6_cheapDefinitions 3 (some .int) : Cond) ∈ TBLG := List.mem_filter.mpr ⟨List.mem_of_getElem? (i := 250) (by decide +kernel), by decide +kernel⟩
theorem wiX6_clearText : (.instanceMethod yX6_clearText : Cond) ∈ TBLG := List.mem_filter.mpr ⟨List.mem_of_getElem? (i := 287) (by decide +kernel), by decide +kernel⟩
theorem wvX6_clearText : (.selects RX6 yX6_clearText yX6_clearText : Cond) ∈ TBLG := List.mem_filter.mpr ⟨List.mem_of_getElem? (i := 288) (by decide +kernel), by decide +kernel⟩
theorem wcX6_clearText : (.code yX6_clearText cX6_clearText 2 (some .int) : Cond) ∈ TBLG := List.mem_filter.mpr ⟨List.mem_of_getElem? (i := 289) (by decide +kernel), by decide +kernel⟩
theorem wiX6_count : (.instanceMethod yX6_count : Cond) ∈ TBLG := List.mem_filter.mpr ⟨List.mem_of_getElem? (i := 244) (by decide +kernel), by decide +kernel⟩
theorem wvX6_count : (.selects RX6 yX6_count yX6_count : Cond) ∈ TBLG := List.mem_filter.mpr ⟨List.mem_of_getElem? (i := 245) (by decide +kernel), by decide +kernel⟩
theorem wcX6_count : (.code yX6_count cX6_count 2 (some .int) : Cond) ∈ TBLG := List.mem_filter.mpr ⟨List.mem_of_getElem? (i := 246) (by decide +kernel), by decide +kernel⟩
theorem wiX6_dropOldestState : (.instanceMethod yX6_dropOldestState : Cond) ∈ TBLG := List.mem_filter.mpr ⟨List.mem_of_getElem? (i := 380) (by decide +kernel), by decide +kernel⟩
theorem wvX6_dropOldestState : (.selects RX6 yX6_dropOldestState yX6_dropOldestState : Cond) ∈ TBLG := List.mem_filter.mpr ⟨List.mem_of_getElem? (i := 19) (by decide +kernel), by decide +kernel⟩
theorem wcX6_dropOldestState : (.code yX6_dropOldestState cX6_dropOldestState 3 none : Cond) ∈ TBLG := List.mem_filter.mpr ⟨List.mem_of_getElem? (i := 381) (by decide +kernel), by decide +kernel⟩
theorem wiX6_formula : (.instanceMethod yX6_formula : Cond) ∈ TBLG := List.mem_filter.mpr ⟨List.mem_of_getElem? (i := 546) (by decide +kernel), by decide +kernel⟩
theorem wvX6_formula : (.selects RX6 yX6_formula yX6_formula : Cond) ∈ TBLG := List.mem_filter.mpr ⟨List.mem_of_getElem? (i := 547) (by decide +kernel), by decide +kernel⟩
theorem wcX6_formula : (.code yX6_formula cX6_formula 4 (some .int) : Cond) ∈ TBLG := List.mem_filter.mpr ⟨List.mem_of_getElem? (i := 548) (by decide +kernel), by decide +kernel⟩
theorem wiX6_greatestNeed : (.instanceMethod yX6_greatestNeed : Cond) ∈ TBLG := List.mem_filter.mpr ⟨List.mem_of_getElem? (i := 257) (by decide +kernel), by decide +kernel⟩
theorem wvX6_greatestNeed : (.selects RX6 yX6_greatestNeed yX6_greatestNeed : Cond) ∈ TBLG := List.mem_filter.mpr ⟨List.mem_of_getElem? (i := 2) (by decide +kernel), by decide +kernel⟩
theorem wcX6_greatestNeed : (.code yX6_greatestNeed cX6_greatestNeed 3 (some .int) : Cond) ∈ TBLG := List.mem_filter.mpr ⟨List.mem_of_getElem? (i := 258) (by decide +kernel), by decide +kernel⟩
theorem wsX6_isCell : (.static yX6_isCell : Cond) ∈ TBLG := List.mem_filter.mpr ⟨List.mem_of_getElem? (i := 273) (by decide +kernel), by decide +kernel⟩
theorem wcX6_isCell : (.code yX6_isCell cX6_isCell 1 (some .boolean) : Cond) ∈ TBLG := List.mem_filter.mpr ⟨List.mem_of_getElem? (i := 274) (by decide +kernel), by decide +kernel⟩
theorem wiX6_isFormula : (.instanceMethod yX6_isFormula : Cond) ∈ TBLG := List.mem_filter.mpr ⟨List.mem_of_getElem? (i := 500) (by decide +kernel), by decide +kernel⟩
theorem wvX6_isFormula : (.selects RX6 yX6_isFormula yX6_isFormula : Cond) ∈ TBLG := List.mem_filter.mpr ⟨List.mem_of_getElem? (i := 37) (by decide +kernel), by decide +kernel⟩
theorem wcX6_isFormula : (.code yX6_isFormula cX6_isFormula 2 (some .boolean) : Cond) ∈ TBLG := List.mem_filter.mpr ⟨List.mem_of_getElem? (i := 501) (by decide +kernel), by decide +kernel⟩
theorem wiX6_node : (.instanceMethod yX6_node : Cond) ∈ TBLG := List.mem_filter.mpr ⟨List.mem_of_getElem? (i := 557) (by decide +kernel), by decide +kernel⟩
theorem wvX6_node : (.selects RX6 yX6_node yX6_node : Cond) ∈ TBLG := List.mem_filter.mpr ⟨List.mem_of_getElem? (i := 558) (by decide +kernel), by decide +kernel⟩
theorem wcX6_node : (.code yX6_node cX6_node 6 (some .int) : Cond) ∈ TBLG := List.mem_filter.mpr ⟨List.mem_of_getElem? (i := 559) (by decide +kernel), by decide +kernel⟩
theorem wiX6_nodesAsRead : (.instanceMethod yX6_nodesAsRead : Cond) ∈ TBLG := List.mem_filter.mpr ⟨List.mem_of_getElem? (i := 253) (by decide +kernel), by decide +kernel⟩
theorem wvX6_nodesAsRead : (.selects RX6 yX6_nodesAsRead yX6_nodesAsRead : Cond) ∈ TBLG := List.mem_filter.mpr ⟨List.mem_of_getElem? (i := 1) (by decide +kernel), by decide +kernel⟩
theorem wcX6_nodesAsRead : (.code yX6_nodesAsRead cX6_nodesAsRead 3 (some .int) : Cond) ∈ TBLG := List.mem_filter.mpr ⟨List.mem_of_getElem? (i := 254) (by decide +kernel), by decide +kernel⟩
theorem wsX6_partsOf : (.static yX6_partsOf : Cond) ∈ TBLG := List.mem_filter.mpr ⟨List.mem_of_getElem? (i := 437) (by decide +kernel), by decide +kernel⟩
theorem wcX6_partsOf : (.code yX6_partsOf cX6_partsOf 1 (some .int) : Cond) ∈ TBLG := List.mem_filter.mpr ⟨List.mem_of_getElem? (i := 438) (by decide +kernel), by decide +kernel⟩
theorem wiX6_proved : (.instanceMethod yX6_proved : Cond) ∈ TBLG := List.mem_filter.mpr ⟨List.mem_of_getElem? (i := 565) (by decide +kernel), by decide +kernel⟩
theorem wvX6_proved : (.selects RX6 yX6_proved yX6_proved : Cond) ∈ TBLG := List.mem_filter.mpr ⟨List.mem_of_getElem? (i := 566) (by decide +kernel), by decide +kernel⟩
theorem wcX6_proved : (.code yX6_proved cX6_proved 3 (some .int) : Cond) ∈ TBLG := List.mem_filter.mpr ⟨List.mem_of_getElem? (i := 567) (by decide +kernel), by decide +kernel⟩
theorem wiX6_read : (.instanceMethod yX6_read : Cond) ∈ TBLG := List.mem_filter.mpr ⟨List.mem_of_getElem? (i := 312) (by decide +kernel), by decide +kernel⟩
theorem wvX6_read : (.selects RX6 yX6_read yX6_read : Cond) ∈ TBLG := List.mem_filter.mpr ⟨List.mem_of_getElem? (i := 313) (by decide +kernel), by decide +kernel⟩
theorem wcX6_read : (.code yX6_read cX6_read 1 (some .int) : Cond) ∈ TBLG := List.mem_filter.mpr ⟨List.mem_of_getElem? (i := 314) (by decide +kernel), by decide +kernel⟩
theorem wiX6_recordState : (.instanceMethod yX6_recordState : Cond) ∈ TBLG := List.mem_filter.mpr ⟨List.mem_of_getElem? (i := 376) (by decide +kernel), by decide +kernel⟩
theorem wvX6_recordState : (.selects RX6 yX6_recordState yX6_recordState : Cond) ∈ TBLG := List.mem_filter.mpr ⟨List.mem_of_getElem? (i := 18) (by decide +kernel), by decide +kernel⟩
theorem wcX6_recordState : (.code yX6_recordState cX6_recordState 1 none : Cond) ∈ TBLG := List.mem_filter.mpr ⟨List.mem_of_getElem? (i := 377) (by decide +kernel), by decide +kernel⟩
theorem wiX6_refusalToTry : (.instanceMethod yX6_refusalToTry : Cond) ∈ TBLG := List.mem_filter.mpr ⟨List.mem_of_getElem? (i := 570) (by decide +kernel), by decide +kernel⟩
theorem wvX6_refusalToTry : (.selects RX6 yX6_refusalToTry yX6_refusalToTry : Cond) ∈ TBLG := List.mem_filter.mpr ⟨List.mem_of_getElem? (i := 42) (by decide +kernel), by decide +kernel⟩
theorem wcX6_refusalToTry : (.code yX6_refusalToTry cX6_refusalToTry 2 (some .int) : Cond) ∈ TBLG := List.mem_filter.mpr ⟨List.mem_of_getElem? (i := 571) (by decide +kernel), by decide +kernel⟩
theorem wiX6_setCell : (.instanceMethod yX6_setCell : Cond) ∈ TBLG := List.mem_filter.mpr ⟨List.mem_of_getElem? (i := 484) (by decide +kernel), by decide +kernel⟩
theorem wvX6_setCell : (.selects RX6 yX6_setCell yX6_setCell : Cond) ∈ TBLG := List.mem_filter.mpr ⟨List.mem_of_getElem? (i := 485) (by decide +kernel), by decide +kernel⟩
theorem wcX6_setCell : (.code yX6_setCell cX6_setCell 4 (some .int) : Cond) ∈ TBLG := List.mem_filter.mpr ⟨List.mem_of_getElem? (i := 486) (by decide +kernel), by decide +kernel⟩
theorem wiX6_setPlaces : (.instanceMethod yX6_setPlaces : Cond) ∈ TBLG := List.mem_filter.mpr ⟨List.mem_of_getElem? (i := 488) (by decide +kernel), by decide +kernel⟩
theorem wvX6_setPlaces : (.selects RX6 yX6_setPlaces yX6_setPlaces : Cond) ∈ TBLG := List.mem_filter.mpr ⟨List.mem_of_getElem? (i := 489) (by decide +kernel), by decide +kernel⟩
theorem wcX6_setPlaces : (.code yX6_setPlaces cX6_setPlaces 3 (some .int) : Cond) ∈ TBLG := List.mem_filter.mpr ⟨List.mem_of_getElem? (i := 490) (by decide +kernel), by decide +kernel⟩
theorem wiX6_turn : (.instanceMethod yX6_turn : Cond) ∈ TBLG := List.mem_filter.mpr ⟨List.mem_of_getElem? (i := 495) (by decide +kernel), by decide +kernel⟩
theorem wvX6_turn : (.selects RX6 yX6_turn yX6_turn : Cond) ∈ TBLG := List.mem_filter.mpr ⟨List.mem_of_getElem? (i := 496) (by decide +kernel), by decide +kernel⟩
theorem wcX6_turn : (.code yX6_turn cX6_turn 4 (some .int) : Cond) ∈ TBLG := List.mem_filter.mpr ⟨List.mem_of_getElem? (i := 497) (by decide +kernel), by decide +kernel⟩
theorem wiX6_usesOf : (.instanceMethod yX6_usesOf : Cond) ∈ TBLG := List.mem_filter.mpr ⟨List.mem_of_getElem? (i := 553) (by decide +kernel), by decide +kernel⟩
theorem wvX6_usesOf : (.selects RX6 yX6_usesOf yX6_usesOf : Cond) ∈ TBLG := List.mem_filter.mpr ⟨List.mem_of_getElem? (i := 41) (by decide +kernel), by decide +kernel⟩
theorem wcX6_usesOf : (.code yX6_usesOf cX6_usesOf 7 (some .int) : Cond) ∈ TBLG := List.mem_filter.mpr ⟨List.mem_of_getElem? (i := 554) (by decide +kernel), by decide +kernel⟩
theorem wiX6_workAnew : (.instanceMethod yX6_workAnew : Cond) ∈ TBLG := List.mem_filter.mpr ⟨List.mem_of_getElem? (i := 415) (by decide +kernel), by decide +kernel⟩
theorem wvX6_workAnew : (.selects RX6 yX6_workAnew yX6_workAnew : Cond) ∈ TBLG := List.mem_filter.mpr ⟨List.mem_of_getElem? (i := 27) (by decide +kernel), by decide +kernel⟩
theorem wcX6_workAnew : (.code yX6_workAnew cX6_workAnew 3 none : Cond) ∈ TBLG := List.mem_filter.mpr ⟨List.mem_of_getElem? (i := 416) (by decide +kernel), by decide +kernel⟩
theorem wiX0_depthOf : (.instanceMethod yX0_depthOf : Cond) ∈ TBLG := List.mem_filter.mpr ⟨List.mem_of_getElem? (i := 458) (by decide +kernel), by decide +kernel⟩
theorem wvX0_depthOf : (.selects RX0 yX0_depthOf yX0_depthOf : Cond) ∈ TBLG := List.mem_filter.mpr ⟨List.mem_of_getElem? (i := 35) (by decide +kernel), by decide +kernel⟩
theorem wcX0_depthOf : (.code yX0_depthOf cX0_depthOf 2 (some .int) : Cond) ∈ TBLG := List.mem_filter.mpr ⟨List.mem_of_getElem? (i := 459) (by decide +kernel), by decide +kernel⟩
theorem wsX0_entry : (.static yX0_entry : Cond) ∈ TBLG := List.mem_filter.mpr ⟨List.mem_of_getElem? (i := 264) (by decide +kernel), by decide +kernel⟩
theorem wcX0_entry : (.code yX0_entry cX0_entry 2 (some .int) : Cond) ∈ TBLG := List.mem_filter.mpr ⟨List.mem_of_getElem? (i := 265) (by decide +kernel), by decide +kernel⟩
theorem wiX0_leafValue : (.instanceMethod yX0_leafValue : Cond) ∈ TBLG := List.mem_filter.mpr ⟨List.mem_of_getElem? (i := 445) (by decide +kernel), by decide +kernel⟩
theorem wvX0_leafValue : (.selects RX0 yX0_leafValue yX0_leafValue : Cond) ∈ TBLG := List.mem_filter.mpr ⟨List.mem_of_getElem? (i := 32) (by decide +kernel), by decide +kernel⟩
theorem wcX0_leafValue : (.code yX0_leafValue cX0_leafValue 6 (some .int) : Cond) ∈ TBLG := List.mem_filter.mpr ⟨List.mem_of_getElem? (i := 446) (by decide +kernel), by decide +kernel⟩
theorem wiX0_make : (.instanceMethod yX0_make : Cond) ∈ TBLG := List.mem_filter.mpr ⟨List.mem_of_getElem? (i := 419) (by decide +kernel), by decide +kernel⟩
theorem wvX0_make : (.selects RX0 yX0_make yX0_make : Cond) ∈ TBLG := List.mem_filter.mpr ⟨List.mem_of_getElem? (i := 28) (by decide +kernel), by decide +kernel⟩
theorem wcX0_make : (.code yX0_make cX0_make 7 none : Cond) ∈ TBLG := List.mem_filter.mpr ⟨List.mem_of_getElem? (i := 420) (by decide +kernel), by decide +kernel⟩
theorem wiX0_measure : (.instanceMethod yX0_measure : Cond) ∈ TBLG := List.mem_filter.mpr ⟨List.mem_of_getElem? (i := 431) (by decide +kernel), by decide +kernel⟩
theorem wvX0_measure : (.selects RX0 yX0_measure yX0_measure : Cond) ∈ TBLG := List.mem_filter.mpr ⟨List.mem_of_getElem? (i := 30) (by decide +kernel), by decide +kernel⟩
theorem wcX0_measure : (.code yX0_measure cX0_measure 8 none : Cond) ∈ TBLG := List.mem_filter.mpr ⟨List.mem_of_getElem? (i := 432) (by decide +kernel), by decide +kernel⟩
theorem wiX0_needOf : (.instanceMethod yX0_needOf : Cond) ∈ TBLG := List.mem_filter.mpr ⟨List.mem_of_getElem? (i := 261) (by decide +kernel), by decide +kernel⟩
theorem wvX0_needOf : (.selects RX0 yX0_needOf yX0_needOf : Cond) ∈ TBLG := List.mem_filter.mpr ⟨List.mem_of_getElem? (i := 3) (by decide +kernel), by decide +kernel⟩
theorem wcX0_needOf : (.code yX0_needOf cX0_needOf 2 (some .int) : Cond) ∈ TBLG := List.mem_filter.mpr ⟨List.mem_of_getElem? (i := 262) (by decide +kernel), by decide +kernel⟩
theorem wsX0_needOfPair : (.static yX0_needOfPair : Cond) ∈ TBLG := List.mem_filter.mpr ⟨List.mem_of_getElem? (i := 466) (by decide +kernel), by decide +kernel⟩
theorem wcX0_needOfPair : (.code yX0_needOfPair cX0_needOfPair 2 (some .int) : Cond) ∈ TBLG := List.mem_filter.mpr ⟨List.mem_of_getElem? (i := 467) (by decide +kernel), by decide +kernel⟩
theorem wsX0_operate : (.static yX0_operate : Cond) ∈ TBLG := List.mem_filter.mpr ⟨List.mem_of_getElem? (i := 469) (by decide +kernel), by decide +kernel⟩
theorem wcX0_operate : (.code yX0_operate cX0_operate 7 (some .int) : Cond) ∈ TBLG := List.mem_filter.mpr ⟨List.mem_of_getElem? (i := 470) (by decide +kernel), by decide +kernel⟩
theorem wiX0_pairs : (.instanceMethod yX0_pairs : Cond) ∈ TBLG := List.mem_filter.mpr ⟨List.mem_of_getElem? (i := 574) (by decide +kernel), by decide +kernel⟩
theorem wvX0_pairs : (.selects RX0 yX0_pairs yX0_pairs : Cond) ∈ TBLG := List.mem_filter.mpr ⟨List.mem_of_getElem? (i := 43) (by decide +kernel), by decide +kernel⟩
theorem wcX0_pairs : (.code yX0_pairs cX0_pairs 3 (some .int) : Cond) ∈ TBLG := List.mem_filter.mpr ⟨List.mem_of_getElem? (i := 575) (by decide +kernel), by decide +kernel⟩
theorem wiX0_put : (.instanceMethod yX0_put : Cond) ∈ TBLG := List.mem_filter.mpr ⟨List.mem_of_getElem? (i := 441) (by decide +kernel), by decide +kernel⟩
theorem wvX0_put : (.selects RX0 yX0_put yX0_put : Cond) ∈ TBLG := List.mem_filter.mpr ⟨List.mem_of_getElem? (i := 31) (by decide +kernel), by decide +kernel⟩
theorem wcX0_put : (.code yX0_put cX0_put 5 none : Cond) ∈ TBLG := List.mem_filter.mpr ⟨List.mem_of_getElem? (i := 442) (by decide +kernel), by decide +kernel⟩
theorem wiX0_rightOf : (.instanceMethod yX0_rightOf : Cond) ∈ TBLG := List.mem_filter.mpr ⟨List.mem_of_getElem? (i := 462) (by decide +kernel), by decide +kernel⟩
theorem wvX0_rightOf : (.selects RX0 yX0_rightOf yX0_rightOf : Cond) ∈ TBLG := List.mem_filter.mpr ⟨List.mem_of_getElem? (i := 36) (by decide +kernel), by decide +kernel⟩
theorem wcX0_rightOf : (.code yX0_rightOf cX0_rightOf 2 (some .int) : Cond) ∈ TBLG := List.mem_filter.mpr ⟨List.mem_of_getElem? (i := 463) (by decide +kernel), by decide +kernel⟩
theorem wiX0_sizeOf : (.instanceMethod yX0_sizeOf : Cond) ∈ TBLG := List.mem_filter.mpr ⟨List.mem_of_getElem? (i := 453) (by decide +kernel), by decide +kernel⟩
theorem wvX0_sizeOf : (.selects RX0 yX0_sizeOf yX0_sizeOf : Cond) ∈ TBLG := List.mem_filter.mpr ⟨List.mem_of_getElem? (i := 34) (by decide +kernel), by decide +kernel⟩
theorem wcX0_sizeOf : (.code yX0_sizeOf cX0_sizeOf 2 (some .int) : Cond) ∈ TBLG := List.mem_filter.mpr ⟨List.mem_of_getElem? (i := 454) (by decide +kernel), by decide +kernel⟩
theorem wiX0_valueOf : (.instanceMethod yX0_valueOf : Cond) ∈ TBLG := List.mem_filter.mpr ⟨List.mem_of_getElem? (i := 449) (by decide +kernel), by decide +kernel⟩
theorem wvX0_valueOf : (.selects RX0 yX0_valueOf yX0_valueOf : Cond) ∈ TBLG := List.mem_filter.mpr ⟨List.mem_of_getElem? (i := 33) (by decide +kernel), by decide +kernel⟩
theorem wcX0_valueOf : (.code yX0_valueOf cX0_valueOf 2 (some .int) : Cond) ∈ TBLG := List.mem_filter.mpr ⟨List.mem_of_getElem? (i := 450) (by decide +kernel), by decide +kernel⟩
theorem wiX1_add : (.instanceMethod yX1_add : Cond) ∈ TBLG := List.mem_filter.mpr ⟨List.mem_of_getElem? (i := 349) (by decide +kernel), by decide +kernel⟩
theorem wvX1_add : (.selects RX1 yX1_add yX1_add : Cond) ∈ TBLG := List.mem_filter.mpr ⟨List.mem_of_getElem? (i := 13) (by decide +kernel), by decide +kernel⟩
theorem wcX1_add : (.code yX1_add cX1_add 3 (some .boolean) : Cond) ∈ TBLG := List.mem_filter.mpr ⟨List.mem_of_getElem? (i := 350) (by decide +kernel), by decide +kernel⟩
theorem wiX1_addAll : (.instanceMethod yX1_addAll : Cond) ∈ TBLG := List.mem_filter.mpr ⟨List.mem_of_getElem? (i := 396) (by decide +kernel), by decide +kernel⟩
theorem wvX1_addAll : (.selects RX1 yX1_addAll yX1_addAll : Cond) ∈ TBLG := List.mem_filter.mpr ⟨List.mem_of_getElem? (i := 23) (by decide +kernel), by decide +kernel⟩
theorem wcX1_addAll : (.code yX1_addAll cX1_addAll 4 none : Cond) ∈ TBLG := List.mem_filter.mpr ⟨List.mem_of_getElem? (i := 397) (by decide +kernel), by decide +kernel⟩
theorem wiX1_behind : (.instanceMethod yX1_behind : Cond) ∈ TBLG := List.mem_filter.mpr ⟨List.mem_of_getElem? (i := 511) (by decide +kernel), by decide +kernel⟩
theorem wvX1_behind : (.selects RX1 yX1_behind yX1_behind : Cond) ∈ TBLG := List.mem_filter.mpr ⟨List.mem_of_getElem? (i := 39) (by decide +kernel), by decide +kernel⟩
theorem wcX1_behind : (.code yX1_behind cX1_behind 4 (some .int) : Cond) ∈ TBLG := List.mem_filter.mpr ⟨List.mem_of_getElem? (i := 512) (by decide +kernel), by decide +kernel⟩
theorem wiX1_contentOf : (.instanceMethod yX1_contentOf : Cond) ∈ TBLG := List.mem_filter.mpr ⟨List.mem_of_getElem? (i := 408) (by decide +kernel), by decide +kernel⟩
theorem wvX1_contentOf : (.selects RX1 yX1_contentOf yX1_contentOf : Cond) ∈ TBLG := List.mem_filter.mpr ⟨List.mem_of_getElem? (i := 26) (by decide +kernel), by decide +kernel⟩
theorem wcX1_contentOf : (.code yX1_contentOf cX1_contentOf 2 (some .int) : Cond) ∈ TBLG := List.mem_filter.mpr ⟨List.mem_of_getElem? (i := 409) (by decide +kernel), by decide +kernel⟩
theorem wiX1_copy : (.instanceMethod yX1_copy : Cond) ∈ TBLG := List.mem_filter.mpr ⟨List.mem_of_getElem? (i := 392) (by decide +kernel), by decide +kernel⟩
theorem wvX1_copy : (.selects RX1 yX1_copy yX1_copy : Cond) ∈ TBLG := List.mem_filter.mpr ⟨List.mem_of_getElem? (i := 22) (by decide +kernel), by decide +kernel⟩
theorem wcX1_copy : (.code yX1_copy cX1_copy 2 none : Cond) ∈ TBLG := List.mem_filter.mpr ⟨List.mem_of_getElem? (i := 393) (by decide +kernel), by decide +kernel⟩
theorem wiX1_exchange : (.instanceMethod yX1_exchange : Cond) ∈ TBLG := List.mem_filter.mpr ⟨List.mem_of_getElem? (i := 507) (by decide +kernel), by decide +kernel⟩
theorem wvX1_exchange : (.selects RX1 yX1_exchange yX1_exchange : Cond) ∈ TBLG := List.mem_filter.mpr ⟨List.mem_of_getElem? (i := 38) (by decide +kernel), by decide +kernel⟩
theorem wcX1_exchange : (.code yX1_exchange cX1_exchange 4 none : Cond) ∈ TBLG := List.mem_filter.mpr ⟨List.mem_of_getElem? (i := 508) (by decide +kernel), by decide +kernel⟩
theorem wiX1_has : (.instanceMethod yX1_has : Cond) ∈ TBLG := List.mem_filter.mpr ⟨List.mem_of_getElem? (i := 404) (by decide +kernel), by decide +kernel⟩
theorem wvX1_has : (.selects RX1 yX1_has yX1_has : Cond) ∈ TBLG := List.mem_filter.mpr ⟨List.mem_of_getElem? (i := 25) (by decide +kernel), by decide +kernel⟩
theorem wcX1_has : (.code yX1_has cX1_has 2 (some .boolean) : Cond) ∈ TBLG := List.mem_filter.mpr ⟨List.mem_of_getElem? (i := 405) (by decide +kernel), by decide +kernel⟩
theorem wiX1_hasKind : (.instanceMethod yX1_hasKind : Cond) ∈ TBLG := List.mem_filter.mpr ⟨List.mem_of_getElem? (i := 427) (by decide +kernel), by decide +kernel⟩
theorem wvX1_hasKind : (.selects RX1 yX1_hasKind yX1_hasKind : Cond) ∈ TBLG := List.mem_filter.mpr ⟨List.mem_of_getElem? (i := 29) (by decide +kernel), by decide +kernel⟩
theorem wcX1_hasKind : (.code yX1_hasKind cX1_hasKind 3 (some .boolean) : Cond) ∈ TBLG := List.mem_filter.mpr ⟨List.mem_of_getElem? (i := 428) (by decide +kernel), by decide +kernel⟩
theorem wiX1_insert : (.instanceMethod yX1_insert : Cond) ∈ TBLG := List.mem_filter.mpr ⟨List.mem_of_getElem? (i := 369) (by decide +kernel), by decide +kernel⟩
theorem wvX1_insert : (.selects RX1 yX1_insert yX1_insert : Cond) ∈ TBLG := List.mem_filter.mpr ⟨List.mem_of_getElem? (i := 17) (by decide +kernel), by decide +kernel⟩
theorem wcX1_insert : (.code yX1_insert cX1_insert 4 (some .boolean) : Cond) ∈ TBLG := List.mem_filter.mpr ⟨List.mem_of_getElem? (i := 370) (by decide +kernel), by decide +kernel⟩
theorem wiX1_isFull : (.instanceMethod yX1_isFull : Cond) ∈ TBLG := List.mem_filter.mpr ⟨List.mem_of_getElem? (i := 345) (by decide +kernel), by decide +kernel⟩
theorem wvX1_isFull : (.selects RX1 yX1_isFull yX1_isFull : Cond) ∈ TBLG := List.mem_filter.mpr ⟨List.mem_of_getElem? (i := 12) (by decide +kernel), by decide +kernel⟩
theorem wcX1_isFull : (.code yX1_isFull cX1_isFull 1 (some .boolean) : Cond) ∈ TBLG := List.mem_filter.mpr ⟨List.mem_of_getElem? (i := 346) (by decide +kernel), by decide +kernel⟩
theorem wiX1_kindOf : (.instanceMethod yX1_kindOf : Cond) ∈ TBLG := List.mem_filter.mpr ⟨List.mem_of_getElem? (i := 400) (by decide +kernel), by decide +kernel⟩
theorem wvX1_kindOf : (.selects RX1 yX1_kindOf yX1_kindOf : Cond) ∈ TBLG := List.mem_filter.mpr ⟨List.mem_of_getElem? (i := 24) (by decide +kernel), by decide +kernel⟩
theorem wcX1_kindOf : (.code yX1_kindOf cX1_kindOf 2 (some .int) : Cond) ∈ TBLG := List.mem_filter.mpr ⟨List.mem_of_getElem? (i := 401) (by decide +kernel), by decide +kernel⟩
theorem wiX1_turnAround : (.instanceMethod yX1_turnAround : Cond) ∈ TBLG := List.mem_filter.mpr ⟨List.mem_of_getElem? (i := 516) (by decide +kernel), by decide +kernel⟩
theorem wvX1_turnAround : (.selects RX1 yX1_turnAround yX1_turnAround : Cond) ∈ TBLG := List.mem_filter.mpr ⟨List.mem_of_getElem? (i := 40) (by decide +kernel), by decide +kernel⟩
theorem wcX1_turnAround : (.code yX1_turnAround cX1_turnAround 7 none : Cond) ∈ TBLG := List.mem_filter.mpr ⟨List.mem_of_getElem? (i := 517) (by decide +kernel), by decide +kernel⟩
theorem wsX3_isDigit : (.static yX3_isDigit : Cond) ∈ TBLG := List.mem_filter.mpr ⟨List.mem_of_getElem? (i := 357) (by decide +kernel), by decide +kernel⟩
theorem wcX3_isDigit : (.code yX3_isDigit cX3_isDigit 1 (some .boolean) : Cond) ∈ TBLG := List.mem_filter.mpr ⟨List.mem_of_getElem? (i := 358) (by decide +kernel), by decide +kernel⟩
theorem wiX3_pass : (.instanceMethod yX3_pass : Cond) ∈ TBLG := List.mem_filter.mpr ⟨List.mem_of_getElem? (i := 321) (by decide +kernel), by decide +kernel⟩
theorem wvX3_pass : (.selects RX3 yX3_pass yX3_pass : Cond) ∈ TBLG := List.mem_filter.mpr ⟨List.mem_of_getElem? (i := 6) (by decide +kernel), by decide +kernel⟩
theorem wcX3_pass : (.code yX3_pass cX3_pass 3 (some .boolean) : Cond) ∈ TBLG := List.mem_filter.mpr ⟨List.mem_of_getElem? (i := 322) (by decide +kernel), by decide +kernel⟩
theorem wiX3_readFactor : (.instanceMethod yX3_readFactor : Cond) ∈ TBLG := List.mem_filter.mpr ⟨List.mem_of_getElem? (i := 337) (by decide +kernel), by decide +kernel⟩
theorem wvX3_readFactor : (.selects RX3 yX3_readFactor yX3_readFactor : Cond) ∈ TBLG := List.mem_filter.mpr ⟨List.mem_of_getElem? (i := 10) (by decide +kernel), by decide +kernel⟩
theorem wcX3_readFactor : (.code yX3_readFactor cX3_readFactor 4 (some .boolean) : Cond) ∈ TBLG := List.mem_filter.mpr ⟨List.mem_of_getElem? (i := 338) (by decide +kernel), by decide +kernel⟩
theorem wiX3_readLeaf : (.instanceMethod yX3_readLeaf : Cond) ∈ TBLG := List.mem_filter.mpr ⟨List.mem_of_getElem? (i := 354) (by decide +kernel), by decide +kernel⟩
theorem wvX3_readLeaf : (.selects RX3 yX3_readLeaf yX3_readLeaf : Cond) ∈ TBLG := List.mem_filter.mpr ⟨List.mem_of_getElem? (i := 14) (by decide +kernel), by decide +kernel⟩
theorem wcX3_readLeaf : (.code yX3_readLeaf cX3_readLeaf 4 (some .boolean) : Cond) ∈ TBLG := List.mem_filter.mpr ⟨List.mem_of_getElem? (i := 355) (by decide +kernel), by decide +kernel⟩
theorem wiX3_readNested : (.instanceMethod yX3_readNested : Cond) ∈ TBLG := List.mem_filter.mpr ⟨List.mem_of_getElem? (i := 341) (by decide +kernel), by decide +kernel⟩
theorem wvX3_readNested : (.selects RX3 yX3_readNested yX3_readNested : Cond) ∈ TBLG := List.mem_filter.mpr ⟨List.mem_of_getElem? (i := 11) (by decide +kernel), by decide +kernel⟩
theorem wcX3_readNested : (.code yX3_readNested cX3_readNested 4 (some .boolean) : Cond) ∈ TBLG := List.mem_filter.mpr ⟨List.mem_of_getElem? (i := 342) (by decide +kernel), by decide +kernel⟩
theorem wiX3_readNumber : (.instanceMethod yX3_readNumber : Cond) ∈ TBLG := List.mem_filter.mpr ⟨List.mem_of_getElem? (i := 361) (by decide +kernel), by decide +kernel⟩
theorem wvX3_readNumber : (.selects RX3 yX3_readNumber yX3_readNumber : Cond) ∈ TBLG := List.mem_filter.mpr ⟨List.mem_of_getElem? (i := 15) (by decide +kernel), by decide +kernel⟩
theorem wcX3_readNumber : (.code yX3_readNumber cX3_readNumber 3 (some .int) : Cond) ∈ TBLG := List.mem_filter.mpr ⟨List.mem_of_getElem? (i := 362) (by decide +kernel), by decide +kernel⟩
theorem wiX3_readOperation : (.instanceMethod yX3_readOperation : Cond) ∈ TBLG := List.mem_filter.mpr ⟨List.mem_of_getElem? (i := 365) (by decide +kernel), by decide +kernel⟩
theorem wvX3_readOperation : (.selects RX3 yX3_readOperation yX3_readOperation : Cond) ∈ TBLG := List.mem_filter.mpr ⟨List.mem_of_getElem? (i := 16) (by decide +kernel), by decide +kernel⟩
theorem wcX3_readOperation : (.code yX3_readOperation cX3_readOperation 5 (some .boolean) : Cond) ∈ TBLG := List.mem_filter.mpr ⟨List.mem_of_getElem? (i := 366) (by decide +kernel), by decide +kernel⟩
theorem wiX3_readProduct : (.instanceMethod yX3_readProduct : Cond) ∈ TBLG := List.mem_filter.mpr ⟨List.mem_of_getElem? (i := 333) (by decide +kernel), by decide +kernel⟩
theorem wvX3_readProduct : (.selects RX3 yX3_readProduct yX3_readProduct : Cond) ∈ TBLG := List.mem_filter.mpr ⟨List.mem_of_getElem? (i := 9) (by decide +kernel), by decide +kernel⟩
theorem wcX3_readProduct : (.code yX3_readProduct cX3_readProduct 7 (some .boolean) : Cond) ∈ TBLG := List.mem_filter.mpr ⟨List.mem_of_getElem? (i := 334) (by decide +kernel), by decide +kernel⟩
theorem wiX3_readSheet : (.instanceMethod yX3_readSheet : Cond) ∈ TBLG := List.mem_filter.mpr ⟨List.mem_of_getElem? (i := 317) (by decide +kernel), by decide +kernel⟩
theorem wvX3_readSheet : (.selects RX3 yX3_readSheet yX3_readSheet : Cond) ∈ TBLG := List.mem_filter.mpr ⟨List.mem_of_getElem? (i := 5) (by decide +kernel), by decide +kernel⟩
theorem wcX3_readSheet : (.code yX3_readSheet cX3_readSheet 2 (some .boolean) : Cond) ∈ TBLG := List.mem_filter.mpr ⟨List.mem_of_getElem? (i := 318) (by decide +kernel), by decide +kernel⟩
theorem wiX3_readSum : (.instanceMethod yX3_readSum : Cond) ∈ TBLG := List.mem_filter.mpr ⟨List.mem_of_getElem? (i := 329) (by decide +kernel), by decide +kernel⟩
theorem wvX3_readSum : (.selects RX3 yX3_readSum yX3_readSum : Cond) ∈ TBLG := List.mem_filter.mpr ⟨List.mem_of_getElem? (i := 8) (by decide +kernel), by decide +kernel⟩
theorem wcX3_readSum : (.code yX3_readSum cX3_readSum 8 (some .boolean) : Cond) ∈ TBLG := List.mem_filter.mpr ⟨List.mem_of_getElem? (i := 330) (by decide +kernel), by decide +kernel⟩
theorem wiX3_sign : (.instanceMethod yX3_sign : Cond) ∈ TBLG := List.mem_filter.mpr ⟨List.mem_of_getElem? (i := 325) (by decide +kernel), by decide +kernel⟩
theorem wvX3_sign : (.selects RX3 yX3_sign yX3_sign : Cond) ∈ TBLG := List.mem_filter.mpr ⟨List.mem_of_getElem? (i := 7) (by decide +kernel), by decide +kernel⟩
theorem wcX3_sign : (.code yX3_sign cX3_sign 1 (some .int) : Cond) ∈ TBLG := List.mem_filter.mpr ⟨List.mem_of_getElem? (i := 326) (by decide +kernel), by decide +kernel⟩
theorem wiX3_take : (.instanceMethod yX3_take : Cond) ∈ TBLG := List.mem_filter.mpr ⟨List.mem_of_getElem? (i := 305) (by decide +kernel), by decide +kernel⟩
theorem wvX3_take : (.selects RX3 yX3_take yX3_take : Cond) ∈ TBLG := List.mem_filter.mpr ⟨List.mem_of_getElem? (i := 4) (by decide +kernel), by decide +kernel⟩
theorem wcX3_take : (.code yX3_take cX3_take 2 (some .boolean) : Cond) ∈ TBLG := List.mem_filter.mpr ⟨List.mem_of_getElem? (i := 306) (by decide +kernel), by decide +kernel⟩
theorem wiX4_copyFormulas : (.instanceMethod yX4_copyFormulas : Cond) ∈ TBLG := List.mem_filter.mpr ⟨List.mem_of_getElem? (i := 388) (by decide +kernel), by decide +kernel⟩
theorem wvX4_copyFormulas : (.selects RX4 yX4_copyFormulas yX4_copyFormulas : Cond) ∈ TBLG := List.mem_filter.mpr ⟨List.mem_of_getElem? (i := 21) (by decide +kernel), by decide +kernel⟩
theorem wcX4_copyFormulas : (.code yX4_copyFormulas cX4_copyFormulas 3 none : Cond) ∈ TBLG := List.mem_filter.mpr ⟨List.mem_of_getElem? (i := 389) (by decide +kernel), by decide +kernel⟩
theorem wiX4_copyState : (.instanceMethod yX4_copyState : Cond) ∈ TBLG := List.mem_filter.mpr ⟨List.mem_of_getElem? (i := 384) (by decide +kernel), by decide +kernel⟩
theorem wvX4_copyState : (.selects RX4 yX4_copyState yX4_copyState : Cond) ∈ TBLG := List.mem_filter.mpr ⟨List.mem_of_getElem? (i := 20) (by decide +kernel), by decide +kernel⟩
theorem wcX4_copyState : (.code yX4_copyState cX4_copyState 2 none : Cond) ∈ TBLG := List.mem_filter.mpr ⟨List.mem_of_getElem? (i := 385) (by decide +kernel), by decide +kernel⟩
theorem wiX5_tryOrders : (.instanceMethod yX5_tryOrders : Cond) ∈ TBLG := List.mem_filter.mpr ⟨List.mem_of_getElem? (i := 578) (by decide +kernel), by decide +kernel⟩
theorem wvX5_tryOrders : (.selects RX5 yX5_tryOrders yX5_tryOrders : Cond) ∈ TBLG := List.mem_filter.mpr ⟨List.mem_of_getElem? (i := 44) (by decide +kernel), by decide +kernel⟩
theorem wcX5_tryOrders : (.code yX5_tryOrders cX5_tryOrders 3 none : Cond) ∈ TBLG := List.mem_filter.mpr ⟨List.mem_of_getElem? (i := 579) (by decide +kernel), by decide +kernel⟩
theorem wiX5_waysFor : (.instanceMethod yX5_waysFor : Cond) ∈ TBLG := List.mem_filter.mpr ⟨List.mem_of_getElem? (i := 584) (by decide +kernel), by decide +kernel⟩
theorem wvX5_waysFor : (.selects RX5 yX5_waysFor yX5_waysFor : Cond) ∈ TBLG := List.mem_filter.mpr ⟨List.mem_of_getElem? (i := 45) (by decide +kernel), by decide +kernel⟩
theorem wcX5_waysFor : (.code yX5_waysFor cX5_waysFor 8 (some .int) : Cond) ∈ TBLG := List.mem_filter.mpr ⟨List.mem_of_getElem? (i := 585) (by decide +kernel), by decide +kernel⟩
theorem wsL_acts : (.static yL_acts : Cond) ∈ TBLG := List.mem_filter.mpr ⟨List.mem_of_getElem? (i := 480) (by decide +kernel), by decide +kernel⟩
theorem wcL_acts : (.code yL_acts cL_acts 18 (some .boolean) : Cond) ∈ TBLG := List.mem_filter.mpr ⟨List.mem_of_getElem? (i := 481) (by decide +kernel), by decide +kernel⟩
theorem wsL_cell : (.static yL_cell : Cond) ∈ TBLG := List.mem_filter.mpr ⟨List.mem_of_getElem? (i := 276) (by decide +kernel), by decide +kernel⟩
theorem wcL_cell : (.code yL_cell cL_cell 2 (some .int) : Cond) ∈ TBLG := List.mem_filter.mpr ⟨List.mem_of_getElem? (i := 277) (by decide +kernel), by decide +kernel⟩
theorem wsL_expand : (.static yL_expand : Cond) ∈ TBLG := List.mem_filter.mpr ⟨List.mem_of_getElem? (i := 524) (by decide +kernel), by decide +kernel⟩
theorem wcL_expand : (.code yL_expand cL_expand 11 (some .int) : Cond) ∈ TBLG := List.mem_filter.mpr ⟨List.mem_of_getElem? (i := 525) (by decide +kernel), by decide +kernel⟩
theorem wsL_grow : (.static yL_grow : Cond) ∈ TBLG := List.mem_filter.mpr ⟨List.mem_of_getElem? (i := 292) (by decide +kernel), by decide +kernel⟩
theorem wcL_grow : (.code yL_grow cL_grow 10 none : Cond) ∈ TBLG := List.mem_filter.mpr ⟨List.mem_of_getElem? (i := 293) (by decide +kernel), by decide +kernel⟩
theorem wsL_isCheap : (.static yL_isCheap : Cond) ∈ TBLG := List.mem_filter.mpr ⟨List.mem_of_getElem? (i := 527) (by decide +kernel), by decide +kernel⟩
theorem wcL_isCheap : (.code yL_isCheap cL_isCheap 12 (some .boolean) : Cond) ∈ TBLG := List.mem_filter.mpr ⟨List.mem_of_getElem? (i := 528) (by decide +kernel), by decide +kernel⟩
theorem wsL_isFormula : (.static yL_isFormula : Cond) ∈ TBLG := List.mem_filter.mpr ⟨List.mem_of_getElem? (i := 543) (by decide +kernel), by decide +kernel⟩
theorem wcL_isFormula : (.code yL_isFormula cL_isFormula 17 (some .boolean) : Cond) ∈ TBLG := List.mem_filter.mpr ⟨List.mem_of_getElem? (i := 544) (by decide +kernel), by decide +kernel⟩
theorem wsL_isSo : (.static yL_isSo : Cond) ∈ TBLG := List.mem_filter.mpr ⟨List.mem_of_getElem? (i := 537) (by decide +kernel), by decide +kernel⟩
theorem wcL_isSo : (.code yL_isSo cL_isSo 19 (some .boolean) : Cond) ∈ TBLG := List.mem_filter.mpr ⟨List.mem_of_getElem? (i := 538) (by decide +kernel), by decide +kernel⟩
theorem wsL_low : (.static yL_low : Cond) ∈ TBLG := List.mem_filter.mpr ⟨List.mem_of_getElem? (i := 280) (by decide +kernel), by decide +kernel⟩
theorem wcL_low : (.code yL_low cL_low 2 (some .int) : Cond) ∈ TBLG := List.mem_filter.mpr ⟨List.mem_of_getElem? (i := 281) (by decide +kernel), by decide +kernel⟩
theorem wsL_part : (.static yL_part : Cond) ∈ TBLG := List.mem_filter.mpr ⟨List.mem_of_getElem? (i := 521) (by decide +kernel), by decide +kernel⟩
theorem wcL_part : (.code yL_part cL_part 5 (some .int) : Cond) ∈ TBLG := List.mem_filter.mpr ⟨List.mem_of_getElem? (i := 522) (by decide +kernel), by decide +kernel⟩
theorem wsL_put : (.static yL_put : Cond) ∈ TBLG := List.mem_filter.mpr ⟨List.mem_of_getElem? (i := 297) (by decide +kernel), by decide +kernel⟩
theorem wcL_put : (.code yL_put cL_put 3 (some .boolean) : Cond) ∈ TBLG := List.mem_filter.mpr ⟨List.mem_of_getElem? (i := 298) (by decide +kernel), by decide +kernel⟩
theorem wsL_reads : (.static yL_reads : Cond) ∈ TBLG := List.mem_filter.mpr ⟨List.mem_of_getElem? (i := 284) (by decide +kernel), by decide +kernel⟩
theorem wcL_reads : (.code yL_reads cL_reads 12 (some .boolean) : Cond) ∈ TBLG := List.mem_filter.mpr ⟨List.mem_of_getElem? (i := 285) (by decide +kernel), by decide +kernel⟩
theorem wsL_tell : (.static yL_tell : Cond) ∈ TBLG := List.mem_filter.mpr ⟨List.mem_of_getElem? (i := 530) (by decide +kernel), by decide +kernel⟩
theorem wcL_tell : (.code yL_tell cL_tell 14 none : Cond) ∈ TBLG := List.mem_filter.mpr ⟨List.mem_of_getElem? (i := 531) (by decide +kernel), by decide +kernel⟩
theorem wsL_types : (.static yL_types : Cond) ∈ TBLG := List.mem_filter.mpr ⟨List.mem_of_getElem? (i := 309) (by decide +kernel), by decide +kernel⟩
theorem wcL_types : (.code yL_types cL_types 12 (some .boolean) : Cond) ∈ TBLG := List.mem_filter.mpr ⟨List.mem_of_getElem? (i := 310) (by decide +kernel), by decide +kernel⟩
theorem wsL_worths : (.static yL_worths : Cond) ∈ TBLG := List.mem_filter.mpr ⟨List.mem_of_getElem? (i := 540) (by decide +kernel), by decide +kernel⟩
theorem wcL_worths : (.code yL_worths cL_worths 12 none : Cond) ∈ TBLG := List.mem_filter.mpr ⟨List.mem_of_getElem? (i := 541) (by decide +kernel), by decide +kernel⟩
theorem w0X0 : (.initialized RX0 : Cond) ∈ TBLG := List.mem_filter.mpr ⟨List.mem_of_getElem? (i := 54) (by decide +kernel), by decide +kernel⟩
theorem w0X1 : (.initialized RX1 : Cond) ∈ TBLG := List.mem_filter.mpr ⟨List.mem_of_getElem? (i := 50) (by decide +kernel), by decide +kernel⟩
theorem w0X2 : (.initialized RX2 : Cond) ∈ TBLG := List.mem_filter.mpr ⟨List.mem_of_getElem? (i := 52) (by decide +kernel), by decide +kernel⟩
theorem w0X3 : (.initialized RX3 : Cond) ∈ TBLG := List.mem_filter.mpr ⟨List.mem_of_getElem? (i := 48) (by decide +kernel), by decide +kernel⟩
theorem w0X4 : (.initialized RX4 : Cond) ∈ TBLG := List.mem_filter.mpr ⟨List.mem_of_getElem? (i := 49) (by decide +kernel), by decide +kernel⟩
theorem w0X5 : (.initialized RX5 : Cond) ∈ TBLG := List.mem_filter.mpr ⟨List.mem_of_getElem? (i := 53) (by decide +kernel), by decide +kernel⟩
theorem w0X6 : (.initialized RX6 : Cond) ∈ TBLG := List.mem_filter.mpr ⟨List.mem_of_getElem? (i := 47) (by decide +kernel), by decide +kernel⟩
theorem w0L : (.initialized RL : Cond) ∈ TBLG := List.mem_filter.mpr ⟨List.mem_of_getElem? (i := 46) (by decide +kernel), by decide +kernel⟩
theorem w0Math : (.initialized "java/lang/Math" : Cond) ∈ TBLG := List.mem_filter.mpr ⟨List.mem_of_getElem? (i := 51) (by decide +kernel), by decide +kernel⟩
theorem w0System : (.initialized "java/lang/System" : Cond) ∈ TBLG := List.mem_filter.mpr ⟨List.mem_of_getElem? (i := 55) (by decide +kernel), by decide +kernel⟩
theorem wsM_max : (.static Lib.Math.max.name : Cond) ∈ TBLG := List.mem_filter.mpr ⟨List.mem_of_getElem? (i := 84) (by decide +kernel), by decide +kernel⟩
theorem wcM_max : (.code Lib.Math.max.name Lib.Math.max.code 2 (some .int) : Cond) ∈ TBLG := List.mem_filter.mpr ⟨List.mem_of_getElem? (i := 85) (by decide +kernel), by decide +kernel⟩
theorem wsM_min : (.static Lib.Math.min.name : Cond) ∈ TBLG := List.mem_filter.mpr ⟨List.mem_of_getElem? (i := 434) (by decide +kernel), by decide +kernel⟩
theorem wcM_min : (.code Lib.Math.min.name Lib.Math.min.code 2 (some .int) : Cond) ∈ TBLG := List.mem_filter.mpr ⟨List.mem_of_getElem? (i := 435) (by decide +kernel), by decide +kernel⟩
theorem wsM_max_long : (.static Lib.MathLoose.max_long.x : Cond) ∈ TBLG := List.mem_filter.mpr ⟨List.mem_of_getElem? (i := 477) (by decide +kernel), by decide +kernel⟩
theorem wcM_max_long : (.code Lib.MathLoose.max_long.x Lib.MathLoose.max_long.code 4 (some .long) : Cond) ∈ TBLG := List.mem_filter.mpr ⟨List.mem_of_getElem? (i := 478) (by decide +kernel), by decide +kernel⟩
theorem wsM_min_long : (.static Lib.MathLoose.min_long.x : Cond) ∈ TBLG := List.mem_filter.mpr ⟨List.mem_of_getElem? (i := 474) (by decide +kernel), by decide +kernel⟩
theorem wcM_min_long : (.code Lib.MathLoose.min_long.x Lib.MathLoose.min_long.code 4 (some .long) : Cond) ∈ TBLG := List.mem_filter.mpr ⟨List.mem_of_getElem? (i := 475) (by decide +kernel), by decide +kernel⟩
theorem wsM_copy : (.static arraycopyName : Cond) ∈ TBLG := List.mem_filter.mpr ⟨List.mem_of_getElem? (i := 372) (by decide +kernel), by decide +kernel⟩
theorem wnM_copy : (.native arraycopyName : Cond) ∈ TBLG := List.mem_filter.mpr ⟨List.mem_of_getElem? (i := 373) (by decide +kernel), by decide +kernel⟩
theorem inG_X0 : ∀ w ∈ u_ws RX0 TX0 7, w ∈ TBLG := by
  have h : u_ws RX0 TX0 7 = ([206, 208, 210, 212, 214, 216, 218] : List Nat).filterMap (fun i => lw_tbl[i]?) := by decide +kernel
  have h2 : (u_ws RX0 TX0 7).all goodWord = true := by decide +kernel
  intro w hw
  refine List.mem_filter.mpr ⟨?_, List.all_eq_true.mp h2 w hw⟩
  rw [h] at hw
  obtain ⟨i, -, hi⟩ := List.mem_filterMap.mp hw
  exact List.mem_of_getElem? hi
theorem inG_X1 : ∀ w ∈ u_ws RX1 TX1 3, w ∈ TBLG := by
  have h : u_ws RX1 TX1 3 = ([93, 95, 97] : List Nat).filterMap (fun i => lw_tbl[i]?) := by decide +kernel
  have h2 : (u_ws RX1 TX1 3).all goodWord = true := by decide +kernel
  intro w hw
  refine List.mem_filter.mpr ⟨?_, List.all_eq_true.mp h2 w hw⟩
  rw [h] at hw
  obtain ⟨i, -, hi⟩ := List.mem_filterMap.mp hw
  exact List.mem_of_getElem? hi
theorem inG_X2 : ∀ w ∈ u_ws RX2 TX2 10, w ∈ TBLG := by
  have h : u_ws RX2 TX2 10 = ([151, 153, 155, 157, 159, 161, 163, 165, 167, 169] : List Nat).filterMap (fun i => lw_tbl[i]?) := by decide +kernel
  have h2 : (u_ws RX2 TX2 10).all goodWord = true := by decide +kernel
  intro w hw
  refine List.mem_filter.mpr ⟨?_, List.all_eq_true.mp h2 w hw⟩
  rw [h] at hw
  obtain ⟨i, -, hi⟩ := List.mem_filterMap.mp hw
  exact List.mem_of_getElem? hi
theorem inG_X3 : ∀ w ∈ u_ws RX3 TX3 4, w ∈ TBLG := by
  have h : u_ws RX3 TX3 4 = ([127, 129, 131, 133] : List Nat).filterMap (fun i => lw_tbl[i]?) := by decide +kernel
  have h2 : (u_ws RX3 TX3 4).all goodWord = true := by decide +kernel
  intro w hw
  refine List.mem_filter.mpr ⟨?_, List.all_eq_true.mp h2 w hw⟩
  rw [h] at hw
  obtain ⟨i, -, hi⟩ := List.mem_filterMap.mp hw
  exact List.mem_of_getElem? hi
theorem inG_X4 : ∀ w ∈ u_ws RX4 TX4 4, w ∈ TBLG := by
  have h : u_ws RX4 TX4 4 = ([111, 113, 115, 117] : List Nat).filterMap (fun i => lw_tbl[i]?) := by decide +kernel
  have h2 : (u_ws RX4 TX4 4).all goodWord = true := by decide +kernel
  intro w hw
  refine List.mem_filter.mpr ⟨?_, List.all_eq_true.mp h2 w hw⟩
  rw [h] at hw
  obtain ⟨i, -, hi⟩ := List.mem_filterMap.mp hw
  exact List.mem_of_getElem? hi
theorem inG_X5 : ∀ w ∈ u_ws RX5 TX5 3, w ∈ TBLG := by
  have h : u_ws RX5 TX5 3 = ([182, 184, 186] : List Nat).filterMap (fun i => lw_tbl[i]?) := by decide +kernel
  have h2 : (u_ws RX5 TX5 3).all goodWord = true := by decide +kernel
  intro w hw
  refine List.mem_filter.mpr ⟨?_, List.all_eq_true.mp h2 w hw⟩
  rw [h] at hw
  obtain ⟨i, -, hi⟩ := List.mem_filterMap.mp hw
  exact List.mem_of_getElem? hi
theorem inG_X6 : ∀ w ∈ u_ws RX6 TX6 7, w ∈ TBLG := by
  have h : u_ws RX6 TX6 7 = ([228, 230, 232, 234, 236, 238, 240] : List Nat).filterMap (fun i => lw_tbl[i]?) := by decide +kernel
  have h2 : (u_ws RX6 TX6 7).all goodWord = true := by decide +kernel
  intro w hw
  refine List.mem_filter.mpr ⟨?_, List.all_eq_true.mp h2 w hw⟩
  rw [h] at hw
  obtain ⟨i, -, hi⟩ := List.mem_filterMap.mp hw
  exact List.mem_of_getElem? hi
end
section
/-! facts of the cells, and the rows of this program -/
theorem s0 : (sh 0).1 = 6 := by decide +kernel
theorem n0 : ln 0 = 7 := by decide +kernel
theorem m0 : Int32.ofNat (ln 0) = 7 := by decide +kernel
theorem s1 : (sh 1).1 = 3 := by decide +kernel
theorem n1 : ln 1 = 4 := by decide +kernel
theorem m1 : Int32.ofNat (ln 1) = 4 := by decide +kernel
theorem s2 : (sh 2).1 = 10 := by decide +kernel
theorem n2 : ln 2 = 100 := by decide +kernel
theorem m2 : Int32.ofNat (ln 2) = 100 := by decide +kernel
theorem s3 : (sh 3).1 = 4 := by decide +kernel
theorem n3 : ln 3 = 4 := by decide +kernel
theorem m3 : Int32.ofNat (ln 3) = 4 := by decide +kernel
theorem s4 : (sh 4).1 = 12 := by decide +kernel
theorem n4 : ln 4 = 6 := by decide +kernel
theorem m4 : Int32.ofNat (ln 4) = 6 := by decide +kernel
theorem s5 : (sh 5).1 = 10 := by decide +kernel
theorem n5 : ln 5 = 8 := by decide +kernel
theorem m5 : Int32.ofNat (ln 5) = 8 := by decide +kernel
theorem s24 : (sh 24).1 = 4 := by decide +kernel
theorem n24 : ln 24 = 4 := by decide +kernel
theorem m24 : Int32.ofNat (ln 24) = 4 := by decide +kernel
theorem s25 : (sh 25).1 = 12 := by decide +kernel
theorem n25 : ln 25 = 6 := by decide +kernel
theorem m25 : Int32.ofNat (ln 25) = 6 := by decide +kernel
theorem s26 : (sh 26).1 = 10 := by decide +kernel
theorem n26 : ln 26 = 8 := by decide +kernel
theorem m26 : Int32.ofNat (ln 26) = 8 := by decide +kernel
theorem s45 : (sh 45).1 = 13 := by decide +kernel
theorem n45 : ln 45 = 5 := by decide +kernel
theorem m45 : Int32.ofNat (ln 45) = 5 := by decide +kernel
theorem s46 : (sh 46).1 = 14 := by decide +kernel
theorem n46 : ln 46 = 6 := by decide +kernel
theorem m46 : Int32.ofNat (ln 46) = 6 := by decide +kernel
theorem s47 : (sh 47).1 = 2 := by decide +kernel
theorem n47 : ln 47 = 10 := by decide +kernel
theorem m47 : Int32.ofNat (ln 47) = 10 := by decide +kernel
theorem s48 : (sh 48).1 = 10 := by decide +kernel
theorem n48 : ln 48 = 726 := by decide +kernel
theorem m48 : Int32.ofNat (ln 48) = 726 := by decide +kernel
theorem s49 : (sh 49).1 = 10 := by decide +kernel
theorem n49 : ln 49 = 726 := by decide +kernel
theorem m49 : Int32.ofNat (ln 49) = 726 := by decide +kernel
theorem s50 : (sh 50).1 = 10 := by decide +kernel
theorem n50 : ln 50 = 726 := by decide +kernel
theorem m50 : Int32.ofNat (ln 50) = 726 := by decide +kernel
theorem s51 : (sh 51).1 = 10 := by decide +kernel
theorem n51 : ln 51 = 726 := by decide +kernel
theorem m51 : Int32.ofNat (ln 51) = 726 := by decide +kernel
theorem s52 : (sh 52).1 = 5 := by decide +kernel
theorem n52 : ln 52 = 3 := by decide +kernel
theorem m52 : Int32.ofNat (ln 52) = 3 := by decide +kernel
theorem s53 : (sh 53).1 = 10 := by decide +kernel
theorem n53 : ln 53 = 60 := by decide +kernel
theorem m53 : Int32.ofNat (ln 53) = 60 := by decide +kernel
theorem s54 : (sh 54).1 = 10 := by decide +kernel
theorem n54 : ln 54 = 60 := by decide +kernel
theorem m54 : Int32.ofNat (ln 54) = 60 := by decide +kernel
theorem shD0 : ∀ a, a < 208 → (sh a).1 = 0 → sh a = (0, 7) := by decide +kernel
theorem shN0 {a : Nat} (h : (sh a).1 = 0) : sh a = (0, 7) := shD0 a (lt_of_sh h (by omega)) h
theorem shD1 : ∀ a, a < 208 → (sh a).1 = 1 → sh a = (1, 3) := by decide +kernel
theorem shN1 {a : Nat} (h : (sh a).1 = 1) : sh a = (1, 3) := shD1 a (lt_of_sh h (by omega)) h
theorem shD2 : ∀ a, a < 208 → (sh a).1 = 2 → sh a = (2, 10) := by decide +kernel
theorem shN2 {a : Nat} (h : (sh a).1 = 2) : sh a = (2, 10) := shD2 a (lt_of_sh h (by omega)) h
theorem shD3 : ∀ a, a < 208 → (sh a).1 = 3 → sh a = (3, 4) := by decide +kernel
theorem shN3 {a : Nat} (h : (sh a).1 = 3) : sh a = (3, 4) := shD3 a (lt_of_sh h (by omega)) h
theorem shD4 : ∀ a, a < 208 → (sh a).1 = 4 → sh a = (4, 4) := by decide +kernel
theorem shN4 {a : Nat} (h : (sh a).1 = 4) : sh a = (4, 4) := shD4 a (lt_of_sh h (by omega)) h
theorem shD5 : ∀ a, a < 208 → (sh a).1 = 5 → sh a = (5, 3) := by decide +kernel
theorem shN5 {a : Nat} (h : (sh a).1 = 5) : sh a = (5, 3) := shD5 a (lt_of_sh h (by omega)) h
theorem shD6 : ∀ a, a < 208 → (sh a).1 = 6 → sh a = (6, 7) := by decide +kernel
theorem shN6 {a : Nat} (h : (sh a).1 = 6) : sh a = (6, 7) := shD6 a (lt_of_sh h (by omega)) h
theorem tFd : ∀ a, a < 208 → (sh a).1 = 1 → rf a 0 = a + 1 ∧ rf a 1 = a + 2 ∧ (sh (a + 1)).1 = 10 ∧ (sh (a + 2)).1 = 10 ∧ ln (a + 1) = ln (a + 2) ∧ (ln (a + 1) = 30 ∨ ln (a + 1) = 60) := by decide +kernel
theorem tSd : ∀ a, a < 208 → (sh a).1 = 4 → rf a 0 = a + 1 ∧ rf a 2 = a + 2 ∧ (sh (a + 1)).1 = 12 ∧ (sh (a + 2)).1 = 10 ∧ ln (a + 2) = 8 := by decide +kernel
theorem tEd : ∀ a, a < 208 → (sh a).1 = 0 → rf a 1 = a + 1 ∧ (sh (a + 1)).1 = 1 ∧ (rf a 3 = a + 4 ∧ rf a 4 = a + 5 ∧ rf a 5 = a + 6 ∧ rf a 6 = a + 7) ∧ ((sh (a + 4)).1 = 10 ∧ (sh (a + 5)).1 = 10 ∧ (sh (a + 6)).1 = 10 ∧ (sh (a + 7)).1 = 10) ∧ ln (a + 4) = 60 ∧ ln (a + 5) = 60 ∧ ln (a + 6) = 60 ∧ ln (a + 7) = 60 := by decide +kernel
theorem rF0 {a : Nat} (h : (sh a).1 = 1) : rf a 0 = a + 1 := (tFd a (lt_of_sh h (by omega)) h).1
theorem rF1 {a : Nat} (h : (sh a).1 = 1) : rf a 1 = a + 2 := (tFd a (lt_of_sh h (by omega)) h).2.1
theorem tF0 {a : Nat} (h : (sh a).1 = 1) : (sh (a + 1)).1 = 10 := (tFd a (lt_of_sh h (by omega)) h).2.2.1
theorem tF1 {a : Nat} (h : (sh a).1 = 1) : (sh (a + 2)).1 = 10 := (tFd a (lt_of_sh h (by omega)) h).2.2.2.1
theorem rS0 {a : Nat} (h : (sh a).1 = 4) : rf a 0 = a + 1 := (tSd a (lt_of_sh h (by omega)) h).1
theorem rS2 {a : Nat} (h : (sh a).1 = 4) : rf a 2 = a + 2 := (tSd a (lt_of_sh h (by omega)) h).2.1
theorem tS0 {a : Nat} (h : (sh a).1 = 4) : (sh (a + 1)).1 = 12 := (tSd a (lt_of_sh h (by omega)) h).2.2.1
theorem tS2 {a : Nat} (h : (sh a).1 = 4) : (sh (a + 2)).1 = 10 := (tSd a (lt_of_sh h (by omega)) h).2.2.2.1
theorem nS2 {a : Nat} (h : (sh a).1 = 4) : ln (a + 2) = 8 := (tSd a (lt_of_sh h (by omega)) h).2.2.2.2
theorem rE1 {a : Nat} (h : (sh a).1 = 0) : rf a 1 = a + 1 := (tEd a (lt_of_sh h (by omega)) h).1
theorem tE1 {a : Nat} (h : (sh a).1 = 0) : (sh (a + 1)).1 = 1 := (tEd a (lt_of_sh h (by omega)) h).2.1
theorem rE3 {a : Nat} (h : (sh a).1 = 0) : rf a 3 = a + 4 := (tEd a (lt_of_sh h (by omega)) h).2.2.1.1
theorem tE3 {a : Nat} (h : (sh a).1 = 0) : (sh (a + 4)).1 = 10 := (tEd a (lt_of_sh h (by omega)) h).2.2.2.1.1
theorem nE3 {a : Nat} (h : (sh a).1 = 0) : ln (a + 4) = 60 := (tEd a (lt_of_sh h (by omega)) h).2.2.2.2.1
theorem rE4 {a : Nat} (h : (sh a).1 = 0) : rf a 4 = a + 5 := (tEd a (lt_of_sh h (by omega)) h).2.2.1.2.1
theorem tE4 {a : Nat} (h : (sh a).1 = 0) : (sh (a + 5)).1 = 10 := (tEd a (lt_of_sh h (by omega)) h).2.2.2.1.2.1
theorem nE4 {a : Nat} (h : (sh a).1 = 0) : ln (a + 5) = 60 := (tEd a (lt_of_sh h (by omega)) h).2.2.2.2.2.1
theorem rE5 {a : Nat} (h : (sh a).1 = 0) : rf a 5 = a + 6 := (tEd a (lt_of_sh h (by omega)) h).2.2.1.2.2.1
theorem tE5 {a : Nat} (h : (sh a).1 = 0) : (sh (a + 6)).1 = 10 := (tEd a (lt_of_sh h (by omega)) h).2.2.2.1.2.2.1
theorem nE5 {a : Nat} (h : (sh a).1 = 0) : ln (a + 6) = 60 := (tEd a (lt_of_sh h (by omega)) h).2.2.2.2.2.2.1
theorem rE6 {a : Nat} (h : (sh a).1 = 0) : rf a 6 = a + 7 := (tEd a (lt_of_sh h (by omega)) h).2.2.1.2.2.2
theorem tE6 {a : Nat} (h : (sh a).1 = 0) : (sh (a + 7)).1 = 10 := (tEd a (lt_of_sh h (by omega)) h).2.2.2.1.2.2.2
theorem nE6 {a : Nat} (h : (sh a).1 = 0) : ln (a + 7) = 60 := (tEd a (lt_of_sh h (by omega)) h).2.2.2.2.2.2.2
section SP
variable {X : XT} {G : GT} {h : Nat} {ρ : Type} {val : ρ → Option Value} {nL pc : Nat} {lv : List (Nat × Value)} {st : List Value} {M : Mem} {o : Option (ρ × Mem)} {cc : ByteArray} {ret : Option FieldType}
theorem g6_12 (C0 : Cx X G cc nL RX6 ret) (hdg : decode cc pc = .ok (.getfield 12, 3)) (k : V X G h val nL (pc + 3) lv (.ref (G.2 + 1) :: st) M o) : V X G h val nL pc lv (.ref (G.2 + 0) :: st) M o := V_getR C0 0 inG_X6 rfl (by decide) (by decide) wf6_12 rfl (shN6 s0) (by decide +kernel) (by decide +kernel) hdg k
theorem g6_19 (C0 : Cx X G cc nL RX6 ret) (hdg : decode cc pc = .ok (.getfield 19, 3)) (k : V X G h val nL (pc + 3) lv (.ref (G.2 + 24) :: st) M o) : V X G h val nL pc lv (.ref (G.2 + 0) :: st) M o := V_getR C0 1 inG_X6 rfl (by decide) (by decide) wf6_19 rfl (shN6 s0) (by decide +kernel) (by decide +kernel) hdg k
theorem g6_23 (C0 : Cx X G cc nL RX6 ret) (hdg : decode cc pc = .ok (.getfield 23, 3)) (k : V X G h val nL (pc + 3) lv (.ref (G.2 + 45) :: st) M o) : V X G h val nL pc lv (.ref (G.2 + 0) :: st) M o := V_getR C0 2 inG_X6 rfl (by decide) (by decide) wf6_23 rfl (shN6 s0) (by decide +kernel) (by decide +kernel) hdg k
theorem g6_29 (C0 : Cx X G cc nL RX6 ret) (hdg : decode cc pc = .ok (.getfield 29, 3)) (k : V X G h val nL (pc + 3) lv (.ref (G.2 + 46) :: st) M o) : V X G h val nL pc lv (.ref (G.2 + 0) :: st) M o := V_getR C0 4 inG_X6 rfl (by decide) (by decide) wf6_29 rfl (shN6 s0) (by decide +kernel) (by decide +kernel) hdg k
theorem g6_43 (C0 : Cx X G cc nL RX6 ret) (hdg : decode cc pc = .ok (.getfield 43, 3)) (k : V X G h val nL (pc + 3) lv (.ref (G.2 + 52) :: st) M o) : V X G h val nL pc lv (.ref (G.2 + 0) :: st) M o := V_getR C0 6 inG_X6 rfl (by decide) (by decide) wf6_43 rfl (shN6 s0) (by decide +kernel) (by decide +kernel) hdg k
theorem g6_55 (C0 : Cx X G cc nL RX6 ret) (hdg : decode cc pc = .ok (.getfield 55, 3)) (k : V X G h val nL (pc + 3) lv (.int (M.1 1 1) :: st) M o) : V X G h val nL pc lv (.ref (G.2 + 1) :: st) M o := V_getIN C0 1 inG_X3 rfl (by decide) (by decide) wf6_55 rfl (shN3 s1) (by decide +kernel) hdg k
theorem p6_55 (C0 : Cx X G cc nL RX6 ret) {v : Int32} {f : Mem → Option (ρ × Mem)} (hdg : decode cc pc = .ok (.putfield 55, 3)) (k : ∀ M1, V X G h val nL (pc + 3) lv st M1 (f M1)) : V X G h val nL pc lv (.int v :: .ref (G.2 + 1) :: st) M (bm (mset M 1 1 v) f) := V_putN C0 1 inG_X3 rfl (by decide) (by decide) wf6_55 rfl (shN3 s1) tyX3 tyX3_ok nmX3 (by decide +kernel) (by decide +kernel) (ty := .int) (by decide +kernel) rfl rfl hdg k
theorem g6_64 (C0 : Cx X G cc nL RX6 ret) (hdg : decode cc pc = .ok (.getfield 64, 3)) (k : V X G h val nL (pc + 3) lv (.int (M.1 1 2) :: st) M o) : V X G h val nL pc lv (.ref (G.2 + 1) :: st) M o := V_getIN C0 2 inG_X3 rfl (by decide) (by decide) wf6_64 rfl (shN3 s1) (by decide +kernel) hdg k
theorem g6_70 (C0 : Cx X G cc nL RX6 ret) (hdg : decode cc pc = .ok (.getfield 70, 3)) (k : V X G h val nL (pc + 3) lv (.ref (G.2 + 3) :: st) M o) : V X G h val nL pc lv (.ref (G.2 + 1) :: st) M o := V_getRN C0 3 inG_X3 rfl (by decide) (by decide) wf6_70 rfl (shN3 s1) (by decide +kernel) (by decide +kernel) hdg k
theorem g6_80 (C0 : Cx X G cc nL RX6 ret) {a : Nat} (ha : (sh a).1 = 4) (hdg : decode cc pc = .ok (.getfield 80, 3)) (k : V X G h val nL (pc + 3) lv (.int (M.1 a 1) :: st) M o) : V X G h val nL pc lv (.ref (G.2 + a) :: st) M o := V_getIN C0 1 inG_X4 rfl (by decide) (by decide) wf6_80 rfl (shN4 ha) (by decide +kernel) hdg k
theorem g6_86 (C0 : Cx X G cc nL RX6 ret) {a : Nat} (ha : (sh a).1 = 4) (hdg : decode cc pc = .ok (.getfield 86, 3)) (k : V X G h val nL (pc + 3) lv (.ref (G.2 + (a + 1)) :: st) M o) : V X G h val nL pc lv (.ref (G.2 + a) :: st) M o := V_getRN C0 0 inG_X4 rfl (by decide) (by decide) wf6_86 rfl (shN4 ha) (by decide +kernel) (rS0 ha) hdg k
theorem g6_109 (C0 : Cx X G cc nL RX6 ret) {a : Nat} (ha : (sh a).1 = 4) (hdg : decode cc pc = .ok (.getfield 109, 3)) (k : V X G h val nL (pc + 3) lv (.ref (G.2 + (a + 2)) :: st) M o) : V X G h val nL pc lv (.ref (G.2 + a) :: st) M o := V_getRN C0 2 inG_X4 rfl (by decide) (by decide) wf6_109 rfl (shN4 ha) (by decide +kernel) (rS2 ha) hdg k
theorem g6_116 (C0 : Cx X G cc nL RX6 ret) {a : Nat} (ha : (sh a).1 = 4) (hdg : decode cc pc = .ok (.getfield 116, 3)) (k : V X G h val nL (pc + 3) lv (.int (M.1 a 3) :: st) M o) : V X G h val nL pc lv (.ref (G.2 + a) :: st) M o := V_getIN C0 3 inG_X4 rfl (by decide) (by decide) wf6_116 rfl (shN4 ha) (by decide +kernel) hdg k
theorem p6_116 (C0 : Cx X G cc nL RX6 ret) {a : Nat} (ha : (sh a).1 = 4) {v : Int32} {f : Mem → Option (ρ × Mem)} (hdg : decode cc pc = .ok (.putfield 116, 3)) (k : ∀ M1, V X G h val nL (pc + 3) lv st M1 (f M1)) : V X G h val nL pc lv (.int v :: .ref (G.2 + a) :: st) M (bm (mset M a 3 v) f) := V_putN C0 3 inG_X4 rfl (by decide) (by decide) wf6_116 rfl (shN4 ha) tyX4 tyX4_ok nmX4 (by decide +kernel) (by decide +kernel) (ty := .int) (by decide +kernel) rfl rfl hdg k
theorem g6_119 (C0 : Cx X G cc nL RX6 ret) (hdg : decode cc pc = .ok (.getfield 119, 3)) (k : V X G h val nL (pc + 3) lv (.int (M.1 0 3) :: st) M o) : V X G h val nL pc lv (.ref (G.2 + 0) :: st) M o := V_getI C0 3 inG_X6 rfl (by decide) (by decide) wf6_119 rfl (shN6 s0) (by decide +kernel) hdg k
theorem p6_119 (C0 : Cx X G cc nL RX6 ret) {v : Int32} {f : Mem → Option (ρ × Mem)} (hdg : decode cc pc = .ok (.putfield 119, 3)) (k : ∀ M1, V X G h val nL (pc + 3) lv st M1 (f M1)) : V X G h val nL pc lv (.int v :: .ref (G.2 + 0) :: st) M (bm (mset M 0 3 v) f) := V_put C0 3 inG_X6 rfl (by decide) (by decide) wf6_119 rfl (shN6 s0) tyX6 tyX6_ok nmX6 (by decide +kernel) (by decide +kernel) (ty := .int) (by decide +kernel) rfl rfl hdg k
theorem g6_135 (C0 : Cx X G cc nL RX6 ret) {a : Nat} (ha : (sh a).1 = 1) (hdg : decode cc pc = .ok (.getfield 135, 3)) (k : V X G h val nL (pc + 3) lv (.int (M.1 a 2) :: st) M o) : V X G h val nL pc lv (.ref (G.2 + a) :: st) M o := V_getIN C0 2 inG_X1 rfl (by decide) (by decide) wf6_135 rfl (shN1 ha) (by decide +kernel) hdg k
theorem g6_138 (C0 : Cx X G cc nL RX6 ret) {a : Nat} (ha : (sh a).1 = 0) (hdg : decode cc pc = .ok (.getfield 138, 3)) (k : V X G h val nL (pc + 3) lv (.ref (G.2 + (a + 1)) :: st) M o) : V X G h val nL pc lv (.ref (G.2 + a) :: st) M o := V_getRN C0 1 inG_X0 rfl (by decide) (by decide) wf6_138 rfl (shN0 ha) (by decide +kernel) (rE1 ha) hdg k
theorem g6_142 (C0 : Cx X G cc nL RX6 ret) {a : Nat} (ha : (sh a).1 = 0) (hdg : decode cc pc = .ok (.getfield 142, 3)) (k : V X G h val nL (pc + 3) lv (.int (M.1 a 2) :: st) M o) : V X G h val nL pc lv (.ref (G.2 + a) :: st) M o := V_getIN C0 2 inG_X0 rfl (by decide) (by decide) wf6_142 rfl (shN0 ha) (by decide +kernel) hdg k
theorem g6_203 (C0 : Cx X G cc nL RX6 ret) (hdg : decode cc pc = .ok (.getfield 203, 3)) (k : V X G h val nL (pc + 3) lv (.int (M.1 52 2) :: st) M o) : V X G h val nL pc lv (.ref (G.2 + 52) :: st) M o := V_getIN C0 2 inG_X5 rfl (by decide) (by decide) wf6_203 rfl (shN5 s52) (by decide +kernel) hdg k
theorem g0_14 (C0 : Cx X G cc nL RX0 ret) {a : Nat} (ha : (sh a).1 = 0) (hdg : decode cc pc = .ok (.getfield 14, 3)) (k : V X G h val nL (pc + 3) lv (.ref (G.2 + (a + 1)) :: st) M o) : V X G h val nL pc lv (.ref (G.2 + a) :: st) M o := V_getR C0 1 inG_X0 rfl (by decide) (by decide) wf0_14 rfl (shN0 ha) (by decide +kernel) (rE1 ha) hdg k
theorem g0_20 (C0 : Cx X G cc nL RX0 ret) {a : Nat} (ha : (sh a).1 = 0) (hdg : decode cc pc = .ok (.getfield 20, 3)) (k : V X G h val nL (pc + 3) lv (.ref (G.2 + (a + 4)) :: st) M o) : V X G h val nL pc lv (.ref (G.2 + a) :: st) M o := V_getR C0 3 inG_X0 rfl (by decide) (by decide) wf0_20 rfl (shN0 ha) (by decide +kernel) (rE3 ha) hdg k
theorem g0_24 (C0 : Cx X G cc nL RX0 ret) {a : Nat} (ha : (sh a).1 = 0) (hdg : decode cc pc = .ok (.getfield 24, 3)) (k : V X G h val nL (pc + 3) lv (.ref (G.2 + (a + 5)) :: st) M o) : V X G h val nL pc lv (.ref (G.2 + a) :: st) M o := V_getR C0 4 inG_X0 rfl (by decide) (by decide) wf0_24 rfl (shN0 ha) (by decide +kernel) (rE4 ha) hdg k
theorem g0_27 (C0 : Cx X G cc nL RX0 ret) {a : Nat} (ha : (sh a).1 = 0) (hdg : decode cc pc = .ok (.getfield 27, 3)) (k : V X G h val nL (pc + 3) lv (.ref (G.2 + (a + 6)) :: st) M o) : V X G h val nL pc lv (.ref (G.2 + a) :: st) M o := V_getR C0 5 inG_X0 rfl (by decide) (by decide) wf0_27 rfl (shN0 ha) (by decide +kernel) (rE5 ha) hdg k
theorem g0_30 (C0 : Cx X G cc nL RX0 ret) {a : Nat} (ha : (sh a).1 = 0) (hdg : decode cc pc = .ok (.getfield 30, 3)) (k : V X G h val nL (pc + 3) lv (.ref (G.2 + (a + 7)) :: st) M o) : V X G h val nL pc lv (.ref (G.2 + a) :: st) M o := V_getR C0 6 inG_X0 rfl (by decide) (by decide) wf0_30 rfl (shN0 ha) (by decide +kernel) (rE6 ha) hdg k
theorem g0_33 (C0 : Cx X G cc nL RX0 ret) {a : Nat} (ha : (sh a).1 = 0) (hdg : decode cc pc = .ok (.getfield 33, 3)) (k : V X G h val nL (pc + 3) lv (.int (M.1 a 0) :: st) M o) : V X G h val nL pc lv (.ref (G.2 + a) :: st) M o := V_getI C0 0 inG_X0 rfl (by decide) (by decide) wf0_33 rfl (shN0 ha) (by decide +kernel) hdg k
theorem g0_45 (C0 : Cx X G cc nL RX0 ret) {a : Nat} (ha : (sh a).1 = 1) (hdg : decode cc pc = .ok (.getfield 45, 3)) (k : V X G h val nL (pc + 3) lv (.int (M.1 a 2) :: st) M o) : V X G h val nL pc lv (.ref (G.2 + a) :: st) M o := V_getIN C0 2 inG_X1 rfl (by decide) (by decide) wf0_45 rfl (shN1 ha) (by decide +kernel) hdg k
theorem p0_45 (C0 : Cx X G cc nL RX0 ret) {a : Nat} (ha : (sh a).1 = 1) {v : Int32} {f : Mem → Option (ρ × Mem)} (hdg : decode cc pc = .ok (.putfield 45, 3)) (k : ∀ M1, V X G h val nL (pc + 3) lv st M1 (f M1)) : V X G h val nL pc lv (.int v :: .ref (G.2 + a) :: st) M (bm (mset M a 2 v) f) := V_putN C0 2 inG_X1 rfl (by decide) (by decide) wf0_45 rfl (shN1 ha) tyX1 tyX1_ok nmX1 (by decide +kernel) (by decide +kernel) (ty := .int) (by decide +kernel) rfl rfl hdg k
theorem g0_57 (C0 : Cx X G cc nL RX0 ret) {a : Nat} (ha : (sh a).1 = 0) (hdg : decode cc pc = .ok (.getfield 57, 3)) (k : V X G h val nL (pc + 3) lv (.int (M.1 a 2) :: st) M o) : V X G h val nL pc lv (.ref (G.2 + a) :: st) M o := V_getI C0 2 inG_X0 rfl (by decide) (by decide) wf0_57 rfl (shN0 ha) (by decide +kernel) hdg k
theorem p0_57 (C0 : Cx X G cc nL RX0 ret) {a : Nat} (ha : (sh a).1 = 0) {v : Int32} {f : Mem → Option (ρ × Mem)} (hdg : decode cc pc = .ok (.putfield 57, 3)) (k : ∀ M1, V X G h val nL (pc + 3) lv st M1 (f M1)) : V X G h val nL pc lv (.int v :: .ref (G.2 + a) :: st) M (gd (isB v) (bm (mset M a 2 v) f)) := V_gd fun hb => V_put C0 2 inG_X0 rfl (by decide) (by decide) wf0_57 rfl (shN0 ha) tyX0 tyX0_ok nmX0 (by decide +kernel) (by decide +kernel) (ty := .boolean) (by decide +kernel) (by rcases isB_or hb with q | q <;> subst q <;> rfl) (by rcases isB_or hb with q | q <;> subst q <;> rfl) hdg k
theorem g1_9 (C0 : Cx X G cc nL RX1 ret) {a : Nat} (ha : (sh a).1 = 1) (hdg : decode cc pc = .ok (.getfield 9, 3)) (k : V X G h val nL (pc + 3) lv (.int (M.1 a 2) :: st) M o) : V X G h val nL pc lv (.ref (G.2 + a) :: st) M o := V_getI C0 2 inG_X1 rfl (by decide) (by decide) wf1_9 rfl (shN1 ha) (by decide +kernel) hdg k
theorem p1_9 (C0 : Cx X G cc nL RX1 ret) {a : Nat} (ha : (sh a).1 = 1) {v : Int32} {f : Mem → Option (ρ × Mem)} (hdg : decode cc pc = .ok (.putfield 9, 3)) (k : ∀ M1, V X G h val nL (pc + 3) lv st M1 (f M1)) : V X G h val nL pc lv (.int v :: .ref (G.2 + a) :: st) M (bm (mset M a 2 v) f) := V_put C0 2 inG_X1 rfl (by decide) (by decide) wf1_9 rfl (shN1 ha) tyX1 tyX1_ok nmX1 (by decide +kernel) (by decide +kernel) (ty := .int) (by decide +kernel) rfl rfl hdg k
theorem g1_21 (C0 : Cx X G cc nL RX1 ret) {a : Nat} (ha : (sh a).1 = 1) (hdg : decode cc pc = .ok (.getfield 21, 3)) (k : V X G h val nL (pc + 3) lv (.ref (G.2 + (a + 1)) :: st) M o) : V X G h val nL pc lv (.ref (G.2 + a) :: st) M o := V_getR C0 0 inG_X1 rfl (by decide) (by decide) wf1_21 rfl (shN1 ha) (by decide +kernel) (rF0 ha) hdg k
theorem g1_25 (C0 : Cx X G cc nL RX1 ret) {a : Nat} (ha : (sh a).1 = 1) (hdg : decode cc pc = .ok (.getfield 25, 3)) (k : V X G h val nL (pc + 3) lv (.ref (G.2 + (a + 2)) :: st) M o) : V X G h val nL pc lv (.ref (G.2 + a) :: st) M o := V_getR C0 1 inG_X1 rfl (by decide) (by decide) wf1_25 rfl (shN1 ha) (by decide +kernel) (rF1 ha) hdg k
theorem g3_9 (C0 : Cx X G cc nL RX3 ret) (hdg : decode cc pc = .ok (.getfield 9, 3)) (k : V X G h val nL (pc + 3) lv (.ref (G.2 + 2) :: st) M o) : V X G h val nL pc lv (.ref (G.2 + 1) :: st) M o := V_getR C0 0 inG_X3 rfl (by decide) (by decide) wf3_9 rfl (shN3 s1) (by decide +kernel) (by decide +kernel) hdg k
theorem g3_18 (C0 : Cx X G cc nL RX3 ret) (hdg : decode cc pc = .ok (.getfield 18, 3)) (k : V X G h val nL (pc + 3) lv (.ref (G.2 + 3) :: st) M o) : V X G h val nL pc lv (.ref (G.2 + 1) :: st) M o := V_getR C0 3 inG_X3 rfl (by decide) (by decide) wf3_18 rfl (shN3 s1) (by decide +kernel) (by decide +kernel) hdg k
theorem g3_22 (C0 : Cx X G cc nL RX3 ret) (hdg : decode cc pc = .ok (.getfield 22, 3)) (k : V X G h val nL (pc + 3) lv (.int (M.1 1 1) :: st) M o) : V X G h val nL pc lv (.ref (G.2 + 1) :: st) M o := V_getI C0 1 inG_X3 rfl (by decide) (by decide) wf3_22 rfl (shN3 s1) (by decide +kernel) hdg k
theorem p3_22 (C0 : Cx X G cc nL RX3 ret) {v : Int32} {f : Mem → Option (ρ × Mem)} (hdg : decode cc pc = .ok (.putfield 22, 3)) (k : ∀ M1, V X G h val nL (pc + 3) lv st M1 (f M1)) : V X G h val nL pc lv (.int v :: .ref (G.2 + 1) :: st) M (bm (mset M 1 1 v) f) := V_put C0 1 inG_X3 rfl (by decide) (by decide) wf3_22 rfl (shN3 s1) tyX3 tyX3_ok nmX3 (by decide +kernel) (by decide +kernel) (ty := .int) (by decide +kernel) rfl rfl hdg k
theorem g3_26 (C0 : Cx X G cc nL RX3 ret) (hdg : decode cc pc = .ok (.getfield 26, 3)) (k : V X G h val nL (pc + 3) lv (.int (M.1 1 2) :: st) M o) : V X G h val nL pc lv (.ref (G.2 + 1) :: st) M o := V_getI C0 2 inG_X3 rfl (by decide) (by decide) wf3_26 rfl (shN3 s1) (by decide +kernel) hdg k
theorem p3_26 (C0 : Cx X G cc nL RX3 ret) {v : Int32} {f : Mem → Option (ρ × Mem)} (hdg : decode cc pc = .ok (.putfield 26, 3)) (k : ∀ M1, V X G h val nL (pc + 3) lv st M1 (f M1)) : V X G h val nL pc lv (.int v :: .ref (G.2 + 1) :: st) M (bm (mset M 1 2 v) f) := V_put C0 2 inG_X3 rfl (by decide) (by decide) wf3_26 rfl (shN3 s1) tyX3 tyX3_ok nmX3 (by decide +kernel) (by decide +kernel) (ty := .int) (by decide +kernel) rfl rfl hdg k
theorem g3_33 (C0 : Cx X G cc nL RX3 ret) {a : Nat} (ha : (sh a).1 = 4) (hdg : decode cc pc = .ok (.getfield 33, 3)) (k : V X G h val nL (pc + 3) lv (.ref (G.2 + (a + 1)) :: st) M o) : V X G h val nL pc lv (.ref (G.2 + a) :: st) M o := V_getRN C0 0 inG_X4 rfl (by decide) (by decide) wf3_33 rfl (shN4 ha) (by decide +kernel) (rS0 ha) hdg k
theorem g3_37 (C0 : Cx X G cc nL RX3 ret) {a : Nat} (ha : (sh a).1 = 1) (hdg : decode cc pc = .ok (.getfield 37, 3)) (k : V X G h val nL (pc + 3) lv (.int (M.1 a 2) :: st) M o) : V X G h val nL pc lv (.ref (G.2 + a) :: st) M o := V_getIN C0 2 inG_X1 rfl (by decide) (by decide) wf3_37 rfl (shN1 ha) (by decide +kernel) hdg k
theorem p3_37 (C0 : Cx X G cc nL RX3 ret) {a : Nat} (ha : (sh a).1 = 1) {v : Int32} {f : Mem → Option (ρ × Mem)} (hdg : decode cc pc = .ok (.putfield 37, 3)) (k : ∀ M1, V X G h val nL (pc + 3) lv st M1 (f M1)) : V X G h val nL pc lv (.int v :: .ref (G.2 + a) :: st) M (bm (mset M a 2 v) f) := V_putN C0 2 inG_X1 rfl (by decide) (by decide) wf3_37 rfl (shN1 ha) tyX1 tyX1_ok nmX1 (by decide +kernel) (by decide +kernel) (ty := .int) (by decide +kernel) rfl rfl hdg k
theorem p3_50 (C0 : Cx X G cc nL RX3 ret) {a : Nat} (ha : (sh a).1 = 4) {v : Int32} {f : Mem → Option (ρ × Mem)} (hdg : decode cc pc = .ok (.putfield 50, 3)) (k : ∀ M1, V X G h val nL (pc + 3) lv st M1 (f M1)) : V X G h val nL pc lv (.int v :: .ref (G.2 + a) :: st) M (bm (mset M a 1 v) f) := V_putN C0 1 inG_X4 rfl (by decide) (by decide) wf3_50 rfl (shN4 ha) tyX4 tyX4_ok nmX4 (by decide +kernel) (by decide +kernel) (ty := .int) (by decide +kernel) rfl rfl hdg k
theorem g4_11 (C0 : Cx X G cc nL RX4 ret) {a : Nat} (ha : (sh a).1 = 4) (hdg : decode cc pc = .ok (.getfield 11, 3)) (k : V X G h val nL (pc + 3) lv (.ref (G.2 + (a + 1)) :: st) M o) : V X G h val nL pc lv (.ref (G.2 + a) :: st) M o := V_getR C0 0 inG_X4 rfl (by decide) (by decide) wf4_11 rfl (shN4 ha) (by decide +kernel) (rS0 ha) hdg k
theorem g4_17 (C0 : Cx X G cc nL RX4 ret) {a : Nat} (ha : (sh a).1 = 4) (hdg : decode cc pc = .ok (.getfield 17, 3)) (k : V X G h val nL (pc + 3) lv (.int (M.1 a 1) :: st) M o) : V X G h val nL pc lv (.ref (G.2 + a) :: st) M o := V_getI C0 1 inG_X4 rfl (by decide) (by decide) wf4_17 rfl (shN4 ha) (by decide +kernel) hdg k
theorem p4_17 (C0 : Cx X G cc nL RX4 ret) {a : Nat} (ha : (sh a).1 = 4) {v : Int32} {f : Mem → Option (ρ × Mem)} (hdg : decode cc pc = .ok (.putfield 17, 3)) (k : ∀ M1, V X G h val nL (pc + 3) lv st M1 (f M1)) : V X G h val nL pc lv (.int v :: .ref (G.2 + a) :: st) M (bm (mset M a 1 v) f) := V_put C0 1 inG_X4 rfl (by decide) (by decide) wf4_17 rfl (shN4 ha) tyX4 tyX4_ok nmX4 (by decide +kernel) (by decide +kernel) (ty := .int) (by decide +kernel) rfl rfl hdg k
theorem g4_21 (C0 : Cx X G cc nL RX4 ret) {a : Nat} (ha : (sh a).1 = 4) (hdg : decode cc pc = .ok (.getfield 21, 3)) (k : V X G h val nL (pc + 3) lv (.ref (G.2 + (a + 2)) :: st) M o) : V X G h val nL pc lv (.ref (G.2 + a) :: st) M o := V_getR C0 2 inG_X4 rfl (by decide) (by decide) wf4_21 rfl (shN4 ha) (by decide +kernel) (rS2 ha) hdg k
theorem g4_25 (C0 : Cx X G cc nL RX4 ret) {a : Nat} (ha : (sh a).1 = 4) (hdg : decode cc pc = .ok (.getfield 25, 3)) (k : V X G h val nL (pc + 3) lv (.int (M.1 a 3) :: st) M o) : V X G h val nL pc lv (.ref (G.2 + a) :: st) M o := V_getI C0 3 inG_X4 rfl (by decide) (by decide) wf4_25 rfl (shN4 ha) (by decide +kernel) hdg k
theorem p4_25 (C0 : Cx X G cc nL RX4 ret) {a : Nat} (ha : (sh a).1 = 4) {v : Int32} {f : Mem → Option (ρ × Mem)} (hdg : decode cc pc = .ok (.putfield 25, 3)) (k : ∀ M1, V X G h val nL (pc + 3) lv st M1 (f M1)) : V X G h val nL pc lv (.int v :: .ref (G.2 + a) :: st) M (bm (mset M a 3 v) f) := V_put C0 3 inG_X4 rfl (by decide) (by decide) wf4_25 rfl (shN4 ha) tyX4 tyX4_ok nmX4 (by decide +kernel) (by decide +kernel) (ty := .int) (by decide +kernel) rfl rfl hdg k
theorem g5_9 (C0 : Cx X G cc nL RX5 ret) (hdg : decode cc pc = .ok (.getfield 9, 3)) (k : V X G h val nL (pc + 3) lv (.ref (G.2 + 53) :: st) M o) : V X G h val nL pc lv (.ref (G.2 + 52) :: st) M o := V_getR C0 0 inG_X5 rfl (by decide) (by decide) wf5_9 rfl (shN5 s52) (by decide +kernel) (by decide +kernel) hdg k
theorem g5_15 (C0 : Cx X G cc nL RX5 ret) (hdg : decode cc pc = .ok (.getfield 15, 3)) (k : V X G h val nL (pc + 3) lv (.ref (G.2 + 54) :: st) M o) : V X G h val nL pc lv (.ref (G.2 + 52) :: st) M o := V_getR C0 1 inG_X5 rfl (by decide) (by decide) wf5_15 rfl (shN5 s52) (by decide +kernel) (by decide +kernel) hdg k
theorem g5_18 (C0 : Cx X G cc nL RX5 ret) (hdg : decode cc pc = .ok (.getfield 18, 3)) (k : V X G h val nL (pc + 3) lv (.int (M.1 52 2) :: st) M o) : V X G h val nL pc lv (.ref (G.2 + 52) :: st) M o := V_getI C0 2 inG_X5 rfl (by decide) (by decide) wf5_18 rfl (shN5 s52) (by decide +kernel) hdg k
theorem p5_18 (C0 : Cx X G cc nL RX5 ret) {v : Int32} {f : Mem → Option (ρ × Mem)} (hdg : decode cc pc = .ok (.putfield 18, 3)) (k : ∀ M1, V X G h val nL (pc + 3) lv st M1 (f M1)) : V X G h val nL pc lv (.int v :: .ref (G.2 + 52) :: st) M (bm (mset M 52 2 v) f) := V_put C0 2 inG_X5 rfl (by decide) (by decide) wf5_18 rfl (shN5 s52) tyX5 tyX5_ok nmX5 (by decide +kernel) (by decide +kernel) (ty := .int) (by decide +kernel) rfl rfl hdg k
theorem g5_28 (C0 : Cx X G cc nL RX5 ret) {a : Nat} (ha : (sh a).1 = 0) (hdg : decode cc pc = .ok (.getfield 28, 3)) (k : V X G h val nL (pc + 3) lv (.ref (G.2 + (a + 1)) :: st) M o) : V X G h val nL pc lv (.ref (G.2 + a) :: st) M o := V_getRN C0 1 inG_X0 rfl (by decide) (by decide) wf5_28 rfl (shN0 ha) (by decide +kernel) (rE1 ha) hdg k
theorem g5_34 (C0 : Cx X G cc nL RX5 ret) {a : Nat} (ha : (sh a).1 = 1) (hdg : decode cc pc = .ok (.getfield 34, 3)) (k : V X G h val nL (pc + 3) lv (.int (M.1 a 2) :: st) M o) : V X G h val nL pc lv (.ref (G.2 + a) :: st) M o := V_getIN C0 2 inG_X1 rfl (by decide) (by decide) wf5_34 rfl (shN1 ha) (by decide +kernel) hdg k
theorem k6_51 (C0 : Cx X G cc nL RX6 ret) {u0 : Int32} {h2 : Nat} {oc : Option (Int32 × Mem)} {kf : Int32 → Mem → Option (ρ × Mem)} (hh : h2 < h) (hM : ∀ l r M1, oc = some (r, M1) → MC l G yX3_take cX3_take 2 (some .boolean) h2 (.ref (G.2 + 1) :: [.int u0]) M (vI r) M1) (hst : (st.map fun v => v.category).sum ≤ 8) (hdg : decode cc pc = .ok (.invokevirtual 51, 3)) (k : ∀ r M1, V X G h val nL (pc + 3) lv (.int r :: st) M1 (kf r M1)) : V X G h val nL pc lv (.int u0 :: .ref (G.2 + 1) :: st) M (bd oc kf) := V_callNi (av := [.int u0]) (n := 1) C0 hM rfl (by decide) (shN3 s1) wm6_51 wiX3_take wvX3_take w0X3 (by decide +kernel) wcX3_take rfl hh (by decide) hst hdg k
theorem k6_60 (C0 : Cx X G cc nL RX6 ret) {h2 : Nat} {oc : Option (Int32 × Mem)} {kf : Int32 → Mem → Option (ρ × Mem)} (hh : h2 < h) (hM : ∀ l r M1, oc = some (r, M1) → MC l G yX3_readSheet cX3_readSheet 2 (some .boolean) h2 (.ref (G.2 + 1) :: []) M (vI r) M1) (hst : (st.map fun v => v.category).sum ≤ 8) (hdg : decode cc pc = .ok (.invokevirtual 60, 3)) (k : ∀ r M1, V X G h val nL (pc + 3) lv (.int r :: st) M1 (kf r M1)) : V X G h val nL pc lv (.ref (G.2 + 1) :: st) M (bd oc kf) := V_callNi (av := []) (n := 0) C0 hM rfl (by decide) (shN3 s1) wm6_60 wiX3_readSheet wvX3_readSheet w0X3 (by decide +kernel) wcX3_readSheet rfl hh (by decide) hst hdg k
theorem k6_67 (C0 : Cx X G cc nL RX6 ret) {h2 : Nat} {oc : Option (Unit × Mem)} {kf : Unit → Mem → Option (ρ × Mem)} (hh : h2 < h) (hM : ∀ l r M1, oc = some (r, M1) → MC l G yX6_recordState cX6_recordState 1 none h2 (.ref (G.2 + 0) :: []) M (vU r) M1) (hst : (st.map fun v => v.category).sum ≤ 8) (hdg : decode cc pc = .ok (.invokevirtual 67, 3)) (k : ∀ r M1, V X G h val nL (pc + 3) lv st M1 (kf r M1)) : V X G h val nL pc lv (.ref (G.2 + 0) :: st) M (bd oc kf) := V_callVv (av := []) (n := 0) C0 hM rfl (by decide) (shN6 s0) (List.forall_mem_cons.mpr ⟨wm6_67, List.forall_mem_cons.mpr ⟨wiX6_recordState, List.forall_mem_cons.mpr ⟨wvX6_recordState, List.forall_mem_cons.mpr ⟨w0X6, fun _ h => absurd h List.not_mem_nil⟩⟩⟩⟩) (by decide +kernel) wcX6_recordState rfl hh (by decide) hst hdg k
theorem k6_73 (C0 : Cx X G cc nL RX6 ret) {u0 : Nat} {a : Nat} (ha : (sh a).1 = 4) {h2 : Nat} {oc : Option (Unit × Mem)} {kf : Unit → Mem → Option (ρ × Mem)} (hh : h2 < h) (hM : ∀ l r M1, oc = some (r, M1) → MC l G yX4_copyFormulas cX4_copyFormulas 3 none h2 (.ref (G.2 + a) :: [.ref (G.2 + u0)]) M (vU r) M1) (hst : (st.map fun v => v.category).sum ≤ 8) (hdg : decode cc pc = .ok (.invokevirtual 73, 3)) (k : ∀ r M1, V X G h val nL (pc + 3) lv st M1 (kf r M1)) : V X G h val nL pc lv (.ref (G.2 + u0) :: .ref (G.2 + a) :: st) M (bd oc kf) := V_callNv (av := [.ref (G.2 + u0)]) (n := 1) C0 hM rfl (by decide) (shN4 ha) wm6_73 wiX4_copyFormulas wvX4_copyFormulas w0X4 (by decide +kernel) wcX4_copyFormulas rfl hh (by decide) hst hdg k
theorem k6_77 (C0 : Cx X G cc nL RX6 ret) {h2 : Nat} {oc : Option (Unit × Mem)} {kf : Unit → Mem → Option (ρ × Mem)} (hh : h2 < h) (hM : ∀ l r M1, oc = some (r, M1) → MC l G yX6_workAnew cX6_workAnew 3 none h2 (.ref (G.2 + 0) :: []) M (vU r) M1) (hst : (st.map fun v => v.category).sum ≤ 8) (hdg : decode cc pc = .ok (.invokevirtual 77, 3)) (k : ∀ r M1, V X G h val nL (pc + 3) lv st M1 (kf r M1)) : V X G h val nL pc lv (.ref (G.2 + 0) :: st) M (bd oc kf) := V_callVv (av := []) (n := 0) C0 hM rfl (by decide) (shN6 s0) (List.forall_mem_cons.mpr ⟨wm6_77, List.forall_mem_cons.mpr ⟨wiX6_workAnew, List.forall_mem_cons.mpr ⟨wvX6_workAnew, List.forall_mem_cons.mpr ⟨w0X6, fun _ h => absurd h List.not_mem_nil⟩⟩⟩⟩) (by decide +kernel) wcX6_workAnew rfl hh (by decide) hst hdg k
theorem k6_83 (C0 : Cx X G cc nL RX6 ret) {u0 : Int32} {h2 : Nat} {oc : Option (Int32 × Mem)} {kf : Int32 → Mem → Option (ρ × Mem)} (hh : h2 < h) (hM : ∀ l r M1, oc = some (r, M1) → MC l G yX6_isFormula cX6_isFormula 2 (some .boolean) h2 (.ref (G.2 + 0) :: [.int u0]) M (vI r) M1) (hst : (st.map fun v => v.category).sum ≤ 8) (hdg : decode cc pc = .ok (.invokevirtual 83, 3)) (k : ∀ r M1, V X G h val nL (pc + 3) lv (.int r :: st) M1 (kf r M1)) : V X G h val nL pc lv (.int u0 :: .ref (G.2 + 0) :: st) M (bd oc kf) := V_callVi (av := [.int u0]) (n := 1) C0 hM rfl (by decide) (shN6 s0) (List.forall_mem_cons.mpr ⟨wm6_83, List.forall_mem_cons.mpr ⟨wiX6_isFormula, List.forall_mem_cons.mpr ⟨wvX6_isFormula, List.forall_mem_cons.mpr ⟨w0X6, fun _ h => absurd h List.not_mem_nil⟩⟩⟩⟩) (by decide +kernel) wcX6_isFormula rfl hh (by decide) hst hdg k
theorem k6_90 (C0 : Cx X G cc nL RX6 ret) {u0 : Int32} {a : Nat} (ha : (sh a).1 = 1) {h2 : Nat} {oc : Option (Int32 × Mem)} {kf : Int32 → Mem → Option (ρ × Mem)} (hh : h2 < h) (hM : ∀ l r M1, oc = some (r, M1) → MC l G yX1_has cX1_has 2 (some .boolean) h2 (.ref (G.2 + a) :: [.int u0]) M (vI r) M1) (hst : (st.map fun v => v.category).sum ≤ 8) (hdg : decode cc pc = .ok (.invokevirtual 90, 3)) (k : ∀ r M1, V X G h val nL (pc + 3) lv (.int r :: st) M1 (kf r M1)) : V X G h val nL pc lv (.int u0 :: .ref (G.2 + a) :: st) M (bd oc kf) := V_callNi (av := [.int u0]) (n := 1) C0 hM rfl (by decide) (shN1 ha) wm6_90 wiX1_has wvX1_has w0X1 (by decide +kernel) wcX1_has rfl hh (by decide) hst hdg k
theorem k6_95 (C0 : Cx X G cc nL RX6 ret) {u0 : Int32} {a : Nat} (ha : (sh a).1 = 1) {h2 : Nat} {oc : Option (Int32 × Mem)} {kf : Int32 → Mem → Option (ρ × Mem)} (hh : h2 < h) (hM : ∀ l r M1, oc = some (r, M1) → MC l G yX1_kindOf cX1_kindOf 2 (some .int) h2 (.ref (G.2 + a) :: [.int u0]) M (vI r) M1) (hst : (st.map fun v => v.category).sum ≤ 8) (hdg : decode cc pc = .ok (.invokevirtual 95, 3)) (k : ∀ r M1, V X G h val nL (pc + 3) lv (.int r :: st) M1 (kf r M1)) : V X G h val nL pc lv (.int u0 :: .ref (G.2 + a) :: st) M (bd oc kf) := V_callNi (av := [.int u0]) (n := 1) C0 hM rfl (by decide) (shN1 ha) wm6_95 wiX1_kindOf wvX1_kindOf w0X1 (by decide +kernel) wcX1_kindOf rfl hh (by decide) hst hdg k
theorem k6_100 (C0 : Cx X G cc nL RX6 ret) {u0 : Int32} {a : Nat} (ha : (sh a).1 = 1) {h2 : Nat} {oc : Option (Unit × Mem)} {kf : Unit → Mem → Option (ρ × Mem)} (hh : h2 < h) (hM : ∀ l r M1, oc = some (r, M1) → MC l G yX1_exchange cX1_exchange 4 none h2 (.ref (G.2 + a) :: [.int u0]) M (vU r) M1) (hst : (st.map fun v => v.category).sum ≤ 8) (hdg : decode cc pc = .ok (.invokevirtual 100, 3)) (k : ∀ r M1, V X G h val nL (pc + 3) lv st M1 (kf r M1)) : V X G h val nL pc lv (.int u0 :: .ref (G.2 + a) :: st) M (bd oc kf) := V_callNv (av := [.int u0]) (n := 1) C0 hM rfl (by decide) (shN1 ha) wm6_100 wiX1_exchange wvX1_exchange w0X1 (by decide +kernel) wcX1_exchange rfl hh (by decide) hst hdg k
theorem k6_103 (C0 : Cx X G cc nL RX6 ret) {u0 : Int32} {a : Nat} (ha : (sh a).1 = 0) {h2 : Nat} {oc : Option (Int32 × Mem)} {kf : Int32 → Mem → Option (ρ × Mem)} (hh : h2 < h) (hM : ∀ l r M1, oc = some (r, M1) → MC l G yX0_needOf cX0_needOf 2 (some .int) h2 (.ref (G.2 + a) :: [.int u0]) M (vI r) M1) (hst : (st.map fun v => v.category).sum ≤ 8) (hdg : decode cc pc = .ok (.invokevirtual 103, 3)) (k : ∀ r M1, V X G h val nL (pc + 3) lv (.int r :: st) M1 (kf r M1)) : V X G h val nL pc lv (.int u0 :: .ref (G.2 + a) :: st) M (bd oc kf) := V_callNi (av := [.int u0]) (n := 1) C0 hM rfl (by decide) (shN0 ha) wm6_103 wiX0_needOf wvX0_needOf w0X0 (by decide +kernel) wcX0_needOf rfl hh (by decide) hst hdg k
theorem k6_106 (C0 : Cx X G cc nL RX6 ret) {u0 : Int32} {h2 : Nat} {oc : Option (Int32 × Mem)} {kf : Int32 → Mem → Option (ρ × Mem)} (hh : h2 < h) (hM : ∀ l r M1, oc = some (r, M1) → MC l G yX6_isCell cX6_isCell 1 (some .boolean) h2 [.int u0] M (vI r) M1) (hst : (st.map fun v => v.category).sum ≤ 8) (hdg : decode cc pc = .ok (.invokestatic 106, 3)) (k : ∀ r M1, V X G h val nL (pc + 3) lv (.int r :: st) M1 (kf r M1)) : V X G h val nL pc lv (.int u0 :: st) M (bd oc kf) := V_callSi (av := [.int u0]) (n := 1) C0 hM (List.forall_mem_cons.mpr ⟨wm6_106, List.forall_mem_cons.mpr ⟨wsX6_isCell, List.forall_mem_cons.mpr ⟨w0X6, fun _ h => absurd h List.not_mem_nil⟩⟩⟩) (by decide +kernel) wcX6_isCell rfl hh (by decide) hst hdg k
theorem k6_113 (C0 : Cx X G cc nL RX6 ret) {u0 : Int32} {h2 : Nat} {oc : Option (Int32 × Mem)} {kf : Int32 → Mem → Option (ρ × Mem)} (hh : h2 < h) (hM : ∀ l r M1, oc = some (r, M1) → MC l G yX6_arePlaces cX6_arePlaces 1 (some .boolean) h2 [.int u0] M (vI r) M1) (hst : (st.map fun v => v.category).sum ≤ 8) (hdg : decode cc pc = .ok (.invokestatic 113, 3)) (k : ∀ r M1, V X G h val nL (pc + 3) lv (.int r :: st) M1 (kf r M1)) : V X G h val nL pc lv (.int u0 :: st) M (bd oc kf) := V_callSi (av := [.int u0]) (n := 1) C0 hM (List.forall_mem_cons.mpr ⟨wm6_113, List.forall_mem_cons.mpr ⟨wsX6_arePlaces, List.forall_mem_cons.mpr ⟨w0X6, fun _ h => absurd h List.not_mem_nil⟩⟩⟩) (by decide +kernel) wcX6_arePlaces rfl hh (by decide) hst hdg k
theorem k6_122 (C0 : Cx X G cc nL RX6 ret) {u0 : Nat} {a : Nat} (ha : (sh a).1 = 4) {h2 : Nat} {oc : Option (Unit × Mem)} {kf : Unit → Mem → Option (ρ × Mem)} (hh : h2 < h) (hM : ∀ l r M1, oc = some (r, M1) → MC l G yX4_copyState cX4_copyState 2 none h2 (.ref (G.2 + a) :: [.ref (G.2 + u0)]) M (vU r) M1) (hst : (st.map fun v => v.category).sum ≤ 8) (hdg : decode cc pc = .ok (.invokevirtual 122, 3)) (k : ∀ r M1, V X G h val nL (pc + 3) lv st M1 (kf r M1)) : V X G h val nL pc lv (.ref (G.2 + u0) :: .ref (G.2 + a) :: st) M (bd oc kf) := V_callNv (av := [.ref (G.2 + u0)]) (n := 1) C0 hM rfl (by decide) (shN4 ha) wm6_122 wiX4_copyState wvX4_copyState w0X4 (by decide +kernel) wcX4_copyState rfl hh (by decide) hst hdg k
theorem k6_125 (C0 : Cx X G cc nL RX6 ret) {h2 : Nat} {oc : Option (Int32 × Mem)} {kf : Int32 → Mem → Option (ρ × Mem)} (hh : h2 < h) (hM : ∀ l r M1, oc = some (r, M1) → MC l G yX6_cheapDefinitions cX6_cheapDefinitions 3 (some .int) h2 (.ref (G.2 + 0) :: []) M (vI r) M1) (hst : (st.map fun v => v.category).sum ≤ 8) (hdg : decode cc pc = .ok (.invokevirtual 125, 3)) (k : ∀ r M1, V X G h val nL (pc + 3) lv (.int r :: st) M1 (kf r M1)) : V X G h val nL pc lv (.ref (G.2 + 0) :: st) M (bd oc kf) := V_callVi (av := []) (n := 0) C0 hM rfl (by decide) (shN6 s0) (List.forall_mem_cons.mpr ⟨wm6_125, List.forall_mem_cons.mpr ⟨wiX6_cheapDefinitions, List.forall_mem_cons.mpr ⟨wvX6_cheapDefinitions, List.forall_mem_cons.mpr ⟨w0X6, fun _ h => absurd h List.not_mem_nil⟩⟩⟩⟩) (by decide +kernel) wcX6_cheapDefinitions rfl hh (by decide) hst hdg k
theorem k6_129 (C0 : Cx X G cc nL RX6 ret) {h2 : Nat} {oc : Option (Int32 × Mem)} {kf : Int32 → Mem → Option (ρ × Mem)} (hh : h2 < h) (hM : ∀ l r M1, oc = some (r, M1) → MC l G yX6_nodesAsRead cX6_nodesAsRead 3 (some .int) h2 (.ref (G.2 + 0) :: []) M (vI r) M1) (hst : (st.map fun v => v.category).sum ≤ 8) (hdg : decode cc pc = .ok (.invokevirtual 129, 3)) (k : ∀ r M1, V X G h val nL (pc + 3) lv (.int r :: st) M1 (kf r M1)) : V X G h val nL pc lv (.ref (G.2 + 0) :: st) M (bd oc kf) := V_callVi (av := []) (n := 0) C0 hM rfl (by decide) (shN6 s0) (List.forall_mem_cons.mpr ⟨wm6_129, List.forall_mem_cons.mpr ⟨wiX6_nodesAsRead, List.forall_mem_cons.mpr ⟨wvX6_nodesAsRead, List.forall_mem_cons.mpr ⟨w0X6, fun _ h => absurd h List.not_mem_nil⟩⟩⟩⟩) (by decide +kernel) wcX6_nodesAsRead rfl hh (by decide) hst hdg k
theorem k6_132 (C0 : Cx X G cc nL RX6 ret) {h2 : Nat} {oc : Option (Int32 × Mem)} {kf : Int32 → Mem → Option (ρ × Mem)} (hh : h2 < h) (hM : ∀ l r M1, oc = some (r, M1) → MC l G yX6_greatestNeed cX6_greatestNeed 3 (some .int) h2 (.ref (G.2 + 0) :: []) M (vI r) M1) (hst : (st.map fun v => v.category).sum ≤ 8) (hdg : decode cc pc = .ok (.invokevirtual 132, 3)) (k : ∀ r M1, V X G h val nL (pc + 3) lv (.int r :: st) M1 (kf r M1)) : V X G h val nL pc lv (.ref (G.2 + 0) :: st) M (bd oc kf) := V_callVi (av := []) (n := 0) C0 hM rfl (by decide) (shN6 s0) (List.forall_mem_cons.mpr ⟨wm6_132, List.forall_mem_cons.mpr ⟨wiX6_greatestNeed, List.forall_mem_cons.mpr ⟨wvX6_greatestNeed, List.forall_mem_cons.mpr ⟨w0X6, fun _ h => absurd h List.not_mem_nil⟩⟩⟩⟩) (by decide +kernel) wcX6_greatestNeed rfl hh (by decide) hst hdg k
theorem k6_146 (C0 : Cx X G cc nL RX6 ret) {u0 : Int32} {a : Nat} (ha : (sh a).1 = 0) {h2 : Nat} {oc : Option (Int32 × Mem)} {kf : Int32 → Mem → Option (ρ × Mem)} (hh : h2 < h) (hM : ∀ l r M1, oc = some (r, M1) → MC l G yX0_valueOf cX0_valueOf 2 (some .int) h2 (.ref (G.2 + a) :: [.int u0]) M (vI r) M1) (hst : (st.map fun v => v.category).sum ≤ 8) (hdg : decode cc pc = .ok (.invokevirtual 146, 3)) (k : ∀ r M1, V X G h val nL (pc + 3) lv (.int r :: st) M1 (kf r M1)) : V X G h val nL pc lv (.int u0 :: .ref (G.2 + a) :: st) M (bd oc kf) := V_callNi (av := [.int u0]) (n := 1) C0 hM rfl (by decide) (shN0 ha) wm6_146 wiX0_valueOf wvX0_valueOf w0X0 (by decide +kernel) wcX0_valueOf rfl hh (by decide) hst hdg k
theorem k6_149 (C0 : Cx X G cc nL RX6 ret) {u0 : Int32} {a : Nat} (ha : (sh a).1 = 0) {h2 : Nat} {oc : Option (Int32 × Mem)} {kf : Int32 → Mem → Option (ρ × Mem)} (hh : h2 < h) (hM : ∀ l r M1, oc = some (r, M1) → MC l G yX0_depthOf cX0_depthOf 2 (some .int) h2 (.ref (G.2 + a) :: [.int u0]) M (vI r) M1) (hst : (st.map fun v => v.category).sum ≤ 8) (hdg : decode cc pc = .ok (.invokevirtual 149, 3)) (k : ∀ r M1, V X G h val nL (pc + 3) lv (.int r :: st) M1 (kf r M1)) : V X G h val nL pc lv (.int u0 :: .ref (G.2 + a) :: st) M (bd oc kf) := V_callNi (av := [.int u0]) (n := 1) C0 hM rfl (by decide) (shN0 ha) wm6_149 wiX0_depthOf wvX0_depthOf w0X0 (by decide +kernel) wcX0_depthOf rfl hh (by decide) hst hdg k
theorem k6_152 (C0 : Cx X G cc nL RX6 ret) {u0 : Int32} {h2 : Nat} {oc : Option (Int32 × Mem)} {kf : Int32 → Mem → Option (ρ × Mem)} (hh : h2 < h) (hM : ∀ l r M1, oc = some (r, M1) → MC l G yX6_usesOf cX6_usesOf 7 (some .int) h2 (.ref (G.2 + 0) :: [.int u0]) M (vI r) M1) (hst : (st.map fun v => v.category).sum ≤ 8) (hdg : decode cc pc = .ok (.invokevirtual 152, 3)) (k : ∀ r M1, V X G h val nL (pc + 3) lv (.int r :: st) M1 (kf r M1)) : V X G h val nL pc lv (.int u0 :: .ref (G.2 + 0) :: st) M (bd oc kf) := V_callVi (av := [.int u0]) (n := 1) C0 hM rfl (by decide) (shN6 s0) (List.forall_mem_cons.mpr ⟨wm6_152, List.forall_mem_cons.mpr ⟨wiX6_usesOf, List.forall_mem_cons.mpr ⟨wvX6_usesOf, List.forall_mem_cons.mpr ⟨w0X6, fun _ h => absurd h List.not_mem_nil⟩⟩⟩⟩) (by decide +kernel) wcX6_usesOf rfl hh (by decide) hst hdg k
theorem k6_155 (C0 : Cx X G cc nL RX6 ret) {u0 : Int32} {h2 : Nat} {oc : Option (Int32 × Mem)} {kf : Int32 → Mem → Option (ρ × Mem)} (hh : h2 < h) (hM : ∀ l r M1, oc = some (r, M1) → MC l G yX6_partsOf cX6_partsOf 1 (some .int) h2 [.int u0] M (vI r) M1) (hst : (st.map fun v => v.category).sum ≤ 8) (hdg : decode cc pc = .ok (.invokestatic 155, 3)) (k : ∀ r M1, V X G h val nL (pc + 3) lv (.int r :: st) M1 (kf r M1)) : V X G h val nL pc lv (.int u0 :: st) M (bd oc kf) := V_callSi (av := [.int u0]) (n := 1) C0 hM (List.forall_mem_cons.mpr ⟨wm6_155, List.forall_mem_cons.mpr ⟨wsX6_partsOf, List.forall_mem_cons.mpr ⟨w0X6, fun _ h => absurd h List.not_mem_nil⟩⟩⟩) (by decide +kernel) wcX6_partsOf rfl hh (by decide) hst hdg k
theorem k6_158 (C0 : Cx X G cc nL RX6 ret) {u0 : Int32} {a : Nat} (ha : (sh a).1 = 1) {h2 : Nat} {oc : Option (Int32 × Mem)} {kf : Int32 → Mem → Option (ρ × Mem)} (hh : h2 < h) (hM : ∀ l r M1, oc = some (r, M1) → MC l G yX1_contentOf cX1_contentOf 2 (some .int) h2 (.ref (G.2 + a) :: [.int u0]) M (vI r) M1) (hst : (st.map fun v => v.category).sum ≤ 8) (hdg : decode cc pc = .ok (.invokevirtual 158, 3)) (k : ∀ r M1, V X G h val nL (pc + 3) lv (.int r :: st) M1 (kf r M1)) : V X G h val nL pc lv (.int u0 :: .ref (G.2 + a) :: st) M (bd oc kf) := V_callNi (av := [.int u0]) (n := 1) C0 hM rfl (by decide) (shN1 ha) wm6_158 wiX1_contentOf wvX1_contentOf w0X1 (by decide +kernel) wcX1_contentOf rfl hh (by decide) hst hdg k
theorem k6_162 (C0 : Cx X G cc nL RX6 ret) {u0 : Int32} {a : Nat} (ha : (sh a).1 = 0) {h2 : Nat} {oc : Option (Int32 × Mem)} {kf : Int32 → Mem → Option (ρ × Mem)} (hh : h2 < h) (hM : ∀ l r M1, oc = some (r, M1) → MC l G yX0_rightOf cX0_rightOf 2 (some .int) h2 (.ref (G.2 + a) :: [.int u0]) M (vI r) M1) (hst : (st.map fun v => v.category).sum ≤ 8) (hdg : decode cc pc = .ok (.invokevirtual 162, 3)) (k : ∀ r M1, V X G h val nL (pc + 3) lv (.int r :: st) M1 (kf r M1)) : V X G h val nL pc lv (.int u0 :: .ref (G.2 + a) :: st) M (bd oc kf) := V_callNi (av := [.int u0]) (n := 1) C0 hM rfl (by decide) (shN0 ha) wm6_162 wiX0_rightOf wvX0_rightOf w0X0 (by decide +kernel) wcX0_rightOf rfl hh (by decide) hst hdg k
theorem k6_165 (C0 : Cx X G cc nL RX6 ret) {u0 : Int32} {a : Nat} (ha : (sh a).1 = 0) {h2 : Nat} {oc : Option (Int32 × Mem)} {kf : Int32 → Mem → Option (ρ × Mem)} (hh : h2 < h) (hM : ∀ l r M1, oc = some (r, M1) → MC l G yX0_sizeOf cX0_sizeOf 2 (some .int) h2 (.ref (G.2 + a) :: [.int u0]) M (vI r) M1) (hst : (st.map fun v => v.category).sum ≤ 8) (hdg : decode cc pc = .ok (.invokevirtual 165, 3)) (k : ∀ r M1, V X G h val nL (pc + 3) lv (.int r :: st) M1 (kf r M1)) : V X G h val nL pc lv (.int u0 :: .ref (G.2 + a) :: st) M (bd oc kf) := V_callNi (av := [.int u0]) (n := 1) C0 hM rfl (by decide) (shN0 ha) wm6_165 wiX0_sizeOf wvX0_sizeOf w0X0 (by decide +kernel) wcX0_sizeOf rfl hh (by decide) hst hdg k
theorem k6_196 (C0 : Cx X G cc nL RX6 ret) {u0 : Int32} {h2 : Nat} {oc : Option (Int32 × Mem)} {kf : Int32 → Mem → Option (ρ × Mem)} (hh : h2 < h) (hM : ∀ l r M1, oc = some (r, M1) → MC l G yX6_refusalToTry cX6_refusalToTry 2 (some .int) h2 (.ref (G.2 + 0) :: [.int u0]) M (vI r) M1) (hst : (st.map fun v => v.category).sum ≤ 8) (hdg : decode cc pc = .ok (.invokevirtual 196, 3)) (k : ∀ r M1, V X G h val nL (pc + 3) lv (.int r :: st) M1 (kf r M1)) : V X G h val nL pc lv (.int u0 :: .ref (G.2 + 0) :: st) M (bd oc kf) := V_callVi (av := [.int u0]) (n := 1) C0 hM rfl (by decide) (shN6 s0) (List.forall_mem_cons.mpr ⟨wm6_196, List.forall_mem_cons.mpr ⟨wiX6_refusalToTry, List.forall_mem_cons.mpr ⟨wvX6_refusalToTry, List.forall_mem_cons.mpr ⟨w0X6, fun _ h => absurd h List.not_mem_nil⟩⟩⟩⟩) (by decide +kernel) wcX6_refusalToTry rfl hh (by decide) hst hdg k
theorem k6_199 (C0 : Cx X G cc nL RX6 ret) {u0 : Nat} {h2 : Nat} {oc : Option (Unit × Mem)} {kf : Unit → Mem → Option (ρ × Mem)} (hh : h2 < h) (hM : ∀ l r M1, oc = some (r, M1) → MC l G yX5_tryOrders cX5_tryOrders 3 none h2 (.ref (G.2 + 52) :: [.ref (G.2 + u0)]) M (vU r) M1) (hst : (st.map fun v => v.category).sum ≤ 8) (hdg : decode cc pc = .ok (.invokevirtual 199, 3)) (k : ∀ r M1, V X G h val nL (pc + 3) lv st M1 (kf r M1)) : V X G h val nL pc lv (.ref (G.2 + u0) :: .ref (G.2 + 52) :: st) M (bd oc kf) := V_callNv (av := [.ref (G.2 + u0)]) (n := 1) C0 hM rfl (by decide) (shN5 s52) wm6_199 wiX5_tryOrders wvX5_tryOrders w0X5 (by decide +kernel) wcX5_tryOrders rfl hh (by decide) hst hdg k
theorem k6_207 (C0 : Cx X G cc nL RX6 ret) {a : Nat} (ha : (sh a).1 = 0) {h2 : Nat} {oc : Option (Int32 × Mem)} {kf : Int32 → Mem → Option (ρ × Mem)} (hh : h2 < h) (hM : ∀ l r M1, oc = some (r, M1) → MC l G yX0_pairs cX0_pairs 3 (some .int) h2 (.ref (G.2 + a) :: []) M (vI r) M1) (hst : (st.map fun v => v.category).sum ≤ 8) (hdg : decode cc pc = .ok (.invokevirtual 207, 3)) (k : ∀ r M1, V X G h val nL (pc + 3) lv (.int r :: st) M1 (kf r M1)) : V X G h val nL pc lv (.ref (G.2 + a) :: st) M (bd oc kf) := V_callNi (av := []) (n := 0) C0 hM rfl (by decide) (shN0 ha) wm6_207 wiX0_pairs wvX0_pairs w0X0 (by decide +kernel) wcX0_pairs rfl hh (by decide) hst hdg k
theorem k6_210 (C0 : Cx X G cc nL RX6 ret) {h2 : Nat} {oc : Option (Unit × Mem)} {kf : Unit → Mem → Option (ρ × Mem)} (hh : h2 < h) (hM : ∀ l r M1, oc = some (r, M1) → MC l G yX6_dropOldestState cX6_dropOldestState 3 none h2 (.ref (G.2 + 0) :: []) M (vU r) M1) (hst : (st.map fun v => v.category).sum ≤ 8) (hdg : decode cc pc = .ok (.invokevirtual 210, 3)) (k : ∀ r M1, V X G h val nL (pc + 3) lv st M1 (kf r M1)) : V X G h val nL pc lv (.ref (G.2 + 0) :: st) M (bd oc kf) := V_callVv (av := []) (n := 0) C0 hM rfl (by decide) (shN6 s0) (List.forall_mem_cons.mpr ⟨wm6_210, List.forall_mem_cons.mpr ⟨wiX6_dropOldestState, List.forall_mem_cons.mpr ⟨wvX6_dropOldestState, List.forall_mem_cons.mpr ⟨w0X6, fun _ h => absurd h List.not_mem_nil⟩⟩⟩⟩) (by decide +kernel) wcX6_dropOldestState rfl hh (by decide) hst hdg k
theorem k6_213 (C0 : Cx X G cc nL RX6 ret) {u0 : Nat} {u1 : Int32} {u2 : Nat} {a : Nat} (ha : (sh a).1 = 0) {h2 : Nat} {oc : Option (Unit × Mem)} {kf : Unit → Mem → Option (ρ × Mem)} (hh : h2 < h) (hM : ∀ l r M1, oc = some (r, M1) → MC l G yX0_make cX0_make 7 none h2 (.ref (G.2 + a) :: [.ref (G.2 + u0), .int u1, .ref (G.2 + u2)]) M (vU r) M1) (hst : (st.map fun v => v.category).sum ≤ 8) (hdg : decode cc pc = .ok (.invokevirtual 213, 3)) (k : ∀ r M1, V X G h val nL (pc + 3) lv st M1 (kf r M1)) : V X G h val nL pc lv (.ref (G.2 + u2) :: .int u1 :: .ref (G.2 + u0) :: .ref (G.2 + a) :: st) M (bd oc kf) := V_callNv (av := [.ref (G.2 + u0), .int u1, .ref (G.2 + u2)]) (n := 3) C0 hM rfl (by decide) (shN0 ha) wm6_213 wiX0_make wvX0_make w0X0 (by decide +kernel) wcX0_make rfl hh (by decide) hst hdg k
theorem k6_216 (C0 : Cx X G cc nL RX6 ret) {u0 : Nat} {u1 : Nat} {a : Nat} (ha : (sh a).1 = 0) {h2 : Nat} {oc : Option (Unit × Mem)} {kf : Unit → Mem → Option (ρ × Mem)} (hh : h2 < h) (hM : ∀ l r M1, oc = some (r, M1) → MC l G yX0_measure cX0_measure 8 none h2 (.ref (G.2 + a) :: [.ref (G.2 + u0), .ref (G.2 + u1)]) M (vU r) M1) (hst : (st.map fun v => v.category).sum ≤ 8) (hdg : decode cc pc = .ok (.invokevirtual 216, 3)) (k : ∀ r M1, V X G h val nL (pc + 3) lv st M1 (kf r M1)) : V X G h val nL pc lv (.ref (G.2 + u1) :: .ref (G.2 + u0) :: .ref (G.2 + a) :: st) M (bd oc kf) := V_callNv (av := [.ref (G.2 + u0), .ref (G.2 + u1)]) (n := 2) C0 hM rfl (by decide) (shN0 ha) wm6_216 wiX0_measure wvX0_measure w0X0 (by decide +kernel) wcX0_measure rfl hh (by decide) hst hdg k
theorem k0_37 (C0 : Cx X G cc nL RX0 ret) {u0 : Nat} {u1 : Int32} {h2 : Nat} {oc : Option (Int32 × Mem)} {kf : Int32 → Mem → Option (ρ × Mem)} (hh : h2 < h) (hM : ∀ l r M1, oc = some (r, M1) → MC l G yX0_entry cX0_entry 2 (some .int) h2 [.ref (G.2 + u0), .int u1] M (vI r) M1) (hst : (st.map fun v => v.category).sum ≤ 8) (hdg : decode cc pc = .ok (.invokestatic 37, 3)) (k : ∀ r M1, V X G h val nL (pc + 3) lv (.int r :: st) M1 (kf r M1)) : V X G h val nL pc lv (.int u1 :: .ref (G.2 + u0) :: st) M (bd oc kf) := V_callSi (av := [.ref (G.2 + u0), .int u1]) (n := 2) C0 hM (List.forall_mem_cons.mpr ⟨wm0_37, List.forall_mem_cons.mpr ⟨wsX0_entry, List.forall_mem_cons.mpr ⟨w0X0, fun _ h => absurd h List.not_mem_nil⟩⟩⟩) (by decide +kernel) wcX0_entry rfl hh (by decide) hst hdg k
theorem k0_41 (C0 : Cx X G cc nL RX0 ret) {u0 : Int32} {a : Nat} (ha : (sh a).1 = 0) {h2 : Nat} {oc : Option (Int32 × Mem)} {kf : Int32 → Mem → Option (ρ × Mem)} (hh : h2 < h) (hM : ∀ l r M1, oc = some (r, M1) → MC l G yX0_sizeOf cX0_sizeOf 2 (some .int) h2 (.ref (G.2 + a) :: [.int u0]) M (vI r) M1) (hst : (st.map fun v => v.category).sum ≤ 8) (hdg : decode cc pc = .ok (.invokevirtual 41, 3)) (k : ∀ r M1, V X G h val nL (pc + 3) lv (.int r :: st) M1 (kf r M1)) : V X G h val nL pc lv (.int u0 :: .ref (G.2 + a) :: st) M (bd oc kf) := V_callVi (av := [.int u0]) (n := 1) C0 hM rfl (by decide) (shN0 ha) (List.forall_mem_cons.mpr ⟨wm0_41, List.forall_mem_cons.mpr ⟨wiX0_sizeOf, List.forall_mem_cons.mpr ⟨wvX0_sizeOf, List.forall_mem_cons.mpr ⟨w0X0, fun _ h => absurd h List.not_mem_nil⟩⟩⟩⟩) (by decide +kernel) wcX0_sizeOf rfl hh (by decide) hst hdg k
theorem k0_48 (C0 : Cx X G cc nL RX0 ret) {u0 : Int32} {a : Nat} (ha : (sh a).1 = 1) {h2 : Nat} {oc : Option (Int32 × Mem)} {kf : Int32 → Mem → Option (ρ × Mem)} (hh : h2 < h) (hM : ∀ l r M1, oc = some (r, M1) → MC l G yX1_kindOf cX1_kindOf 2 (some .int) h2 (.ref (G.2 + a) :: [.int u0]) M (vI r) M1) (hst : (st.map fun v => v.category).sum ≤ 8) (hdg : decode cc pc = .ok (.invokevirtual 48, 3)) (k : ∀ r M1, V X G h val nL (pc + 3) lv (.int r :: st) M1 (kf r M1)) : V X G h val nL pc lv (.int u0 :: .ref (G.2 + a) :: st) M (bd oc kf) := V_callNi (av := [.int u0]) (n := 1) C0 hM rfl (by decide) (shN1 ha) wm0_48 wiX1_kindOf wvX1_kindOf w0X1 (by decide +kernel) wcX1_kindOf rfl hh (by decide) hst hdg k
theorem k0_51 (C0 : Cx X G cc nL RX0 ret) {u0 : Int32} {h2 : Nat} {oc : Option (Int32 × Mem)} {kf : Int32 → Mem → Option (ρ × Mem)} (hh : h2 < h) (hM : ∀ l r M1, oc = some (r, M1) → MC l G yX6_partsOf cX6_partsOf 1 (some .int) h2 [.int u0] M (vI r) M1) (hst : (st.map fun v => v.category).sum ≤ 8) (hdg : decode cc pc = .ok (.invokestatic 51, 3)) (k : ∀ r M1, V X G h val nL (pc + 3) lv (.int r :: st) M1 (kf r M1)) : V X G h val nL pc lv (.int u0 :: st) M (bd oc kf) := V_callTi (av := [.int u0]) (n := 1) C0 hM wm0_51 wsX6_partsOf w0X6 (by decide +kernel) wcX6_partsOf rfl hh (by decide) hst hdg k
theorem k0_54 (C0 : Cx X G cc nL RX0 ret) {u0 : Int32} {a : Nat} (ha : (sh a).1 = 1) {h2 : Nat} {oc : Option (Int32 × Mem)} {kf : Int32 → Mem → Option (ρ × Mem)} (hh : h2 < h) (hM : ∀ l r M1, oc = some (r, M1) → MC l G yX1_contentOf cX1_contentOf 2 (some .int) h2 (.ref (G.2 + a) :: [.int u0]) M (vI r) M1) (hst : (st.map fun v => v.category).sum ≤ 8) (hdg : decode cc pc = .ok (.invokevirtual 54, 3)) (k : ∀ r M1, V X G h val nL (pc + 3) lv (.int r :: st) M1 (kf r M1)) : V X G h val nL pc lv (.int u0 :: .ref (G.2 + a) :: st) M (bd oc kf) := V_callNi (av := [.int u0]) (n := 1) C0 hM rfl (by decide) (shN1 ha) wm0_54 wiX1_contentOf wvX1_contentOf w0X1 (by decide +kernel) wcX1_contentOf rfl hh (by decide) hst hdg k
theorem k0_61 (C0 : Cx X G cc nL RX0 ret) {u0 : Nat} {a : Nat} (ha : (sh a).1 = 1) {h2 : Nat} {oc : Option (Unit × Mem)} {kf : Unit → Mem → Option (ρ × Mem)} (hh : h2 < h) (hM : ∀ l r M1, oc = some (r, M1) → MC l G yX1_addAll cX1_addAll 4 none h2 (.ref (G.2 + a) :: [.ref (G.2 + u0)]) M (vU r) M1) (hst : (st.map fun v => v.category).sum ≤ 8) (hdg : decode cc pc = .ok (.invokevirtual 61, 3)) (k : ∀ r M1, V X G h val nL (pc + 3) lv st M1 (kf r M1)) : V X G h val nL pc lv (.ref (G.2 + u0) :: .ref (G.2 + a) :: st) M (bd oc kf) := V_callNv (av := [.ref (G.2 + u0)]) (n := 1) C0 hM rfl (by decide) (shN1 ha) wm0_61 wiX1_addAll wvX1_addAll w0X1 (by decide +kernel) wcX1_addAll rfl hh (by decide) hst hdg k
theorem k0_65 (C0 : Cx X G cc nL RX0 ret) {u0 : Int32} {u1 : Int32} {a : Nat} (ha : (sh a).1 = 1) {h2 : Nat} {oc : Option (Int32 × Mem)} {kf : Int32 → Mem → Option (ρ × Mem)} (hh : h2 < h) (hM : ∀ l r M1, oc = some (r, M1) → MC l G yX1_add cX1_add 3 (some .boolean) h2 (.ref (G.2 + a) :: [.int u0, .int u1]) M (vI r) M1) (hst : (st.map fun v => v.category).sum ≤ 8) (hdg : decode cc pc = .ok (.invokevirtual 65, 3)) (k : ∀ r M1, V X G h val nL (pc + 3) lv (.int r :: st) M1 (kf r M1)) : V X G h val nL pc lv (.int u1 :: .int u0 :: .ref (G.2 + a) :: st) M (bd oc kf) := V_callNi (av := [.int u0, .int u1]) (n := 2) C0 hM rfl (by decide) (shN1 ha) wm0_65 wiX1_add wvX1_add w0X1 (by decide +kernel) wcX1_add rfl hh (by decide) hst hdg k
theorem k0_69 (C0 : Cx X G cc nL RX0 ret) {u0 : Int32} {a : Nat} (ha : (sh a).1 = 1) {h2 : Nat} {oc : Option (Int32 × Mem)} {kf : Int32 → Mem → Option (ρ × Mem)} (hh : h2 < h) (hM : ∀ l r M1, oc = some (r, M1) → MC l G yX1_hasKind cX1_hasKind 3 (some .boolean) h2 (.ref (G.2 + a) :: [.int u0]) M (vI r) M1) (hst : (st.map fun v => v.category).sum ≤ 8) (hdg : decode cc pc = .ok (.invokevirtual 69, 3)) (k : ∀ r M1, V X G h val nL (pc + 3) lv (.int r :: st) M1 (kf r M1)) : V X G h val nL pc lv (.int u0 :: .ref (G.2 + a) :: st) M (bd oc kf) := V_callNi (av := [.int u0]) (n := 1) C0 hM rfl (by decide) (shN1 ha) wm0_69 wiX1_hasKind wvX1_hasKind w0X1 (by decide +kernel) wcX1_hasKind rfl hh (by decide) hst hdg k
theorem k0_79 (C0 : Cx X G cc nL RX0 ret) {u0 : Int32} {u1 : Int32} {u2 : Int32} {u3 : Int32} {a : Nat} (ha : (sh a).1 = 0) {h2 : Nat} {oc : Option (Unit × Mem)} {kf : Unit → Mem → Option (ρ × Mem)} (hh : h2 < h) (hM : ∀ l r M1, oc = some (r, M1) → MC l G yX0_put cX0_put 5 none h2 (.ref (G.2 + a) :: [.int u0, .int u1, .int u2, .int u3]) M (vU r) M1) (hst : (st.map fun v => v.category).sum ≤ 8) (hdg : decode cc pc = .ok (.invokevirtual 79, 3)) (k : ∀ r M1, V X G h val nL (pc + 3) lv st M1 (kf r M1)) : V X G h val nL pc lv (.int u3 :: .int u2 :: .int u1 :: .int u0 :: .ref (G.2 + a) :: st) M (bd oc kf) := V_callVv (av := [.int u0, .int u1, .int u2, .int u3]) (n := 4) C0 hM rfl (by decide) (shN0 ha) (List.forall_mem_cons.mpr ⟨wm0_79, List.forall_mem_cons.mpr ⟨wiX0_put, List.forall_mem_cons.mpr ⟨wvX0_put, List.forall_mem_cons.mpr ⟨w0X0, fun _ h => absurd h List.not_mem_nil⟩⟩⟩⟩) (by decide +kernel) wcX0_put rfl hh (by decide) hst hdg k
theorem k0_83 (C0 : Cx X G cc nL RX0 ret) {u0 : Int32} {u1 : Nat} {u2 : Nat} {a : Nat} (ha : (sh a).1 = 0) {h2 : Nat} {oc : Option (Int32 × Mem)} {kf : Int32 → Mem → Option (ρ × Mem)} (hh : h2 < h) (hM : ∀ l r M1, oc = some (r, M1) → MC l G yX0_leafValue cX0_leafValue 6 (some .int) h2 (.ref (G.2 + a) :: [.int u0, .ref (G.2 + u1), .ref (G.2 + u2)]) M (vI r) M1) (hst : (st.map fun v => v.category).sum ≤ 8) (hdg : decode cc pc = .ok (.invokevirtual 83, 3)) (k : ∀ r M1, V X G h val nL (pc + 3) lv (.int r :: st) M1 (kf r M1)) : V X G h val nL pc lv (.ref (G.2 + u2) :: .ref (G.2 + u1) :: .int u0 :: .ref (G.2 + a) :: st) M (bd oc kf) := V_callVi (av := [.int u0, .ref (G.2 + u1), .ref (G.2 + u2)]) (n := 3) C0 hM rfl (by decide) (shN0 ha) (List.forall_mem_cons.mpr ⟨wm0_83, List.forall_mem_cons.mpr ⟨wiX0_leafValue, List.forall_mem_cons.mpr ⟨wvX0_leafValue, List.forall_mem_cons.mpr ⟨w0X0, fun _ h => absurd h List.not_mem_nil⟩⟩⟩⟩) (by decide +kernel) wcX0_leafValue rfl hh (by decide) hst hdg k
theorem k0_87 (C0 : Cx X G cc nL RX0 ret) {u0 : Int32} {a : Nat} (ha : (sh a).1 = 0) {h2 : Nat} {oc : Option (Int32 × Mem)} {kf : Int32 → Mem → Option (ρ × Mem)} (hh : h2 < h) (hM : ∀ l r M1, oc = some (r, M1) → MC l G yX0_needOf cX0_needOf 2 (some .int) h2 (.ref (G.2 + a) :: [.int u0]) M (vI r) M1) (hst : (st.map fun v => v.category).sum ≤ 8) (hdg : decode cc pc = .ok (.invokevirtual 87, 3)) (k : ∀ r M1, V X G h val nL (pc + 3) lv (.int r :: st) M1 (kf r M1)) : V X G h val nL pc lv (.int u0 :: .ref (G.2 + a) :: st) M (bd oc kf) := V_callVi (av := [.int u0]) (n := 1) C0 hM rfl (by decide) (shN0 ha) (List.forall_mem_cons.mpr ⟨wm0_87, List.forall_mem_cons.mpr ⟨wiX0_needOf, List.forall_mem_cons.mpr ⟨wvX0_needOf, List.forall_mem_cons.mpr ⟨w0X0, fun _ h => absurd h List.not_mem_nil⟩⟩⟩⟩) (by decide +kernel) wcX0_needOf rfl hh (by decide) hst hdg k
theorem k0_90 (C0 : Cx X G cc nL RX0 ret) {u0 : Int32} {a : Nat} (ha : (sh a).1 = 0) {h2 : Nat} {oc : Option (Int32 × Mem)} {kf : Int32 → Mem → Option (ρ × Mem)} (hh : h2 < h) (hM : ∀ l r M1, oc = some (r, M1) → MC l G yX0_depthOf cX0_depthOf 2 (some .int) h2 (.ref (G.2 + a) :: [.int u0]) M (vI r) M1) (hst : (st.map fun v => v.category).sum ≤ 8) (hdg : decode cc pc = .ok (.invokevirtual 90, 3)) (k : ∀ r M1, V X G h val nL (pc + 3) lv (.int r :: st) M1 (kf r M1)) : V X G h val nL pc lv (.int u0 :: .ref (G.2 + a) :: st) M (bd oc kf) := V_callVi (av := [.int u0]) (n := 1) C0 hM rfl (by decide) (shN0 ha) (List.forall_mem_cons.mpr ⟨wm0_90, List.forall_mem_cons.mpr ⟨wiX0_depthOf, List.forall_mem_cons.mpr ⟨wvX0_depthOf, List.forall_mem_cons.mpr ⟨w0X0, fun _ h => absurd h List.not_mem_nil⟩⟩⟩⟩) (by decide +kernel) wcX0_depthOf rfl hh (by decide) hst hdg k
theorem k0_93 (C0 : Cx X G cc nL RX0 ret) {u0 : Int32} {a : Nat} (ha : (sh a).1 = 0) {h2 : Nat} {oc : Option (Int32 × Mem)} {kf : Int32 → Mem → Option (ρ × Mem)} (hh : h2 < h) (hM : ∀ l r M1, oc = some (r, M1) → MC l G yX0_valueOf cX0_valueOf 2 (some .int) h2 (.ref (G.2 + a) :: [.int u0]) M (vI r) M1) (hst : (st.map fun v => v.category).sum ≤ 8) (hdg : decode cc pc = .ok (.invokevirtual 93, 3)) (k : ∀ r M1, V X G h val nL (pc + 3) lv (.int r :: st) M1 (kf r M1)) : V X G h val nL pc lv (.int u0 :: .ref (G.2 + a) :: st) M (bd oc kf) := V_callVi (av := [.int u0]) (n := 1) C0 hM rfl (by decide) (shN0 ha) (List.forall_mem_cons.mpr ⟨wm0_93, List.forall_mem_cons.mpr ⟨wiX0_valueOf, List.forall_mem_cons.mpr ⟨wvX0_valueOf, List.forall_mem_cons.mpr ⟨w0X0, fun _ h => absurd h List.not_mem_nil⟩⟩⟩⟩) (by decide +kernel) wcX0_valueOf rfl hh (by decide) hst hdg k
theorem k0_96 (C0 : Cx X G cc nL RX0 ret) {u0 : Int32} {a : Nat} (ha : (sh a).1 = 0) {h2 : Nat} {oc : Option (Int32 × Mem)} {kf : Int32 → Mem → Option (ρ × Mem)} (hh : h2 < h) (hM : ∀ l r M1, oc = some (r, M1) → MC l G yX0_rightOf cX0_rightOf 2 (some .int) h2 (.ref (G.2 + a) :: [.int u0]) M (vI r) M1) (hst : (st.map fun v => v.category).sum ≤ 8) (hdg : decode cc pc = .ok (.invokevirtual 96, 3)) (k : ∀ r M1, V X G h val nL (pc + 3) lv (.int r :: st) M1 (kf r M1)) : V X G h val nL pc lv (.int u0 :: .ref (G.2 + a) :: st) M (bd oc kf) := V_callVi (av := [.int u0]) (n := 1) C0 hM rfl (by decide) (shN0 ha) (List.forall_mem_cons.mpr ⟨wm0_96, List.forall_mem_cons.mpr ⟨wiX0_rightOf, List.forall_mem_cons.mpr ⟨wvX0_rightOf, List.forall_mem_cons.mpr ⟨w0X0, fun _ h => absurd h List.not_mem_nil⟩⟩⟩⟩) (by decide +kernel) wcX0_rightOf rfl hh (by decide) hst hdg k
theorem k0_102 (C0 : Cx X G cc nL RX0 ret) {u0 : Int32} {u1 : Int32} {h2 : Nat} {oc : Option (Int32 × Mem)} {kf : Int32 → Mem → Option (ρ × Mem)} (hh : h2 < h) (hM : ∀ l r M1, oc = some (r, M1) → MC l G yX0_needOfPair cX0_needOfPair 2 (some .int) h2 [.int u0, .int u1] M (vI r) M1) (hst : (st.map fun v => v.category).sum ≤ 8) (hdg : decode cc pc = .ok (.invokestatic 102, 3)) (k : ∀ r M1, V X G h val nL (pc + 3) lv (.int r :: st) M1 (kf r M1)) : V X G h val nL pc lv (.int u1 :: .int u0 :: st) M (bd oc kf) := V_callSi (av := [.int u0, .int u1]) (n := 2) C0 hM (List.forall_mem_cons.mpr ⟨wm0_102, List.forall_mem_cons.mpr ⟨wsX0_needOfPair, List.forall_mem_cons.mpr ⟨w0X0, fun _ h => absurd h List.not_mem_nil⟩⟩⟩) (by decide +kernel) wcX0_needOfPair rfl hh (by decide) hst hdg k
theorem k0_105 (C0 : Cx X G cc nL RX0 ret) {u0 : Int32} {u1 : Int64} {u2 : Int64} {h2 : Nat} {oc : Option (Int32 × Mem)} {kf : Int32 → Mem → Option (ρ × Mem)} (hh : h2 < h) (hM : ∀ l r M1, oc = some (r, M1) → MC l G yX0_operate cX0_operate 7 (some .int) h2 [.int u0, .long u1, .long u2] M (vI r) M1) (hst : (st.map fun v => v.category).sum ≤ 8) (hdg : decode cc pc = .ok (.invokestatic 105, 3)) (k : ∀ r M1, V X G h val nL (pc + 3) lv (.int r :: st) M1 (kf r M1)) : V X G h val nL pc lv (.long u2 :: .long u1 :: .int u0 :: st) M (bd oc kf) := V_callSi (av := [.int u0, .long u1, .long u2]) (n := 3) C0 hM (List.forall_mem_cons.mpr ⟨wm0_105, List.forall_mem_cons.mpr ⟨wsX0_operate, List.forall_mem_cons.mpr ⟨w0X0, fun _ h => absurd h List.not_mem_nil⟩⟩⟩) (by decide +kernel) wcX0_operate rfl hh (by decide) hst hdg k
theorem k1_28 (C0 : Cx X G cc nL RX1 ret) {u0 : Int32} {a : Nat} (ha : (sh a).1 = 1) {h2 : Nat} {oc : Option (Int32 × Mem)} {kf : Int32 → Mem → Option (ρ × Mem)} (hh : h2 < h) (hM : ∀ l r M1, oc = some (r, M1) → MC l G yX1_has cX1_has 2 (some .boolean) h2 (.ref (G.2 + a) :: [.int u0]) M (vI r) M1) (hst : (st.map fun v => v.category).sum ≤ 8) (hdg : decode cc pc = .ok (.invokevirtual 28, 3)) (k : ∀ r M1, V X G h val nL (pc + 3) lv (.int r :: st) M1 (kf r M1)) : V X G h val nL pc lv (.int u0 :: .ref (G.2 + a) :: st) M (bd oc kf) := V_callVi (av := [.int u0]) (n := 1) C0 hM rfl (by decide) (shN1 ha) (List.forall_mem_cons.mpr ⟨wm1_28, List.forall_mem_cons.mpr ⟨wiX1_has, List.forall_mem_cons.mpr ⟨wvX1_has, List.forall_mem_cons.mpr ⟨w0X1, fun _ h => absurd h List.not_mem_nil⟩⟩⟩⟩) (by decide +kernel) wcX1_has rfl hh (by decide) hst hdg k
theorem k1_32 (C0 : Cx X G cc nL RX1 ret) {u0 : Int32} {a : Nat} (ha : (sh a).1 = 1) {h2 : Nat} {oc : Option (Int32 × Mem)} {kf : Int32 → Mem → Option (ρ × Mem)} (hh : h2 < h) (hM : ∀ l r M1, oc = some (r, M1) → MC l G yX1_kindOf cX1_kindOf 2 (some .int) h2 (.ref (G.2 + a) :: [.int u0]) M (vI r) M1) (hst : (st.map fun v => v.category).sum ≤ 8) (hdg : decode cc pc = .ok (.invokevirtual 32, 3)) (k : ∀ r M1, V X G h val nL (pc + 3) lv (.int r :: st) M1 (kf r M1)) : V X G h val nL pc lv (.int u0 :: .ref (G.2 + a) :: st) M (bd oc kf) := V_callVi (av := [.int u0]) (n := 1) C0 hM rfl (by decide) (shN1 ha) (List.forall_mem_cons.mpr ⟨wm1_32, List.forall_mem_cons.mpr ⟨wiX1_kindOf, List.forall_mem_cons.mpr ⟨wvX1_kindOf, List.forall_mem_cons.mpr ⟨w0X1, fun _ h => absurd h List.not_mem_nil⟩⟩⟩⟩) (by decide +kernel) wcX1_kindOf rfl hh (by decide) hst hdg k
theorem k1_36 (C0 : Cx X G cc nL RX1 ret) {a : Nat} (ha : (sh a).1 = 1) {h2 : Nat} {oc : Option (Int32 × Mem)} {kf : Int32 → Mem → Option (ρ × Mem)} (hh : h2 < h) (hM : ∀ l r M1, oc = some (r, M1) → MC l G yX1_isFull cX1_isFull 1 (some .boolean) h2 (.ref (G.2 + a) :: []) M (vI r) M1) (hst : (st.map fun v => v.category).sum ≤ 8) (hdg : decode cc pc = .ok (.invokevirtual 36, 3)) (k : ∀ r M1, V X G h val nL (pc + 3) lv (.int r :: st) M1 (kf r M1)) : V X G h val nL pc lv (.ref (G.2 + a) :: st) M (bd oc kf) := V_callVi (av := []) (n := 0) C0 hM rfl (by decide) (shN1 ha) (List.forall_mem_cons.mpr ⟨wm1_36, List.forall_mem_cons.mpr ⟨wiX1_isFull, List.forall_mem_cons.mpr ⟨wvX1_isFull, List.forall_mem_cons.mpr ⟨w0X1, fun _ h => absurd h List.not_mem_nil⟩⟩⟩⟩) (by decide +kernel) wcX1_isFull rfl hh (by decide) hst hdg k
theorem k1_46 (C0 : Cx X G cc nL RX1 ret) {u0 : Int32} {a : Nat} (ha : (sh a).1 = 1) {h2 : Nat} {oc : Option (Int32 × Mem)} {kf : Int32 → Mem → Option (ρ × Mem)} (hh : h2 < h) (hM : ∀ l r M1, oc = some (r, M1) → MC l G yX1_contentOf cX1_contentOf 2 (some .int) h2 (.ref (G.2 + a) :: [.int u0]) M (vI r) M1) (hst : (st.map fun v => v.category).sum ≤ 8) (hdg : decode cc pc = .ok (.invokevirtual 46, 3)) (k : ∀ r M1, V X G h val nL (pc + 3) lv (.int r :: st) M1 (kf r M1)) : V X G h val nL pc lv (.int u0 :: .ref (G.2 + a) :: st) M (bd oc kf) := V_callVi (av := [.int u0]) (n := 1) C0 hM rfl (by decide) (shN1 ha) (List.forall_mem_cons.mpr ⟨wm1_46, List.forall_mem_cons.mpr ⟨wiX1_contentOf, List.forall_mem_cons.mpr ⟨wvX1_contentOf, List.forall_mem_cons.mpr ⟨w0X1, fun _ h => absurd h List.not_mem_nil⟩⟩⟩⟩) (by decide +kernel) wcX1_contentOf rfl hh (by decide) hst hdg k
theorem k1_49 (C0 : Cx X G cc nL RX1 ret) {u0 : Int32} {u1 : Int32} {a : Nat} (ha : (sh a).1 = 1) {h2 : Nat} {oc : Option (Int32 × Mem)} {kf : Int32 → Mem → Option (ρ × Mem)} (hh : h2 < h) (hM : ∀ l r M1, oc = some (r, M1) → MC l G yX1_add cX1_add 3 (some .boolean) h2 (.ref (G.2 + a) :: [.int u0, .int u1]) M (vI r) M1) (hst : (st.map fun v => v.category).sum ≤ 8) (hdg : decode cc pc = .ok (.invokevirtual 49, 3)) (k : ∀ r M1, V X G h val nL (pc + 3) lv (.int r :: st) M1 (kf r M1)) : V X G h val nL pc lv (.int u1 :: .int u0 :: .ref (G.2 + a) :: st) M (bd oc kf) := V_callVi (av := [.int u0, .int u1]) (n := 2) C0 hM rfl (by decide) (shN1 ha) (List.forall_mem_cons.mpr ⟨wm1_49, List.forall_mem_cons.mpr ⟨wiX1_add, List.forall_mem_cons.mpr ⟨wvX1_add, List.forall_mem_cons.mpr ⟨w0X1, fun _ h => absurd h List.not_mem_nil⟩⟩⟩⟩) (by decide +kernel) wcX1_add rfl hh (by decide) hst hdg k
theorem k1_53 (C0 : Cx X G cc nL RX1 ret) {u0 : Nat} {a : Nat} (ha : (sh a).1 = 1) {h2 : Nat} {oc : Option (Unit × Mem)} {kf : Unit → Mem → Option (ρ × Mem)} (hh : h2 < h) (hM : ∀ l r M1, oc = some (r, M1) → MC l G yX1_addAll cX1_addAll 4 none h2 (.ref (G.2 + a) :: [.ref (G.2 + u0)]) M (vU r) M1) (hst : (st.map fun v => v.category).sum ≤ 8) (hdg : decode cc pc = .ok (.invokevirtual 53, 3)) (k : ∀ r M1, V X G h val nL (pc + 3) lv st M1 (kf r M1)) : V X G h val nL pc lv (.ref (G.2 + u0) :: .ref (G.2 + a) :: st) M (bd oc kf) := V_callVv (av := [.ref (G.2 + u0)]) (n := 1) C0 hM rfl (by decide) (shN1 ha) (List.forall_mem_cons.mpr ⟨wm1_53, List.forall_mem_cons.mpr ⟨wiX1_addAll, List.forall_mem_cons.mpr ⟨wvX1_addAll, List.forall_mem_cons.mpr ⟨w0X1, fun _ h => absurd h List.not_mem_nil⟩⟩⟩⟩) (by decide +kernel) wcX1_addAll rfl hh (by decide) hst hdg k
theorem k1_57 (C0 : Cx X G cc nL RX1 ret) {u0 : Int32} {h2 : Nat} {oc : Option (Int32 × Mem)} {kf : Int32 → Mem → Option (ρ × Mem)} (hh : h2 < h) (hM : ∀ l r M1, oc = some (r, M1) → MC l G yX6_partsOf cX6_partsOf 1 (some .int) h2 [.int u0] M (vI r) M1) (hst : (st.map fun v => v.category).sum ≤ 8) (hdg : decode cc pc = .ok (.invokestatic 57, 3)) (k : ∀ r M1, V X G h val nL (pc + 3) lv (.int r :: st) M1 (kf r M1)) : V X G h val nL pc lv (.int u0 :: st) M (bd oc kf) := V_callTi (av := [.int u0]) (n := 1) C0 hM wm1_57 wsX6_partsOf w0X6 (by decide +kernel) wcX6_partsOf rfl hh (by decide) hst hdg k
theorem k1_60 (C0 : Cx X G cc nL RX1 ret) {u0 : Int32} {a : Nat} (ha : (sh a).1 = 1) {h2 : Nat} {oc : Option (Int32 × Mem)} {kf : Int32 → Mem → Option (ρ × Mem)} (hh : h2 < h) (hM : ∀ l r M1, oc = some (r, M1) → MC l G yX1_behind cX1_behind 4 (some .int) h2 (.ref (G.2 + a) :: [.int u0]) M (vI r) M1) (hst : (st.map fun v => v.category).sum ≤ 8) (hdg : decode cc pc = .ok (.invokevirtual 60, 3)) (k : ∀ r M1, V X G h val nL (pc + 3) lv (.int r :: st) M1 (kf r M1)) : V X G h val nL pc lv (.int u0 :: .ref (G.2 + a) :: st) M (bd oc kf) := V_callVi (av := [.int u0]) (n := 1) C0 hM rfl (by decide) (shN1 ha) (List.forall_mem_cons.mpr ⟨wm1_60, List.forall_mem_cons.mpr ⟨wiX1_behind, List.forall_mem_cons.mpr ⟨wvX1_behind, List.forall_mem_cons.mpr ⟨w0X1, fun _ h => absurd h List.not_mem_nil⟩⟩⟩⟩) (by decide +kernel) wcX1_behind rfl hh (by decide) hst hdg k
theorem k1_63 (C0 : Cx X G cc nL RX1 ret) {u0 : Int32} {u1 : Int32} {a : Nat} (ha : (sh a).1 = 1) {h2 : Nat} {oc : Option (Unit × Mem)} {kf : Unit → Mem → Option (ρ × Mem)} (hh : h2 < h) (hM : ∀ l r M1, oc = some (r, M1) → MC l G yX1_turnAround cX1_turnAround 7 none h2 (.ref (G.2 + a) :: [.int u0, .int u1]) M (vU r) M1) (hst : (st.map fun v => v.category).sum ≤ 8) (hdg : decode cc pc = .ok (.invokevirtual 63, 3)) (k : ∀ r M1, V X G h val nL (pc + 3) lv st M1 (kf r M1)) : V X G h val nL pc lv (.int u1 :: .int u0 :: .ref (G.2 + a) :: st) M (bd oc kf) := V_callVv (av := [.int u0, .int u1]) (n := 2) C0 hM rfl (by decide) (shN1 ha) (List.forall_mem_cons.mpr ⟨wm1_63, List.forall_mem_cons.mpr ⟨wiX1_turnAround, List.forall_mem_cons.mpr ⟨wvX1_turnAround, List.forall_mem_cons.mpr ⟨w0X1, fun _ h => absurd h List.not_mem_nil⟩⟩⟩⟩) (by decide +kernel) wcX1_turnAround rfl hh (by decide) hst hdg k
theorem k3_29 (C0 : Cx X G cc nL RX3 ret) {h2 : Nat} {oc : Option (Int32 × Mem)} {kf : Int32 → Mem → Option (ρ × Mem)} (hh : h2 < h) (hM : ∀ l r M1, oc = some (r, M1) → MC l G yX3_sign cX3_sign 1 (some .int) h2 (.ref (G.2 + 1) :: []) M (vI r) M1) (hst : (st.map fun v => v.category).sum ≤ 8) (hdg : decode cc pc = .ok (.invokevirtual 29, 3)) (k : ∀ r M1, V X G h val nL (pc + 3) lv (.int r :: st) M1 (kf r M1)) : V X G h val nL pc lv (.ref (G.2 + 1) :: st) M (bd oc kf) := V_callVi (av := []) (n := 0) C0 hM rfl (by decide) (shN3 s1) (List.forall_mem_cons.mpr ⟨wm3_29, List.forall_mem_cons.mpr ⟨wiX3_sign, List.forall_mem_cons.mpr ⟨wvX3_sign, List.forall_mem_cons.mpr ⟨w0X3, fun _ h => absurd h List.not_mem_nil⟩⟩⟩⟩) (by decide +kernel) wcX3_sign rfl hh (by decide) hst hdg k
theorem k3_42 (C0 : Cx X G cc nL RX3 ret) {u0 : Int32} {h2 : Nat} {oc : Option (Int32 × Mem)} {kf : Int32 → Mem → Option (ρ × Mem)} (hh : h2 < h) (hM : ∀ l r M1, oc = some (r, M1) → MC l G yX3_pass cX3_pass 3 (some .boolean) h2 (.ref (G.2 + 1) :: [.int u0]) M (vI r) M1) (hst : (st.map fun v => v.category).sum ≤ 8) (hdg : decode cc pc = .ok (.invokevirtual 42, 3)) (k : ∀ r M1, V X G h val nL (pc + 3) lv (.int r :: st) M1 (kf r M1)) : V X G h val nL pc lv (.int u0 :: .ref (G.2 + 1) :: st) M (bd oc kf) := V_callVi (av := [.int u0]) (n := 1) C0 hM rfl (by decide) (shN3 s1) (List.forall_mem_cons.mpr ⟨wm3_42, List.forall_mem_cons.mpr ⟨wiX3_pass, List.forall_mem_cons.mpr ⟨wvX3_pass, List.forall_mem_cons.mpr ⟨w0X3, fun _ h => absurd h List.not_mem_nil⟩⟩⟩⟩) (by decide +kernel) wcX3_pass rfl hh (by decide) hst hdg k
theorem k3_46 (C0 : Cx X G cc nL RX3 ret) {u0 : Nat} {u1 : Int32} {u2 : Int32} {h2 : Nat} {oc : Option (Int32 × Mem)} {kf : Int32 → Mem → Option (ρ × Mem)} (hh : h2 < h) (hM : ∀ l r M1, oc = some (r, M1) → MC l G yX3_readSum cX3_readSum 8 (some .boolean) h2 (.ref (G.2 + 1) :: [.ref (G.2 + u0), .int u1, .int u2]) M (vI r) M1) (hst : (st.map fun v => v.category).sum ≤ 8) (hdg : decode cc pc = .ok (.invokevirtual 46, 3)) (k : ∀ r M1, V X G h val nL (pc + 3) lv (.int r :: st) M1 (kf r M1)) : V X G h val nL pc lv (.int u2 :: .int u1 :: .ref (G.2 + u0) :: .ref (G.2 + 1) :: st) M (bd oc kf) := V_callVi (av := [.ref (G.2 + u0), .int u1, .int u2]) (n := 3) C0 hM rfl (by decide) (shN3 s1) (List.forall_mem_cons.mpr ⟨wm3_46, List.forall_mem_cons.mpr ⟨wiX3_readSum, List.forall_mem_cons.mpr ⟨wvX3_readSum, List.forall_mem_cons.mpr ⟨w0X3, fun _ h => absurd h List.not_mem_nil⟩⟩⟩⟩) (by decide +kernel) wcX3_readSum rfl hh (by decide) hst hdg k
theorem k3_53 (C0 : Cx X G cc nL RX3 ret) {u0 : Nat} {u1 : Int32} {u2 : Int32} {h2 : Nat} {oc : Option (Int32 × Mem)} {kf : Int32 → Mem → Option (ρ × Mem)} (hh : h2 < h) (hM : ∀ l r M1, oc = some (r, M1) → MC l G yX3_readProduct cX3_readProduct 7 (some .boolean) h2 (.ref (G.2 + 1) :: [.ref (G.2 + u0), .int u1, .int u2]) M (vI r) M1) (hst : (st.map fun v => v.category).sum ≤ 8) (hdg : decode cc pc = .ok (.invokevirtual 53, 3)) (k : ∀ r M1, V X G h val nL (pc + 3) lv (.int r :: st) M1 (kf r M1)) : V X G h val nL pc lv (.int u2 :: .int u1 :: .ref (G.2 + u0) :: .ref (G.2 + 1) :: st) M (bd oc kf) := V_callVi (av := [.ref (G.2 + u0), .int u1, .int u2]) (n := 3) C0 hM rfl (by decide) (shN3 s1) (List.forall_mem_cons.mpr ⟨wm3_53, List.forall_mem_cons.mpr ⟨wiX3_readProduct, List.forall_mem_cons.mpr ⟨wvX3_readProduct, List.forall_mem_cons.mpr ⟨w0X3, fun _ h => absurd h List.not_mem_nil⟩⟩⟩⟩) (by decide +kernel) wcX3_readProduct rfl hh (by decide) hst hdg k
theorem k3_56 (C0 : Cx X G cc nL RX3 ret) {u0 : Nat} {u1 : Int32} {u2 : Int32} {h2 : Nat} {oc : Option (Int32 × Mem)} {kf : Int32 → Mem → Option (ρ × Mem)} (hh : h2 < h) (hM : ∀ l r M1, oc = some (r, M1) → MC l G yX3_readOperation cX3_readOperation 5 (some .boolean) h2 (.ref (G.2 + 1) :: [.ref (G.2 + u0), .int u1, .int u2]) M (vI r) M1) (hst : (st.map fun v => v.category).sum ≤ 8) (hdg : decode cc pc = .ok (.invokevirtual 56, 3)) (k : ∀ r M1, V X G h val nL (pc + 3) lv (.int r :: st) M1 (kf r M1)) : V X G h val nL pc lv (.int u2 :: .int u1 :: .ref (G.2 + u0) :: .ref (G.2 + 1) :: st) M (bd oc kf) := V_callVi (av := [.ref (G.2 + u0), .int u1, .int u2]) (n := 3) C0 hM rfl (by decide) (shN3 s1) (List.forall_mem_cons.mpr ⟨wm3_56, List.forall_mem_cons.mpr ⟨wiX3_readOperation, List.forall_mem_cons.mpr ⟨wvX3_readOperation, List.forall_mem_cons.mpr ⟨w0X3, fun _ h => absurd h List.not_mem_nil⟩⟩⟩⟩) (by decide +kernel) wcX3_readOperation rfl hh (by decide) hst hdg k
theorem k3_59 (C0 : Cx X G cc nL RX3 ret) {u0 : Nat} {u1 : Int32} {u2 : Int32} {h2 : Nat} {oc : Option (Int32 × Mem)} {kf : Int32 → Mem → Option (ρ × Mem)} (hh : h2 < h) (hM : ∀ l r M1, oc = some (r, M1) → MC l G yX3_readFactor cX3_readFactor 4 (some .boolean) h2 (.ref (G.2 + 1) :: [.ref (G.2 + u0), .int u1, .int u2]) M (vI r) M1) (hst : (st.map fun v => v.category).sum ≤ 8) (hdg : decode cc pc = .ok (.invokevirtual 59, 3)) (k : ∀ r M1, V X G h val nL (pc + 3) lv (.int r :: st) M1 (kf r M1)) : V X G h val nL pc lv (.int u2 :: .int u1 :: .ref (G.2 + u0) :: .ref (G.2 + 1) :: st) M (bd oc kf) := V_callVi (av := [.ref (G.2 + u0), .int u1, .int u2]) (n := 3) C0 hM rfl (by decide) (shN3 s1) (List.forall_mem_cons.mpr ⟨wm3_59, List.forall_mem_cons.mpr ⟨wiX3_readFactor, List.forall_mem_cons.mpr ⟨wvX3_readFactor, List.forall_mem_cons.mpr ⟨w0X3, fun _ h => absurd h List.not_mem_nil⟩⟩⟩⟩) (by decide +kernel) wcX3_readFactor rfl hh (by decide) hst hdg k
theorem k3_62 (C0 : Cx X G cc nL RX3 ret) {u0 : Int32} {u1 : Int32} {u2 : Int32} {a : Nat} (ha : (sh a).1 = 1) {h2 : Nat} {oc : Option (Int32 × Mem)} {kf : Int32 → Mem → Option (ρ × Mem)} (hh : h2 < h) (hM : ∀ l r M1, oc = some (r, M1) → MC l G yX1_insert cX1_insert 4 (some .boolean) h2 (.ref (G.2 + a) :: [.int u0, .int u1, .int u2]) M (vI r) M1) (hst : (st.map fun v => v.category).sum ≤ 8) (hdg : decode cc pc = .ok (.invokevirtual 62, 3)) (k : ∀ r M1, V X G h val nL (pc + 3) lv (.int r :: st) M1 (kf r M1)) : V X G h val nL pc lv (.int u2 :: .int u1 :: .int u0 :: .ref (G.2 + a) :: st) M (bd oc kf) := V_callNi (av := [.int u0, .int u1, .int u2]) (n := 3) C0 hM rfl (by decide) (shN1 ha) wm3_62 wiX1_insert wvX1_insert w0X1 (by decide +kernel) wcX1_insert rfl hh (by decide) hst hdg k
theorem k3_66 (C0 : Cx X G cc nL RX3 ret) {u0 : Nat} {u1 : Int32} {u2 : Int32} {h2 : Nat} {oc : Option (Int32 × Mem)} {kf : Int32 → Mem → Option (ρ × Mem)} (hh : h2 < h) (hM : ∀ l r M1, oc = some (r, M1) → MC l G yX3_readNested cX3_readNested 4 (some .boolean) h2 (.ref (G.2 + 1) :: [.ref (G.2 + u0), .int u1, .int u2]) M (vI r) M1) (hst : (st.map fun v => v.category).sum ≤ 8) (hdg : decode cc pc = .ok (.invokevirtual 66, 3)) (k : ∀ r M1, V X G h val nL (pc + 3) lv (.int r :: st) M1 (kf r M1)) : V X G h val nL pc lv (.int u2 :: .int u1 :: .ref (G.2 + u0) :: .ref (G.2 + 1) :: st) M (bd oc kf) := V_callVi (av := [.ref (G.2 + u0), .int u1, .int u2]) (n := 3) C0 hM rfl (by decide) (shN3 s1) (List.forall_mem_cons.mpr ⟨wm3_66, List.forall_mem_cons.mpr ⟨wiX3_readNested, List.forall_mem_cons.mpr ⟨wvX3_readNested, List.forall_mem_cons.mpr ⟨w0X3, fun _ h => absurd h List.not_mem_nil⟩⟩⟩⟩) (by decide +kernel) wcX3_readNested rfl hh (by decide) hst hdg k
theorem k3_69 (C0 : Cx X G cc nL RX3 ret) {u0 : Nat} {u1 : Int32} {h2 : Nat} {oc : Option (Int32 × Mem)} {kf : Int32 → Mem → Option (ρ × Mem)} (hh : h2 < h) (hM : ∀ l r M1, oc = some (r, M1) → MC l G yX3_readLeaf cX3_readLeaf 4 (some .boolean) h2 (.ref (G.2 + 1) :: [.ref (G.2 + u0), .int u1]) M (vI r) M1) (hst : (st.map fun v => v.category).sum ≤ 8) (hdg : decode cc pc = .ok (.invokevirtual 69, 3)) (k : ∀ r M1, V X G h val nL (pc + 3) lv (.int r :: st) M1 (kf r M1)) : V X G h val nL pc lv (.int u1 :: .ref (G.2 + u0) :: .ref (G.2 + 1) :: st) M (bd oc kf) := V_callVi (av := [.ref (G.2 + u0), .int u1]) (n := 2) C0 hM rfl (by decide) (shN3 s1) (List.forall_mem_cons.mpr ⟨wm3_69, List.forall_mem_cons.mpr ⟨wiX3_readLeaf, List.forall_mem_cons.mpr ⟨wvX3_readLeaf, List.forall_mem_cons.mpr ⟨w0X3, fun _ h => absurd h List.not_mem_nil⟩⟩⟩⟩) (by decide +kernel) wcX3_readLeaf rfl hh (by decide) hst hdg k
theorem k3_73 (C0 : Cx X G cc nL RX3 ret) {a : Nat} (ha : (sh a).1 = 1) {h2 : Nat} {oc : Option (Int32 × Mem)} {kf : Int32 → Mem → Option (ρ × Mem)} (hh : h2 < h) (hM : ∀ l r M1, oc = some (r, M1) → MC l G yX1_isFull cX1_isFull 1 (some .boolean) h2 (.ref (G.2 + a) :: []) M (vI r) M1) (hst : (st.map fun v => v.category).sum ≤ 8) (hdg : decode cc pc = .ok (.invokevirtual 73, 3)) (k : ∀ r M1, V X G h val nL (pc + 3) lv (.int r :: st) M1 (kf r M1)) : V X G h val nL pc lv (.ref (G.2 + a) :: st) M (bd oc kf) := V_callNi (av := []) (n := 0) C0 hM rfl (by decide) (shN1 ha) wm3_73 wiX1_isFull wvX1_isFull w0X1 (by decide +kernel) wcX1_isFull rfl hh (by decide) hst hdg k
theorem k3_77 (C0 : Cx X G cc nL RX3 ret) {u0 : Int32} {u1 : Int32} {a : Nat} (ha : (sh a).1 = 1) {h2 : Nat} {oc : Option (Int32 × Mem)} {kf : Int32 → Mem → Option (ρ × Mem)} (hh : h2 < h) (hM : ∀ l r M1, oc = some (r, M1) → MC l G yX1_add cX1_add 3 (some .boolean) h2 (.ref (G.2 + a) :: [.int u0, .int u1]) M (vI r) M1) (hst : (st.map fun v => v.category).sum ≤ 8) (hdg : decode cc pc = .ok (.invokevirtual 77, 3)) (k : ∀ r M1, V X G h val nL (pc + 3) lv (.int r :: st) M1 (kf r M1)) : V X G h val nL pc lv (.int u1 :: .int u0 :: .ref (G.2 + a) :: st) M (bd oc kf) := V_callNi (av := [.int u0, .int u1]) (n := 2) C0 hM rfl (by decide) (shN1 ha) wm3_77 wiX1_add wvX1_add w0X1 (by decide +kernel) wcX1_add rfl hh (by decide) hst hdg k
theorem k3_81 (C0 : Cx X G cc nL RX3 ret) {u0 : Int32} {h2 : Nat} {oc : Option (Int32 × Mem)} {kf : Int32 → Mem → Option (ρ × Mem)} (hh : h2 < h) (hM : ∀ l r M1, oc = some (r, M1) → MC l G yX3_isDigit cX3_isDigit 1 (some .boolean) h2 [.int u0] M (vI r) M1) (hst : (st.map fun v => v.category).sum ≤ 8) (hdg : decode cc pc = .ok (.invokestatic 81, 3)) (k : ∀ r M1, V X G h val nL (pc + 3) lv (.int r :: st) M1 (kf r M1)) : V X G h val nL pc lv (.int u0 :: st) M (bd oc kf) := V_callSi (av := [.int u0]) (n := 1) C0 hM (List.forall_mem_cons.mpr ⟨wm3_81, List.forall_mem_cons.mpr ⟨wsX3_isDigit, List.forall_mem_cons.mpr ⟨w0X3, fun _ h => absurd h List.not_mem_nil⟩⟩⟩) (by decide +kernel) wcX3_isDigit rfl hh (by decide) hst hdg k
theorem k3_84 (C0 : Cx X G cc nL RX3 ret) {h2 : Nat} {oc : Option (Int32 × Mem)} {kf : Int32 → Mem → Option (ρ × Mem)} (hh : h2 < h) (hM : ∀ l r M1, oc = some (r, M1) → MC l G yX3_readNumber cX3_readNumber 3 (some .int) h2 (.ref (G.2 + 1) :: []) M (vI r) M1) (hst : (st.map fun v => v.category).sum ≤ 8) (hdg : decode cc pc = .ok (.invokevirtual 84, 3)) (k : ∀ r M1, V X G h val nL (pc + 3) lv (.int r :: st) M1 (kf r M1)) : V X G h val nL pc lv (.ref (G.2 + 1) :: st) M (bd oc kf) := V_callVi (av := []) (n := 0) C0 hM rfl (by decide) (shN3 s1) (List.forall_mem_cons.mpr ⟨wm3_84, List.forall_mem_cons.mpr ⟨wiX3_readNumber, List.forall_mem_cons.mpr ⟨wvX3_readNumber, List.forall_mem_cons.mpr ⟨w0X3, fun _ h => absurd h List.not_mem_nil⟩⟩⟩⟩) (by decide +kernel) wcX3_readNumber rfl hh (by decide) hst hdg k
theorem k4_31 (C0 : Cx X G cc nL RX4 ret) {u0 : Nat} {a : Nat} (ha : (sh a).1 = 1) {h2 : Nat} {oc : Option (Unit × Mem)} {kf : Unit → Mem → Option (ρ × Mem)} (hh : h2 < h) (hM : ∀ l r M1, oc = some (r, M1) → MC l G yX1_copy cX1_copy 2 none h2 (.ref (G.2 + a) :: [.ref (G.2 + u0)]) M (vU r) M1) (hst : (st.map fun v => v.category).sum ≤ 8) (hdg : decode cc pc = .ok (.invokevirtual 31, 3)) (k : ∀ r M1, V X G h val nL (pc + 3) lv st M1 (kf r M1)) : V X G h val nL pc lv (.ref (G.2 + u0) :: .ref (G.2 + a) :: st) M (bd oc kf) := V_callNv (av := [.ref (G.2 + u0)]) (n := 1) C0 hM rfl (by decide) (shN1 ha) wm4_31 wiX1_copy wvX1_copy w0X1 (by decide +kernel) wcX1_copy rfl hh (by decide) hst hdg k
theorem k4_35 (C0 : Cx X G cc nL RX4 ret) {u0 : Nat} {a : Nat} (ha : (sh a).1 = 4) {h2 : Nat} {oc : Option (Unit × Mem)} {kf : Unit → Mem → Option (ρ × Mem)} (hh : h2 < h) (hM : ∀ l r M1, oc = some (r, M1) → MC l G yX4_copyFormulas cX4_copyFormulas 3 none h2 (.ref (G.2 + a) :: [.ref (G.2 + u0)]) M (vU r) M1) (hst : (st.map fun v => v.category).sum ≤ 8) (hdg : decode cc pc = .ok (.invokevirtual 35, 3)) (k : ∀ r M1, V X G h val nL (pc + 3) lv st M1 (kf r M1)) : V X G h val nL pc lv (.ref (G.2 + u0) :: .ref (G.2 + a) :: st) M (bd oc kf) := V_callVv (av := [.ref (G.2 + u0)]) (n := 1) C0 hM rfl (by decide) (shN4 ha) (List.forall_mem_cons.mpr ⟨wm4_35, List.forall_mem_cons.mpr ⟨wiX4_copyFormulas, List.forall_mem_cons.mpr ⟨wvX4_copyFormulas, List.forall_mem_cons.mpr ⟨w0X4, fun _ h => absurd h List.not_mem_nil⟩⟩⟩⟩) (by decide +kernel) wcX4_copyFormulas rfl hh (by decide) hst hdg k
theorem k5_45 (C0 : Cx X G cc nL RX5 ret) {u0 : Nat} {u1 : Int32} {h2 : Nat} {oc : Option (Int32 × Mem)} {kf : Int32 → Mem → Option (ρ × Mem)} (hh : h2 < h) (hM : ∀ l r M1, oc = some (r, M1) → MC l G yX5_waysFor cX5_waysFor 8 (some .int) h2 (.ref (G.2 + 52) :: [.ref (G.2 + u0), .int u1]) M (vI r) M1) (hst : (st.map fun v => v.category).sum ≤ 8) (hdg : decode cc pc = .ok (.invokevirtual 45, 3)) (k : ∀ r M1, V X G h val nL (pc + 3) lv (.int r :: st) M1 (kf r M1)) : V X G h val nL pc lv (.int u1 :: .ref (G.2 + u0) :: .ref (G.2 + 52) :: st) M (bd oc kf) := V_callVi (av := [.ref (G.2 + u0), .int u1]) (n := 2) C0 hM rfl (by decide) (shN5 s52) (List.forall_mem_cons.mpr ⟨wm5_45, List.forall_mem_cons.mpr ⟨wiX5_waysFor, List.forall_mem_cons.mpr ⟨wvX5_waysFor, List.forall_mem_cons.mpr ⟨w0X5, fun _ h => absurd h List.not_mem_nil⟩⟩⟩⟩) (by decide +kernel) wcX5_waysFor rfl hh (by decide) hst hdg k
theorem k5_49 (C0 : Cx X G cc nL RX5 ret) {u0 : Int32} {a : Nat} (ha : (sh a).1 = 1) {h2 : Nat} {oc : Option (Int32 × Mem)} {kf : Int32 → Mem → Option (ρ × Mem)} (hh : h2 < h) (hM : ∀ l r M1, oc = some (r, M1) → MC l G yX1_kindOf cX1_kindOf 2 (some .int) h2 (.ref (G.2 + a) :: [.int u0]) M (vI r) M1) (hst : (st.map fun v => v.category).sum ≤ 8) (hdg : decode cc pc = .ok (.invokevirtual 49, 3)) (k : ∀ r M1, V X G h val nL (pc + 3) lv (.int r :: st) M1 (kf r M1)) : V X G h val nL pc lv (.int u0 :: .ref (G.2 + a) :: st) M (bd oc kf) := V_callNi (av := [.int u0]) (n := 1) C0 hM rfl (by decide) (shN1 ha) wm5_49 wiX1_kindOf wvX1_kindOf w0X1 (by decide +kernel) wcX1_kindOf rfl hh (by decide) hst hdg k
theorem k5_53 (C0 : Cx X G cc nL RX5 ret) {u0 : Int32} {h2 : Nat} {oc : Option (Int32 × Mem)} {kf : Int32 → Mem → Option (ρ × Mem)} (hh : h2 < h) (hM : ∀ l r M1, oc = some (r, M1) → MC l G yX6_partsOf cX6_partsOf 1 (some .int) h2 [.int u0] M (vI r) M1) (hst : (st.map fun v => v.category).sum ≤ 8) (hdg : decode cc pc = .ok (.invokestatic 53, 3)) (k : ∀ r M1, V X G h val nL (pc + 3) lv (.int r :: st) M1 (kf r M1)) : V X G h val nL pc lv (.int u0 :: st) M (bd oc kf) := V_callTi (av := [.int u0]) (n := 1) C0 hM wm5_53 wsX6_partsOf w0X6 (by decide +kernel) wcX6_partsOf rfl hh (by decide) hst hdg k
theorem k5_56 (C0 : Cx X G cc nL RX5 ret) {u0 : Nat} {u1 : Int32} {h2 : Nat} {oc : Option (Int32 × Mem)} {kf : Int32 → Mem → Option (ρ × Mem)} (hh : h2 < h) (hM : ∀ l r M1, oc = some (r, M1) → MC l G yX0_entry cX0_entry 2 (some .int) h2 [.ref (G.2 + u0), .int u1] M (vI r) M1) (hst : (st.map fun v => v.category).sum ≤ 8) (hdg : decode cc pc = .ok (.invokestatic 56, 3)) (k : ∀ r M1, V X G h val nL (pc + 3) lv (.int r :: st) M1 (kf r M1)) : V X G h val nL pc lv (.int u1 :: .ref (G.2 + u0) :: st) M (bd oc kf) := V_callTi (av := [.ref (G.2 + u0), .int u1]) (n := 2) C0 hM wm5_56 wsX0_entry w0X0 (by decide +kernel) wcX0_entry rfl hh (by decide) hst hdg k
theorem k5_60 (C0 : Cx X G cc nL RX5 ret) {u0 : Int32} {a : Nat} (ha : (sh a).1 = 0) {h2 : Nat} {oc : Option (Int32 × Mem)} {kf : Int32 → Mem → Option (ρ × Mem)} (hh : h2 < h) (hM : ∀ l r M1, oc = some (r, M1) → MC l G yX0_rightOf cX0_rightOf 2 (some .int) h2 (.ref (G.2 + a) :: [.int u0]) M (vI r) M1) (hst : (st.map fun v => v.category).sum ≤ 8) (hdg : decode cc pc = .ok (.invokevirtual 60, 3)) (k : ∀ r M1, V X G h val nL (pc + 3) lv (.int r :: st) M1 (kf r M1)) : V X G h val nL pc lv (.int u0 :: .ref (G.2 + a) :: st) M (bd oc kf) := V_callNi (av := [.int u0]) (n := 1) C0 hM rfl (by decide) (shN0 ha) wm5_60 wiX0_rightOf wvX0_rightOf w0X0 (by decide +kernel) wcX0_rightOf rfl hh (by decide) hst hdg k
end SP
end
section
/-! the law's calls -/
section SL
variable {X : XT} {G : GT} {Z : ZT} {ρ : Type} {Q : ρ → Mem → State → Prop} {nL pc : Nat} {lv : List (Nat × Value)} {st : List Value} {M : Mem} {cc : ByteArray} {ret : Option FieldType}
theorem xa_i : (.arrayClass .int : Cond) ∈ TBLG := List.mem_filter.mpr ⟨List.mem_of_getElem? (i := 100) (by decide +kernel), by decide +kernel⟩
theorem kL_9 {u0 : Nat} {u1 : Nat} {u2 : Nat} {u3 : Nat} {u4 : Int32} {h2 : Nat} {oc : Option (Int32 × Mem)} {kf : Int32 → Mem → Option (ρ × Mem)} (hh : h2 < Z.1) (hM : ∀ l r M1, oc = some (r, M1) → MCL l G yL_isCheap cL_isCheap 12 (some .boolean) h2 [.ref (G.2 + u0), .ref (G.2 + u1), .ref (G.2 + u2), .ref (G.2 + u3), .int u4] M (vI r) M1) (hmo : ∀ r M1, oc = some (r, M1) → M.2 5 ≤ M1.2 5 ∧ M.2 6 ≤ M1.2 6) (hst : (st.map fun v => v.category).sum ≤ 8) (hdg : decode cc pc = .ok (.invokestatic 9, 3)) (k : ∀ r M1, U X G Z cc ret Q nL (pc + 3) lv (.int r :: st) M1 (kf r M1)) : U X G Z cc ret Q nL pc lv (.int u4 :: .ref (G.2 + u3) :: .ref (G.2 + u2) :: .ref (G.2 + u1) :: .ref (G.2 + u0) :: st) M (bd oc kf) := U_callSi (av := [.ref (G.2 + u0), .ref (G.2 + u1), .ref (G.2 + u2), .ref (G.2 + u3), .int u4]) (n := 5) hM hmo (List.forall_mem_cons.mpr ⟨wmL_9, List.forall_mem_cons.mpr ⟨wsL_isCheap, List.forall_mem_cons.mpr ⟨w0L, fun _ h => absurd h List.not_mem_nil⟩⟩⟩) (by decide +kernel) wcL_isCheap rfl hh (by decide) hst hdg k
theorem kL_21 {u0 : Nat} {u1 : Nat} {u2 : Nat} {u3 : Nat} {u4 : Int32} {u5 : Nat} {u6 : Nat} {h2 : Nat} {oc : Option (Int32 × Mem)} {kf : Int32 → Mem → Option (ρ × Mem)} (hh : h2 < Z.1) (hM : ∀ l r M1, oc = some (r, M1) → MCL l G yL_expand cL_expand 11 (some .int) h2 [.ref (G.2 + u0), .ref (G.2 + u1), .ref (G.2 + u2), .ref (G.2 + u3), .int u4, .ref (G.2 + u5), .ref (G.2 + u6)] M (vI r) M1) (hmo : ∀ r M1, oc = some (r, M1) → M.2 5 ≤ M1.2 5 ∧ M.2 6 ≤ M1.2 6) (hst : (st.map fun v => v.category).sum ≤ 8) (hdg : decode cc pc = .ok (.invokestatic 21, 3)) (k : ∀ r M1, U X G Z cc ret Q nL (pc + 3) lv (.int r :: st) M1 (kf r M1)) : U X G Z cc ret Q nL pc lv (.ref (G.2 + u6) :: .ref (G.2 + u5) :: .int u4 :: .ref (G.2 + u3) :: .ref (G.2 + u2) :: .ref (G.2 + u1) :: .ref (G.2 + u0) :: st) M (bd oc kf) := U_callSi (av := [.ref (G.2 + u0), .ref (G.2 + u1), .ref (G.2 + u2), .ref (G.2 + u3), .int u4, .ref (G.2 + u5), .ref (G.2 + u6)]) (n := 7) hM hmo (List.forall_mem_cons.mpr ⟨wmL_21, List.forall_mem_cons.mpr ⟨wsL_expand, List.forall_mem_cons.mpr ⟨w0L, fun _ h => absurd h List.not_mem_nil⟩⟩⟩) (by decide +kernel) wcL_expand rfl hh (by decide) hst hdg k
theorem kL_25 {u0 : Nat} {u1 : Nat} {u2 : Nat} {u3 : Nat} {u4 : Int32} {u5 : Nat} {u6 : Nat} {u7 : Nat} {u8 : Nat} {h2 : Nat} {oc : Option (Unit × Mem)} {kf : Unit → Mem → Option (ρ × Mem)} (hh : h2 < Z.1) (hM : ∀ l r M1, oc = some (r, M1) → MCL l G yL_tell cL_tell 14 none h2 [.ref (G.2 + u0), .ref (G.2 + u1), .ref (G.2 + u2), .ref (G.2 + u3), .int u4, .ref (G.2 + u5), .ref (G.2 + u6), .ref (G.2 + u7), .ref (G.2 + u8)] M (vU r) M1) (hmo : ∀ r M1, oc = some (r, M1) → M.2 5 ≤ M1.2 5 ∧ M.2 6 ≤ M1.2 6) (hst : (st.map fun v => v.category).sum ≤ 8) (hdg : decode cc pc = .ok (.invokestatic 25, 3)) (k : ∀ r M1, U X G Z cc ret Q nL (pc + 3) lv st M1 (kf r M1)) : U X G Z cc ret Q nL pc lv (.ref (G.2 + u8) :: .ref (G.2 + u7) :: .ref (G.2 + u6) :: .ref (G.2 + u5) :: .int u4 :: .ref (G.2 + u3) :: .ref (G.2 + u2) :: .ref (G.2 + u1) :: .ref (G.2 + u0) :: st) M (bd oc kf) := U_callSv (av := [.ref (G.2 + u0), .ref (G.2 + u1), .ref (G.2 + u2), .ref (G.2 + u3), .int u4, .ref (G.2 + u5), .ref (G.2 + u6), .ref (G.2 + u7), .ref (G.2 + u8)]) (n := 9) hM hmo (List.forall_mem_cons.mpr ⟨wmL_25, List.forall_mem_cons.mpr ⟨wsL_tell, List.forall_mem_cons.mpr ⟨w0L, fun _ h => absurd h List.not_mem_nil⟩⟩⟩) (by decide +kernel) wcL_tell rfl hh (by decide) hst hdg k
theorem kL_29 {u0 : Int32} {h2 : Nat} {oc : Option (Int32 × Mem)} {kf : Int32 → Mem → Option (ρ × Mem)} (hh : h2 < Z.1) (hM : ∀ l r M1, oc = some (r, M1) → MC l G yX6_append cX6_append 2 (some .int) h2 (.ref (G.2 + 0) :: [.int u0]) M (vI r) M1) (hst : (st.map fun v => v.category).sum ≤ 8) (hdg : decode cc pc = .ok (.invokevirtual 29, 3)) (k : ∀ r M1, U X G Z cc ret Q nL (pc + 3) lv (.int r :: st) M1 (kf r M1)) : U X G Z cc ret Q nL pc lv (.int u0 :: .ref (G.2 + 0) :: st) M (bk M oc kf) := U_callC (av := [.int u0]) (n := 1) hM (List.forall_mem_cons.mpr ⟨wmL_29, List.forall_mem_cons.mpr ⟨wiX6_append, List.forall_mem_cons.mpr ⟨wvX6_append, List.forall_mem_cons.mpr ⟨w0X6, fun _ h => absurd h List.not_mem_nil⟩⟩⟩⟩) (by decide +kernel) wcX6_append (shN6 s0) rfl hh (by decide) hst hdg k
theorem kL_36 {u0 : Int32} {u1 : Int32} {h2 : Nat} {oc : Option (Int32 × Mem)} {kf : Int32 → Mem → Option (ρ × Mem)} (hh : h2 < Z.1) (hM : ∀ l r M1, oc = some (r, M1) → MCL l G yL_low cL_low 2 (some .int) h2 [.int u0, .int u1] M (vI r) M1) (hmo : ∀ r M1, oc = some (r, M1) → M.2 5 ≤ M1.2 5 ∧ M.2 6 ≤ M1.2 6) (hst : (st.map fun v => v.category).sum ≤ 8) (hdg : decode cc pc = .ok (.invokestatic 36, 3)) (k : ∀ r M1, U X G Z cc ret Q nL (pc + 3) lv (.int r :: st) M1 (kf r M1)) : U X G Z cc ret Q nL pc lv (.int u1 :: .int u0 :: st) M (bd oc kf) := U_callSi (av := [.int u0, .int u1]) (n := 2) hM hmo (List.forall_mem_cons.mpr ⟨wmL_36, List.forall_mem_cons.mpr ⟨wsL_low, List.forall_mem_cons.mpr ⟨w0L, fun _ h => absurd h List.not_mem_nil⟩⟩⟩) (by decide +kernel) wcL_low rfl hh (by decide) hst hdg k
theorem kL_41 {u1 : Nat} {u2 : Int32} {h2 : Nat} {oc : Option (Int32 × Mem)} {kf : Int32 → Mem → Option (ρ × Mem)} (hh : h2 < Z.1) (hM : ∀ l r M1, oc = some (r, M1) → MCL l G yL_put cL_put 3 (some .boolean) h2 [.ref (G.2 + 0), .ref (G.2 + u1), .int u2] M (vI r) M1) (hmo : ∀ r M1, oc = some (r, M1) → M.2 5 ≤ M1.2 5 ∧ M.2 6 ≤ M1.2 6) (hst : (st.map fun v => v.category).sum ≤ 8) (hdg : decode cc pc = .ok (.invokestatic 41, 3)) (k : ∀ r M1, U X G Z cc ret Q nL (pc + 3) lv (.int r :: st) M1 (kf r M1)) : U X G Z cc ret Q nL pc lv (.int u2 :: .ref (G.2 + u1) :: .ref (G.2 + 0) :: st) M (bd oc kf) := U_callSi (av := [.ref (G.2 + 0), .ref (G.2 + u1), .int u2]) (n := 3) hM hmo (List.forall_mem_cons.mpr ⟨wmL_41, List.forall_mem_cons.mpr ⟨wsL_put, List.forall_mem_cons.mpr ⟨w0L, fun _ h => absurd h List.not_mem_nil⟩⟩⟩) (by decide +kernel) wcL_put rfl hh (by decide) hst hdg k
theorem kL_45 {h2 : Nat} {oc : Option (Int32 × Mem)} {kf : Int32 → Mem → Option (ρ × Mem)} (hh : h2 < Z.1) (hM : ∀ l r M1, oc = some (r, M1) → MC l G yX6_clearText cX6_clearText 2 (some .int) h2 (.ref (G.2 + 0) :: []) M (vI r) M1) (hst : (st.map fun v => v.category).sum ≤ 8) (hdg : decode cc pc = .ok (.invokevirtual 45, 3)) (k : ∀ r M1, U X G Z cc ret Q nL (pc + 3) lv (.int r :: st) M1 (kf r M1)) : U X G Z cc ret Q nL pc lv (.ref (G.2 + 0) :: st) M (bk M oc kf) := U_callC (av := []) (n := 0) hM (List.forall_mem_cons.mpr ⟨wmL_45, List.forall_mem_cons.mpr ⟨wiX6_clearText, List.forall_mem_cons.mpr ⟨wvX6_clearText, List.forall_mem_cons.mpr ⟨w0X6, fun _ h => absurd h List.not_mem_nil⟩⟩⟩⟩) (by decide +kernel) wcX6_clearText (shN6 s0) rfl hh (by decide) hst hdg k
theorem kL_50 {u0 : Nat} {u1 : Nat} {u2 : Int32} {u3 : Int32} {u4 : Int32} {h2 : Nat} {oc : Option (Unit × Mem)} {kf : Unit → Mem → Option (ρ × Mem)} (hh : h2 < Z.1) (hM : ∀ l r M1, oc = some (r, M1) → MCL l G yL_grow cL_grow 10 none h2 [.ref (G.2 + u0), .ref (G.2 + u1), .int u2, .int u3, .int u4] M (vU r) M1) (hmo : ∀ r M1, oc = some (r, M1) → M.2 5 ≤ M1.2 5 ∧ M.2 6 ≤ M1.2 6) (hst : (st.map fun v => v.category).sum ≤ 8) (hdg : decode cc pc = .ok (.invokestatic 50, 3)) (k : ∀ r M1, U X G Z cc ret Q nL (pc + 3) lv st M1 (kf r M1)) : U X G Z cc ret Q nL pc lv (.int u4 :: .int u3 :: .int u2 :: .ref (G.2 + u1) :: .ref (G.2 + u0) :: st) M (bd oc kf) := U_callSv (av := [.ref (G.2 + u0), .ref (G.2 + u1), .int u2, .int u3, .int u4]) (n := 5) hM hmo (List.forall_mem_cons.mpr ⟨wmL_50, List.forall_mem_cons.mpr ⟨wsL_grow, List.forall_mem_cons.mpr ⟨w0L, fun _ h => absurd h List.not_mem_nil⟩⟩⟩) (by decide +kernel) wcL_grow rfl hh (by decide) hst hdg k
theorem kL_54 {u1 : Nat} {u2 : Nat} {u3 : Nat} {u4 : Nat} {u5 : Nat} {u6 : Nat} {u7 : Int32} {h2 : Nat} {oc : Option (Int32 × Mem)} {kf : Int32 → Mem → Option (ρ × Mem)} (hh : h2 < Z.1) (hM : ∀ l r M1, oc = some (r, M1) → MCL l G yL_types cL_types 12 (some .boolean) h2 [.ref (G.2 + 0), .ref (G.2 + u1), .ref (G.2 + u2), .ref (G.2 + u3), .ref (G.2 + u4), .ref (G.2 + u5), .ref (G.2 + u6), .int u7] M (vI r) M1) (hmo : ∀ r M1, oc = some (r, M1) → M.2 5 ≤ M1.2 5 ∧ M.2 6 ≤ M1.2 6) (hst : (st.map fun v => v.category).sum ≤ 8) (hdg : decode cc pc = .ok (.invokestatic 54, 3)) (k : ∀ r M1, U X G Z cc ret Q nL (pc + 3) lv (.int r :: st) M1 (kf r M1)) : U X G Z cc ret Q nL pc lv (.int u7 :: .ref (G.2 + u6) :: .ref (G.2 + u5) :: .ref (G.2 + u4) :: .ref (G.2 + u3) :: .ref (G.2 + u2) :: .ref (G.2 + u1) :: .ref (G.2 + 0) :: st) M (bd oc kf) := U_callSi (av := [.ref (G.2 + 0), .ref (G.2 + u1), .ref (G.2 + u2), .ref (G.2 + u3), .ref (G.2 + u4), .ref (G.2 + u5), .ref (G.2 + u6), .int u7]) (n := 8) hM hmo (List.forall_mem_cons.mpr ⟨wmL_54, List.forall_mem_cons.mpr ⟨wsL_types, List.forall_mem_cons.mpr ⟨w0L, fun _ h => absurd h List.not_mem_nil⟩⟩⟩) (by decide +kernel) wcL_types rfl hh (by decide) hst hdg k
theorem kL_58 {u0 : Int32} {h2 : Nat} {oc : Option (Int32 × Mem)} {kf : Int32 → Mem → Option (ρ × Mem)} (hh : h2 < Z.1) (hM : ∀ l r M1, oc = some (r, M1) → MC l G yX6_count cX6_count 2 (some .int) h2 (.ref (G.2 + 0) :: [.int u0]) M (vI r) M1) (hst : (st.map fun v => v.category).sum ≤ 8) (hdg : decode cc pc = .ok (.invokevirtual 58, 3)) (k : ∀ r M1, U X G Z cc ret Q nL (pc + 3) lv (.int r :: st) M1 (kf r M1)) : U X G Z cc ret Q nL pc lv (.int u0 :: .ref (G.2 + 0) :: st) M (bk M oc kf) := U_callC (av := [.int u0]) (n := 1) hM (List.forall_mem_cons.mpr ⟨wmL_58, List.forall_mem_cons.mpr ⟨wiX6_count, List.forall_mem_cons.mpr ⟨wvX6_count, List.forall_mem_cons.mpr ⟨w0X6, fun _ h => absurd h List.not_mem_nil⟩⟩⟩⟩) (by decide +kernel) wcX6_count (shN6 s0) rfl hh (by decide) hst hdg k
theorem kL_61 {h2 : Nat} {oc : Option (Int32 × Mem)} {kf : Int32 → Mem → Option (ρ × Mem)} (hh : h2 < Z.1) (hM : ∀ l r M1, oc = some (r, M1) → MC l G yX6_read cX6_read 1 (some .int) h2 (.ref (G.2 + 0) :: []) M (vI r) M1) (hst : (st.map fun v => v.category).sum ≤ 8) (hdg : decode cc pc = .ok (.invokevirtual 61, 3)) (k : ∀ r M1, U X G Z cc ret Q nL (pc + 3) lv (.int r :: st) M1 (kf r M1)) : U X G Z cc ret Q nL pc lv (.ref (G.2 + 0) :: st) M (bk M oc kf) := U_callC (av := []) (n := 0) hM (List.forall_mem_cons.mpr ⟨wmL_61, List.forall_mem_cons.mpr ⟨wiX6_read, List.forall_mem_cons.mpr ⟨wvX6_read, List.forall_mem_cons.mpr ⟨w0X6, fun _ h => absurd h List.not_mem_nil⟩⟩⟩⟩) (by decide +kernel) wcX6_read (shN6 s0) rfl hh (by decide) hst hdg k
theorem kL_65 {u1 : Nat} {u2 : Nat} {u3 : Nat} {u4 : Nat} {u5 : Int32} {h2 : Nat} {oc : Option (Int32 × Mem)} {kf : Int32 → Mem → Option (ρ × Mem)} (hh : h2 < Z.1) (hM : ∀ l r M1, oc = some (r, M1) → MCL l G yL_reads cL_reads 12 (some .boolean) h2 [.ref (G.2 + 0), .ref (G.2 + u1), .ref (G.2 + u2), .ref (G.2 + u3), .ref (G.2 + u4), .int u5] M (vI r) M1) (hmo : ∀ r M1, oc = some (r, M1) → M.2 5 ≤ M1.2 5 ∧ M.2 6 ≤ M1.2 6) (hst : (st.map fun v => v.category).sum ≤ 8) (hdg : decode cc pc = .ok (.invokestatic 65, 3)) (k : ∀ r M1, U X G Z cc ret Q nL (pc + 3) lv (.int r :: st) M1 (kf r M1)) : U X G Z cc ret Q nL pc lv (.int u5 :: .ref (G.2 + u4) :: .ref (G.2 + u3) :: .ref (G.2 + u2) :: .ref (G.2 + u1) :: .ref (G.2 + 0) :: st) M (bd oc kf) := U_callSi (av := [.ref (G.2 + 0), .ref (G.2 + u1), .ref (G.2 + u2), .ref (G.2 + u3), .ref (G.2 + u4), .int u5]) (n := 6) hM hmo (List.forall_mem_cons.mpr ⟨wmL_65, List.forall_mem_cons.mpr ⟨wsL_reads, List.forall_mem_cons.mpr ⟨w0L, fun _ h => absurd h List.not_mem_nil⟩⟩⟩) (by decide +kernel) wcL_reads rfl hh (by decide) hst hdg k
theorem kL_69 {u0 : Int32} {u1 : Int32} {h2 : Nat} {oc : Option (Int32 × Mem)} {kf : Int32 → Mem → Option (ρ × Mem)} (hh : h2 < Z.1) (hM : ∀ l r M1, oc = some (r, M1) → MC l G yX6_setCell cX6_setCell 4 (some .int) h2 (.ref (G.2 + 0) :: [.int u0, .int u1]) M (vI r) M1) (hst : (st.map fun v => v.category).sum ≤ 8) (hdg : decode cc pc = .ok (.invokevirtual 69, 3)) (k : ∀ r M1, U X G Z cc ret Q nL (pc + 3) lv (.int r :: st) M1 (kf r M1)) : U X G Z cc ret Q nL pc lv (.int u1 :: .int u0 :: .ref (G.2 + 0) :: st) M (bk M oc kf) := U_callC (av := [.int u0, .int u1]) (n := 2) hM (List.forall_mem_cons.mpr ⟨wmL_69, List.forall_mem_cons.mpr ⟨wiX6_setCell, List.forall_mem_cons.mpr ⟨wvX6_setCell, List.forall_mem_cons.mpr ⟨w0X6, fun _ h => absurd h List.not_mem_nil⟩⟩⟩⟩) (by decide +kernel) wcX6_setCell (shN6 s0) rfl hh (by decide) hst hdg k
theorem kL_72 {u0 : Int32} {h2 : Nat} {oc : Option (Int32 × Mem)} {kf : Int32 → Mem → Option (ρ × Mem)} (hh : h2 < Z.1) (hM : ∀ l r M1, oc = some (r, M1) → MC l G yX6_setPlaces cX6_setPlaces 3 (some .int) h2 (.ref (G.2 + 0) :: [.int u0]) M (vI r) M1) (hst : (st.map fun v => v.category).sum ≤ 8) (hdg : decode cc pc = .ok (.invokevirtual 72, 3)) (k : ∀ r M1, U X G Z cc ret Q nL (pc + 3) lv (.int r :: st) M1 (kf r M1)) : U X G Z cc ret Q nL pc lv (.int u0 :: .ref (G.2 + 0) :: st) M (bk M oc kf) := U_callC (av := [.int u0]) (n := 1) hM (List.forall_mem_cons.mpr ⟨wmL_72, List.forall_mem_cons.mpr ⟨wiX6_setPlaces, List.forall_mem_cons.mpr ⟨wvX6_setPlaces, List.forall_mem_cons.mpr ⟨w0X6, fun _ h => absurd h List.not_mem_nil⟩⟩⟩⟩) (by decide +kernel) wcX6_setPlaces (shN6 s0) rfl hh (by decide) hst hdg k
theorem kL_75 {u0 : Int32} {u1 : Int32} {h2 : Nat} {oc : Option (Int32 × Mem)} {kf : Int32 → Mem → Option (ρ × Mem)} (hh : h2 < Z.1) (hM : ∀ l r M1, oc = some (r, M1) → MC l G yX6_turn cX6_turn 4 (some .int) h2 (.ref (G.2 + 0) :: [.int u0, .int u1]) M (vI r) M1) (hst : (st.map fun v => v.category).sum ≤ 8) (hdg : decode cc pc = .ok (.invokevirtual 75, 3)) (k : ∀ r M1, U X G Z cc ret Q nL (pc + 3) lv (.int r :: st) M1 (kf r M1)) : U X G Z cc ret Q nL pc lv (.int u1 :: .int u0 :: .ref (G.2 + 0) :: st) M (bk M oc kf) := U_callC (av := [.int u0, .int u1]) (n := 2) hM (List.forall_mem_cons.mpr ⟨wmL_75, List.forall_mem_cons.mpr ⟨wiX6_turn, List.forall_mem_cons.mpr ⟨wvX6_turn, List.forall_mem_cons.mpr ⟨w0X6, fun _ h => absurd h List.not_mem_nil⟩⟩⟩⟩) (by decide +kernel) wcX6_turn (shN6 s0) rfl hh (by decide) hst hdg k
theorem kL_80 {u0 : Nat} {u1 : Int32} {u2 : Int32} {h2 : Nat} {oc : Option (Int32 × Mem)} {kf : Int32 → Mem → Option (ρ × Mem)} (hh : h2 < Z.1) (hM : ∀ l r M1, oc = some (r, M1) → MCL l G yL_part cL_part 5 (some .int) h2 [.ref (G.2 + u0), .int u1, .int u2] M (vI r) M1) (hmo : ∀ r M1, oc = some (r, M1) → M.2 5 ≤ M1.2 5 ∧ M.2 6 ≤ M1.2 6) (hst : (st.map fun v => v.category).sum ≤ 8) (hdg : decode cc pc = .ok (.invokestatic 80, 3)) (k : ∀ r M1, U X G Z cc ret Q nL (pc + 3) lv (.int r :: st) M1 (kf r M1)) : U X G Z cc ret Q nL pc lv (.int u2 :: .int u1 :: .ref (G.2 + u0) :: st) M (bd oc kf) := U_callSi (av := [.ref (G.2 + u0), .int u1, .int u2]) (n := 3) hM hmo (List.forall_mem_cons.mpr ⟨wmL_80, List.forall_mem_cons.mpr ⟨wsL_part, List.forall_mem_cons.mpr ⟨w0L, fun _ h => absurd h List.not_mem_nil⟩⟩⟩) (by decide +kernel) wcL_part rfl hh (by decide) hst hdg k
theorem kL_84 {u0 : Int32} {u1 : Int32} {h2 : Nat} {oc : Option (Int32 × Mem)} {kf : Int32 → Mem → Option (ρ × Mem)} (hh : h2 < Z.1) (hM : ∀ l r M1, oc = some (r, M1) → MC l G yX6_formula cX6_formula 4 (some .int) h2 (.ref (G.2 + 0) :: [.int u0, .int u1]) M (vI r) M1) (hst : (st.map fun v => v.category).sum ≤ 8) (hdg : decode cc pc = .ok (.invokevirtual 84, 3)) (k : ∀ r M1, U X G Z cc ret Q nL (pc + 3) lv (.int r :: st) M1 (kf r M1)) : U X G Z cc ret Q nL pc lv (.int u1 :: .int u0 :: .ref (G.2 + 0) :: st) M (bk M oc kf) := U_callC (av := [.int u0, .int u1]) (n := 2) hM (List.forall_mem_cons.mpr ⟨wmL_84, List.forall_mem_cons.mpr ⟨wiX6_formula, List.forall_mem_cons.mpr ⟨wvX6_formula, List.forall_mem_cons.mpr ⟨w0X6, fun _ h => absurd h List.not_mem_nil⟩⟩⟩⟩) (by decide +kernel) wcX6_formula (shN6 s0) rfl hh (by decide) hst hdg k
theorem kL_87 {u0 : Int32} {u1 : Int32} {u2 : Int32} {h2 : Nat} {oc : Option (Int32 × Mem)} {kf : Int32 → Mem → Option (ρ × Mem)} (hh : h2 < Z.1) (hM : ∀ l r M1, oc = some (r, M1) → MC l G yX6_node cX6_node 6 (some .int) h2 (.ref (G.2 + 0) :: [.int u0, .int u1, .int u2]) M (vI r) M1) (hst : (st.map fun v => v.category).sum ≤ 8) (hdg : decode cc pc = .ok (.invokevirtual 87, 3)) (k : ∀ r M1, U X G Z cc ret Q nL (pc + 3) lv (.int r :: st) M1 (kf r M1)) : U X G Z cc ret Q nL pc lv (.int u2 :: .int u1 :: .int u0 :: .ref (G.2 + 0) :: st) M (bk M oc kf) := U_callC (av := [.int u0, .int u1, .int u2]) (n := 3) hM (List.forall_mem_cons.mpr ⟨wmL_87, List.forall_mem_cons.mpr ⟨wiX6_node, List.forall_mem_cons.mpr ⟨wvX6_node, List.forall_mem_cons.mpr ⟨w0X6, fun _ h => absurd h List.not_mem_nil⟩⟩⟩⟩) (by decide +kernel) wcX6_node (shN6 s0) rfl hh (by decide) hst hdg k
theorem kL_91 {u0 : Int32} {h2 : Nat} {oc : Option (Int32 × Mem)} {kf : Int32 → Mem → Option (ρ × Mem)} (hh : h2 < Z.1) (hM : ∀ l r M1, oc = some (r, M1) → MC l G yX6_proved cX6_proved 3 (some .int) h2 (.ref (G.2 + 0) :: [.int u0]) M (vI r) M1) (hst : (st.map fun v => v.category).sum ≤ 8) (hdg : decode cc pc = .ok (.invokevirtual 91, 3)) (k : ∀ r M1, U X G Z cc ret Q nL (pc + 3) lv (.int r :: st) M1 (kf r M1)) : U X G Z cc ret Q nL pc lv (.int u0 :: .ref (G.2 + 0) :: st) M (bk M oc kf) := U_callC (av := [.int u0]) (n := 1) hM (List.forall_mem_cons.mpr ⟨wmL_91, List.forall_mem_cons.mpr ⟨wiX6_proved, List.forall_mem_cons.mpr ⟨wvX6_proved, List.forall_mem_cons.mpr ⟨w0X6, fun _ h => absurd h List.not_mem_nil⟩⟩⟩⟩) (by decide +kernel) wcX6_proved (shN6 s0) rfl hh (by decide) hst hdg k
theorem kL_94 {u0 : Nat} {u1 : Nat} {u2 : Nat} {u3 : Nat} {u4 : Nat} {u5 : Nat} {h2 : Nat} {oc : Option (Unit × Mem)} {kf : Unit → Mem → Option (ρ × Mem)} (hh : h2 < Z.1) (hM : ∀ l r M1, oc = some (r, M1) → MCL l G yL_worths cL_worths 12 none h2 [.ref (G.2 + u0), .ref (G.2 + u1), .ref (G.2 + u2), .ref (G.2 + u3), .ref (G.2 + u4), .ref (G.2 + u5)] M (vU r) M1) (hmo : ∀ r M1, oc = some (r, M1) → M.2 5 ≤ M1.2 5 ∧ M.2 6 ≤ M1.2 6) (hst : (st.map fun v => v.category).sum ≤ 8) (hdg : decode cc pc = .ok (.invokestatic 94, 3)) (k : ∀ r M1, U X G Z cc ret Q nL (pc + 3) lv st M1 (kf r M1)) : U X G Z cc ret Q nL pc lv (.ref (G.2 + u5) :: .ref (G.2 + u4) :: .ref (G.2 + u3) :: .ref (G.2 + u2) :: .ref (G.2 + u1) :: .ref (G.2 + u0) :: st) M (bd oc kf) := U_callSv (av := [.ref (G.2 + u0), .ref (G.2 + u1), .ref (G.2 + u2), .ref (G.2 + u3), .ref (G.2 + u4), .ref (G.2 + u5)]) (n := 6) hM hmo (List.forall_mem_cons.mpr ⟨wmL_94, List.forall_mem_cons.mpr ⟨wsL_worths, List.forall_mem_cons.mpr ⟨w0L, fun _ h => absurd h List.not_mem_nil⟩⟩⟩) (by decide +kernel) wcL_worths rfl hh (by decide) hst hdg k
theorem kL_98 {u1 : Nat} {u2 : Nat} {u3 : Nat} {u4 : Nat} {u5 : Nat} {u6 : Nat} {u7 : Int32} {h2 : Nat} {oc : Option (Int32 × Mem)} {kf : Int32 → Mem → Option (ρ × Mem)} (hh : h2 < Z.1) (hM : ∀ l r M1, oc = some (r, M1) → MCL l G yL_isFormula cL_isFormula 17 (some .boolean) h2 [.ref (G.2 + 0), .ref (G.2 + u1), .ref (G.2 + u2), .ref (G.2 + u3), .ref (G.2 + u4), .ref (G.2 + u5), .ref (G.2 + u6), .int u7] M (vI r) M1) (hmo : ∀ r M1, oc = some (r, M1) → M.2 5 ≤ M1.2 5 ∧ M.2 6 ≤ M1.2 6) (hst : (st.map fun v => v.category).sum ≤ 8) (hdg : decode cc pc = .ok (.invokestatic 98, 3)) (k : ∀ r M1, U X G Z cc ret Q nL (pc + 3) lv (.int r :: st) M1 (kf r M1)) : U X G Z cc ret Q nL pc lv (.int u7 :: .ref (G.2 + u6) :: .ref (G.2 + u5) :: .ref (G.2 + u4) :: .ref (G.2 + u3) :: .ref (G.2 + u2) :: .ref (G.2 + u1) :: .ref (G.2 + 0) :: st) M (bd oc kf) := U_callSi (av := [.ref (G.2 + 0), .ref (G.2 + u1), .ref (G.2 + u2), .ref (G.2 + u3), .ref (G.2 + u4), .ref (G.2 + u5), .ref (G.2 + u6), .int u7]) (n := 8) hM hmo (List.forall_mem_cons.mpr ⟨wmL_98, List.forall_mem_cons.mpr ⟨wsL_isFormula, List.forall_mem_cons.mpr ⟨w0L, fun _ h => absurd h List.not_mem_nil⟩⟩⟩) (by decide +kernel) wcL_isFormula rfl hh (by decide) hst hdg k
theorem kL_105 {u1 : Nat} {u2 : Nat} {u3 : Nat} {u4 : Nat} {u5 : Nat} {h2 : Nat} {oc : Option (Int32 × Mem)} {kf : Int32 → Mem → Option (ρ × Mem)} (hh : h2 < Z.1) (hM : ∀ l r M1, oc = some (r, M1) → MCL l G yL_isSo cL_isSo 19 (some .boolean) h2 [.ref (G.2 + 0), .ref (G.2 + u1), .ref (G.2 + u2), .ref (G.2 + u3), .ref (G.2 + u4), .ref (G.2 + u5)] M (vI r) M1) (hmo : ∀ r M1, oc = some (r, M1) → M.2 5 ≤ M1.2 5 ∧ M.2 6 ≤ M1.2 6) (hst : (st.map fun v => v.category).sum ≤ 8) (hdg : decode cc pc = .ok (.invokestatic 105, 3)) (k : ∀ r M1, U X G Z cc ret Q nL (pc + 3) lv (.int r :: st) M1 (kf r M1)) : U X G Z cc ret Q nL pc lv (.ref (G.2 + u5) :: .ref (G.2 + u4) :: .ref (G.2 + u3) :: .ref (G.2 + u2) :: .ref (G.2 + u1) :: .ref (G.2 + 0) :: st) M (bd oc kf) := U_callSi (av := [.ref (G.2 + 0), .ref (G.2 + u1), .ref (G.2 + u2), .ref (G.2 + u3), .ref (G.2 + u4), .ref (G.2 + u5)]) (n := 6) hM hmo (List.forall_mem_cons.mpr ⟨wmL_105, List.forall_mem_cons.mpr ⟨wsL_isSo, List.forall_mem_cons.mpr ⟨w0L, fun _ h => absurd h List.not_mem_nil⟩⟩⟩) (by decide +kernel) wcL_isSo rfl hh (by decide) hst hdg k
theorem kL_112 {u1 : Nat} {u2 : Nat} {u3 : Nat} {u4 : Nat} {u5 : Nat} {u6 : Int32} {h2 : Nat} {oc : Option (Int32 × Mem)} {kf : Int32 → Mem → Option (ρ × Mem)} (hh : h2 < Z.1) (hM : ∀ l r M1, oc = some (r, M1) → MCL l G yL_acts cL_acts 18 (some .boolean) h2 [.ref (G.2 + 0), .ref (G.2 + u1), .ref (G.2 + u2), .ref (G.2 + u3), .ref (G.2 + u4), .ref (G.2 + u5), .int u6] M (vI r) M1) (hmo : ∀ r M1, oc = some (r, M1) → M.2 5 ≤ M1.2 5 ∧ M.2 6 ≤ M1.2 6) (hst : (st.map fun v => v.category).sum ≤ 8) (hdg : decode cc pc = .ok (.invokestatic 112, 3)) (k : ∀ r M1, U X G Z cc ret Q nL (pc + 3) lv (.int r :: st) M1 (kf r M1)) : U X G Z cc ret Q nL pc lv (.int u6 :: .ref (G.2 + u5) :: .ref (G.2 + u4) :: .ref (G.2 + u3) :: .ref (G.2 + u2) :: .ref (G.2 + u1) :: .ref (G.2 + 0) :: st) M (bd oc kf) := U_callSi (av := [.ref (G.2 + 0), .ref (G.2 + u1), .ref (G.2 + u2), .ref (G.2 + u3), .ref (G.2 + u4), .ref (G.2 + u5), .int u6]) (n := 7) hM hmo (List.forall_mem_cons.mpr ⟨wmL_112, List.forall_mem_cons.mpr ⟨wsL_acts, List.forall_mem_cons.mpr ⟨w0L, fun _ h => absurd h List.not_mem_nil⟩⟩⟩) (by decide +kernel) wcL_acts rfl hh (by decide) hst hdg k
end SL
end
