section
-- ===== PART A: goes FIRST, ahead of the names: the tables' words, and 'selects' of the private methods out of them =====
/-- a private method of a class that the tables say can be made, by its rows of tables_1 -/
def lw_okq (q : MethodName × Nat) : Prop := (q.1.cls ≠ "java/lang/invoke/MethodHandle" ∧ q.1.cls ≠ "java/lang/invoke/VarHandle") ∧ Cond.instantiable q.1.cls q.2 ∈ tables_1 ∧ Cond.privateMethod q.1 ∈ tables_1 ∧ Cond.instanceMethod q.1 ∈ tables_1
theorem lw_p0 : lw_okq (⟨"LeastPlaces$Reader", "take", "(I)Z"⟩, 4) := ⟨⟨by decide +kernel, by decide +kernel⟩, List.mem_of_getElem? (i := 20) (by decide +kernel), List.mem_of_getElem? (i := 223) (by decide +kernel), List.mem_of_getElem? (i := 224) (by decide +kernel)⟩
theorem lw_p1 : lw_okq (⟨"LeastPlaces$Reader", "readSheet", "()Z"⟩, 4) := ⟨⟨by decide +kernel, by decide +kernel⟩, List.mem_of_getElem? (i := 20) (by decide +kernel), List.mem_of_getElem? (i := 236) (by decide +kernel), List.mem_of_getElem? (i := 237) (by decide +kernel)⟩
theorem lw_p2 : lw_okq (⟨"LeastPlaces$Reader", "pass", "(I)Z"⟩, 4) := ⟨⟨by decide +kernel, by decide +kernel⟩, List.mem_of_getElem? (i := 20) (by decide +kernel), List.mem_of_getElem? (i := 240) (by decide +kernel), List.mem_of_getElem? (i := 241) (by decide +kernel)⟩
theorem lw_p3 : lw_okq (⟨"LeastPlaces$Reader", "sign", "()I"⟩, 4) := ⟨⟨by decide +kernel, by decide +kernel⟩, List.mem_of_getElem? (i := 20) (by decide +kernel), List.mem_of_getElem? (i := 244) (by decide +kernel), List.mem_of_getElem? (i := 245) (by decide +kernel)⟩
theorem lw_p4 : lw_okq (⟨"LeastPlaces$Reader", "readSum", "(LLeastPlaces$Form;II)Z"⟩, 4) := ⟨⟨by decide +kernel, by decide +kernel⟩, List.mem_of_getElem? (i := 20) (by decide +kernel), List.mem_of_getElem? (i := 248) (by decide +kernel), List.mem_of_getElem? (i := 249) (by decide +kernel)⟩
theorem lw_p5 : lw_okq (⟨"LeastPlaces$Reader", "readProduct", "(LLeastPlaces$Form;II)Z"⟩, 4) := ⟨⟨by decide +kernel, by decide +kernel⟩, List.mem_of_getElem? (i := 20) (by decide +kernel), List.mem_of_getElem? (i := 252) (by decide +kernel), List.mem_of_getElem? (i := 253) (by decide +kernel)⟩
theorem lw_p6 : lw_okq (⟨"LeastPlaces$Reader", "readFactor", "(LLeastPlaces$Form;II)Z"⟩, 4) := ⟨⟨by decide +kernel, by decide +kernel⟩, List.mem_of_getElem? (i := 20) (by decide +kernel), List.mem_of_getElem? (i := 256) (by decide +kernel), List.mem_of_getElem? (i := 257) (by decide +kernel)⟩
theorem lw_p7 : lw_okq (⟨"LeastPlaces$Reader", "readNested", "(LLeastPlaces$Form;II)Z"⟩, 4) := ⟨⟨by decide +kernel, by decide +kernel⟩, List.mem_of_getElem? (i := 20) (by decide +kernel), List.mem_of_getElem? (i := 260) (by decide +kernel), List.mem_of_getElem? (i := 261) (by decide +kernel)⟩
theorem lw_p8 : lw_okq (⟨"LeastPlaces$Form", "isFull", "()Z"⟩, 3) := ⟨⟨by decide +kernel, by decide +kernel⟩, List.mem_of_getElem? (i := 33) (by decide +kernel), List.mem_of_getElem? (i := 264) (by decide +kernel), List.mem_of_getElem? (i := 265) (by decide +kernel)⟩
theorem lw_p9 : lw_okq (⟨"LeastPlaces$Form", "add", "(II)Z"⟩, 3) := ⟨⟨by decide +kernel, by decide +kernel⟩, List.mem_of_getElem? (i := 33) (by decide +kernel), List.mem_of_getElem? (i := 268) (by decide +kernel), List.mem_of_getElem? (i := 269) (by decide +kernel)⟩
theorem lw_p10 : lw_okq (⟨"LeastPlaces$Reader", "readLeaf", "(LLeastPlaces$Form;I)Z"⟩, 4) := ⟨⟨by decide +kernel, by decide +kernel⟩, List.mem_of_getElem? (i := 20) (by decide +kernel), List.mem_of_getElem? (i := 273) (by decide +kernel), List.mem_of_getElem? (i := 274) (by decide +kernel)⟩
theorem lw_p11 : lw_okq (⟨"LeastPlaces$Reader", "readNumber", "()I"⟩, 4) := ⟨⟨by decide +kernel, by decide +kernel⟩, List.mem_of_getElem? (i := 20) (by decide +kernel), List.mem_of_getElem? (i := 280) (by decide +kernel), List.mem_of_getElem? (i := 281) (by decide +kernel)⟩
theorem lw_p12 : lw_okq (⟨"LeastPlaces$Reader", "readOperation", "(LLeastPlaces$Form;II)Z"⟩, 4) := ⟨⟨by decide +kernel, by decide +kernel⟩, List.mem_of_getElem? (i := 20) (by decide +kernel), List.mem_of_getElem? (i := 284) (by decide +kernel), List.mem_of_getElem? (i := 285) (by decide +kernel)⟩
theorem lw_p13 : lw_okq (⟨"LeastPlaces$Form", "insert", "(III)Z"⟩, 3) := ⟨⟨by decide +kernel, by decide +kernel⟩, List.mem_of_getElem? (i := 33) (by decide +kernel), List.mem_of_getElem? (i := 288) (by decide +kernel), List.mem_of_getElem? (i := 289) (by decide +kernel)⟩
theorem lw_p14 : lw_okq (⟨"LeastPlaces", "recordState", "()V"⟩, 7) := ⟨⟨by decide +kernel, by decide +kernel⟩, List.mem_of_getElem? (i := 12) (by decide +kernel), List.mem_of_getElem? (i := 295) (by decide +kernel), List.mem_of_getElem? (i := 296) (by decide +kernel)⟩
theorem lw_p15 : lw_okq (⟨"LeastPlaces", "dropOldestState", "()V"⟩, 7) := ⟨⟨by decide +kernel, by decide +kernel⟩, List.mem_of_getElem? (i := 12) (by decide +kernel), List.mem_of_getElem? (i := 299) (by decide +kernel), List.mem_of_getElem? (i := 300) (by decide +kernel)⟩
def lw_privs_1 : List (MethodName × Nat) := [(⟨"LeastPlaces$Reader", "take", "(I)Z"⟩, 4), (⟨"LeastPlaces$Reader", "readSheet", "()Z"⟩, 4), (⟨"LeastPlaces$Reader", "pass", "(I)Z"⟩, 4), (⟨"LeastPlaces$Reader", "sign", "()I"⟩, 4), (⟨"LeastPlaces$Reader", "readSum", "(LLeastPlaces$Form;II)Z"⟩, 4), (⟨"LeastPlaces$Reader", "readProduct", "(LLeastPlaces$Form;II)Z"⟩, 4), (⟨"LeastPlaces$Reader", "readFactor", "(LLeastPlaces$Form;II)Z"⟩, 4), (⟨"LeastPlaces$Reader", "readNested", "(LLeastPlaces$Form;II)Z"⟩, 4), (⟨"LeastPlaces$Form", "isFull", "()Z"⟩, 3), (⟨"LeastPlaces$Form", "add", "(II)Z"⟩, 3), (⟨"LeastPlaces$Reader", "readLeaf", "(LLeastPlaces$Form;I)Z"⟩, 4), (⟨"LeastPlaces$Reader", "readNumber", "()I"⟩, 4), (⟨"LeastPlaces$Reader", "readOperation", "(LLeastPlaces$Form;II)Z"⟩, 4), (⟨"LeastPlaces$Form", "insert", "(III)Z"⟩, 3), (⟨"LeastPlaces", "recordState", "()V"⟩, 7), (⟨"LeastPlaces", "dropOldestState", "()V"⟩, 7)]
theorem lw_r1 : ∀ q ∈ lw_privs_1, lw_okq q := List.forall_mem_cons.mpr ⟨lw_p0, List.forall_mem_cons.mpr ⟨lw_p1, List.forall_mem_cons.mpr ⟨lw_p2, List.forall_mem_cons.mpr ⟨lw_p3, List.forall_mem_cons.mpr ⟨lw_p4, List.forall_mem_cons.mpr ⟨lw_p5, List.forall_mem_cons.mpr ⟨lw_p6, List.forall_mem_cons.mpr ⟨lw_p7, List.forall_mem_cons.mpr ⟨lw_p8, List.forall_mem_cons.mpr ⟨lw_p9, List.forall_mem_cons.mpr ⟨lw_p10, List.forall_mem_cons.mpr ⟨lw_p11, List.forall_mem_cons.mpr ⟨lw_p12, List.forall_mem_cons.mpr ⟨lw_p13, List.forall_mem_cons.mpr ⟨lw_p14, List.forall_mem_cons.mpr ⟨lw_p15, fun _ h => absurd h List.not_mem_nil⟩⟩⟩⟩⟩⟩⟩⟩⟩⟩⟩⟩⟩⟩⟩⟩
theorem lw_p16 : lw_okq (⟨"LeastPlaces$Sheet", "copyState", "(LLeastPlaces$Sheet;)V"⟩, 4) := ⟨⟨by decide +kernel, by decide +kernel⟩, List.mem_of_getElem? (i := 26) (by decide +kernel), List.mem_of_getElem? (i := 303) (by decide +kernel), List.mem_of_getElem? (i := 304) (by decide +kernel)⟩
theorem lw_p17 : lw_okq (⟨"LeastPlaces$Sheet", "copyFormulas", "(LLeastPlaces$Sheet;)V"⟩, 4) := ⟨⟨by decide +kernel, by decide +kernel⟩, List.mem_of_getElem? (i := 26) (by decide +kernel), List.mem_of_getElem? (i := 307) (by decide +kernel), List.mem_of_getElem? (i := 308) (by decide +kernel)⟩
theorem lw_p18 : lw_okq (⟨"LeastPlaces$Form", "copy", "(LLeastPlaces$Form;)V"⟩, 3) := ⟨⟨by decide +kernel, by decide +kernel⟩, List.mem_of_getElem? (i := 33) (by decide +kernel), List.mem_of_getElem? (i := 311) (by decide +kernel), List.mem_of_getElem? (i := 312) (by decide +kernel)⟩
theorem lw_p19 : lw_okq (⟨"LeastPlaces$Form", "addAll", "(LLeastPlaces$Form;)V"⟩, 3) := ⟨⟨by decide +kernel, by decide +kernel⟩, List.mem_of_getElem? (i := 33) (by decide +kernel), List.mem_of_getElem? (i := 315) (by decide +kernel), List.mem_of_getElem? (i := 316) (by decide +kernel)⟩
theorem lw_p20 : lw_okq (⟨"LeastPlaces$Form", "kindOf", "(I)I"⟩, 3) := ⟨⟨by decide +kernel, by decide +kernel⟩, List.mem_of_getElem? (i := 33) (by decide +kernel), List.mem_of_getElem? (i := 319) (by decide +kernel), List.mem_of_getElem? (i := 320) (by decide +kernel)⟩
theorem lw_p21 : lw_okq (⟨"LeastPlaces$Form", "has", "(I)Z"⟩, 3) := ⟨⟨by decide +kernel, by decide +kernel⟩, List.mem_of_getElem? (i := 33) (by decide +kernel), List.mem_of_getElem? (i := 323) (by decide +kernel), List.mem_of_getElem? (i := 324) (by decide +kernel)⟩
theorem lw_p22 : lw_okq (⟨"LeastPlaces$Form", "contentOf", "(I)I"⟩, 3) := ⟨⟨by decide +kernel, by decide +kernel⟩, List.mem_of_getElem? (i := 33) (by decide +kernel), List.mem_of_getElem? (i := 327) (by decide +kernel), List.mem_of_getElem? (i := 328) (by decide +kernel)⟩
theorem lw_p23 : lw_okq (⟨"LeastPlaces", "workAnew", "()V"⟩, 7) := ⟨⟨by decide +kernel, by decide +kernel⟩, List.mem_of_getElem? (i := 12) (by decide +kernel), List.mem_of_getElem? (i := 334) (by decide +kernel), List.mem_of_getElem? (i := 335) (by decide +kernel)⟩
theorem lw_p24 : lw_okq (⟨"LeastPlaces$Expanded", "make", "(LLeastPlaces$Form;Z[LLeastPlaces$Expanded;)V"⟩, 7) := ⟨⟨by decide +kernel, by decide +kernel⟩, List.mem_of_getElem? (i := 160) (by decide +kernel), List.mem_of_getElem? (i := 338) (by decide +kernel), List.mem_of_getElem? (i := 339) (by decide +kernel)⟩
theorem lw_p25 : lw_okq (⟨"LeastPlaces$Form", "hasKind", "(I)Z"⟩, 3) := ⟨⟨by decide +kernel, by decide +kernel⟩, List.mem_of_getElem? (i := 33) (by decide +kernel), List.mem_of_getElem? (i := 346) (by decide +kernel), List.mem_of_getElem? (i := 347) (by decide +kernel)⟩
theorem lw_p26 : lw_okq (⟨"LeastPlaces$Expanded", "measure", "([I[LLeastPlaces$Expanded;)V"⟩, 7) := ⟨⟨by decide +kernel, by decide +kernel⟩, List.mem_of_getElem? (i := 160) (by decide +kernel), List.mem_of_getElem? (i := 350) (by decide +kernel), List.mem_of_getElem? (i := 351) (by decide +kernel)⟩
theorem lw_p27 : lw_okq (⟨"LeastPlaces$Expanded", "put", "(IIII)V"⟩, 7) := ⟨⟨by decide +kernel, by decide +kernel⟩, List.mem_of_getElem? (i := 160) (by decide +kernel), List.mem_of_getElem? (i := 360) (by decide +kernel), List.mem_of_getElem? (i := 361) (by decide +kernel)⟩
theorem lw_p28 : lw_okq (⟨"LeastPlaces$Expanded", "leafValue", "(I[I[LLeastPlaces$Expanded;)I"⟩, 7) := ⟨⟨by decide +kernel, by decide +kernel⟩, List.mem_of_getElem? (i := 160) (by decide +kernel), List.mem_of_getElem? (i := 364) (by decide +kernel), List.mem_of_getElem? (i := 365) (by decide +kernel)⟩
theorem lw_p29 : lw_okq (⟨"LeastPlaces$Expanded", "valueOf", "(I)I"⟩, 7) := ⟨⟨by decide +kernel, by decide +kernel⟩, List.mem_of_getElem? (i := 160) (by decide +kernel), List.mem_of_getElem? (i := 371) (by decide +kernel), List.mem_of_getElem? (i := 372) (by decide +kernel)⟩
theorem lw_p30 : lw_okq (⟨"LeastPlaces$Expanded", "sizeOf", "(I)I"⟩, 7) := ⟨⟨by decide +kernel, by decide +kernel⟩, List.mem_of_getElem? (i := 160) (by decide +kernel), List.mem_of_getElem? (i := 375) (by decide +kernel), List.mem_of_getElem? (i := 376) (by decide +kernel)⟩
theorem lw_p31 : lw_okq (⟨"LeastPlaces$Expanded", "needOf", "(I)I"⟩, 7) := ⟨⟨by decide +kernel, by decide +kernel⟩, List.mem_of_getElem? (i := 160) (by decide +kernel), List.mem_of_getElem? (i := 379) (by decide +kernel), List.mem_of_getElem? (i := 380) (by decide +kernel)⟩
def lw_privs_2 : List (MethodName × Nat) := [(⟨"LeastPlaces$Sheet", "copyState", "(LLeastPlaces$Sheet;)V"⟩, 4), (⟨"LeastPlaces$Sheet", "copyFormulas", "(LLeastPlaces$Sheet;)V"⟩, 4), (⟨"LeastPlaces$Form", "copy", "(LLeastPlaces$Form;)V"⟩, 3), (⟨"LeastPlaces$Form", "addAll", "(LLeastPlaces$Form;)V"⟩, 3), (⟨"LeastPlaces$Form", "kindOf", "(I)I"⟩, 3), (⟨"LeastPlaces$Form", "has", "(I)Z"⟩, 3), (⟨"LeastPlaces$Form", "contentOf", "(I)I"⟩, 3), (⟨"LeastPlaces", "workAnew", "()V"⟩, 7), (⟨"LeastPlaces$Expanded", "make", "(LLeastPlaces$Form;Z[LLeastPlaces$Expanded;)V"⟩, 7), (⟨"LeastPlaces$Form", "hasKind", "(I)Z"⟩, 3), (⟨"LeastPlaces$Expanded", "measure", "([I[LLeastPlaces$Expanded;)V"⟩, 7), (⟨"LeastPlaces$Expanded", "put", "(IIII)V"⟩, 7), (⟨"LeastPlaces$Expanded", "leafValue", "(I[I[LLeastPlaces$Expanded;)I"⟩, 7), (⟨"LeastPlaces$Expanded", "valueOf", "(I)I"⟩, 7), (⟨"LeastPlaces$Expanded", "sizeOf", "(I)I"⟩, 7), (⟨"LeastPlaces$Expanded", "needOf", "(I)I"⟩, 7)]
theorem lw_r2 : ∀ q ∈ lw_privs_2, lw_okq q := List.forall_mem_cons.mpr ⟨lw_p16, List.forall_mem_cons.mpr ⟨lw_p17, List.forall_mem_cons.mpr ⟨lw_p18, List.forall_mem_cons.mpr ⟨lw_p19, List.forall_mem_cons.mpr ⟨lw_p20, List.forall_mem_cons.mpr ⟨lw_p21, List.forall_mem_cons.mpr ⟨lw_p22, List.forall_mem_cons.mpr ⟨lw_p23, List.forall_mem_cons.mpr ⟨lw_p24, List.forall_mem_cons.mpr ⟨lw_p25, List.forall_mem_cons.mpr ⟨lw_p26, List.forall_mem_cons.mpr ⟨lw_p27, List.forall_mem_cons.mpr ⟨lw_p28, List.forall_mem_cons.mpr ⟨lw_p29, List.forall_mem_cons.mpr ⟨lw_p30, List.forall_mem_cons.mpr ⟨lw_p31, fun _ h => absurd h List.not_mem_nil⟩⟩⟩⟩⟩⟩⟩⟩⟩⟩⟩⟩⟩⟩⟩⟩
theorem lw_p32 : lw_okq (⟨"LeastPlaces$Expanded", "depthOf", "(I)I"⟩, 7) := ⟨⟨by decide +kernel, by decide +kernel⟩, List.mem_of_getElem? (i := 160) (by decide +kernel), List.mem_of_getElem? (i := 383) (by decide +kernel), List.mem_of_getElem? (i := 384) (by decide +kernel)⟩
theorem lw_p33 : lw_okq (⟨"LeastPlaces$Expanded", "rightOf", "(I)I"⟩, 7) := ⟨⟨by decide +kernel, by decide +kernel⟩, List.mem_of_getElem? (i := 160) (by decide +kernel), List.mem_of_getElem? (i := 387) (by decide +kernel), List.mem_of_getElem? (i := 388) (by decide +kernel)⟩
theorem lw_p34 : lw_okq (⟨"LeastPlaces", "isFormula", "(I)Z"⟩, 7) := ⟨⟨by decide +kernel, by decide +kernel⟩, List.mem_of_getElem? (i := 12) (by decide +kernel), List.mem_of_getElem? (i := 410) (by decide +kernel), List.mem_of_getElem? (i := 411) (by decide +kernel)⟩
theorem lw_p35 : lw_okq (⟨"LeastPlaces$Form", "exchange", "(I)V"⟩, 3) := ⟨⟨by decide +kernel, by decide +kernel⟩, List.mem_of_getElem? (i := 33) (by decide +kernel), List.mem_of_getElem? (i := 417) (by decide +kernel), List.mem_of_getElem? (i := 418) (by decide +kernel)⟩
theorem lw_p36 : lw_okq (⟨"LeastPlaces$Form", "behind", "(I)I"⟩, 3) := ⟨⟨by decide +kernel, by decide +kernel⟩, List.mem_of_getElem? (i := 33) (by decide +kernel), List.mem_of_getElem? (i := 421) (by decide +kernel), List.mem_of_getElem? (i := 422) (by decide +kernel)⟩
theorem lw_p37 : lw_okq (⟨"LeastPlaces$Form", "turnAround", "(II)V"⟩, 3) := ⟨⟨by decide +kernel, by decide +kernel⟩, List.mem_of_getElem? (i := 33) (by decide +kernel), List.mem_of_getElem? (i := 426) (by decide +kernel), List.mem_of_getElem? (i := 427) (by decide +kernel)⟩
theorem lw_p38 : lw_okq (⟨"LeastPlaces", "cheapDefinitions", "()I"⟩, 7) := ⟨⟨by decide +kernel, by decide +kernel⟩, List.mem_of_getElem? (i := 12) (by decide +kernel), List.mem_of_getElem? (i := 453) (by decide +kernel), List.mem_of_getElem? (i := 454) (by decide +kernel)⟩
theorem lw_p39 : lw_okq (⟨"LeastPlaces", "nodesAsRead", "()I"⟩, 7) := ⟨⟨by decide +kernel, by decide +kernel⟩, List.mem_of_getElem? (i := 12) (by decide +kernel), List.mem_of_getElem? (i := 457) (by decide +kernel), List.mem_of_getElem? (i := 458) (by decide +kernel)⟩
theorem lw_p40 : lw_okq (⟨"LeastPlaces", "greatestNeed", "()I"⟩, 7) := ⟨⟨by decide +kernel, by decide +kernel⟩, List.mem_of_getElem? (i := 12) (by decide +kernel), List.mem_of_getElem? (i := 461) (by decide +kernel), List.mem_of_getElem? (i := 462) (by decide +kernel)⟩
theorem lw_p41 : lw_okq (⟨"LeastPlaces", "usesOf", "(I)I"⟩, 7) := ⟨⟨by decide +kernel, by decide +kernel⟩, List.mem_of_getElem? (i := 12) (by decide +kernel), List.mem_of_getElem? (i := 472) (by decide +kernel), List.mem_of_getElem? (i := 473) (by decide +kernel)⟩
theorem lw_p42 : lw_okq (⟨"LeastPlaces$Plan", "make", "([LLeastPlaces$Expanded;II)V"⟩, 10) := ⟨⟨by decide +kernel, by decide +kernel⟩, List.mem_of_getElem? (i := 97) (by decide +kernel), List.mem_of_getElem? (i := 493) (by decide +kernel), List.mem_of_getElem? (i := 494) (by decide +kernel)⟩
theorem lw_p43 : lw_okq (⟨"LeastPlaces$Plan", "workOut", "(LLeastPlaces$Expanded;III)V"⟩, 10) := ⟨⟨by decide +kernel, by decide +kernel⟩, List.mem_of_getElem? (i := 97) (by decide +kernel), List.mem_of_getElem? (i := 497) (by decide +kernel), List.mem_of_getElem? (i := 498) (by decide +kernel)⟩
theorem lw_p44 : lw_okq (⟨"LeastPlaces$Plan", "addStep", "(ILLeastPlaces$Expanded;III)V"⟩, 10) := ⟨⟨by decide +kernel, by decide +kernel⟩, List.mem_of_getElem? (i := 97) (by decide +kernel), List.mem_of_getElem? (i := 503) (by decide +kernel), List.mem_of_getElem? (i := 504) (by decide +kernel)⟩
theorem lw_p45 : lw_okq (⟨"LeastPlaces$Plan", "workOutParts", "(LLeastPlaces$Expanded;III)V"⟩, 10) := ⟨⟨by decide +kernel, by decide +kernel⟩, List.mem_of_getElem? (i := 97) (by decide +kernel), List.mem_of_getElem? (i := 507) (by decide +kernel), List.mem_of_getElem? (i := 508) (by decide +kernel)⟩
theorem lw_p46 : lw_okq (⟨"LeastPlaces$Plan", "has", "(I)Z"⟩, 10) := ⟨⟨by decide +kernel, by decide +kernel⟩, List.mem_of_getElem? (i := 97) (by decide +kernel), List.mem_of_getElem? (i := 517) (by decide +kernel), List.mem_of_getElem? (i := 518) (by decide +kernel)⟩
theorem lw_p47 : lw_okq (⟨"LeastPlaces", "refusalToTry", "(I)I"⟩, 7) := ⟨⟨by decide +kernel, by decide +kernel⟩, List.mem_of_getElem? (i := 12) (by decide +kernel), List.mem_of_getElem? (i := 533) (by decide +kernel), List.mem_of_getElem? (i := 534) (by decide +kernel)⟩
def lw_privs_3 : List (MethodName × Nat) := [(⟨"LeastPlaces$Expanded", "depthOf", "(I)I"⟩, 7), (⟨"LeastPlaces$Expanded", "rightOf", "(I)I"⟩, 7), (⟨"LeastPlaces", "isFormula", "(I)Z"⟩, 7), (⟨"LeastPlaces$Form", "exchange", "(I)V"⟩, 3), (⟨"LeastPlaces$Form", "behind", "(I)I"⟩, 3), (⟨"LeastPlaces$Form", "turnAround", "(II)V"⟩, 3), (⟨"LeastPlaces", "cheapDefinitions", "()I"⟩, 7), (⟨"LeastPlaces", "nodesAsRead", "()I"⟩, 7), (⟨"LeastPlaces", "greatestNeed", "()I"⟩, 7), (⟨"LeastPlaces", "usesOf", "(I)I"⟩, 7), (⟨"LeastPlaces$Plan", "make", "([LLeastPlaces$Expanded;II)V"⟩, 10), (⟨"LeastPlaces$Plan", "workOut", "(LLeastPlaces$Expanded;III)V"⟩, 10), (⟨"LeastPlaces$Plan", "addStep", "(ILLeastPlaces$Expanded;III)V"⟩, 10), (⟨"LeastPlaces$Plan", "workOutParts", "(LLeastPlaces$Expanded;III)V"⟩, 10), (⟨"LeastPlaces$Plan", "has", "(I)Z"⟩, 10), (⟨"LeastPlaces", "refusalToTry", "(I)I"⟩, 7)]
theorem lw_r3 : ∀ q ∈ lw_privs_3, lw_okq q := List.forall_mem_cons.mpr ⟨lw_p32, List.forall_mem_cons.mpr ⟨lw_p33, List.forall_mem_cons.mpr ⟨lw_p34, List.forall_mem_cons.mpr ⟨lw_p35, List.forall_mem_cons.mpr ⟨lw_p36, List.forall_mem_cons.mpr ⟨lw_p37, List.forall_mem_cons.mpr ⟨lw_p38, List.forall_mem_cons.mpr ⟨lw_p39, List.forall_mem_cons.mpr ⟨lw_p40, List.forall_mem_cons.mpr ⟨lw_p41, List.forall_mem_cons.mpr ⟨lw_p42, List.forall_mem_cons.mpr ⟨lw_p43, List.forall_mem_cons.mpr ⟨lw_p44, List.forall_mem_cons.mpr ⟨lw_p45, List.forall_mem_cons.mpr ⟨lw_p46, List.forall_mem_cons.mpr ⟨lw_p47, fun _ h => absurd h List.not_mem_nil⟩⟩⟩⟩⟩⟩⟩⟩⟩⟩⟩⟩⟩⟩⟩⟩
theorem lw_p48 : lw_okq (⟨"LeastPlaces$Expanded", "pairs", "()I"⟩, 7) := ⟨⟨by decide +kernel, by decide +kernel⟩, List.mem_of_getElem? (i := 160) (by decide +kernel), List.mem_of_getElem? (i := 537) (by decide +kernel), List.mem_of_getElem? (i := 538) (by decide +kernel)⟩
theorem lw_p49 : lw_okq (⟨"LeastPlaces$Trial", "tryOrders", "(LLeastPlaces$Expanded;)V"⟩, 3) := ⟨⟨by decide +kernel, by decide +kernel⟩, List.mem_of_getElem? (i := 143) (by decide +kernel), List.mem_of_getElem? (i := 541) (by decide +kernel), List.mem_of_getElem? (i := 542) (by decide +kernel)⟩
theorem lw_p50 : lw_okq (⟨"LeastPlaces$Trial", "waysFor", "(LLeastPlaces$Expanded;I)I"⟩, 3) := ⟨⟨by decide +kernel, by decide +kernel⟩, List.mem_of_getElem? (i := 143) (by decide +kernel), List.mem_of_getElem? (i := 547) (by decide +kernel), List.mem_of_getElem? (i := 548) (by decide +kernel)⟩
theorem lw_p51 : lw_okq (⟨"LeastPlacesModel", "reads", "()Z"⟩, 39) := ⟨⟨by decide +kernel, by decide +kernel⟩, List.mem_of_getElem? (i := 559) (by decide +kernel), List.mem_of_getElem? (i := 701) (by decide +kernel), List.mem_of_getElem? (i := 702) (by decide +kernel)⟩
theorem lw_p52 : lw_okq (⟨"LeastPlacesModel", "here", "()I"⟩, 39) := ⟨⟨by decide +kernel, by decide +kernel⟩, List.mem_of_getElem? (i := 559) (by decide +kernel), List.mem_of_getElem? (i := 705) (by decide +kernel), List.mem_of_getElem? (i := 706) (by decide +kernel)⟩
theorem lw_p53 : lw_okq (⟨"LeastPlacesModel", "formulaRead", "()Z"⟩, 39) := ⟨⟨by decide +kernel, by decide +kernel⟩, List.mem_of_getElem? (i := 559) (by decide +kernel), List.mem_of_getElem? (i := 710) (by decide +kernel), List.mem_of_getElem? (i := 711) (by decide +kernel)⟩
theorem lw_p54 : lw_okq (⟨"LeastPlacesModel", "factor", "()Z"⟩, 39) := ⟨⟨by decide +kernel, by decide +kernel⟩, List.mem_of_getElem? (i := 559) (by decide +kernel), List.mem_of_getElem? (i := 714) (by decide +kernel), List.mem_of_getElem? (i := 715) (by decide +kernel)⟩
theorem lw_p55 : lw_okq (⟨"LeastPlacesModel", "number", "()Z"⟩, 39) := ⟨⟨by decide +kernel, by decide +kernel⟩, List.mem_of_getElem? (i := 559) (by decide +kernel), List.mem_of_getElem? (i := 718) (by decide +kernel), List.mem_of_getElem? (i := 719) (by decide +kernel)⟩
theorem lw_p56 : lw_okq (⟨"LeastPlacesModel", "leaf", "(II)Z"⟩, 39) := ⟨⟨by decide +kernel, by decide +kernel⟩, List.mem_of_getElem? (i := 559) (by decide +kernel), List.mem_of_getElem? (i := 722) (by decide +kernel), List.mem_of_getElem? (i := 723) (by decide +kernel)⟩
theorem lw_p57 : lw_okq (⟨"LeastPlacesModel", "puts", "(III)V"⟩, 39) := ⟨⟨by decide +kernel, by decide +kernel⟩, List.mem_of_getElem? (i := 559) (by decide +kernel), List.mem_of_getElem? (i := 726) (by decide +kernel), List.mem_of_getElem? (i := 727) (by decide +kernel)⟩
theorem lw_p58 : lw_okq (⟨"LeastPlacesModel", "settles", "(I)V"⟩, 39) := ⟨⟨by decide +kernel, by decide +kernel⟩, List.mem_of_getElem? (i := 559) (by decide +kernel), List.mem_of_getElem? (i := 730) (by decide +kernel), List.mem_of_getElem? (i := 731) (by decide +kernel)⟩
theorem lw_p59 : lw_okq (⟨"LeastPlacesModel", "makes", "(I)V"⟩, 39) := ⟨⟨by decide +kernel, by decide +kernel⟩, List.mem_of_getElem? (i := 559) (by decide +kernel), List.mem_of_getElem? (i := 734) (by decide +kernel), List.mem_of_getElem? (i := 735) (by decide +kernel)⟩
theorem lw_p60 : lw_okq (⟨"LeastPlacesModel", "isOpen", "()Z"⟩, 39) := ⟨⟨by decide +kernel, by decide +kernel⟩, List.mem_of_getElem? (i := 559) (by decide +kernel), List.mem_of_getElem? (i := 741) (by decide +kernel), List.mem_of_getElem? (i := 742) (by decide +kernel)⟩
theorem lw_p61 : lw_okq (⟨"LeastPlacesModel", "acts", "()V"⟩, 39) := ⟨⟨by decide +kernel, by decide +kernel⟩, List.mem_of_getElem? (i := 559) (by decide +kernel), List.mem_of_getElem? (i := 745) (by decide +kernel), List.mem_of_getElem? (i := 746) (by decide +kernel)⟩
theorem lw_p62 : lw_okq (⟨"LeastPlacesModel", "isFormula", "(I)Z"⟩, 39) := ⟨⟨by decide +kernel, by decide +kernel⟩, List.mem_of_getElem? (i := 559) (by decide +kernel), List.mem_of_getElem? (i := 753) (by decide +kernel), List.mem_of_getElem? (i := 754) (by decide +kernel)⟩
theorem lw_p63 : lw_okq (⟨"LeastPlacesModel", "kindAt", "(II)I"⟩, 39) := ⟨⟨by decide +kernel, by decide +kernel⟩, List.mem_of_getElem? (i := 559) (by decide +kernel), List.mem_of_getElem? (i := 757) (by decide +kernel), List.mem_of_getElem? (i := 758) (by decide +kernel)⟩
def lw_privs_4 : List (MethodName × Nat) := [(⟨"LeastPlaces$Expanded", "pairs", "()I"⟩, 7), (⟨"LeastPlaces$Trial", "tryOrders", "(LLeastPlaces$Expanded;)V"⟩, 3), (⟨"LeastPlaces$Trial", "waysFor", "(LLeastPlaces$Expanded;I)I"⟩, 3), (⟨"LeastPlacesModel", "reads", "()Z"⟩, 39), (⟨"LeastPlacesModel", "here", "()I"⟩, 39), (⟨"LeastPlacesModel", "formulaRead", "()Z"⟩, 39), (⟨"LeastPlacesModel", "factor", "()Z"⟩, 39), (⟨"LeastPlacesModel", "number", "()Z"⟩, 39), (⟨"LeastPlacesModel", "leaf", "(II)Z"⟩, 39), (⟨"LeastPlacesModel", "puts", "(III)V"⟩, 39), (⟨"LeastPlacesModel", "settles", "(I)V"⟩, 39), (⟨"LeastPlacesModel", "makes", "(I)V"⟩, 39), (⟨"LeastPlacesModel", "isOpen", "()Z"⟩, 39), (⟨"LeastPlacesModel", "acts", "()V"⟩, 39), (⟨"LeastPlacesModel", "isFormula", "(I)Z"⟩, 39), (⟨"LeastPlacesModel", "kindAt", "(II)I"⟩, 39)]
theorem lw_r4 : ∀ q ∈ lw_privs_4, lw_okq q := List.forall_mem_cons.mpr ⟨lw_p48, List.forall_mem_cons.mpr ⟨lw_p49, List.forall_mem_cons.mpr ⟨lw_p50, List.forall_mem_cons.mpr ⟨lw_p51, List.forall_mem_cons.mpr ⟨lw_p52, List.forall_mem_cons.mpr ⟨lw_p53, List.forall_mem_cons.mpr ⟨lw_p54, List.forall_mem_cons.mpr ⟨lw_p55, List.forall_mem_cons.mpr ⟨lw_p56, List.forall_mem_cons.mpr ⟨lw_p57, List.forall_mem_cons.mpr ⟨lw_p58, List.forall_mem_cons.mpr ⟨lw_p59, List.forall_mem_cons.mpr ⟨lw_p60, List.forall_mem_cons.mpr ⟨lw_p61, List.forall_mem_cons.mpr ⟨lw_p62, List.forall_mem_cons.mpr ⟨lw_p63, fun _ h => absurd h List.not_mem_nil⟩⟩⟩⟩⟩⟩⟩⟩⟩⟩⟩⟩⟩⟩⟩⟩
theorem lw_p64 : lw_okq (⟨"LeastPlacesModel", "sizeAt", "(II)I"⟩, 39) := ⟨⟨by decide +kernel, by decide +kernel⟩, List.mem_of_getElem? (i := 559) (by decide +kernel), List.mem_of_getElem? (i := 762) (by decide +kernel), List.mem_of_getElem? (i := 763) (by decide +kernel)⟩
theorem lw_p65 : lw_okq (⟨"LeastPlacesModel", "lays", "()V"⟩, 39) := ⟨⟨by decide +kernel, by decide +kernel⟩, List.mem_of_getElem? (i := 559) (by decide +kernel), List.mem_of_getElem? (i := 766) (by decide +kernel), List.mem_of_getElem? (i := 767) (by decide +kernel)⟩
theorem lw_p66 : lw_okq (⟨"LeastPlacesModel", "expands", "(I)V"⟩, 39) := ⟨⟨by decide +kernel, by decide +kernel⟩, List.mem_of_getElem? (i := 559) (by decide +kernel), List.mem_of_getElem? (i := 770) (by decide +kernel), List.mem_of_getElem? (i := 771) (by decide +kernel)⟩
theorem lw_p67 : lw_okq (⟨"LeastPlacesModel", "copies", "(III)V"⟩, 39) := ⟨⟨by decide +kernel, by decide +kernel⟩, List.mem_of_getElem? (i := 559) (by decide +kernel), List.mem_of_getElem? (i := 774) (by decide +kernel), List.mem_of_getElem? (i := 775) (by decide +kernel)⟩
theorem lw_p68 : lw_okq (⟨"LeastPlacesModel", "tells", "(II)V"⟩, 39) := ⟨⟨by decide +kernel, by decide +kernel⟩, List.mem_of_getElem? (i := 559) (by decide +kernel), List.mem_of_getElem? (i := 778) (by decide +kernel), List.mem_of_getElem? (i := 779) (by decide +kernel)⟩
theorem lw_p69 : lw_okq (⟨"LeastPlacesModel", "joins", "(III)V"⟩, 39) := ⟨⟨by decide +kernel, by decide +kernel⟩, List.mem_of_getElem? (i := 559) (by decide +kernel), List.mem_of_getElem? (i := 782) (by decide +kernel), List.mem_of_getElem? (i := 783) (by decide +kernel)⟩
theorem lw_p70 : lw_okq (⟨"LeastPlacesModel", "cheapOnes", "()I"⟩, 39) := ⟨⟨by decide +kernel, by decide +kernel⟩, List.mem_of_getElem? (i := 559) (by decide +kernel), List.mem_of_getElem? (i := 810) (by decide +kernel), List.mem_of_getElem? (i := 811) (by decide +kernel)⟩
theorem lw_p71 : lw_okq (⟨"LeastPlacesModel", "greatestNeed", "()I"⟩, 39) := ⟨⟨by decide +kernel, by decide +kernel⟩, List.mem_of_getElem? (i := 559) (by decide +kernel), List.mem_of_getElem? (i := 814) (by decide +kernel), List.mem_of_getElem? (i := 815) (by decide +kernel)⟩
theorem lw_p72 : lw_okq (⟨"LeastPlacesModel", "uses", "(I)I"⟩, 39) := ⟨⟨by decide +kernel, by decide +kernel⟩, List.mem_of_getElem? (i := 559) (by decide +kernel), List.mem_of_getElem? (i := 822) (by decide +kernel), List.mem_of_getElem? (i := 823) (by decide +kernel)⟩
theorem lw_p73 : lw_okq (⟨"LeastPlacesModel", "plans", "(II)V"⟩, 39) := ⟨⟨by decide +kernel, by decide +kernel⟩, List.mem_of_getElem? (i := 559) (by decide +kernel), List.mem_of_getElem? (i := 838) (by decide +kernel), List.mem_of_getElem? (i := 839) (by decide +kernel)⟩
theorem lw_p74 : lw_okq (⟨"LeastPlacesModel", "pushes", "(II)V"⟩, 39) := ⟨⟨by decide +kernel, by decide +kernel⟩, List.mem_of_getElem? (i := 559) (by decide +kernel), List.mem_of_getElem? (i := 842) (by decide +kernel), List.mem_of_getElem? (i := 843) (by decide +kernel)⟩
theorem lw_p75 : lw_okq (⟨"LeastPlacesModel", "goesOn", "()V"⟩, 39) := ⟨⟨by decide +kernel, by decide +kernel⟩, List.mem_of_getElem? (i := 559) (by decide +kernel), List.mem_of_getElem? (i := 846) (by decide +kernel), List.mem_of_getElem? (i := 847) (by decide +kernel)⟩
theorem lw_p76 : lw_okq (⟨"LeastPlacesModel", "does", "(IIII)V"⟩, 39) := ⟨⟨by decide +kernel, by decide +kernel⟩, List.mem_of_getElem? (i := 559) (by decide +kernel), List.mem_of_getElem? (i := 850) (by decide +kernel), List.mem_of_getElem? (i := 851) (by decide +kernel)⟩
theorem lw_p77 : lw_okq (⟨"LeastPlacesModel", "tries", "(I)I"⟩, 39) := ⟨⟨by decide +kernel, by decide +kernel⟩, List.mem_of_getElem? (i := 559) (by decide +kernel), List.mem_of_getElem? (i := 870) (by decide +kernel), List.mem_of_getElem? (i := 871) (by decide +kernel)⟩
theorem lw_p78 : lw_okq (⟨"LeastPlacesModel", "fewest", "()I"⟩, 39) := ⟨⟨by decide +kernel, by decide +kernel⟩, List.mem_of_getElem? (i := 559) (by decide +kernel), List.mem_of_getElem? (i := 874) (by decide +kernel), List.mem_of_getElem? (i := 875) (by decide +kernel)⟩
def lw_privs_5 : List (MethodName × Nat) := [(⟨"LeastPlacesModel", "sizeAt", "(II)I"⟩, 39), (⟨"LeastPlacesModel", "lays", "()V"⟩, 39), (⟨"LeastPlacesModel", "expands", "(I)V"⟩, 39), (⟨"LeastPlacesModel", "copies", "(III)V"⟩, 39), (⟨"LeastPlacesModel", "tells", "(II)V"⟩, 39), (⟨"LeastPlacesModel", "joins", "(III)V"⟩, 39), (⟨"LeastPlacesModel", "cheapOnes", "()I"⟩, 39), (⟨"LeastPlacesModel", "greatestNeed", "()I"⟩, 39), (⟨"LeastPlacesModel", "uses", "(I)I"⟩, 39), (⟨"LeastPlacesModel", "plans", "(II)V"⟩, 39), (⟨"LeastPlacesModel", "pushes", "(II)V"⟩, 39), (⟨"LeastPlacesModel", "goesOn", "()V"⟩, 39), (⟨"LeastPlacesModel", "does", "(IIII)V"⟩, 39), (⟨"LeastPlacesModel", "tries", "(I)I"⟩, 39), (⟨"LeastPlacesModel", "fewest", "()I"⟩, 39)]
theorem lw_r5 : ∀ q ∈ lw_privs_5, lw_okq q := List.forall_mem_cons.mpr ⟨lw_p64, List.forall_mem_cons.mpr ⟨lw_p65, List.forall_mem_cons.mpr ⟨lw_p66, List.forall_mem_cons.mpr ⟨lw_p67, List.forall_mem_cons.mpr ⟨lw_p68, List.forall_mem_cons.mpr ⟨lw_p69, List.forall_mem_cons.mpr ⟨lw_p70, List.forall_mem_cons.mpr ⟨lw_p71, List.forall_mem_cons.mpr ⟨lw_p72, List.forall_mem_cons.mpr ⟨lw_p73, List.forall_mem_cons.mpr ⟨lw_p74, List.forall_mem_cons.mpr ⟨lw_p75, List.forall_mem_cons.mpr ⟨lw_p76, List.forall_mem_cons.mpr ⟨lw_p77, List.forall_mem_cons.mpr ⟨lw_p78, fun _ h => absurd h List.not_mem_nil⟩⟩⟩⟩⟩⟩⟩⟩⟩⟩⟩⟩⟩⟩⟩
def lw_privs : List (MethodName × Nat) := lw_privs_1 ++ (lw_privs_2 ++ (lw_privs_3 ++ (lw_privs_4 ++ (lw_privs_5))))
def lw_tbl : List Cond := k2_sels lw_privs ++ tables_1
theorem lw_privs_ok : ∀ q ∈ lw_privs, lw_okq q := by
  show ∀ q ∈ lw_privs_1 ++ (lw_privs_2 ++ (lw_privs_3 ++ (lw_privs_4 ++ (lw_privs_5)))), lw_okq q
  exact List.forall_mem_append.mpr ⟨lw_r1, List.forall_mem_append.mpr ⟨lw_r2, List.forall_mem_append.mpr ⟨lw_r3, List.forall_mem_append.mpr ⟨lw_r4, lw_r5⟩⟩⟩⟩
-- ===== end of PART A; then your names; then what follows =====
end
section
/-! names, fields, codes: from the printed names of the claim -/
def RX0 : String := "LeastPlaces$Expanded"
def TX0 : u_T := fun k => match k with
  | 0 => ("LeastPlaces$Expanded", "formula", "I", true)
  | 1 => ("LeastPlaces$Expanded", "nodes", "LLeastPlaces$Form;", true)
  | 2 => ("LeastPlaces$Expanded", "cheap", "Z", false)
  | 3 => ("LeastPlaces$Expanded", "sizes", "[I", true)
  | 4 => ("LeastPlaces$Expanded", "needs", "[I", true)
  | 5 => ("LeastPlaces$Expanded", "depths", "[I", true)
  | _ => ("LeastPlaces$Expanded", "values", "[I", true)
def tyX0 : Nat → FieldType := fun k => match k with
  | 0 => .int
  | 1 => .object "LeastPlaces$Form"
  | 2 => .boolean
  | 3 => .array .int
  | 4 => .array .int
  | 5 => .array .int
  | _ => .array .int
abbrev wsX00 : List Cond := u_ws RX0 TX0 7
theorem nmX0 : ∀ a, a < 7 → ∀ b, b < 7 → a ≠ b → (TX0 a).2.1 ≠ (TX0 b).2.1 := by decide +kernel
theorem tyX0_ok : ∀ k, k < 7 → parseFieldDescriptor (TX0 k).2.2.1 = some (tyX0 k) := by decide +kernel
abbrev cX0_init : ByteArray := prog_2_method_1_code
def yX0_init : MethodName := ⟨RX0, "<init>", "(I)V"⟩
abbrev cX0_entry : ByteArray := prog_2_method_2_code
def yX0_entry : MethodName := ⟨RX0, "entry", "([II)I"⟩
abbrev cX0_sizeOf : ByteArray := prog_2_method_3_code
def yX0_sizeOf : MethodName := ⟨RX0, "sizeOf", "(I)I"⟩
abbrev cX0_needOf : ByteArray := prog_2_method_4_code
def yX0_needOf : MethodName := ⟨RX0, "needOf", "(I)I"⟩
abbrev cX0_depthOf : ByteArray := prog_2_method_5_code
def yX0_depthOf : MethodName := ⟨RX0, "depthOf", "(I)I"⟩
abbrev cX0_valueOf : ByteArray := prog_2_method_6_code
def yX0_valueOf : MethodName := ⟨RX0, "valueOf", "(I)I"⟩
abbrev cX0_rightOf : ByteArray := prog_2_method_7_code
def yX0_rightOf : MethodName := ⟨RX0, "rightOf", "(I)I"⟩
abbrev cX0_pairs : ByteArray := prog_2_method_8_code
def yX0_pairs : MethodName := ⟨RX0, "pairs", "()I"⟩
abbrev cX0_make : ByteArray := prog_2_method_9_code
def yX0_make : MethodName := ⟨RX0, "make", "(LLeastPlaces$Form;Z[LLeastPlaces$Expanded;)V"⟩
abbrev cX0_measure : ByteArray := prog_2_method_10_code
def yX0_measure : MethodName := ⟨RX0, "measure", "([I[LLeastPlaces$Expanded;)V"⟩
abbrev cX0_put : ByteArray := prog_2_method_11_code
def yX0_put : MethodName := ⟨RX0, "put", "(IIII)V"⟩
abbrev cX0_needOfPair : ByteArray := prog_2_method_12_code
def yX0_needOfPair : MethodName := ⟨RX0, "needOfPair", "(II)I"⟩
abbrev cX0_leafValue : ByteArray := prog_2_method_13_code
def yX0_leafValue : MethodName := ⟨RX0, "leafValue", "(I[I[LLeastPlaces$Expanded;)I"⟩
abbrev cX0_operate : ByteArray := prog_2_method_14_code
def yX0_operate : MethodName := ⟨RX0, "operate", "(IJJ)I"⟩
def RX1 : String := "LeastPlaces$Form"
def TX1 : u_T := fun k => match k with
  | 0 => ("LeastPlaces$Form", "kinds", "[I", true)
  | 1 => ("LeastPlaces$Form", "contents", "[I", true)
  | _ => ("LeastPlaces$Form", "size", "I", false)
def tyX1 : Nat → FieldType := fun k => match k with
  | 0 => .array .int
  | 1 => .array .int
  | _ => .int
abbrev wsX10 : List Cond := u_ws RX1 TX1 3
theorem nmX1 : ∀ a, a < 3 → ∀ b, b < 3 → a ≠ b → (TX1 a).2.1 ≠ (TX1 b).2.1 := by decide +kernel
theorem tyX1_ok : ∀ k, k < 3 → parseFieldDescriptor (TX1 k).2.2.1 = some (tyX1 k) := by decide +kernel
abbrev cX1_init : ByteArray := prog_3_method_1_code
def yX1_init : MethodName := ⟨RX1, "<init>", "(I)V"⟩
abbrev cX1_has : ByteArray := prog_3_method_2_code
def yX1_has : MethodName := ⟨RX1, "has", "(I)Z"⟩
abbrev cX1_kindOf : ByteArray := prog_3_method_3_code
def yX1_kindOf : MethodName := ⟨RX1, "kindOf", "(I)I"⟩
abbrev cX1_contentOf : ByteArray := prog_3_method_4_code
def yX1_contentOf : MethodName := ⟨RX1, "contentOf", "(I)I"⟩
abbrev cX1_hasKind : ByteArray := prog_3_method_5_code
def yX1_hasKind : MethodName := ⟨RX1, "hasKind", "(I)Z"⟩
abbrev cX1_isFull : ByteArray := prog_3_method_6_code
def yX1_isFull : MethodName := ⟨RX1, "isFull", "()Z"⟩
abbrev cX1_add : ByteArray := prog_3_method_7_code
def yX1_add : MethodName := ⟨RX1, "add", "(II)Z"⟩
abbrev cX1_insert : ByteArray := prog_3_method_8_code
def yX1_insert : MethodName := ⟨RX1, "insert", "(III)Z"⟩
abbrev cX1_addAll : ByteArray := prog_3_method_9_code
def yX1_addAll : MethodName := ⟨RX1, "addAll", "(LLeastPlaces$Form;)V"⟩
abbrev cX1_copy : ByteArray := prog_3_method_10_code
def yX1_copy : MethodName := ⟨RX1, "copy", "(LLeastPlaces$Form;)V"⟩
abbrev cX1_behind : ByteArray := prog_3_method_11_code
def yX1_behind : MethodName := ⟨RX1, "behind", "(I)I"⟩
abbrev cX1_exchange : ByteArray := prog_3_method_12_code
def yX1_exchange : MethodName := ⟨RX1, "exchange", "(I)V"⟩
abbrev cX1_turnAround : ByteArray := prog_3_method_13_code
def yX1_turnAround : MethodName := ⟨RX1, "turnAround", "(II)V"⟩
def RX2 : String := "LeastPlaces$Plan"
def TX2 : u_T := fun k => match k with
  | 0 => ("LeastPlaces$Plan", "kinds", "[I", true)
  | 1 => ("LeastPlaces$Plan", "formulas", "[I", true)
  | 2 => ("LeastPlaces$Plan", "nodes", "[I", true)
  | 3 => ("LeastPlaces$Plan", "helds", "[I", true)
  | 4 => ("LeastPlaces$Plan", "length", "I", false)
  | 5 => ("LeastPlaces$Plan", "cost", "I", false)
  | 6 => ("LeastPlaces$Plan", "spills", "I", false)
  | 7 => ("LeastPlaces$Plan", "fetches", "I", false)
  | 8 => ("LeastPlaces$Plan", "operationCost", "I", false)
  | _ => ("LeastPlaces$Plan", "held", "I", false)
def tyX2 : Nat → FieldType := fun k => match k with
  | 0 => .array .int
  | 1 => .array .int
  | 2 => .array .int
  | 3 => .array .int
  | 4 => .int
  | 5 => .int
  | 6 => .int
  | 7 => .int
  | 8 => .int
  | _ => .int
abbrev wsX20 : List Cond := u_ws RX2 TX2 10
theorem nmX2 : ∀ a, a < 10 → ∀ b, b < 10 → a ≠ b → (TX2 a).2.1 ≠ (TX2 b).2.1 := by decide +kernel
theorem tyX2_ok : ∀ k, k < 10 → parseFieldDescriptor (TX2 k).2.2.1 = some (tyX2 k) := by decide +kernel
abbrev cX2_init : ByteArray := prog_4_method_1_code
def yX2_init : MethodName := ⟨RX2, "<init>", "()V"⟩
abbrev cX2_has : ByteArray := prog_4_method_2_code
def yX2_has : MethodName := ⟨RX2, "has", "(I)Z"⟩
abbrev cX2_make : ByteArray := prog_4_method_3_code
def yX2_make : MethodName := ⟨RX2, "make", "([LLeastPlaces$Expanded;II)V"⟩
abbrev cX2_workOut : ByteArray := prog_4_method_4_code
def yX2_workOut : MethodName := ⟨RX2, "workOut", "(LLeastPlaces$Expanded;III)V"⟩
abbrev cX2_workOutParts : ByteArray := prog_4_method_5_code
def yX2_workOutParts : MethodName := ⟨RX2, "workOutParts", "(LLeastPlaces$Expanded;III)V"⟩
abbrev cX2_addStep : ByteArray := prog_4_method_6_code
def yX2_addStep : MethodName := ⟨RX2, "addStep", "(ILLeastPlaces$Expanded;III)V"⟩
def RX3 : String := "LeastPlaces$Reader"
def TX3 : u_T := fun k => match k with
  | 0 => ("LeastPlaces$Reader", "text", "[I", true)
  | 1 => ("LeastPlaces$Reader", "length", "I", false)
  | 2 => ("LeastPlaces$Reader", "place", "I", false)
  | _ => ("LeastPlaces$Reader", "draft", "LLeastPlaces$Sheet;", true)
def tyX3 : Nat → FieldType := fun k => match k with
  | 0 => .array .int
  | 1 => .int
  | 2 => .int
  | _ => .object "LeastPlaces$Sheet"
abbrev wsX30 : List Cond := u_ws RX3 TX3 4
theorem nmX3 : ∀ a, a < 4 → ∀ b, b < 4 → a ≠ b → (TX3 a).2.1 ≠ (TX3 b).2.1 := by decide +kernel
theorem tyX3_ok : ∀ k, k < 4 → parseFieldDescriptor (TX3 k).2.2.1 = some (tyX3 k) := by decide +kernel
abbrev cX3_init : ByteArray := prog_5_method_1_code
def yX3_init : MethodName := ⟨RX3, "<init>", "()V"⟩
abbrev cX3_take : ByteArray := prog_5_method_2_code
def yX3_take : MethodName := ⟨RX3, "take", "(I)Z"⟩
abbrev cX3_sign : ByteArray := prog_5_method_3_code
def yX3_sign : MethodName := ⟨RX3, "sign", "()I"⟩
abbrev cX3_pass : ByteArray := prog_5_method_4_code
def yX3_pass : MethodName := ⟨RX3, "pass", "(I)Z"⟩
abbrev cX3_readSheet : ByteArray := prog_5_method_5_code
def yX3_readSheet : MethodName := ⟨RX3, "readSheet", "()Z"⟩
abbrev cX3_readSum : ByteArray := prog_5_method_6_code
def yX3_readSum : MethodName := ⟨RX3, "readSum", "(LLeastPlaces$Form;II)Z"⟩
abbrev cX3_readProduct : ByteArray := prog_5_method_7_code
def yX3_readProduct : MethodName := ⟨RX3, "readProduct", "(LLeastPlaces$Form;II)Z"⟩
abbrev cX3_readOperation : ByteArray := prog_5_method_8_code
def yX3_readOperation : MethodName := ⟨RX3, "readOperation", "(LLeastPlaces$Form;II)Z"⟩
abbrev cX3_readFactor : ByteArray := prog_5_method_9_code
def yX3_readFactor : MethodName := ⟨RX3, "readFactor", "(LLeastPlaces$Form;II)Z"⟩
abbrev cX3_readNested : ByteArray := prog_5_method_10_code
def yX3_readNested : MethodName := ⟨RX3, "readNested", "(LLeastPlaces$Form;II)Z"⟩
abbrev cX3_readLeaf : ByteArray := prog_5_method_11_code
def yX3_readLeaf : MethodName := ⟨RX3, "readLeaf", "(LLeastPlaces$Form;I)Z"⟩
abbrev cX3_readNumber : ByteArray := prog_5_method_12_code
def yX3_readNumber : MethodName := ⟨RX3, "readNumber", "()I"⟩
abbrev cX3_isDigit : ByteArray := prog_5_method_13_code
def yX3_isDigit : MethodName := ⟨RX3, "isDigit", "(I)Z"⟩
def RX4 : String := "LeastPlaces$Sheet"
def TX4 : u_T := fun k => match k with
  | 0 => ("LeastPlaces$Sheet", "forms", "[LLeastPlaces$Form;", true)
  | 1 => ("LeastPlaces$Sheet", "formulas", "I", false)
  | 2 => ("LeastPlaces$Sheet", "cells", "[I", true)
  | _ => ("LeastPlaces$Sheet", "places", "I", false)
def tyX4 : Nat → FieldType := fun k => match k with
  | 0 => .array (.object "LeastPlaces$Form")
  | 1 => .int
  | 2 => .array .int
  | _ => .int
abbrev wsX40 : List Cond := u_ws RX4 TX4 4
theorem nmX4 : ∀ a, a < 4 → ∀ b, b < 4 → a ≠ b → (TX4 a).2.1 ≠ (TX4 b).2.1 := by decide +kernel
theorem tyX4_ok : ∀ k, k < 4 → parseFieldDescriptor (TX4 k).2.2.1 = some (tyX4 k) := by decide +kernel
abbrev cX4_init : ByteArray := prog_6_method_1_code
def yX4_init : MethodName := ⟨RX4, "<init>", "()V"⟩
abbrev cX4_copyFormulas : ByteArray := prog_6_method_2_code
def yX4_copyFormulas : MethodName := ⟨RX4, "copyFormulas", "(LLeastPlaces$Sheet;)V"⟩
abbrev cX4_copyState : ByteArray := prog_6_method_3_code
def yX4_copyState : MethodName := ⟨RX4, "copyState", "(LLeastPlaces$Sheet;)V"⟩
def RX5 : String := "LeastPlaces$Trial"
def TX5 : u_T := fun k => match k with
  | 0 => ("LeastPlaces$Trial", "ways", "[I", true)
  | 1 => ("LeastPlaces$Trial", "waysWithOneLess", "[I", true)
  | _ => ("LeastPlaces$Trial", "places", "I", false)
def tyX5 : Nat → FieldType := fun k => match k with
  | 0 => .array .int
  | 1 => .array .int
  | _ => .int
abbrev wsX50 : List Cond := u_ws RX5 TX5 3
theorem nmX5 : ∀ a, a < 3 → ∀ b, b < 3 → a ≠ b → (TX5 a).2.1 ≠ (TX5 b).2.1 := by decide +kernel
theorem tyX5_ok : ∀ k, k < 3 → parseFieldDescriptor (TX5 k).2.2.1 = some (tyX5 k) := by decide +kernel
abbrev cX5_init : ByteArray := prog_7_method_1_code
def yX5_init : MethodName := ⟨RX5, "<init>", "()V"⟩
abbrev cX5_tryOrders : ByteArray := prog_7_method_2_code
def yX5_tryOrders : MethodName := ⟨RX5, "tryOrders", "(LLeastPlaces$Expanded;)V"⟩
abbrev cX5_waysFor : ByteArray := prog_7_method_3_code
def yX5_waysFor : MethodName := ⟨RX5, "waysFor", "(LLeastPlaces$Expanded;I)I"⟩
def RX6 : String := "LeastPlaces"
def TX6 : u_T := fun k => match k with
  | 0 => ("LeastPlaces", "reader", "LLeastPlaces$Reader;", true)
  | 1 => ("LeastPlaces", "sheet", "LLeastPlaces$Sheet;", true)
  | 2 => ("LeastPlaces", "history", "[LLeastPlaces$Sheet;", true)
  | 3 => ("LeastPlaces", "states", "I", false)
  | 4 => ("LeastPlaces", "expanded", "[LLeastPlaces$Expanded;", true)
  | 5 => ("LeastPlaces", "steps", "LLeastPlaces$Plan;", true)
  | _ => ("LeastPlaces", "trial", "LLeastPlaces$Trial;", true)
def tyX6 : Nat → FieldType := fun k => match k with
  | 0 => .object "LeastPlaces$Reader"
  | 1 => .object "LeastPlaces$Sheet"
  | 2 => .array (.object "LeastPlaces$Sheet")
  | 3 => .int
  | 4 => .array (.object "LeastPlaces$Expanded")
  | 5 => .object "LeastPlaces$Plan"
  | _ => .object "LeastPlaces$Trial"
abbrev wsX60 : List Cond := u_ws RX6 TX6 7
theorem nmX6 : ∀ a, a < 7 → ∀ b, b < 7 → a ≠ b → (TX6 a).2.1 ≠ (TX6 b).2.1 := by decide +kernel
theorem tyX6_ok : ∀ k, k < 7 → parseFieldDescriptor (TX6 k).2.2.1 = some (tyX6 k) := by decide +kernel
abbrev cX6_init : ByteArray := prog_1_method_1_code
def yX6_init : MethodName := ⟨RX6, "<init>", "()V"⟩
abbrev cX6_append : ByteArray := prog_1_method_2_code
def yX6_append : MethodName := ⟨RX6, "append", "(I)I"⟩
abbrev cX6_clearText : ByteArray := prog_1_method_3_code
def yX6_clearText : MethodName := ⟨RX6, "clearText", "()I"⟩
abbrev cX6_read : ByteArray := prog_1_method_4_code
def yX6_read : MethodName := ⟨RX6, "read", "()I"⟩
abbrev cX6_turn : ByteArray := prog_1_method_5_code
def yX6_turn : MethodName := ⟨RX6, "turn", "(II)I"⟩
abbrev cX6_setCell : ByteArray := prog_1_method_6_code
def yX6_setCell : MethodName := ⟨RX6, "setCell", "(II)I"⟩
abbrev cX6_setPlaces : ByteArray := prog_1_method_7_code
def yX6_setPlaces : MethodName := ⟨RX6, "setPlaces", "(I)I"⟩
abbrev cX6_undo : ByteArray := prog_1_method_8_code
def yX6_undo : MethodName := ⟨RX6, "undo", "()I"⟩
abbrev cX6_count : ByteArray := prog_1_method_9_code
def yX6_count : MethodName := ⟨RX6, "count", "(I)I"⟩
abbrev cX6_formula : ByteArray := prog_1_method_10_code
def yX6_formula : MethodName := ⟨RX6, "formula", "(II)I"⟩
abbrev cX6_node : ByteArray := prog_1_method_11_code
def yX6_node : MethodName := ⟨RX6, "node", "(III)I"⟩
abbrev cX6_cell : ByteArray := prog_1_method_12_code
def yX6_cell : MethodName := ⟨RX6, "cell", "(I)I"⟩
abbrev cX6_plan : ByteArray := prog_1_method_13_code
def yX6_plan : MethodName := ⟨RX6, "plan", "(I)I"⟩
abbrev cX6_step : ByteArray := prog_1_method_14_code
def yX6_step : MethodName := ⟨RX6, "step", "(II)I"⟩
abbrev cX6_costWith : ByteArray := prog_1_method_15_code
def yX6_costWith : MethodName := ⟨RX6, "costWith", "(I)I"⟩
abbrev cX6_enough : ByteArray := prog_1_method_16_code
def yX6_enough : MethodName := ⟨RX6, "enough", "()I"⟩
abbrev cX6_proved : ByteArray := prog_1_method_17_code
def yX6_proved : MethodName := ⟨RX6, "proved", "(I)I"⟩
abbrev cX6_ways : ByteArray := prog_1_method_18_code
def yX6_ways : MethodName := ⟨RX6, "ways", "(I)I"⟩
abbrev cX6_isFormula : ByteArray := prog_1_method_19_code
def yX6_isFormula : MethodName := ⟨RX6, "isFormula", "(I)Z"⟩
abbrev cX6_isCell : ByteArray := prog_1_method_20_code
def yX6_isCell : MethodName := ⟨RX6, "isCell", "(I)Z"⟩
abbrev cX6_arePlaces : ByteArray := prog_1_method_21_code
def yX6_arePlaces : MethodName := ⟨RX6, "arePlaces", "(I)Z"⟩
abbrev cX6_refusalToTry : ByteArray := prog_1_method_22_code
def yX6_refusalToTry : MethodName := ⟨RX6, "refusalToTry", "(I)I"⟩
abbrev cX6_partsOf : ByteArray := prog_1_method_23_code
def yX6_partsOf : MethodName := ⟨RX6, "partsOf", "(I)I"⟩
abbrev cX6_recordState : ByteArray := prog_1_method_24_code
def yX6_recordState : MethodName := ⟨RX6, "recordState", "()V"⟩
abbrev cX6_dropOldestState : ByteArray := prog_1_method_25_code
def yX6_dropOldestState : MethodName := ⟨RX6, "dropOldestState", "()V"⟩
abbrev cX6_workAnew : ByteArray := prog_1_method_26_code
def yX6_workAnew : MethodName := ⟨RX6, "workAnew", "()V"⟩
abbrev cX6_cheapDefinitions : ByteArray := prog_1_method_27_code
def yX6_cheapDefinitions : MethodName := ⟨RX6, "cheapDefinitions", "()I"⟩
abbrev cX6_nodesAsRead : ByteArray := prog_1_method_28_code
def yX6_nodesAsRead : MethodName := ⟨RX6, "nodesAsRead", "()I"⟩
abbrev cX6_greatestNeed : ByteArray := prog_1_method_29_code
def yX6_greatestNeed : MethodName := ⟨RX6, "greatestNeed", "()I"⟩
abbrev cX6_usesOf : ByteArray := prog_1_method_30_code
def yX6_usesOf : MethodName := ⟨RX6, "usesOf", "(I)I"⟩
def RX7 : String := "LeastPlacesModel"
def TX7 : u_T := fun k => match k with
  | 0 => ("LeastPlacesModel", "s", "[I", true)
  | 1 => ("LeastPlacesModel", "past", "[I", true)
  | 2 => ("LeastPlacesModel", "pasts", "I", false)
  | 3 => ("LeastPlacesModel", "text", "[I", true)
  | 4 => ("LeastPlacesModel", "typed", "I", false)
  | 5 => ("LeastPlacesModel", "fresh", "[I", true)
  | 6 => ("LeastPlacesModel", "at", "I", false)
  | 7 => ("LeastPlacesModel", "formulaAt", "I", false)
  | 8 => ("LeastPlacesModel", "length", "I", false)
  | 9 => ("LeastPlacesModel", "counted", "I", false)
  | 10 => ("LeastPlacesModel", "deep", "I", false)
  | 11 => ("LeastPlacesModel", "starts", "[I", true)
  | 12 => ("LeastPlacesModel", "segments", "I", false)
  | 13 => ("LeastPlacesModel", "waiting", "[I", true)
  | 14 => ("LeastPlacesModel", "waits", "I", false)
  | 15 => ("LeastPlacesModel", "whole", "Z", false)
  | 16 => ("LeastPlacesModel", "moved", "[I", true)
  | 17 => ("LeastPlacesModel", "kinds", "[I", true)
  | 18 => ("LeastPlacesModel", "numbers", "[I", true)
  | 19 => ("LeastPlacesModel", "sizes", "[I", true)
  | 20 => ("LeastPlacesModel", "need", "[I", true)
  | 21 => ("LeastPlacesModel", "depth", "[I", true)
  | 22 => ("LeastPlacesModel", "value", "[I", true)
  | 23 => ("LeastPlacesModel", "nodes", "[I", true)
  | 24 => ("LeastPlacesModel", "cheap", "[Z", true)
  | 25 => ("LeastPlacesModel", "steps", "I", false)
  | 26 => ("LeastPlacesModel", "cost", "I", false)
  | 27 => ("LeastPlacesModel", "spills", "I", false)
  | 28 => ("LeastPlacesModel", "loads", "I", false)
  | 29 => ("LeastPlacesModel", "operations", "I", false)
  | 30 => ("LeastPlacesModel", "live", "I", false)
  | 31 => ("LeastPlacesModel", "wanted", "I", false)
  | 32 => ("LeastPlacesModel", "got", "[I", true)
  | 33 => ("LeastPlacesModel", "formulaNow", "I", false)
  | 34 => ("LeastPlacesModel", "stackNode", "[I", true)
  | 35 => ("LeastPlacesModel", "stackPlaces", "[I", true)
  | 36 => ("LeastPlacesModel", "stackStage", "[I", true)
  | 37 => ("LeastPlacesModel", "top", "I", false)
  | _ => ("LeastPlacesModel", "orders", "[I", true)
def tyX7 : Nat → FieldType := fun k => match k with
  | 0 => .array .int
  | 1 => .array .int
  | 2 => .int
  | 3 => .array .int
  | 4 => .int
  | 5 => .array .int
  | 6 => .int
  | 7 => .int
  | 8 => .int
  | 9 => .int
  | 10 => .int
  | 11 => .array .int
  | 12 => .int
  | 13 => .array .int
  | 14 => .int
  | 15 => .boolean
  | 16 => .array .int
  | 17 => .array .int
  | 18 => .array .int
  | 19 => .array .int
  | 20 => .array .int
  | 21 => .array .int
  | 22 => .array .int
  | 23 => .array .int
  | 24 => .array .boolean
  | 25 => .int
  | 26 => .int
  | 27 => .int
  | 28 => .int
  | 29 => .int
  | 30 => .int
  | 31 => .int
  | 32 => .array .int
  | 33 => .int
  | 34 => .array .int
  | 35 => .array .int
  | 36 => .array .int
  | 37 => .int
  | _ => .array .int
abbrev wsX70 : List Cond := u_ws RX7 TX7 39
theorem nmX7 : ∀ a, a < 39 → ∀ b, b < 39 → a ≠ b → (TX7 a).2.1 ≠ (TX7 b).2.1 := by decide +kernel
theorem tyX7_ok : ∀ k, k < 39 → parseFieldDescriptor (TX7 k).2.2.1 = some (tyX7 k) := by decide +kernel
abbrev cX7_init : ByteArray := prog_9_method_1_code
def yX7_init : MethodName := ⟨RX7, "<init>", "()V"⟩
abbrev cX7_in : ByteArray := prog_9_method_3_code
def yX7_in : MethodName := ⟨RX7, "in", "(III)Z"⟩
abbrev cX7_acts : ByteArray := prog_9_method_4_code
def yX7_acts : MethodName := ⟨RX7, "acts", "()V"⟩
abbrev cX7_append : ByteArray := prog_9_method_5_code
def yX7_append : MethodName := ⟨RX7, "append", "(I)I"⟩
abbrev cX7_clearText : ByteArray := prog_9_method_6_code
def yX7_clearText : MethodName := ⟨RX7, "clearText", "()I"⟩
abbrev cX7_here : ByteArray := prog_9_method_7_code
def yX7_here : MethodName := ⟨RX7, "here", "()I"⟩
abbrev cX7_puts : ByteArray := prog_9_method_8_code
def yX7_puts : MethodName := ⟨RX7, "puts", "(III)V"⟩
abbrev cX7_leaf : ByteArray := prog_9_method_9_code
def yX7_leaf : MethodName := ⟨RX7, "leaf", "(II)Z"⟩
abbrev cX7_kindOf : ByteArray := prog_9_method_10_code
def yX7_kindOf : MethodName := ⟨RX7, "kindOf", "(I)I"⟩
abbrev cX7_makes : ByteArray := prog_9_method_11_code
def yX7_makes : MethodName := ⟨RX7, "makes", "(I)V"⟩
abbrev cX7_settles : ByteArray := prog_9_method_12_code
def yX7_settles : MethodName := ⟨RX7, "settles", "(I)V"⟩
abbrev cX7_number : ByteArray := prog_9_method_13_code
def yX7_number : MethodName := ⟨RX7, "number", "()Z"⟩
abbrev cX7_factor : ByteArray := prog_9_method_14_code
def yX7_factor : MethodName := ⟨RX7, "factor", "()Z"⟩
abbrev cX7_isOpen : ByteArray := prog_9_method_15_code
def yX7_isOpen : MethodName := ⟨RX7, "isOpen", "()Z"⟩
abbrev cX7_formulaRead : ByteArray := prog_9_method_16_code
def yX7_formulaRead : MethodName := ⟨RX7, "formulaRead", "()Z"⟩
abbrev cX7_reads : ByteArray := prog_9_method_17_code
def yX7_reads : MethodName := ⟨RX7, "reads", "()Z"⟩
abbrev cX7_read : ByteArray := prog_9_method_18_code
def yX7_read : MethodName := ⟨RX7, "read", "()I"⟩
abbrev cX7_kindAt : ByteArray := prog_9_method_19_code
def yX7_kindAt : MethodName := ⟨RX7, "kindAt", "(II)I"⟩
abbrev cX7_sizeAt : ByteArray := prog_9_method_20_code
def yX7_sizeAt : MethodName := ⟨RX7, "sizeAt", "(II)I"⟩
abbrev cX7_isFormula : ByteArray := prog_9_method_21_code
def yX7_isFormula : MethodName := ⟨RX7, "isFormula", "(I)Z"⟩
abbrev cX7_turn : ByteArray := prog_9_method_22_code
def yX7_turn : MethodName := ⟨RX7, "turn", "(II)I"⟩
abbrev cX7_isCell : ByteArray := prog_9_method_23_code
def yX7_isCell : MethodName := ⟨RX7, "isCell", "(I)Z"⟩
abbrev cX7_setCell : ByteArray := prog_9_method_24_code
def yX7_setCell : MethodName := ⟨RX7, "setCell", "(II)I"⟩
abbrev cX7_setPlaces : ByteArray := prog_9_method_25_code
def yX7_setPlaces : MethodName := ⟨RX7, "setPlaces", "(I)I"⟩
abbrev cX7_undo : ByteArray := prog_9_method_26_code
def yX7_undo : MethodName := ⟨RX7, "undo", "()I"⟩
abbrev cX7_cut : ByteArray := prog_9_method_27_code
def yX7_cut : MethodName := ⟨RX7, "cut", "(J)I"⟩
abbrev cX7_copies : ByteArray := prog_9_method_28_code
def yX7_copies : MethodName := ⟨RX7, "copies", "(III)V"⟩
abbrev cX7_expands : ByteArray := prog_9_method_29_code
def yX7_expands : MethodName := ⟨RX7, "expands", "(I)V"⟩
abbrev cX7_tells : ByteArray := prog_9_method_30_code
def yX7_tells : MethodName := ⟨RX7, "tells", "(II)V"⟩
abbrev cX7_joins : ByteArray := prog_9_method_31_code
def yX7_joins : MethodName := ⟨RX7, "joins", "(III)V"⟩
abbrev cX7_lays : ByteArray := prog_9_method_32_code
def yX7_lays : MethodName := ⟨RX7, "lays", "()V"⟩
abbrev cX7_cheapOnes : ByteArray := prog_9_method_33_code
def yX7_cheapOnes : MethodName := ⟨RX7, "cheapOnes", "()I"⟩
abbrev cX7_greatestNeed : ByteArray := prog_9_method_34_code
def yX7_greatestNeed : MethodName := ⟨RX7, "greatestNeed", "()I"⟩
abbrev cX7_count : ByteArray := prog_9_method_35_code
def yX7_count : MethodName := ⟨RX7, "count", "(I)I"⟩
abbrev cX7_uses : ByteArray := prog_9_method_36_code
def yX7_uses : MethodName := ⟨RX7, "uses", "(I)I"⟩
abbrev cX7_formula : ByteArray := prog_9_method_37_code
def yX7_formula : MethodName := ⟨RX7, "formula", "(II)I"⟩
abbrev cX7_node : ByteArray := prog_9_method_38_code
def yX7_node : MethodName := ⟨RX7, "node", "(III)I"⟩
abbrev cX7_cell : ByteArray := prog_9_method_39_code
def yX7_cell : MethodName := ⟨RX7, "cell", "(I)I"⟩
abbrev cX7_does : ByteArray := prog_9_method_40_code
def yX7_does : MethodName := ⟨RX7, "does", "(IIII)V"⟩
abbrev cX7_pushes : ByteArray := prog_9_method_41_code
def yX7_pushes : MethodName := ⟨RX7, "pushes", "(II)V"⟩
abbrev cX7_goesOn : ByteArray := prog_9_method_42_code
def yX7_goesOn : MethodName := ⟨RX7, "goesOn", "()V"⟩
abbrev cX7_plans : ByteArray := prog_9_method_43_code
def yX7_plans : MethodName := ⟨RX7, "plans", "(II)V"⟩
abbrev cX7_plan : ByteArray := prog_9_method_44_code
def yX7_plan : MethodName := ⟨RX7, "plan", "(I)I"⟩
abbrev cX7_step : ByteArray := prog_9_method_45_code
def yX7_step : MethodName := ⟨RX7, "step", "(II)I"⟩
abbrev cX7_costWith : ByteArray := prog_9_method_46_code
def yX7_costWith : MethodName := ⟨RX7, "costWith", "(I)I"⟩
abbrev cX7_enough : ByteArray := prog_9_method_47_code
def yX7_enough : MethodName := ⟨RX7, "enough", "()I"⟩
abbrev cX7_tries : ByteArray := prog_9_method_48_code
def yX7_tries : MethodName := ⟨RX7, "tries", "(I)I"⟩
abbrev cX7_fewest : ByteArray := prog_9_method_49_code
def yX7_fewest : MethodName := ⟨RX7, "fewest", "()I"⟩
abbrev cX7_proved : ByteArray := prog_9_method_50_code
def yX7_proved : MethodName := ⟨RX7, "proved", "(I)I"⟩
abbrev cX7_ways : ByteArray := prog_9_method_51_code
def yX7_ways : MethodName := ⟨RX7, "ways", "(I)I"⟩
def RL : String := "LeastPlacesLaw"
abbrev cL_law : ByteArray := code
abbrev vwCl : List vw_C := [(RX0, TX0, 7), (RX1, TX1, 3), (RX2, TX2, 10), (RX3, TX3, 4), (RX4, TX4, 4), (RX5, TX5, 3), (RX6, TX6, 7), (RX7, TX7, 39)]
end
section
theorem dL_law_0 : decode cL_law 0 = .ok (.new 7, 3) := by decide +kernel
theorem dL_law_3 : decode cL_law 3 = .ok (.dup, 1) := by decide +kernel
theorem dL_law_4 : decode cL_law 4 = .ok (.invokespecial 9, 3) := by decide +kernel
theorem dL_law_7 : decode cL_law 7 = .ok (.astore_n 1, 1) := by decide +kernel
theorem dL_law_8 : decode cL_law 8 = .ok (.new 10, 3) := by decide +kernel
theorem dL_law_11 : decode cL_law 11 = .ok (.dup, 1) := by decide +kernel
theorem dL_law_12 : decode cL_law 12 = .ok (.invokespecial 12, 3) := by decide +kernel
theorem dL_law_15 : decode cL_law 15 = .ok (.astore_n 2, 1) := by decide +kernel
theorem dL_law_16 : decode cL_law 16 = .ok (.iconst 0, 1) := by decide +kernel
theorem dL_law_17 : decode cL_law 17 = .ok (.istore_n 3, 1) := by decide +kernel
theorem dL_law_18 : decode cL_law 18 = .ok (.iload_n 3, 1) := by decide +kernel
theorem dL_law_19 : decode cL_law 19 = .ok (.aload_n 0, 1) := by decide +kernel
theorem dL_law_20 : decode cL_law 20 = .ok (.arraylength, 1) := by decide +kernel
theorem dL_law_21 : decode cL_law 21 = .ok (.iconst 4, 1) := by decide +kernel
theorem dL_law_22 : decode cL_law 22 = .ok (.isub, 1) := by decide +kernel
theorem dL_law_23 : decode cL_law 23 = .ok (.if_icmp .gt 510, 3) := by decide +kernel
theorem dL_law_26 : decode cL_law 26 = .ok (.aload_n 0, 1) := by decide +kernel
theorem dL_law_27 : decode cL_law 27 = .ok (.iload_n 3, 1) := by decide +kernel
theorem dL_law_28 : decode cL_law 28 = .ok (.iaload, 1) := by decide +kernel
theorem dL_law_29 : decode cL_law 29 = .ok (.bipush 31, 2) := by decide +kernel
theorem dL_law_31 : decode cL_law 31 = .ok (.iand, 1) := by decide +kernel
theorem dL_law_32 : decode cL_law 32 = .ok (.tableswitch 495 0 16 #[84, 107, 120, 133, 166, 199, 222, 235, 258, 291, 334, 357, 380, 413, 436, 449, 472], 84) := by decide +kernel
theorem dL_law_116 : decode cL_law 116 = .ok (.aload_n 1, 1) := by decide +kernel
theorem dL_law_117 : decode cL_law 117 = .ok (.aload_n 0, 1) := by decide +kernel
theorem dL_law_118 : decode cL_law 118 = .ok (.iload_n 3, 1) := by decide +kernel
theorem dL_law_119 : decode cL_law 119 = .ok (.iconst 1, 1) := by decide +kernel
theorem dL_law_120 : decode cL_law 120 = .ok (.iadd, 1) := by decide +kernel
theorem dL_law_121 : decode cL_law 121 = .ok (.iaload, 1) := by decide +kernel
theorem dL_law_122 : decode cL_law 122 = .ok (.invokevirtual 13, 3) := by decide +kernel
theorem dL_law_125 : decode cL_law 125 = .ok (.aload_n 2, 1) := by decide +kernel
theorem dL_law_126 : decode cL_law 126 = .ok (.aload_n 0, 1) := by decide +kernel
theorem dL_law_127 : decode cL_law 127 = .ok (.iload_n 3, 1) := by decide +kernel
theorem dL_law_128 : decode cL_law 128 = .ok (.iconst 1, 1) := by decide +kernel
theorem dL_law_129 : decode cL_law 129 = .ok (.iadd, 1) := by decide +kernel
theorem dL_law_130 : decode cL_law 130 = .ok (.iaload, 1) := by decide +kernel
theorem dL_law_131 : decode cL_law 131 = .ok (.invokevirtual 17, 3) := by decide +kernel
theorem dL_law_134 : decode cL_law 134 = .ok (.if_icmp .eq 393, 3) := by decide +kernel
theorem dL_law_137 : decode cL_law 137 = .ok (.iconst 0, 1) := by decide +kernel
theorem dL_law_138 : decode cL_law 138 = .ok (.ireturn, 1) := by decide +kernel
theorem dL_law_139 : decode cL_law 139 = .ok (.aload_n 1, 1) := by decide +kernel
theorem dL_law_140 : decode cL_law 140 = .ok (.invokevirtual 18, 3) := by decide +kernel
theorem dL_law_143 : decode cL_law 143 = .ok (.aload_n 2, 1) := by decide +kernel
theorem dL_law_144 : decode cL_law 144 = .ok (.invokevirtual 22, 3) := by decide +kernel
theorem dL_law_147 : decode cL_law 147 = .ok (.if_icmp .eq 380, 3) := by decide +kernel
theorem dL_law_150 : decode cL_law 150 = .ok (.iconst 0, 1) := by decide +kernel
theorem dL_law_151 : decode cL_law 151 = .ok (.ireturn, 1) := by decide +kernel
theorem dL_law_152 : decode cL_law 152 = .ok (.aload_n 1, 1) := by decide +kernel
theorem dL_law_153 : decode cL_law 153 = .ok (.invokevirtual 23, 3) := by decide +kernel
theorem dL_law_156 : decode cL_law 156 = .ok (.aload_n 2, 1) := by decide +kernel
theorem dL_law_157 : decode cL_law 157 = .ok (.invokevirtual 26, 3) := by decide +kernel
theorem dL_law_160 : decode cL_law 160 = .ok (.if_icmp .eq 367, 3) := by decide +kernel
theorem dL_law_163 : decode cL_law 163 = .ok (.iconst 0, 1) := by decide +kernel
theorem dL_law_164 : decode cL_law 164 = .ok (.ireturn, 1) := by decide +kernel
theorem dL_law_165 : decode cL_law 165 = .ok (.aload_n 1, 1) := by decide +kernel
theorem dL_law_166 : decode cL_law 166 = .ok (.aload_n 0, 1) := by decide +kernel
theorem dL_law_167 : decode cL_law 167 = .ok (.iload_n 3, 1) := by decide +kernel
theorem dL_law_168 : decode cL_law 168 = .ok (.iconst 1, 1) := by decide +kernel
theorem dL_law_169 : decode cL_law 169 = .ok (.iadd, 1) := by decide +kernel
theorem dL_law_170 : decode cL_law 170 = .ok (.iaload, 1) := by decide +kernel
theorem dL_law_171 : decode cL_law 171 = .ok (.aload_n 0, 1) := by decide +kernel
theorem dL_law_172 : decode cL_law 172 = .ok (.iload_n 3, 1) := by decide +kernel
theorem dL_law_173 : decode cL_law 173 = .ok (.iconst 2, 1) := by decide +kernel
theorem dL_law_174 : decode cL_law 174 = .ok (.iadd, 1) := by decide +kernel
theorem dL_law_175 : decode cL_law 175 = .ok (.iaload, 1) := by decide +kernel
theorem dL_law_176 : decode cL_law 176 = .ok (.invokevirtual 27, 3) := by decide +kernel
theorem dL_law_179 : decode cL_law 179 = .ok (.aload_n 2, 1) := by decide +kernel
theorem dL_law_180 : decode cL_law 180 = .ok (.aload_n 0, 1) := by decide +kernel
theorem dL_law_181 : decode cL_law 181 = .ok (.iload_n 3, 1) := by decide +kernel
theorem dL_law_182 : decode cL_law 182 = .ok (.iconst 1, 1) := by decide +kernel
theorem dL_law_183 : decode cL_law 183 = .ok (.iadd, 1) := by decide +kernel
theorem dL_law_184 : decode cL_law 184 = .ok (.iaload, 1) := by decide +kernel
theorem dL_law_185 : decode cL_law 185 = .ok (.aload_n 0, 1) := by decide +kernel
theorem dL_law_186 : decode cL_law 186 = .ok (.iload_n 3, 1) := by decide +kernel
theorem dL_law_187 : decode cL_law 187 = .ok (.iconst 2, 1) := by decide +kernel
theorem dL_law_188 : decode cL_law 188 = .ok (.iadd, 1) := by decide +kernel
theorem dL_law_189 : decode cL_law 189 = .ok (.iaload, 1) := by decide +kernel
theorem dL_law_190 : decode cL_law 190 = .ok (.invokevirtual 31, 3) := by decide +kernel
theorem dL_law_193 : decode cL_law 193 = .ok (.if_icmp .eq 334, 3) := by decide +kernel
theorem dL_law_196 : decode cL_law 196 = .ok (.iconst 0, 1) := by decide +kernel
theorem dL_law_197 : decode cL_law 197 = .ok (.ireturn, 1) := by decide +kernel
theorem dL_law_198 : decode cL_law 198 = .ok (.aload_n 1, 1) := by decide +kernel
theorem dL_law_199 : decode cL_law 199 = .ok (.aload_n 0, 1) := by decide +kernel
theorem dL_law_200 : decode cL_law 200 = .ok (.iload_n 3, 1) := by decide +kernel
theorem dL_law_201 : decode cL_law 201 = .ok (.iconst 1, 1) := by decide +kernel
theorem dL_law_202 : decode cL_law 202 = .ok (.iadd, 1) := by decide +kernel
theorem dL_law_203 : decode cL_law 203 = .ok (.iaload, 1) := by decide +kernel
theorem dL_law_204 : decode cL_law 204 = .ok (.aload_n 0, 1) := by decide +kernel
theorem dL_law_205 : decode cL_law 205 = .ok (.iload_n 3, 1) := by decide +kernel
theorem dL_law_206 : decode cL_law 206 = .ok (.iconst 2, 1) := by decide +kernel
theorem dL_law_207 : decode cL_law 207 = .ok (.iadd, 1) := by decide +kernel
theorem dL_law_208 : decode cL_law 208 = .ok (.iaload, 1) := by decide +kernel
theorem dL_law_209 : decode cL_law 209 = .ok (.invokevirtual 32, 3) := by decide +kernel
theorem dL_law_212 : decode cL_law 212 = .ok (.aload_n 2, 1) := by decide +kernel
theorem dL_law_213 : decode cL_law 213 = .ok (.aload_n 0, 1) := by decide +kernel
theorem dL_law_214 : decode cL_law 214 = .ok (.iload_n 3, 1) := by decide +kernel
theorem dL_law_215 : decode cL_law 215 = .ok (.iconst 1, 1) := by decide +kernel
theorem dL_law_216 : decode cL_law 216 = .ok (.iadd, 1) := by decide +kernel
theorem dL_law_217 : decode cL_law 217 = .ok (.iaload, 1) := by decide +kernel
theorem dL_law_218 : decode cL_law 218 = .ok (.aload_n 0, 1) := by decide +kernel
theorem dL_law_219 : decode cL_law 219 = .ok (.iload_n 3, 1) := by decide +kernel
theorem dL_law_220 : decode cL_law 220 = .ok (.iconst 2, 1) := by decide +kernel
theorem dL_law_221 : decode cL_law 221 = .ok (.iadd, 1) := by decide +kernel
theorem dL_law_222 : decode cL_law 222 = .ok (.iaload, 1) := by decide +kernel
theorem dL_law_223 : decode cL_law 223 = .ok (.invokevirtual 35, 3) := by decide +kernel
theorem dL_law_226 : decode cL_law 226 = .ok (.if_icmp .eq 301, 3) := by decide +kernel
theorem dL_law_229 : decode cL_law 229 = .ok (.iconst 0, 1) := by decide +kernel
theorem dL_law_230 : decode cL_law 230 = .ok (.ireturn, 1) := by decide +kernel
theorem dL_law_231 : decode cL_law 231 = .ok (.aload_n 1, 1) := by decide +kernel
theorem dL_law_232 : decode cL_law 232 = .ok (.aload_n 0, 1) := by decide +kernel
theorem dL_law_233 : decode cL_law 233 = .ok (.iload_n 3, 1) := by decide +kernel
theorem dL_law_234 : decode cL_law 234 = .ok (.iconst 1, 1) := by decide +kernel
theorem dL_law_235 : decode cL_law 235 = .ok (.iadd, 1) := by decide +kernel
theorem dL_law_236 : decode cL_law 236 = .ok (.iaload, 1) := by decide +kernel
theorem dL_law_237 : decode cL_law 237 = .ok (.invokevirtual 36, 3) := by decide +kernel
theorem dL_law_240 : decode cL_law 240 = .ok (.aload_n 2, 1) := by decide +kernel
theorem dL_law_241 : decode cL_law 241 = .ok (.aload_n 0, 1) := by decide +kernel
theorem dL_law_242 : decode cL_law 242 = .ok (.iload_n 3, 1) := by decide +kernel
theorem dL_law_243 : decode cL_law 243 = .ok (.iconst 1, 1) := by decide +kernel
theorem dL_law_244 : decode cL_law 244 = .ok (.iadd, 1) := by decide +kernel
theorem dL_law_245 : decode cL_law 245 = .ok (.iaload, 1) := by decide +kernel
theorem dL_law_246 : decode cL_law 246 = .ok (.invokevirtual 39, 3) := by decide +kernel
theorem dL_law_249 : decode cL_law 249 = .ok (.if_icmp .eq 278, 3) := by decide +kernel
theorem dL_law_252 : decode cL_law 252 = .ok (.iconst 0, 1) := by decide +kernel
theorem dL_law_253 : decode cL_law 253 = .ok (.ireturn, 1) := by decide +kernel
theorem dL_law_254 : decode cL_law 254 = .ok (.aload_n 1, 1) := by decide +kernel
theorem dL_law_255 : decode cL_law 255 = .ok (.invokevirtual 40, 3) := by decide +kernel
theorem dL_law_258 : decode cL_law 258 = .ok (.aload_n 2, 1) := by decide +kernel
theorem dL_law_259 : decode cL_law 259 = .ok (.invokevirtual 43, 3) := by decide +kernel
theorem dL_law_262 : decode cL_law 262 = .ok (.if_icmp .eq 265, 3) := by decide +kernel
theorem dL_law_265 : decode cL_law 265 = .ok (.iconst 0, 1) := by decide +kernel
theorem dL_law_266 : decode cL_law 266 = .ok (.ireturn, 1) := by decide +kernel
theorem dL_law_267 : decode cL_law 267 = .ok (.aload_n 1, 1) := by decide +kernel
theorem dL_law_268 : decode cL_law 268 = .ok (.aload_n 0, 1) := by decide +kernel
theorem dL_law_269 : decode cL_law 269 = .ok (.iload_n 3, 1) := by decide +kernel
theorem dL_law_270 : decode cL_law 270 = .ok (.iconst 1, 1) := by decide +kernel
theorem dL_law_271 : decode cL_law 271 = .ok (.iadd, 1) := by decide +kernel
theorem dL_law_272 : decode cL_law 272 = .ok (.iaload, 1) := by decide +kernel
theorem dL_law_273 : decode cL_law 273 = .ok (.invokevirtual 44, 3) := by decide +kernel
theorem dL_law_276 : decode cL_law 276 = .ok (.aload_n 2, 1) := by decide +kernel
theorem dL_law_277 : decode cL_law 277 = .ok (.aload_n 0, 1) := by decide +kernel
theorem dL_law_278 : decode cL_law 278 = .ok (.iload_n 3, 1) := by decide +kernel
theorem dL_law_279 : decode cL_law 279 = .ok (.iconst 1, 1) := by decide +kernel
theorem dL_law_280 : decode cL_law 280 = .ok (.iadd, 1) := by decide +kernel
theorem dL_law_281 : decode cL_law 281 = .ok (.iaload, 1) := by decide +kernel
theorem dL_law_282 : decode cL_law 282 = .ok (.invokevirtual 47, 3) := by decide +kernel
theorem dL_law_285 : decode cL_law 285 = .ok (.if_icmp .eq 242, 3) := by decide +kernel
theorem dL_law_288 : decode cL_law 288 = .ok (.iconst 0, 1) := by decide +kernel
theorem dL_law_289 : decode cL_law 289 = .ok (.ireturn, 1) := by decide +kernel
theorem dL_law_290 : decode cL_law 290 = .ok (.aload_n 1, 1) := by decide +kernel
theorem dL_law_291 : decode cL_law 291 = .ok (.aload_n 0, 1) := by decide +kernel
theorem dL_law_292 : decode cL_law 292 = .ok (.iload_n 3, 1) := by decide +kernel
theorem dL_law_293 : decode cL_law 293 = .ok (.iconst 1, 1) := by decide +kernel
theorem dL_law_294 : decode cL_law 294 = .ok (.iadd, 1) := by decide +kernel
theorem dL_law_295 : decode cL_law 295 = .ok (.iaload, 1) := by decide +kernel
theorem dL_law_296 : decode cL_law 296 = .ok (.aload_n 0, 1) := by decide +kernel
theorem dL_law_297 : decode cL_law 297 = .ok (.iload_n 3, 1) := by decide +kernel
theorem dL_law_298 : decode cL_law 298 = .ok (.iconst 2, 1) := by decide +kernel
theorem dL_law_299 : decode cL_law 299 = .ok (.iadd, 1) := by decide +kernel
theorem dL_law_300 : decode cL_law 300 = .ok (.iaload, 1) := by decide +kernel
theorem dL_law_301 : decode cL_law 301 = .ok (.invokevirtual 48, 3) := by decide +kernel
theorem dL_law_304 : decode cL_law 304 = .ok (.aload_n 2, 1) := by decide +kernel
theorem dL_law_305 : decode cL_law 305 = .ok (.aload_n 0, 1) := by decide +kernel
theorem dL_law_306 : decode cL_law 306 = .ok (.iload_n 3, 1) := by decide +kernel
theorem dL_law_307 : decode cL_law 307 = .ok (.iconst 1, 1) := by decide +kernel
theorem dL_law_308 : decode cL_law 308 = .ok (.iadd, 1) := by decide +kernel
theorem dL_law_309 : decode cL_law 309 = .ok (.iaload, 1) := by decide +kernel
theorem dL_law_310 : decode cL_law 310 = .ok (.aload_n 0, 1) := by decide +kernel
theorem dL_law_311 : decode cL_law 311 = .ok (.iload_n 3, 1) := by decide +kernel
theorem dL_law_312 : decode cL_law 312 = .ok (.iconst 2, 1) := by decide +kernel
theorem dL_law_313 : decode cL_law 313 = .ok (.iadd, 1) := by decide +kernel
theorem dL_law_314 : decode cL_law 314 = .ok (.iaload, 1) := by decide +kernel
theorem dL_law_315 : decode cL_law 315 = .ok (.invokevirtual 51, 3) := by decide +kernel
theorem dL_law_318 : decode cL_law 318 = .ok (.if_icmp .eq 209, 3) := by decide +kernel
theorem dL_law_321 : decode cL_law 321 = .ok (.iconst 0, 1) := by decide +kernel
theorem dL_law_322 : decode cL_law 322 = .ok (.ireturn, 1) := by decide +kernel
theorem dL_law_323 : decode cL_law 323 = .ok (.aload_n 1, 1) := by decide +kernel
theorem dL_law_324 : decode cL_law 324 = .ok (.aload_n 0, 1) := by decide +kernel
theorem dL_law_325 : decode cL_law 325 = .ok (.iload_n 3, 1) := by decide +kernel
theorem dL_law_326 : decode cL_law 326 = .ok (.iconst 1, 1) := by decide +kernel
theorem dL_law_327 : decode cL_law 327 = .ok (.iadd, 1) := by decide +kernel
theorem dL_law_328 : decode cL_law 328 = .ok (.iaload, 1) := by decide +kernel
theorem dL_law_329 : decode cL_law 329 = .ok (.aload_n 0, 1) := by decide +kernel
theorem dL_law_330 : decode cL_law 330 = .ok (.iload_n 3, 1) := by decide +kernel
theorem dL_law_331 : decode cL_law 331 = .ok (.iconst 2, 1) := by decide +kernel
theorem dL_law_332 : decode cL_law 332 = .ok (.iadd, 1) := by decide +kernel
theorem dL_law_333 : decode cL_law 333 = .ok (.iaload, 1) := by decide +kernel
theorem dL_law_334 : decode cL_law 334 = .ok (.aload_n 0, 1) := by decide +kernel
theorem dL_law_335 : decode cL_law 335 = .ok (.iload_n 3, 1) := by decide +kernel
theorem dL_law_336 : decode cL_law 336 = .ok (.iconst 3, 1) := by decide +kernel
theorem dL_law_337 : decode cL_law 337 = .ok (.iadd, 1) := by decide +kernel
theorem dL_law_338 : decode cL_law 338 = .ok (.iaload, 1) := by decide +kernel
theorem dL_law_339 : decode cL_law 339 = .ok (.invokevirtual 52, 3) := by decide +kernel
theorem dL_law_342 : decode cL_law 342 = .ok (.aload_n 2, 1) := by decide +kernel
theorem dL_law_343 : decode cL_law 343 = .ok (.aload_n 0, 1) := by decide +kernel
theorem dL_law_344 : decode cL_law 344 = .ok (.iload_n 3, 1) := by decide +kernel
theorem dL_law_345 : decode cL_law 345 = .ok (.iconst 1, 1) := by decide +kernel
theorem dL_law_346 : decode cL_law 346 = .ok (.iadd, 1) := by decide +kernel
theorem dL_law_347 : decode cL_law 347 = .ok (.iaload, 1) := by decide +kernel
theorem dL_law_348 : decode cL_law 348 = .ok (.aload_n 0, 1) := by decide +kernel
theorem dL_law_349 : decode cL_law 349 = .ok (.iload_n 3, 1) := by decide +kernel
theorem dL_law_350 : decode cL_law 350 = .ok (.iconst 2, 1) := by decide +kernel
theorem dL_law_351 : decode cL_law 351 = .ok (.iadd, 1) := by decide +kernel
theorem dL_law_352 : decode cL_law 352 = .ok (.iaload, 1) := by decide +kernel
theorem dL_law_353 : decode cL_law 353 = .ok (.aload_n 0, 1) := by decide +kernel
theorem dL_law_354 : decode cL_law 354 = .ok (.iload_n 3, 1) := by decide +kernel
theorem dL_law_355 : decode cL_law 355 = .ok (.iconst 3, 1) := by decide +kernel
theorem dL_law_356 : decode cL_law 356 = .ok (.iadd, 1) := by decide +kernel
theorem dL_law_357 : decode cL_law 357 = .ok (.iaload, 1) := by decide +kernel
theorem dL_law_358 : decode cL_law 358 = .ok (.invokevirtual 56, 3) := by decide +kernel
theorem dL_law_361 : decode cL_law 361 = .ok (.if_icmp .eq 166, 3) := by decide +kernel
theorem dL_law_364 : decode cL_law 364 = .ok (.iconst 0, 1) := by decide +kernel
theorem dL_law_365 : decode cL_law 365 = .ok (.ireturn, 1) := by decide +kernel
theorem dL_law_366 : decode cL_law 366 = .ok (.aload_n 1, 1) := by decide +kernel
theorem dL_law_367 : decode cL_law 367 = .ok (.aload_n 0, 1) := by decide +kernel
theorem dL_law_368 : decode cL_law 368 = .ok (.iload_n 3, 1) := by decide +kernel
theorem dL_law_369 : decode cL_law 369 = .ok (.iconst 1, 1) := by decide +kernel
theorem dL_law_370 : decode cL_law 370 = .ok (.iadd, 1) := by decide +kernel
theorem dL_law_371 : decode cL_law 371 = .ok (.iaload, 1) := by decide +kernel
theorem dL_law_372 : decode cL_law 372 = .ok (.invokevirtual 57, 3) := by decide +kernel
theorem dL_law_375 : decode cL_law 375 = .ok (.aload_n 2, 1) := by decide +kernel
theorem dL_law_376 : decode cL_law 376 = .ok (.aload_n 0, 1) := by decide +kernel
theorem dL_law_377 : decode cL_law 377 = .ok (.iload_n 3, 1) := by decide +kernel
theorem dL_law_378 : decode cL_law 378 = .ok (.iconst 1, 1) := by decide +kernel
theorem dL_law_379 : decode cL_law 379 = .ok (.iadd, 1) := by decide +kernel
theorem dL_law_380 : decode cL_law 380 = .ok (.iaload, 1) := by decide +kernel
theorem dL_law_381 : decode cL_law 381 = .ok (.invokevirtual 60, 3) := by decide +kernel
theorem dL_law_384 : decode cL_law 384 = .ok (.if_icmp .eq 143, 3) := by decide +kernel
theorem dL_law_387 : decode cL_law 387 = .ok (.iconst 0, 1) := by decide +kernel
theorem dL_law_388 : decode cL_law 388 = .ok (.ireturn, 1) := by decide +kernel
theorem dL_law_389 : decode cL_law 389 = .ok (.aload_n 1, 1) := by decide +kernel
theorem dL_law_390 : decode cL_law 390 = .ok (.aload_n 0, 1) := by decide +kernel
theorem dL_law_391 : decode cL_law 391 = .ok (.iload_n 3, 1) := by decide +kernel
theorem dL_law_392 : decode cL_law 392 = .ok (.iconst 1, 1) := by decide +kernel
theorem dL_law_393 : decode cL_law 393 = .ok (.iadd, 1) := by decide +kernel
theorem dL_law_394 : decode cL_law 394 = .ok (.iaload, 1) := by decide +kernel
theorem dL_law_395 : decode cL_law 395 = .ok (.invokevirtual 61, 3) := by decide +kernel
theorem dL_law_398 : decode cL_law 398 = .ok (.aload_n 2, 1) := by decide +kernel
theorem dL_law_399 : decode cL_law 399 = .ok (.aload_n 0, 1) := by decide +kernel
theorem dL_law_400 : decode cL_law 400 = .ok (.iload_n 3, 1) := by decide +kernel
theorem dL_law_401 : decode cL_law 401 = .ok (.iconst 1, 1) := by decide +kernel
theorem dL_law_402 : decode cL_law 402 = .ok (.iadd, 1) := by decide +kernel
theorem dL_law_403 : decode cL_law 403 = .ok (.iaload, 1) := by decide +kernel
theorem dL_law_404 : decode cL_law 404 = .ok (.invokevirtual 64, 3) := by decide +kernel
theorem dL_law_407 : decode cL_law 407 = .ok (.if_icmp .eq 120, 3) := by decide +kernel
theorem dL_law_410 : decode cL_law 410 = .ok (.iconst 0, 1) := by decide +kernel
theorem dL_law_411 : decode cL_law 411 = .ok (.ireturn, 1) := by decide +kernel
theorem dL_law_412 : decode cL_law 412 = .ok (.aload_n 1, 1) := by decide +kernel
theorem dL_law_413 : decode cL_law 413 = .ok (.aload_n 0, 1) := by decide +kernel
theorem dL_law_414 : decode cL_law 414 = .ok (.iload_n 3, 1) := by decide +kernel
theorem dL_law_415 : decode cL_law 415 = .ok (.iconst 1, 1) := by decide +kernel
theorem dL_law_416 : decode cL_law 416 = .ok (.iadd, 1) := by decide +kernel
theorem dL_law_417 : decode cL_law 417 = .ok (.iaload, 1) := by decide +kernel
theorem dL_law_418 : decode cL_law 418 = .ok (.aload_n 0, 1) := by decide +kernel
theorem dL_law_419 : decode cL_law 419 = .ok (.iload_n 3, 1) := by decide +kernel
theorem dL_law_420 : decode cL_law 420 = .ok (.iconst 2, 1) := by decide +kernel
theorem dL_law_421 : decode cL_law 421 = .ok (.iadd, 1) := by decide +kernel
theorem dL_law_422 : decode cL_law 422 = .ok (.iaload, 1) := by decide +kernel
theorem dL_law_423 : decode cL_law 423 = .ok (.invokevirtual 65, 3) := by decide +kernel
theorem dL_law_426 : decode cL_law 426 = .ok (.aload_n 2, 1) := by decide +kernel
theorem dL_law_427 : decode cL_law 427 = .ok (.aload_n 0, 1) := by decide +kernel
theorem dL_law_428 : decode cL_law 428 = .ok (.iload_n 3, 1) := by decide +kernel
theorem dL_law_429 : decode cL_law 429 = .ok (.iconst 1, 1) := by decide +kernel
theorem dL_law_430 : decode cL_law 430 = .ok (.iadd, 1) := by decide +kernel
theorem dL_law_431 : decode cL_law 431 = .ok (.iaload, 1) := by decide +kernel
theorem dL_law_432 : decode cL_law 432 = .ok (.aload_n 0, 1) := by decide +kernel
theorem dL_law_433 : decode cL_law 433 = .ok (.iload_n 3, 1) := by decide +kernel
theorem dL_law_434 : decode cL_law 434 = .ok (.iconst 2, 1) := by decide +kernel
theorem dL_law_435 : decode cL_law 435 = .ok (.iadd, 1) := by decide +kernel
theorem dL_law_436 : decode cL_law 436 = .ok (.iaload, 1) := by decide +kernel
theorem dL_law_437 : decode cL_law 437 = .ok (.invokevirtual 68, 3) := by decide +kernel
theorem dL_law_440 : decode cL_law 440 = .ok (.if_icmp .eq 87, 3) := by decide +kernel
theorem dL_law_443 : decode cL_law 443 = .ok (.iconst 0, 1) := by decide +kernel
theorem dL_law_444 : decode cL_law 444 = .ok (.ireturn, 1) := by decide +kernel
theorem dL_law_445 : decode cL_law 445 = .ok (.aload_n 1, 1) := by decide +kernel
theorem dL_law_446 : decode cL_law 446 = .ok (.aload_n 0, 1) := by decide +kernel
theorem dL_law_447 : decode cL_law 447 = .ok (.iload_n 3, 1) := by decide +kernel
theorem dL_law_448 : decode cL_law 448 = .ok (.iconst 1, 1) := by decide +kernel
theorem dL_law_449 : decode cL_law 449 = .ok (.iadd, 1) := by decide +kernel
theorem dL_law_450 : decode cL_law 450 = .ok (.iaload, 1) := by decide +kernel
theorem dL_law_451 : decode cL_law 451 = .ok (.invokevirtual 69, 3) := by decide +kernel
theorem dL_law_454 : decode cL_law 454 = .ok (.aload_n 2, 1) := by decide +kernel
theorem dL_law_455 : decode cL_law 455 = .ok (.aload_n 0, 1) := by decide +kernel
theorem dL_law_456 : decode cL_law 456 = .ok (.iload_n 3, 1) := by decide +kernel
theorem dL_law_457 : decode cL_law 457 = .ok (.iconst 1, 1) := by decide +kernel
theorem dL_law_458 : decode cL_law 458 = .ok (.iadd, 1) := by decide +kernel
theorem dL_law_459 : decode cL_law 459 = .ok (.iaload, 1) := by decide +kernel
theorem dL_law_460 : decode cL_law 460 = .ok (.invokevirtual 72, 3) := by decide +kernel
theorem dL_law_463 : decode cL_law 463 = .ok (.if_icmp .eq 64, 3) := by decide +kernel
theorem dL_law_466 : decode cL_law 466 = .ok (.iconst 0, 1) := by decide +kernel
theorem dL_law_467 : decode cL_law 467 = .ok (.ireturn, 1) := by decide +kernel
theorem dL_law_468 : decode cL_law 468 = .ok (.aload_n 1, 1) := by decide +kernel
theorem dL_law_469 : decode cL_law 469 = .ok (.invokevirtual 73, 3) := by decide +kernel
theorem dL_law_472 : decode cL_law 472 = .ok (.aload_n 2, 1) := by decide +kernel
theorem dL_law_473 : decode cL_law 473 = .ok (.invokevirtual 76, 3) := by decide +kernel
theorem dL_law_476 : decode cL_law 476 = .ok (.if_icmp .eq 51, 3) := by decide +kernel
theorem dL_law_479 : decode cL_law 479 = .ok (.iconst 0, 1) := by decide +kernel
theorem dL_law_480 : decode cL_law 480 = .ok (.ireturn, 1) := by decide +kernel
theorem dL_law_481 : decode cL_law 481 = .ok (.aload_n 1, 1) := by decide +kernel
theorem dL_law_482 : decode cL_law 482 = .ok (.aload_n 0, 1) := by decide +kernel
theorem dL_law_483 : decode cL_law 483 = .ok (.iload_n 3, 1) := by decide +kernel
theorem dL_law_484 : decode cL_law 484 = .ok (.iconst 1, 1) := by decide +kernel
theorem dL_law_485 : decode cL_law 485 = .ok (.iadd, 1) := by decide +kernel
theorem dL_law_486 : decode cL_law 486 = .ok (.iaload, 1) := by decide +kernel
theorem dL_law_487 : decode cL_law 487 = .ok (.invokevirtual 77, 3) := by decide +kernel
theorem dL_law_490 : decode cL_law 490 = .ok (.aload_n 2, 1) := by decide +kernel
theorem dL_law_491 : decode cL_law 491 = .ok (.aload_n 0, 1) := by decide +kernel
theorem dL_law_492 : decode cL_law 492 = .ok (.iload_n 3, 1) := by decide +kernel
theorem dL_law_493 : decode cL_law 493 = .ok (.iconst 1, 1) := by decide +kernel
theorem dL_law_494 : decode cL_law 494 = .ok (.iadd, 1) := by decide +kernel
theorem dL_law_495 : decode cL_law 495 = .ok (.iaload, 1) := by decide +kernel
theorem dL_law_496 : decode cL_law 496 = .ok (.invokevirtual 80, 3) := by decide +kernel
theorem dL_law_499 : decode cL_law 499 = .ok (.if_icmp .eq 28, 3) := by decide +kernel
theorem dL_law_502 : decode cL_law 502 = .ok (.iconst 0, 1) := by decide +kernel
theorem dL_law_503 : decode cL_law 503 = .ok (.ireturn, 1) := by decide +kernel
theorem dL_law_504 : decode cL_law 504 = .ok (.aload_n 1, 1) := by decide +kernel
theorem dL_law_505 : decode cL_law 505 = .ok (.aload_n 0, 1) := by decide +kernel
theorem dL_law_506 : decode cL_law 506 = .ok (.iload_n 3, 1) := by decide +kernel
theorem dL_law_507 : decode cL_law 507 = .ok (.iconst 1, 1) := by decide +kernel
theorem dL_law_508 : decode cL_law 508 = .ok (.iadd, 1) := by decide +kernel
theorem dL_law_509 : decode cL_law 509 = .ok (.iaload, 1) := by decide +kernel
theorem dL_law_510 : decode cL_law 510 = .ok (.invokevirtual 81, 3) := by decide +kernel
theorem dL_law_513 : decode cL_law 513 = .ok (.aload_n 2, 1) := by decide +kernel
theorem dL_law_514 : decode cL_law 514 = .ok (.aload_n 0, 1) := by decide +kernel
theorem dL_law_515 : decode cL_law 515 = .ok (.iload_n 3, 1) := by decide +kernel
theorem dL_law_516 : decode cL_law 516 = .ok (.iconst 1, 1) := by decide +kernel
theorem dL_law_517 : decode cL_law 517 = .ok (.iadd, 1) := by decide +kernel
theorem dL_law_518 : decode cL_law 518 = .ok (.iaload, 1) := by decide +kernel
theorem dL_law_519 : decode cL_law 519 = .ok (.invokevirtual 84, 3) := by decide +kernel
theorem dL_law_522 : decode cL_law 522 = .ok (.if_icmp .eq 5, 3) := by decide +kernel
theorem dL_law_525 : decode cL_law 525 = .ok (.iconst 0, 1) := by decide +kernel
theorem dL_law_526 : decode cL_law 526 = .ok (.ireturn, 1) := by decide +kernel
theorem dL_law_527 : decode cL_law 527 = .ok (.iinc 3 4, 3) := by decide +kernel
theorem dL_law_530 : decode cL_law 530 = .ok (.goto (-512), 3) := by decide +kernel
theorem dL_law_533 : decode cL_law 533 = .ok (.iconst 1, 1) := by decide +kernel
theorem dL_law_534 : decode cL_law 534 = .ok (.ireturn, 1) := by decide +kernel
theorem dX0_init_0 : decode cX0_init 0 = .ok (.aload_n 0, 1) := by decide +kernel
theorem dX0_init_1 : decode cX0_init 1 = .ok (.invokespecial 3, 3) := by decide +kernel
theorem dX0_init_4 : decode cX0_init 4 = .ok (.aload_n 0, 1) := by decide +kernel
theorem dX0_init_5 : decode cX0_init 5 = .ok (.new 9, 3) := by decide +kernel
theorem dX0_init_8 : decode cX0_init 8 = .ok (.dup, 1) := by decide +kernel
theorem dX0_init_9 : decode cX0_init 9 = .ok (.bipush 60, 2) := by decide +kernel
theorem dX0_init_11 : decode cX0_init 11 = .ok (.invokespecial 11, 3) := by decide +kernel
theorem dX0_init_14 : decode cX0_init 14 = .ok (.putfield 14, 3) := by decide +kernel
theorem dX0_init_17 : decode cX0_init 17 = .ok (.aload_n 0, 1) := by decide +kernel
theorem dX0_init_18 : decode cX0_init 18 = .ok (.bipush 60, 2) := by decide +kernel
theorem dX0_init_20 : decode cX0_init 20 = .ok (.newarray .int, 2) := by decide +kernel
theorem dX0_init_22 : decode cX0_init 22 = .ok (.putfield 20, 3) := by decide +kernel
theorem dX0_init_25 : decode cX0_init 25 = .ok (.aload_n 0, 1) := by decide +kernel
theorem dX0_init_26 : decode cX0_init 26 = .ok (.bipush 60, 2) := by decide +kernel
theorem dX0_init_28 : decode cX0_init 28 = .ok (.newarray .int, 2) := by decide +kernel
theorem dX0_init_30 : decode cX0_init 30 = .ok (.putfield 24, 3) := by decide +kernel
theorem dX0_init_33 : decode cX0_init 33 = .ok (.aload_n 0, 1) := by decide +kernel
theorem dX0_init_34 : decode cX0_init 34 = .ok (.bipush 60, 2) := by decide +kernel
theorem dX0_init_36 : decode cX0_init 36 = .ok (.newarray .int, 2) := by decide +kernel
theorem dX0_init_38 : decode cX0_init 38 = .ok (.putfield 27, 3) := by decide +kernel
theorem dX0_init_41 : decode cX0_init 41 = .ok (.aload_n 0, 1) := by decide +kernel
theorem dX0_init_42 : decode cX0_init 42 = .ok (.bipush 60, 2) := by decide +kernel
theorem dX0_init_44 : decode cX0_init 44 = .ok (.newarray .int, 2) := by decide +kernel
theorem dX0_init_46 : decode cX0_init 46 = .ok (.putfield 30, 3) := by decide +kernel
theorem dX0_init_49 : decode cX0_init 49 = .ok (.aload_n 0, 1) := by decide +kernel
theorem dX0_init_50 : decode cX0_init 50 = .ok (.iload_n 1, 1) := by decide +kernel
theorem dX0_init_51 : decode cX0_init 51 = .ok (.putfield 33, 3) := by decide +kernel
theorem dX0_init_54 : decode cX0_init 54 = .ok (.aload_n 0, 1) := by decide +kernel
theorem dX0_init_55 : decode cX0_init 55 = .ok (.getfield 20, 3) := by decide +kernel
theorem dX0_init_58 : decode cX0_init 58 = .ok (.iconst 0, 1) := by decide +kernel
theorem dX0_init_59 : decode cX0_init 59 = .ok (.iconst 1, 1) := by decide +kernel
theorem dX0_init_60 : decode cX0_init 60 = .ok (.iastore, 1) := by decide +kernel
theorem dX0_init_61 : decode cX0_init 61 = .ok (.aload_n 0, 1) := by decide +kernel
theorem dX0_init_62 : decode cX0_init 62 = .ok (.getfield 24, 3) := by decide +kernel
theorem dX0_init_65 : decode cX0_init 65 = .ok (.iconst 0, 1) := by decide +kernel
theorem dX0_init_66 : decode cX0_init 66 = .ok (.iconst 1, 1) := by decide +kernel
theorem dX0_init_67 : decode cX0_init 67 = .ok (.iastore, 1) := by decide +kernel
theorem dX0_init_68 : decode cX0_init 68 = .ok (.aload_n 0, 1) := by decide +kernel
theorem dX0_init_69 : decode cX0_init 69 = .ok (.getfield 27, 3) := by decide +kernel
theorem dX0_init_72 : decode cX0_init 72 = .ok (.iconst 0, 1) := by decide +kernel
theorem dX0_init_73 : decode cX0_init 73 = .ok (.iconst 1, 1) := by decide +kernel
theorem dX0_init_74 : decode cX0_init 74 = .ok (.iastore, 1) := by decide +kernel
theorem dX0_init_75 : decode cX0_init 75 = .ok (.return_, 1) := by decide +kernel
theorem dX0_entry_0 : decode cX0_entry 0 = .ok (.iload_n 1, 1) := by decide +kernel
theorem dX0_entry_1 : decode cX0_entry 1 = .ok (.ifCond .lt 15, 3) := by decide +kernel
theorem dX0_entry_4 : decode cX0_entry 4 = .ok (.iload_n 1, 1) := by decide +kernel
theorem dX0_entry_5 : decode cX0_entry 5 = .ok (.aload_n 0, 1) := by decide +kernel
theorem dX0_entry_6 : decode cX0_entry 6 = .ok (.arraylength, 1) := by decide +kernel
theorem dX0_entry_7 : decode cX0_entry 7 = .ok (.if_icmp .ge 9, 3) := by decide +kernel
theorem dX0_entry_10 : decode cX0_entry 10 = .ok (.aload_n 0, 1) := by decide +kernel
theorem dX0_entry_11 : decode cX0_entry 11 = .ok (.iload_n 1, 1) := by decide +kernel
theorem dX0_entry_12 : decode cX0_entry 12 = .ok (.iaload, 1) := by decide +kernel
theorem dX0_entry_13 : decode cX0_entry 13 = .ok (.goto 4, 3) := by decide +kernel
theorem dX0_entry_16 : decode cX0_entry 16 = .ok (.iconst 0, 1) := by decide +kernel
theorem dX0_entry_17 : decode cX0_entry 17 = .ok (.ireturn, 1) := by decide +kernel
theorem dX0_sizeOf_0 : decode cX0_sizeOf 0 = .ok (.aload_n 0, 1) := by decide +kernel
theorem dX0_sizeOf_1 : decode cX0_sizeOf 1 = .ok (.getfield 20, 3) := by decide +kernel
theorem dX0_sizeOf_4 : decode cX0_sizeOf 4 = .ok (.iload_n 1, 1) := by decide +kernel
theorem dX0_sizeOf_5 : decode cX0_sizeOf 5 = .ok (.invokestatic 37, 3) := by decide +kernel
theorem dX0_sizeOf_8 : decode cX0_sizeOf 8 = .ok (.ireturn, 1) := by decide +kernel
theorem dX0_needOf_0 : decode cX0_needOf 0 = .ok (.aload_n 0, 1) := by decide +kernel
theorem dX0_needOf_1 : decode cX0_needOf 1 = .ok (.getfield 24, 3) := by decide +kernel
theorem dX0_needOf_4 : decode cX0_needOf 4 = .ok (.iload_n 1, 1) := by decide +kernel
theorem dX0_needOf_5 : decode cX0_needOf 5 = .ok (.invokestatic 37, 3) := by decide +kernel
theorem dX0_needOf_8 : decode cX0_needOf 8 = .ok (.ireturn, 1) := by decide +kernel
theorem dX0_depthOf_0 : decode cX0_depthOf 0 = .ok (.aload_n 0, 1) := by decide +kernel
theorem dX0_depthOf_1 : decode cX0_depthOf 1 = .ok (.getfield 27, 3) := by decide +kernel
theorem dX0_depthOf_4 : decode cX0_depthOf 4 = .ok (.iload_n 1, 1) := by decide +kernel
theorem dX0_depthOf_5 : decode cX0_depthOf 5 = .ok (.invokestatic 37, 3) := by decide +kernel
theorem dX0_depthOf_8 : decode cX0_depthOf 8 = .ok (.ireturn, 1) := by decide +kernel
theorem dX0_valueOf_0 : decode cX0_valueOf 0 = .ok (.aload_n 0, 1) := by decide +kernel
theorem dX0_valueOf_1 : decode cX0_valueOf 1 = .ok (.getfield 30, 3) := by decide +kernel
theorem dX0_valueOf_4 : decode cX0_valueOf 4 = .ok (.iload_n 1, 1) := by decide +kernel
theorem dX0_valueOf_5 : decode cX0_valueOf 5 = .ok (.invokestatic 37, 3) := by decide +kernel
theorem dX0_valueOf_8 : decode cX0_valueOf 8 = .ok (.ireturn, 1) := by decide +kernel
theorem dX0_rightOf_0 : decode cX0_rightOf 0 = .ok (.iload_n 1, 1) := by decide +kernel
theorem dX0_rightOf_1 : decode cX0_rightOf 1 = .ok (.iconst 1, 1) := by decide +kernel
theorem dX0_rightOf_2 : decode cX0_rightOf 2 = .ok (.iadd, 1) := by decide +kernel
theorem dX0_rightOf_3 : decode cX0_rightOf 3 = .ok (.aload_n 0, 1) := by decide +kernel
theorem dX0_rightOf_4 : decode cX0_rightOf 4 = .ok (.iload_n 1, 1) := by decide +kernel
theorem dX0_rightOf_5 : decode cX0_rightOf 5 = .ok (.iconst 1, 1) := by decide +kernel
theorem dX0_rightOf_6 : decode cX0_rightOf 6 = .ok (.iadd, 1) := by decide +kernel
theorem dX0_rightOf_7 : decode cX0_rightOf 7 = .ok (.invokevirtual 41, 3) := by decide +kernel
theorem dX0_rightOf_10 : decode cX0_rightOf 10 = .ok (.iadd, 1) := by decide +kernel
theorem dX0_rightOf_11 : decode cX0_rightOf 11 = .ok (.ireturn, 1) := by decide +kernel
theorem dX0_pairs_0 : decode cX0_pairs 0 = .ok (.iconst 0, 1) := by decide +kernel
theorem dX0_pairs_1 : decode cX0_pairs 1 = .ok (.istore_n 1, 1) := by decide +kernel
theorem dX0_pairs_2 : decode cX0_pairs 2 = .ok (.iconst 0, 1) := by decide +kernel
theorem dX0_pairs_3 : decode cX0_pairs 3 = .ok (.istore_n 2, 1) := by decide +kernel
theorem dX0_pairs_4 : decode cX0_pairs 4 = .ok (.iload_n 2, 1) := by decide +kernel
theorem dX0_pairs_5 : decode cX0_pairs 5 = .ok (.aload_n 0, 1) := by decide +kernel
theorem dX0_pairs_6 : decode cX0_pairs 6 = .ok (.getfield 14, 3) := by decide +kernel
theorem dX0_pairs_9 : decode cX0_pairs 9 = .ok (.getfield 45, 3) := by decide +kernel
theorem dX0_pairs_12 : decode cX0_pairs 12 = .ok (.if_icmp .ge 32, 3) := by decide +kernel
theorem dX0_pairs_15 : decode cX0_pairs 15 = .ok (.iload_n 1, 1) := by decide +kernel
theorem dX0_pairs_16 : decode cX0_pairs 16 = .ok (.aload_n 0, 1) := by decide +kernel
theorem dX0_pairs_17 : decode cX0_pairs 17 = .ok (.getfield 14, 3) := by decide +kernel
theorem dX0_pairs_20 : decode cX0_pairs 20 = .ok (.iload_n 2, 1) := by decide +kernel
theorem dX0_pairs_21 : decode cX0_pairs 21 = .ok (.invokevirtual 48, 3) := by decide +kernel
theorem dX0_pairs_24 : decode cX0_pairs 24 = .ok (.invokestatic 51, 3) := by decide +kernel
theorem dX0_pairs_27 : decode cX0_pairs 27 = .ok (.iconst 2, 1) := by decide +kernel
theorem dX0_pairs_28 : decode cX0_pairs 28 = .ok (.if_icmp .ne 7, 3) := by decide +kernel
theorem dX0_pairs_31 : decode cX0_pairs 31 = .ok (.iconst 1, 1) := by decide +kernel
theorem dX0_pairs_32 : decode cX0_pairs 32 = .ok (.goto 4, 3) := by decide +kernel
theorem dX0_pairs_35 : decode cX0_pairs 35 = .ok (.iconst 0, 1) := by decide +kernel
theorem dX0_pairs_36 : decode cX0_pairs 36 = .ok (.iadd, 1) := by decide +kernel
theorem dX0_pairs_37 : decode cX0_pairs 37 = .ok (.istore_n 1, 1) := by decide +kernel
theorem dX0_pairs_38 : decode cX0_pairs 38 = .ok (.iinc 2 1, 3) := by decide +kernel
theorem dX0_pairs_41 : decode cX0_pairs 41 = .ok (.goto (-37), 3) := by decide +kernel
theorem dX0_pairs_44 : decode cX0_pairs 44 = .ok (.iload_n 1, 1) := by decide +kernel
theorem dX0_pairs_45 : decode cX0_pairs 45 = .ok (.ireturn, 1) := by decide +kernel
theorem dX0_make_0 : decode cX0_make 0 = .ok (.aload_n 0, 1) := by decide +kernel
theorem dX0_make_1 : decode cX0_make 1 = .ok (.getfield 14, 3) := by decide +kernel
theorem dX0_make_4 : decode cX0_make 4 = .ok (.iconst 0, 1) := by decide +kernel
theorem dX0_make_5 : decode cX0_make 5 = .ok (.putfield 45, 3) := by decide +kernel
theorem dX0_make_8 : decode cX0_make 8 = .ok (.iconst 0, 1) := by decide +kernel
theorem dX0_make_9 : decode cX0_make 9 = .ok (.istore 4, 2) := by decide +kernel
theorem dX0_make_11 : decode cX0_make 11 = .ok (.iload 4, 2) := by decide +kernel
theorem dX0_make_13 : decode cX0_make 13 = .ok (.aload_n 1, 1) := by decide +kernel
theorem dX0_make_14 : decode cX0_make 14 = .ok (.getfield 45, 3) := by decide +kernel
theorem dX0_make_17 : decode cX0_make 17 = .ok (.if_icmp .ge 103, 3) := by decide +kernel
theorem dX0_make_20 : decode cX0_make 20 = .ok (.aload_n 1, 1) := by decide +kernel
theorem dX0_make_21 : decode cX0_make 21 = .ok (.iload 4, 2) := by decide +kernel
theorem dX0_make_23 : decode cX0_make 23 = .ok (.invokevirtual 54, 3) := by decide +kernel
theorem dX0_make_26 : decode cX0_make 26 = .ok (.istore 5, 2) := by decide +kernel
theorem dX0_make_28 : decode cX0_make 28 = .ok (.aload_n 1, 1) := by decide +kernel
theorem dX0_make_29 : decode cX0_make 29 = .ok (.iload 4, 2) := by decide +kernel
theorem dX0_make_31 : decode cX0_make 31 = .ok (.invokevirtual 48, 3) := by decide +kernel
theorem dX0_make_34 : decode cX0_make 34 = .ok (.iconst 2, 1) := by decide +kernel
theorem dX0_make_35 : decode cX0_make 35 = .ok (.if_icmp .ne 7, 3) := by decide +kernel
theorem dX0_make_38 : decode cX0_make 38 = .ok (.iconst 1, 1) := by decide +kernel
theorem dX0_make_39 : decode cX0_make 39 = .ok (.goto 4, 3) := by decide +kernel
theorem dX0_make_42 : decode cX0_make 42 = .ok (.iconst 0, 1) := by decide +kernel
theorem dX0_make_43 : decode cX0_make 43 = .ok (.istore 6, 2) := by decide +kernel
theorem dX0_make_45 : decode cX0_make 45 = .ok (.iload 6, 2) := by decide +kernel
theorem dX0_make_47 : decode cX0_make 47 = .ok (.ifCond .eq 51, 3) := by decide +kernel
theorem dX0_make_50 : decode cX0_make 50 = .ok (.iload 5, 2) := by decide +kernel
theorem dX0_make_52 : decode cX0_make 52 = .ok (.ifCond .lt 46, 3) := by decide +kernel
theorem dX0_make_55 : decode cX0_make 55 = .ok (.iload 5, 2) := by decide +kernel
theorem dX0_make_57 : decode cX0_make 57 = .ok (.aload_n 0, 1) := by decide +kernel
theorem dX0_make_58 : decode cX0_make 58 = .ok (.getfield 33, 3) := by decide +kernel
theorem dX0_make_61 : decode cX0_make 61 = .ok (.if_icmp .ge 37, 3) := by decide +kernel
theorem dX0_make_64 : decode cX0_make 64 = .ok (.iload 5, 2) := by decide +kernel
theorem dX0_make_66 : decode cX0_make 66 = .ok (.aload_n 3, 1) := by decide +kernel
theorem dX0_make_67 : decode cX0_make 67 = .ok (.arraylength, 1) := by decide +kernel
theorem dX0_make_68 : decode cX0_make 68 = .ok (.if_icmp .ge 30, 3) := by decide +kernel
theorem dX0_make_71 : decode cX0_make 71 = .ok (.aload_n 3, 1) := by decide +kernel
theorem dX0_make_72 : decode cX0_make 72 = .ok (.iload 5, 2) := by decide +kernel
theorem dX0_make_74 : decode cX0_make 74 = .ok (.aaload, 1) := by decide +kernel
theorem dX0_make_75 : decode cX0_make 75 = .ok (.getfield 57, 3) := by decide +kernel
theorem dX0_make_78 : decode cX0_make 78 = .ok (.ifCond .eq 20, 3) := by decide +kernel
theorem dX0_make_81 : decode cX0_make 81 = .ok (.aload_n 0, 1) := by decide +kernel
theorem dX0_make_82 : decode cX0_make 82 = .ok (.getfield 14, 3) := by decide +kernel
theorem dX0_make_85 : decode cX0_make 85 = .ok (.aload_n 3, 1) := by decide +kernel
theorem dX0_make_86 : decode cX0_make 86 = .ok (.iload 5, 2) := by decide +kernel
theorem dX0_make_88 : decode cX0_make 88 = .ok (.aaload, 1) := by decide +kernel
theorem dX0_make_89 : decode cX0_make 89 = .ok (.getfield 14, 3) := by decide +kernel
theorem dX0_make_92 : decode cX0_make 92 = .ok (.invokevirtual 61, 3) := by decide +kernel
theorem dX0_make_95 : decode cX0_make 95 = .ok (.goto 19, 3) := by decide +kernel
theorem dX0_make_98 : decode cX0_make 98 = .ok (.aload_n 0, 1) := by decide +kernel
theorem dX0_make_99 : decode cX0_make 99 = .ok (.getfield 14, 3) := by decide +kernel
theorem dX0_make_102 : decode cX0_make 102 = .ok (.aload_n 1, 1) := by decide +kernel
theorem dX0_make_103 : decode cX0_make 103 = .ok (.iload 4, 2) := by decide +kernel
theorem dX0_make_105 : decode cX0_make 105 = .ok (.invokevirtual 48, 3) := by decide +kernel
theorem dX0_make_108 : decode cX0_make 108 = .ok (.iload 5, 2) := by decide +kernel
theorem dX0_make_110 : decode cX0_make 110 = .ok (.invokevirtual 65, 3) := by decide +kernel
theorem dX0_make_113 : decode cX0_make 113 = .ok (.pop, 1) := by decide +kernel
theorem dX0_make_114 : decode cX0_make 114 = .ok (.iinc 4 1, 3) := by decide +kernel
theorem dX0_make_117 : decode cX0_make 117 = .ok (.goto (-106), 3) := by decide +kernel
theorem dX0_make_120 : decode cX0_make 120 = .ok (.aload_n 0, 1) := by decide +kernel
theorem dX0_make_121 : decode cX0_make 121 = .ok (.iload_n 2, 1) := by decide +kernel
theorem dX0_make_122 : decode cX0_make 122 = .ok (.ifCond .eq 41, 3) := by decide +kernel
theorem dX0_make_125 : decode cX0_make 125 = .ok (.aload_n 0, 1) := by decide +kernel
theorem dX0_make_126 : decode cX0_make 126 = .ok (.getfield 14, 3) := by decide +kernel
theorem dX0_make_129 : decode cX0_make 129 = .ok (.getfield 45, 3) := by decide +kernel
theorem dX0_make_132 : decode cX0_make 132 = .ok (.iconst 3, 1) := by decide +kernel
theorem dX0_make_133 : decode cX0_make 133 = .ok (.if_icmp .gt 30, 3) := by decide +kernel
theorem dX0_make_136 : decode cX0_make 136 = .ok (.aload_n 0, 1) := by decide +kernel
theorem dX0_make_137 : decode cX0_make 137 = .ok (.getfield 14, 3) := by decide +kernel
theorem dX0_make_140 : decode cX0_make 140 = .ok (.bipush 6, 2) := by decide +kernel
theorem dX0_make_142 : decode cX0_make 142 = .ok (.invokevirtual 69, 3) := by decide +kernel
theorem dX0_make_145 : decode cX0_make 145 = .ok (.ifCond .ne 18, 3) := by decide +kernel
theorem dX0_make_148 : decode cX0_make 148 = .ok (.aload_n 0, 1) := by decide +kernel
theorem dX0_make_149 : decode cX0_make 149 = .ok (.getfield 14, 3) := by decide +kernel
theorem dX0_make_152 : decode cX0_make 152 = .ok (.iconst 2, 1) := by decide +kernel
theorem dX0_make_153 : decode cX0_make 153 = .ok (.invokevirtual 69, 3) := by decide +kernel
theorem dX0_make_156 : decode cX0_make 156 = .ok (.ifCond .ne 7, 3) := by decide +kernel
theorem dX0_make_159 : decode cX0_make 159 = .ok (.iconst 1, 1) := by decide +kernel
theorem dX0_make_160 : decode cX0_make 160 = .ok (.goto 4, 3) := by decide +kernel
theorem dX0_make_163 : decode cX0_make 163 = .ok (.iconst 0, 1) := by decide +kernel
theorem dX0_make_164 : decode cX0_make 164 = .ok (.putfield 57, 3) := by decide +kernel
theorem dX0_make_167 : decode cX0_make 167 = .ok (.return_, 1) := by decide +kernel
theorem dX0_measure_0 : decode cX0_measure 0 = .ok (.aload_n 0, 1) := by decide +kernel
theorem dX0_measure_1 : decode cX0_measure 1 = .ok (.getfield 14, 3) := by decide +kernel
theorem dX0_measure_4 : decode cX0_measure 4 = .ok (.getfield 45, 3) := by decide +kernel
theorem dX0_measure_7 : decode cX0_measure 7 = .ok (.bipush 60, 2) := by decide +kernel
theorem dX0_measure_9 : decode cX0_measure 9 = .ok (.invokestatic 73, 3) := by decide +kernel
theorem dX0_measure_12 : decode cX0_measure 12 = .ok (.iconst 1, 1) := by decide +kernel
theorem dX0_measure_13 : decode cX0_measure 13 = .ok (.isub, 1) := by decide +kernel
theorem dX0_measure_14 : decode cX0_measure 14 = .ok (.istore_n 3, 1) := by decide +kernel
theorem dX0_measure_15 : decode cX0_measure 15 = .ok (.iload_n 3, 1) := by decide +kernel
theorem dX0_measure_16 : decode cX0_measure 16 = .ok (.ifCond .lt 199, 3) := by decide +kernel
theorem dX0_measure_19 : decode cX0_measure 19 = .ok (.iload_n 3, 1) := by decide +kernel
theorem dX0_measure_20 : decode cX0_measure 20 = .ok (.iconst 1, 1) := by decide +kernel
theorem dX0_measure_21 : decode cX0_measure 21 = .ok (.iadd, 1) := by decide +kernel
theorem dX0_measure_22 : decode cX0_measure 22 = .ok (.istore 4, 2) := by decide +kernel
theorem dX0_measure_24 : decode cX0_measure 24 = .ok (.aload_n 0, 1) := by decide +kernel
theorem dX0_measure_25 : decode cX0_measure 25 = .ok (.getfield 14, 3) := by decide +kernel
theorem dX0_measure_28 : decode cX0_measure 28 = .ok (.iload_n 3, 1) := by decide +kernel
theorem dX0_measure_29 : decode cX0_measure 29 = .ok (.invokevirtual 48, 3) := by decide +kernel
theorem dX0_measure_32 : decode cX0_measure 32 = .ok (.invokestatic 51, 3) := by decide +kernel
theorem dX0_measure_35 : decode cX0_measure 35 = .ok (.istore 5, 2) := by decide +kernel
theorem dX0_measure_37 : decode cX0_measure 37 = .ok (.iload 5, 2) := by decide +kernel
theorem dX0_measure_39 : decode cX0_measure 39 = .ok (.ifCond .ne 27, 3) := by decide +kernel
theorem dX0_measure_42 : decode cX0_measure 42 = .ok (.aload_n 0, 1) := by decide +kernel
theorem dX0_measure_43 : decode cX0_measure 43 = .ok (.iload_n 3, 1) := by decide +kernel
theorem dX0_measure_44 : decode cX0_measure 44 = .ok (.iconst 1, 1) := by decide +kernel
theorem dX0_measure_45 : decode cX0_measure 45 = .ok (.iconst 1, 1) := by decide +kernel
theorem dX0_measure_46 : decode cX0_measure 46 = .ok (.iconst 1, 1) := by decide +kernel
theorem dX0_measure_47 : decode cX0_measure 47 = .ok (.invokevirtual 79, 3) := by decide +kernel
theorem dX0_measure_50 : decode cX0_measure 50 = .ok (.aload_n 0, 1) := by decide +kernel
theorem dX0_measure_51 : decode cX0_measure 51 = .ok (.getfield 30, 3) := by decide +kernel
theorem dX0_measure_54 : decode cX0_measure 54 = .ok (.iload_n 3, 1) := by decide +kernel
theorem dX0_measure_55 : decode cX0_measure 55 = .ok (.aload_n 0, 1) := by decide +kernel
theorem dX0_measure_56 : decode cX0_measure 56 = .ok (.iload_n 3, 1) := by decide +kernel
theorem dX0_measure_57 : decode cX0_measure 57 = .ok (.aload_n 1, 1) := by decide +kernel
theorem dX0_measure_58 : decode cX0_measure 58 = .ok (.aload_n 2, 1) := by decide +kernel
theorem dX0_measure_59 : decode cX0_measure 59 = .ok (.invokevirtual 83, 3) := by decide +kernel
theorem dX0_measure_62 : decode cX0_measure 62 = .ok (.iastore, 1) := by decide +kernel
theorem dX0_measure_63 : decode cX0_measure 63 = .ok (.goto 146, 3) := by decide +kernel
theorem dX0_measure_66 : decode cX0_measure 66 = .ok (.iload 5, 2) := by decide +kernel
theorem dX0_measure_68 : decode cX0_measure 68 = .ok (.iconst 1, 1) := by decide +kernel
theorem dX0_measure_69 : decode cX0_measure 69 = .ok (.if_icmp .ne 46, 3) := by decide +kernel
theorem dX0_measure_72 : decode cX0_measure 72 = .ok (.aload_n 0, 1) := by decide +kernel
theorem dX0_measure_73 : decode cX0_measure 73 = .ok (.iload_n 3, 1) := by decide +kernel
theorem dX0_measure_74 : decode cX0_measure 74 = .ok (.aload_n 0, 1) := by decide +kernel
theorem dX0_measure_75 : decode cX0_measure 75 = .ok (.iload 4, 2) := by decide +kernel
theorem dX0_measure_77 : decode cX0_measure 77 = .ok (.invokevirtual 41, 3) := by decide +kernel
theorem dX0_measure_80 : decode cX0_measure 80 = .ok (.iconst 1, 1) := by decide +kernel
theorem dX0_measure_81 : decode cX0_measure 81 = .ok (.iadd, 1) := by decide +kernel
theorem dX0_measure_82 : decode cX0_measure 82 = .ok (.aload_n 0, 1) := by decide +kernel
theorem dX0_measure_83 : decode cX0_measure 83 = .ok (.iload 4, 2) := by decide +kernel
theorem dX0_measure_85 : decode cX0_measure 85 = .ok (.invokevirtual 87, 3) := by decide +kernel
theorem dX0_measure_88 : decode cX0_measure 88 = .ok (.aload_n 0, 1) := by decide +kernel
theorem dX0_measure_89 : decode cX0_measure 89 = .ok (.iload 4, 2) := by decide +kernel
theorem dX0_measure_91 : decode cX0_measure 91 = .ok (.invokevirtual 90, 3) := by decide +kernel
theorem dX0_measure_94 : decode cX0_measure 94 = .ok (.iconst 1, 1) := by decide +kernel
theorem dX0_measure_95 : decode cX0_measure 95 = .ok (.iadd, 1) := by decide +kernel
theorem dX0_measure_96 : decode cX0_measure 96 = .ok (.invokevirtual 79, 3) := by decide +kernel
theorem dX0_measure_99 : decode cX0_measure 99 = .ok (.aload_n 0, 1) := by decide +kernel
theorem dX0_measure_100 : decode cX0_measure 100 = .ok (.getfield 30, 3) := by decide +kernel
theorem dX0_measure_103 : decode cX0_measure 103 = .ok (.iload_n 3, 1) := by decide +kernel
theorem dX0_measure_104 : decode cX0_measure 104 = .ok (.aload_n 0, 1) := by decide +kernel
theorem dX0_measure_105 : decode cX0_measure 105 = .ok (.iload 4, 2) := by decide +kernel
theorem dX0_measure_107 : decode cX0_measure 107 = .ok (.invokevirtual 93, 3) := by decide +kernel
theorem dX0_measure_110 : decode cX0_measure 110 = .ok (.ineg, 1) := by decide +kernel
theorem dX0_measure_111 : decode cX0_measure 111 = .ok (.iastore, 1) := by decide +kernel
theorem dX0_measure_112 : decode cX0_measure 112 = .ok (.goto 97, 3) := by decide +kernel
theorem dX0_measure_115 : decode cX0_measure 115 = .ok (.aload_n 0, 1) := by decide +kernel
theorem dX0_measure_116 : decode cX0_measure 116 = .ok (.iload_n 3, 1) := by decide +kernel
theorem dX0_measure_117 : decode cX0_measure 117 = .ok (.invokevirtual 96, 3) := by decide +kernel
theorem dX0_measure_120 : decode cX0_measure 120 = .ok (.istore 6, 2) := by decide +kernel
theorem dX0_measure_122 : decode cX0_measure 122 = .ok (.aload_n 0, 1) := by decide +kernel
theorem dX0_measure_123 : decode cX0_measure 123 = .ok (.iload 4, 2) := by decide +kernel
theorem dX0_measure_125 : decode cX0_measure 125 = .ok (.invokevirtual 90, 3) := by decide +kernel
theorem dX0_measure_128 : decode cX0_measure 128 = .ok (.aload_n 0, 1) := by decide +kernel
theorem dX0_measure_129 : decode cX0_measure 129 = .ok (.iload 6, 2) := by decide +kernel
theorem dX0_measure_131 : decode cX0_measure 131 = .ok (.invokevirtual 90, 3) := by decide +kernel
theorem dX0_measure_134 : decode cX0_measure 134 = .ok (.invokestatic 99, 3) := by decide +kernel
theorem dX0_measure_137 : decode cX0_measure 137 = .ok (.iconst 1, 1) := by decide +kernel
theorem dX0_measure_138 : decode cX0_measure 138 = .ok (.iadd, 1) := by decide +kernel
theorem dX0_measure_139 : decode cX0_measure 139 = .ok (.istore 7, 2) := by decide +kernel
theorem dX0_measure_141 : decode cX0_measure 141 = .ok (.aload_n 0, 1) := by decide +kernel
theorem dX0_measure_142 : decode cX0_measure 142 = .ok (.iload_n 3, 1) := by decide +kernel
theorem dX0_measure_143 : decode cX0_measure 143 = .ok (.aload_n 0, 1) := by decide +kernel
theorem dX0_measure_144 : decode cX0_measure 144 = .ok (.iload 4, 2) := by decide +kernel
theorem dX0_measure_146 : decode cX0_measure 146 = .ok (.invokevirtual 41, 3) := by decide +kernel
theorem dX0_measure_149 : decode cX0_measure 149 = .ok (.aload_n 0, 1) := by decide +kernel
theorem dX0_measure_150 : decode cX0_measure 150 = .ok (.iload 6, 2) := by decide +kernel
theorem dX0_measure_152 : decode cX0_measure 152 = .ok (.invokevirtual 41, 3) := by decide +kernel
theorem dX0_measure_155 : decode cX0_measure 155 = .ok (.iadd, 1) := by decide +kernel
theorem dX0_measure_156 : decode cX0_measure 156 = .ok (.iconst 1, 1) := by decide +kernel
theorem dX0_measure_157 : decode cX0_measure 157 = .ok (.iadd, 1) := by decide +kernel
theorem dX0_measure_158 : decode cX0_measure 158 = .ok (.aload_n 0, 1) := by decide +kernel
theorem dX0_measure_159 : decode cX0_measure 159 = .ok (.iload 4, 2) := by decide +kernel
theorem dX0_measure_161 : decode cX0_measure 161 = .ok (.invokevirtual 87, 3) := by decide +kernel
theorem dX0_measure_164 : decode cX0_measure 164 = .ok (.aload_n 0, 1) := by decide +kernel
theorem dX0_measure_165 : decode cX0_measure 165 = .ok (.iload 6, 2) := by decide +kernel
theorem dX0_measure_167 : decode cX0_measure 167 = .ok (.invokevirtual 87, 3) := by decide +kernel
theorem dX0_measure_170 : decode cX0_measure 170 = .ok (.invokestatic 102, 3) := by decide +kernel
theorem dX0_measure_173 : decode cX0_measure 173 = .ok (.iload 7, 2) := by decide +kernel
theorem dX0_measure_175 : decode cX0_measure 175 = .ok (.invokevirtual 79, 3) := by decide +kernel
theorem dX0_measure_178 : decode cX0_measure 178 = .ok (.aload_n 0, 1) := by decide +kernel
theorem dX0_measure_179 : decode cX0_measure 179 = .ok (.getfield 30, 3) := by decide +kernel
theorem dX0_measure_182 : decode cX0_measure 182 = .ok (.iload_n 3, 1) := by decide +kernel
theorem dX0_measure_183 : decode cX0_measure 183 = .ok (.aload_n 0, 1) := by decide +kernel
theorem dX0_measure_184 : decode cX0_measure 184 = .ok (.getfield 14, 3) := by decide +kernel
theorem dX0_measure_187 : decode cX0_measure 187 = .ok (.iload_n 3, 1) := by decide +kernel
theorem dX0_measure_188 : decode cX0_measure 188 = .ok (.invokevirtual 48, 3) := by decide +kernel
theorem dX0_measure_191 : decode cX0_measure 191 = .ok (.aload_n 0, 1) := by decide +kernel
theorem dX0_measure_192 : decode cX0_measure 192 = .ok (.iload 4, 2) := by decide +kernel
theorem dX0_measure_194 : decode cX0_measure 194 = .ok (.invokevirtual 93, 3) := by decide +kernel
theorem dX0_measure_197 : decode cX0_measure 197 = .ok (.i2l, 1) := by decide +kernel
theorem dX0_measure_198 : decode cX0_measure 198 = .ok (.aload_n 0, 1) := by decide +kernel
theorem dX0_measure_199 : decode cX0_measure 199 = .ok (.iload 6, 2) := by decide +kernel
theorem dX0_measure_201 : decode cX0_measure 201 = .ok (.invokevirtual 93, 3) := by decide +kernel
theorem dX0_measure_204 : decode cX0_measure 204 = .ok (.i2l, 1) := by decide +kernel
theorem dX0_measure_205 : decode cX0_measure 205 = .ok (.invokestatic 105, 3) := by decide +kernel
theorem dX0_measure_208 : decode cX0_measure 208 = .ok (.iastore, 1) := by decide +kernel
theorem dX0_measure_209 : decode cX0_measure 209 = .ok (.iinc 3 (-1), 3) := by decide +kernel
theorem dX0_measure_212 : decode cX0_measure 212 = .ok (.goto (-197), 3) := by decide +kernel
theorem dX0_measure_215 : decode cX0_measure 215 = .ok (.return_, 1) := by decide +kernel
theorem dX0_put_0 : decode cX0_put 0 = .ok (.iload_n 1, 1) := by decide +kernel
theorem dX0_put_1 : decode cX0_put 1 = .ok (.ifCond .lt 31, 3) := by decide +kernel
theorem dX0_put_4 : decode cX0_put 4 = .ok (.iload_n 1, 1) := by decide +kernel
theorem dX0_put_5 : decode cX0_put 5 = .ok (.bipush 60, 2) := by decide +kernel
theorem dX0_put_7 : decode cX0_put 7 = .ok (.if_icmp .ge 25, 3) := by decide +kernel
theorem dX0_put_10 : decode cX0_put 10 = .ok (.aload_n 0, 1) := by decide +kernel
theorem dX0_put_11 : decode cX0_put 11 = .ok (.getfield 20, 3) := by decide +kernel
theorem dX0_put_14 : decode cX0_put 14 = .ok (.iload_n 1, 1) := by decide +kernel
theorem dX0_put_15 : decode cX0_put 15 = .ok (.iload_n 2, 1) := by decide +kernel
theorem dX0_put_16 : decode cX0_put 16 = .ok (.iastore, 1) := by decide +kernel
theorem dX0_put_17 : decode cX0_put 17 = .ok (.aload_n 0, 1) := by decide +kernel
theorem dX0_put_18 : decode cX0_put 18 = .ok (.getfield 24, 3) := by decide +kernel
theorem dX0_put_21 : decode cX0_put 21 = .ok (.iload_n 1, 1) := by decide +kernel
theorem dX0_put_22 : decode cX0_put 22 = .ok (.iload_n 3, 1) := by decide +kernel
theorem dX0_put_23 : decode cX0_put 23 = .ok (.iastore, 1) := by decide +kernel
theorem dX0_put_24 : decode cX0_put 24 = .ok (.aload_n 0, 1) := by decide +kernel
theorem dX0_put_25 : decode cX0_put 25 = .ok (.getfield 27, 3) := by decide +kernel
theorem dX0_put_28 : decode cX0_put 28 = .ok (.iload_n 1, 1) := by decide +kernel
theorem dX0_put_29 : decode cX0_put 29 = .ok (.iload 4, 2) := by decide +kernel
theorem dX0_put_31 : decode cX0_put 31 = .ok (.iastore, 1) := by decide +kernel
theorem dX0_put_32 : decode cX0_put 32 = .ok (.return_, 1) := by decide +kernel
theorem dX0_needOfPair_0 : decode cX0_needOfPair 0 = .ok (.iload_n 0, 1) := by decide +kernel
theorem dX0_needOfPair_1 : decode cX0_needOfPair 1 = .ok (.iload_n 1, 1) := by decide +kernel
theorem dX0_needOfPair_2 : decode cX0_needOfPair 2 = .ok (.if_icmp .ne 9, 3) := by decide +kernel
theorem dX0_needOfPair_5 : decode cX0_needOfPair 5 = .ok (.iload_n 0, 1) := by decide +kernel
theorem dX0_needOfPair_6 : decode cX0_needOfPair 6 = .ok (.iconst 1, 1) := by decide +kernel
theorem dX0_needOfPair_7 : decode cX0_needOfPair 7 = .ok (.iadd, 1) := by decide +kernel
theorem dX0_needOfPair_8 : decode cX0_needOfPair 8 = .ok (.goto 8, 3) := by decide +kernel
theorem dX0_needOfPair_11 : decode cX0_needOfPair 11 = .ok (.iload_n 0, 1) := by decide +kernel
theorem dX0_needOfPair_12 : decode cX0_needOfPair 12 = .ok (.iload_n 1, 1) := by decide +kernel
theorem dX0_needOfPair_13 : decode cX0_needOfPair 13 = .ok (.invokestatic 99, 3) := by decide +kernel
theorem dX0_needOfPair_16 : decode cX0_needOfPair 16 = .ok (.ireturn, 1) := by decide +kernel
theorem dX0_leafValue_0 : decode cX0_leafValue 0 = .ok (.aload_n 0, 1) := by decide +kernel
theorem dX0_leafValue_1 : decode cX0_leafValue 1 = .ok (.getfield 14, 3) := by decide +kernel
theorem dX0_leafValue_4 : decode cX0_leafValue 4 = .ok (.iload_n 1, 1) := by decide +kernel
theorem dX0_leafValue_5 : decode cX0_leafValue 5 = .ok (.invokevirtual 48, 3) := by decide +kernel
theorem dX0_leafValue_8 : decode cX0_leafValue 8 = .ok (.istore 4, 2) := by decide +kernel
theorem dX0_leafValue_10 : decode cX0_leafValue 10 = .ok (.aload_n 0, 1) := by decide +kernel
theorem dX0_leafValue_11 : decode cX0_leafValue 11 = .ok (.getfield 14, 3) := by decide +kernel
theorem dX0_leafValue_14 : decode cX0_leafValue 14 = .ok (.iload_n 1, 1) := by decide +kernel
theorem dX0_leafValue_15 : decode cX0_leafValue 15 = .ok (.invokevirtual 54, 3) := by decide +kernel
theorem dX0_leafValue_18 : decode cX0_leafValue 18 = .ok (.istore 5, 2) := by decide +kernel
theorem dX0_leafValue_20 : decode cX0_leafValue 20 = .ok (.iload 4, 2) := by decide +kernel
theorem dX0_leafValue_22 : decode cX0_leafValue 22 = .ok (.iconst 1, 1) := by decide +kernel
theorem dX0_leafValue_23 : decode cX0_leafValue 23 = .ok (.if_icmp .ne 10, 3) := by decide +kernel
theorem dX0_leafValue_26 : decode cX0_leafValue 26 = .ok (.aload_n 2, 1) := by decide +kernel
theorem dX0_leafValue_27 : decode cX0_leafValue 27 = .ok (.iload 5, 2) := by decide +kernel
theorem dX0_leafValue_29 : decode cX0_leafValue 29 = .ok (.invokestatic 37, 3) := by decide +kernel
theorem dX0_leafValue_32 : decode cX0_leafValue 32 = .ok (.ireturn, 1) := by decide +kernel
theorem dX0_leafValue_33 : decode cX0_leafValue 33 = .ok (.iload 4, 2) := by decide +kernel
theorem dX0_leafValue_35 : decode cX0_leafValue 35 = .ok (.iconst 2, 1) := by decide +kernel
theorem dX0_leafValue_36 : decode cX0_leafValue 36 = .ok (.if_icmp .ne 28, 3) := by decide +kernel
theorem dX0_leafValue_39 : decode cX0_leafValue 39 = .ok (.iload 5, 2) := by decide +kernel
theorem dX0_leafValue_41 : decode cX0_leafValue 41 = .ok (.ifCond .lt 21, 3) := by decide +kernel
theorem dX0_leafValue_44 : decode cX0_leafValue 44 = .ok (.iload 5, 2) := by decide +kernel
theorem dX0_leafValue_46 : decode cX0_leafValue 46 = .ok (.aload_n 3, 1) := by decide +kernel
theorem dX0_leafValue_47 : decode cX0_leafValue 47 = .ok (.arraylength, 1) := by decide +kernel
theorem dX0_leafValue_48 : decode cX0_leafValue 48 = .ok (.if_icmp .ge 14, 3) := by decide +kernel
theorem dX0_leafValue_51 : decode cX0_leafValue 51 = .ok (.aload_n 3, 1) := by decide +kernel
theorem dX0_leafValue_52 : decode cX0_leafValue 52 = .ok (.iload 5, 2) := by decide +kernel
theorem dX0_leafValue_54 : decode cX0_leafValue 54 = .ok (.aaload, 1) := by decide +kernel
theorem dX0_leafValue_55 : decode cX0_leafValue 55 = .ok (.iconst 0, 1) := by decide +kernel
theorem dX0_leafValue_56 : decode cX0_leafValue 56 = .ok (.invokevirtual 93, 3) := by decide +kernel
theorem dX0_leafValue_59 : decode cX0_leafValue 59 = .ok (.goto 4, 3) := by decide +kernel
theorem dX0_leafValue_62 : decode cX0_leafValue 62 = .ok (.iconst 0, 1) := by decide +kernel
theorem dX0_leafValue_63 : decode cX0_leafValue 63 = .ok (.ireturn, 1) := by decide +kernel
theorem dX0_leafValue_64 : decode cX0_leafValue 64 = .ok (.iload 5, 2) := by decide +kernel
theorem dX0_leafValue_66 : decode cX0_leafValue 66 = .ok (.ireturn, 1) := by decide +kernel
theorem dX0_operate_0 : decode cX0_operate 0 = .ok (.lload_n 1, 1) := by decide +kernel
theorem dX0_operate_1 : decode cX0_operate 1 = .ok (.lload_n 3, 1) := by decide +kernel
theorem dX0_operate_2 : decode cX0_operate 2 = .ok (.lmul, 1) := by decide +kernel
theorem dX0_operate_3 : decode cX0_operate 3 = .ok (.lstore 5, 2) := by decide +kernel
theorem dX0_operate_5 : decode cX0_operate 5 = .ok (.iload_n 0, 1) := by decide +kernel
theorem dX0_operate_6 : decode cX0_operate 6 = .ok (.iconst 4, 1) := by decide +kernel
theorem dX0_operate_7 : decode cX0_operate 7 = .ok (.if_icmp .ne 11, 3) := by decide +kernel
theorem dX0_operate_10 : decode cX0_operate 10 = .ok (.lload_n 1, 1) := by decide +kernel
theorem dX0_operate_11 : decode cX0_operate 11 = .ok (.lload_n 3, 1) := by decide +kernel
theorem dX0_operate_12 : decode cX0_operate 12 = .ok (.ladd, 1) := by decide +kernel
theorem dX0_operate_13 : decode cX0_operate 13 = .ok (.lstore 5, 2) := by decide +kernel
theorem dX0_operate_15 : decode cX0_operate 15 = .ok (.goto 13, 3) := by decide +kernel
theorem dX0_operate_18 : decode cX0_operate 18 = .ok (.iload_n 0, 1) := by decide +kernel
theorem dX0_operate_19 : decode cX0_operate 19 = .ok (.iconst 5, 1) := by decide +kernel
theorem dX0_operate_20 : decode cX0_operate 20 = .ok (.if_icmp .ne 8, 3) := by decide +kernel
theorem dX0_operate_23 : decode cX0_operate 23 = .ok (.lload_n 1, 1) := by decide +kernel
theorem dX0_operate_24 : decode cX0_operate 24 = .ok (.lload_n 3, 1) := by decide +kernel
theorem dX0_operate_25 : decode cX0_operate 25 = .ok (.lsub, 1) := by decide +kernel
theorem dX0_operate_26 : decode cX0_operate 26 = .ok (.lstore 5, 2) := by decide +kernel
theorem dX0_operate_28 : decode cX0_operate 28 = .ok (.ldc2_w 109, 3) := by decide +kernel
theorem dX0_operate_31 : decode cX0_operate 31 = .ok (.ldc2_w 111, 3) := by decide +kernel
theorem dX0_operate_34 : decode cX0_operate 34 = .ok (.lload 5, 2) := by decide +kernel
theorem dX0_operate_36 : decode cX0_operate 36 = .ok (.invokestatic 113, 3) := by decide +kernel
theorem dX0_operate_39 : decode cX0_operate 39 = .ok (.invokestatic 116, 3) := by decide +kernel
theorem dX0_operate_42 : decode cX0_operate 42 = .ok (.l2i, 1) := by decide +kernel
theorem dX0_operate_43 : decode cX0_operate 43 = .ok (.ireturn, 1) := by decide +kernel
end
section
theorem dX1_init_0 : decode cX1_init 0 = .ok (.aload_n 0, 1) := by decide +kernel
theorem dX1_init_1 : decode cX1_init 1 = .ok (.invokespecial 3, 3) := by decide +kernel
theorem dX1_init_4 : decode cX1_init 4 = .ok (.aload_n 0, 1) := by decide +kernel
theorem dX1_init_5 : decode cX1_init 5 = .ok (.iconst 1, 1) := by decide +kernel
theorem dX1_init_6 : decode cX1_init 6 = .ok (.putfield 9, 3) := by decide +kernel
theorem dX1_init_9 : decode cX1_init 9 = .ok (.aload_n 0, 1) := by decide +kernel
theorem dX1_init_10 : decode cX1_init 10 = .ok (.iconst 1, 1) := by decide +kernel
theorem dX1_init_11 : decode cX1_init 11 = .ok (.iload_n 1, 1) := by decide +kernel
theorem dX1_init_12 : decode cX1_init 12 = .ok (.invokestatic 15, 3) := by decide +kernel
theorem dX1_init_15 : decode cX1_init 15 = .ok (.newarray .int, 2) := by decide +kernel
theorem dX1_init_17 : decode cX1_init 17 = .ok (.putfield 21, 3) := by decide +kernel
theorem dX1_init_20 : decode cX1_init 20 = .ok (.aload_n 0, 1) := by decide +kernel
theorem dX1_init_21 : decode cX1_init 21 = .ok (.iconst 1, 1) := by decide +kernel
theorem dX1_init_22 : decode cX1_init 22 = .ok (.iload_n 1, 1) := by decide +kernel
theorem dX1_init_23 : decode cX1_init 23 = .ok (.invokestatic 15, 3) := by decide +kernel
theorem dX1_init_26 : decode cX1_init 26 = .ok (.newarray .int, 2) := by decide +kernel
theorem dX1_init_28 : decode cX1_init 28 = .ok (.putfield 25, 3) := by decide +kernel
theorem dX1_init_31 : decode cX1_init 31 = .ok (.return_, 1) := by decide +kernel
theorem dX1_has_0 : decode cX1_has 0 = .ok (.iload_n 1, 1) := by decide +kernel
theorem dX1_has_1 : decode cX1_has 1 = .ok (.ifCond .lt 33, 3) := by decide +kernel
theorem dX1_has_4 : decode cX1_has 4 = .ok (.iload_n 1, 1) := by decide +kernel
theorem dX1_has_5 : decode cX1_has 5 = .ok (.aload_n 0, 1) := by decide +kernel
theorem dX1_has_6 : decode cX1_has 6 = .ok (.getfield 9, 3) := by decide +kernel
theorem dX1_has_9 : decode cX1_has 9 = .ok (.if_icmp .ge 25, 3) := by decide +kernel
theorem dX1_has_12 : decode cX1_has 12 = .ok (.iload_n 1, 1) := by decide +kernel
theorem dX1_has_13 : decode cX1_has 13 = .ok (.aload_n 0, 1) := by decide +kernel
theorem dX1_has_14 : decode cX1_has 14 = .ok (.getfield 21, 3) := by decide +kernel
theorem dX1_has_17 : decode cX1_has 17 = .ok (.arraylength, 1) := by decide +kernel
theorem dX1_has_18 : decode cX1_has 18 = .ok (.if_icmp .ge 16, 3) := by decide +kernel
theorem dX1_has_21 : decode cX1_has 21 = .ok (.iload_n 1, 1) := by decide +kernel
theorem dX1_has_22 : decode cX1_has 22 = .ok (.aload_n 0, 1) := by decide +kernel
theorem dX1_has_23 : decode cX1_has 23 = .ok (.getfield 25, 3) := by decide +kernel
theorem dX1_has_26 : decode cX1_has 26 = .ok (.arraylength, 1) := by decide +kernel
theorem dX1_has_27 : decode cX1_has 27 = .ok (.if_icmp .ge 7, 3) := by decide +kernel
theorem dX1_has_30 : decode cX1_has 30 = .ok (.iconst 1, 1) := by decide +kernel
theorem dX1_has_31 : decode cX1_has 31 = .ok (.goto 4, 3) := by decide +kernel
theorem dX1_has_34 : decode cX1_has 34 = .ok (.iconst 0, 1) := by decide +kernel
theorem dX1_has_35 : decode cX1_has 35 = .ok (.ireturn, 1) := by decide +kernel
theorem dX1_kindOf_0 : decode cX1_kindOf 0 = .ok (.aload_n 0, 1) := by decide +kernel
theorem dX1_kindOf_1 : decode cX1_kindOf 1 = .ok (.iload_n 1, 1) := by decide +kernel
theorem dX1_kindOf_2 : decode cX1_kindOf 2 = .ok (.invokevirtual 28, 3) := by decide +kernel
theorem dX1_kindOf_5 : decode cX1_kindOf 5 = .ok (.ifCond .eq 12, 3) := by decide +kernel
theorem dX1_kindOf_8 : decode cX1_kindOf 8 = .ok (.aload_n 0, 1) := by decide +kernel
theorem dX1_kindOf_9 : decode cX1_kindOf 9 = .ok (.getfield 21, 3) := by decide +kernel
theorem dX1_kindOf_12 : decode cX1_kindOf 12 = .ok (.iload_n 1, 1) := by decide +kernel
theorem dX1_kindOf_13 : decode cX1_kindOf 13 = .ok (.iaload, 1) := by decide +kernel
theorem dX1_kindOf_14 : decode cX1_kindOf 14 = .ok (.goto 4, 3) := by decide +kernel
theorem dX1_kindOf_17 : decode cX1_kindOf 17 = .ok (.iconst 0, 1) := by decide +kernel
theorem dX1_kindOf_18 : decode cX1_kindOf 18 = .ok (.ireturn, 1) := by decide +kernel
theorem dX1_contentOf_0 : decode cX1_contentOf 0 = .ok (.aload_n 0, 1) := by decide +kernel
theorem dX1_contentOf_1 : decode cX1_contentOf 1 = .ok (.iload_n 1, 1) := by decide +kernel
theorem dX1_contentOf_2 : decode cX1_contentOf 2 = .ok (.invokevirtual 28, 3) := by decide +kernel
theorem dX1_contentOf_5 : decode cX1_contentOf 5 = .ok (.ifCond .eq 12, 3) := by decide +kernel
theorem dX1_contentOf_8 : decode cX1_contentOf 8 = .ok (.aload_n 0, 1) := by decide +kernel
theorem dX1_contentOf_9 : decode cX1_contentOf 9 = .ok (.getfield 25, 3) := by decide +kernel
theorem dX1_contentOf_12 : decode cX1_contentOf 12 = .ok (.iload_n 1, 1) := by decide +kernel
theorem dX1_contentOf_13 : decode cX1_contentOf 13 = .ok (.iaload, 1) := by decide +kernel
theorem dX1_contentOf_14 : decode cX1_contentOf 14 = .ok (.goto 4, 3) := by decide +kernel
theorem dX1_contentOf_17 : decode cX1_contentOf 17 = .ok (.iconst 0, 1) := by decide +kernel
theorem dX1_contentOf_18 : decode cX1_contentOf 18 = .ok (.ireturn, 1) := by decide +kernel
theorem dX1_hasKind_0 : decode cX1_hasKind 0 = .ok (.iconst 0, 1) := by decide +kernel
theorem dX1_hasKind_1 : decode cX1_hasKind 1 = .ok (.istore_n 2, 1) := by decide +kernel
theorem dX1_hasKind_2 : decode cX1_hasKind 2 = .ok (.iload_n 2, 1) := by decide +kernel
theorem dX1_hasKind_3 : decode cX1_hasKind 3 = .ok (.aload_n 0, 1) := by decide +kernel
theorem dX1_hasKind_4 : decode cX1_hasKind 4 = .ok (.getfield 9, 3) := by decide +kernel
theorem dX1_hasKind_7 : decode cX1_hasKind 7 = .ok (.if_icmp .ge 20, 3) := by decide +kernel
theorem dX1_hasKind_10 : decode cX1_hasKind 10 = .ok (.aload_n 0, 1) := by decide +kernel
theorem dX1_hasKind_11 : decode cX1_hasKind 11 = .ok (.iload_n 2, 1) := by decide +kernel
theorem dX1_hasKind_12 : decode cX1_hasKind 12 = .ok (.invokevirtual 32, 3) := by decide +kernel
theorem dX1_hasKind_15 : decode cX1_hasKind 15 = .ok (.iload_n 1, 1) := by decide +kernel
theorem dX1_hasKind_16 : decode cX1_hasKind 16 = .ok (.if_icmp .ne 5, 3) := by decide +kernel
theorem dX1_hasKind_19 : decode cX1_hasKind 19 = .ok (.iconst 1, 1) := by decide +kernel
theorem dX1_hasKind_20 : decode cX1_hasKind 20 = .ok (.ireturn, 1) := by decide +kernel
theorem dX1_hasKind_21 : decode cX1_hasKind 21 = .ok (.iinc 2 1, 3) := by decide +kernel
theorem dX1_hasKind_24 : decode cX1_hasKind 24 = .ok (.goto (-22), 3) := by decide +kernel
theorem dX1_hasKind_27 : decode cX1_hasKind 27 = .ok (.iconst 0, 1) := by decide +kernel
theorem dX1_hasKind_28 : decode cX1_hasKind 28 = .ok (.ireturn, 1) := by decide +kernel
theorem dX1_isFull_0 : decode cX1_isFull 0 = .ok (.aload_n 0, 1) := by decide +kernel
theorem dX1_isFull_1 : decode cX1_isFull 1 = .ok (.getfield 9, 3) := by decide +kernel
theorem dX1_isFull_4 : decode cX1_isFull 4 = .ok (.aload_n 0, 1) := by decide +kernel
theorem dX1_isFull_5 : decode cX1_isFull 5 = .ok (.getfield 21, 3) := by decide +kernel
theorem dX1_isFull_8 : decode cX1_isFull 8 = .ok (.arraylength, 1) := by decide +kernel
theorem dX1_isFull_9 : decode cX1_isFull 9 = .ok (.if_icmp .ge 15, 3) := by decide +kernel
theorem dX1_isFull_12 : decode cX1_isFull 12 = .ok (.aload_n 0, 1) := by decide +kernel
theorem dX1_isFull_13 : decode cX1_isFull 13 = .ok (.getfield 9, 3) := by decide +kernel
theorem dX1_isFull_16 : decode cX1_isFull 16 = .ok (.aload_n 0, 1) := by decide +kernel
theorem dX1_isFull_17 : decode cX1_isFull 17 = .ok (.getfield 25, 3) := by decide +kernel
theorem dX1_isFull_20 : decode cX1_isFull 20 = .ok (.arraylength, 1) := by decide +kernel
theorem dX1_isFull_21 : decode cX1_isFull 21 = .ok (.if_icmp .lt 7, 3) := by decide +kernel
theorem dX1_isFull_24 : decode cX1_isFull 24 = .ok (.iconst 1, 1) := by decide +kernel
theorem dX1_isFull_25 : decode cX1_isFull 25 = .ok (.goto 4, 3) := by decide +kernel
theorem dX1_isFull_28 : decode cX1_isFull 28 = .ok (.iconst 0, 1) := by decide +kernel
theorem dX1_isFull_29 : decode cX1_isFull 29 = .ok (.ireturn, 1) := by decide +kernel
theorem dX1_add_0 : decode cX1_add 0 = .ok (.aload_n 0, 1) := by decide +kernel
theorem dX1_add_1 : decode cX1_add 1 = .ok (.invokevirtual 36, 3) := by decide +kernel
theorem dX1_add_4 : decode cX1_add 4 = .ok (.ifCond .eq 5, 3) := by decide +kernel
theorem dX1_add_7 : decode cX1_add 7 = .ok (.iconst 0, 1) := by decide +kernel
theorem dX1_add_8 : decode cX1_add 8 = .ok (.ireturn, 1) := by decide +kernel
theorem dX1_add_9 : decode cX1_add 9 = .ok (.aload_n 0, 1) := by decide +kernel
theorem dX1_add_10 : decode cX1_add 10 = .ok (.getfield 21, 3) := by decide +kernel
theorem dX1_add_13 : decode cX1_add 13 = .ok (.aload_n 0, 1) := by decide +kernel
theorem dX1_add_14 : decode cX1_add 14 = .ok (.getfield 9, 3) := by decide +kernel
theorem dX1_add_17 : decode cX1_add 17 = .ok (.iload_n 1, 1) := by decide +kernel
theorem dX1_add_18 : decode cX1_add 18 = .ok (.iastore, 1) := by decide +kernel
theorem dX1_add_19 : decode cX1_add 19 = .ok (.aload_n 0, 1) := by decide +kernel
theorem dX1_add_20 : decode cX1_add 20 = .ok (.getfield 25, 3) := by decide +kernel
theorem dX1_add_23 : decode cX1_add 23 = .ok (.aload_n 0, 1) := by decide +kernel
theorem dX1_add_24 : decode cX1_add 24 = .ok (.getfield 9, 3) := by decide +kernel
theorem dX1_add_27 : decode cX1_add 27 = .ok (.iload_n 2, 1) := by decide +kernel
theorem dX1_add_28 : decode cX1_add 28 = .ok (.iastore, 1) := by decide +kernel
theorem dX1_add_29 : decode cX1_add 29 = .ok (.aload_n 0, 1) := by decide +kernel
theorem dX1_add_30 : decode cX1_add 30 = .ok (.dup, 1) := by decide +kernel
theorem dX1_add_31 : decode cX1_add 31 = .ok (.getfield 9, 3) := by decide +kernel
theorem dX1_add_34 : decode cX1_add 34 = .ok (.iconst 1, 1) := by decide +kernel
theorem dX1_add_35 : decode cX1_add 35 = .ok (.iadd, 1) := by decide +kernel
theorem dX1_add_36 : decode cX1_add 36 = .ok (.putfield 9, 3) := by decide +kernel
theorem dX1_add_39 : decode cX1_add 39 = .ok (.iconst 1, 1) := by decide +kernel
theorem dX1_add_40 : decode cX1_add 40 = .ok (.ireturn, 1) := by decide +kernel
theorem dX1_insert_0 : decode cX1_insert 0 = .ok (.aload_n 0, 1) := by decide +kernel
theorem dX1_insert_1 : decode cX1_insert 1 = .ok (.invokevirtual 36, 3) := by decide +kernel
theorem dX1_insert_4 : decode cX1_insert 4 = .ok (.ifCond .ne 15, 3) := by decide +kernel
theorem dX1_insert_7 : decode cX1_insert 7 = .ok (.iload_n 1, 1) := by decide +kernel
theorem dX1_insert_8 : decode cX1_insert 8 = .ok (.ifCond .lt 11, 3) := by decide +kernel
theorem dX1_insert_11 : decode cX1_insert 11 = .ok (.iload_n 1, 1) := by decide +kernel
theorem dX1_insert_12 : decode cX1_insert 12 = .ok (.aload_n 0, 1) := by decide +kernel
theorem dX1_insert_13 : decode cX1_insert 13 = .ok (.getfield 9, 3) := by decide +kernel
theorem dX1_insert_16 : decode cX1_insert 16 = .ok (.if_icmp .le 5, 3) := by decide +kernel
theorem dX1_insert_19 : decode cX1_insert 19 = .ok (.iconst 0, 1) := by decide +kernel
theorem dX1_insert_20 : decode cX1_insert 20 = .ok (.ireturn, 1) := by decide +kernel
theorem dX1_insert_21 : decode cX1_insert 21 = .ok (.aload_n 0, 1) := by decide +kernel
theorem dX1_insert_22 : decode cX1_insert 22 = .ok (.getfield 21, 3) := by decide +kernel
theorem dX1_insert_25 : decode cX1_insert 25 = .ok (.iload_n 1, 1) := by decide +kernel
theorem dX1_insert_26 : decode cX1_insert 26 = .ok (.aload_n 0, 1) := by decide +kernel
theorem dX1_insert_27 : decode cX1_insert 27 = .ok (.getfield 21, 3) := by decide +kernel
theorem dX1_insert_30 : decode cX1_insert 30 = .ok (.iload_n 1, 1) := by decide +kernel
theorem dX1_insert_31 : decode cX1_insert 31 = .ok (.iconst 1, 1) := by decide +kernel
theorem dX1_insert_32 : decode cX1_insert 32 = .ok (.iadd, 1) := by decide +kernel
theorem dX1_insert_33 : decode cX1_insert 33 = .ok (.aload_n 0, 1) := by decide +kernel
theorem dX1_insert_34 : decode cX1_insert 34 = .ok (.getfield 9, 3) := by decide +kernel
theorem dX1_insert_37 : decode cX1_insert 37 = .ok (.iload_n 1, 1) := by decide +kernel
theorem dX1_insert_38 : decode cX1_insert 38 = .ok (.isub, 1) := by decide +kernel
theorem dX1_insert_39 : decode cX1_insert 39 = .ok (.invokestatic 40, 3) := by decide +kernel
theorem dX1_insert_42 : decode cX1_insert 42 = .ok (.aload_n 0, 1) := by decide +kernel
theorem dX1_insert_43 : decode cX1_insert 43 = .ok (.getfield 25, 3) := by decide +kernel
theorem dX1_insert_46 : decode cX1_insert 46 = .ok (.iload_n 1, 1) := by decide +kernel
theorem dX1_insert_47 : decode cX1_insert 47 = .ok (.aload_n 0, 1) := by decide +kernel
theorem dX1_insert_48 : decode cX1_insert 48 = .ok (.getfield 25, 3) := by decide +kernel
theorem dX1_insert_51 : decode cX1_insert 51 = .ok (.iload_n 1, 1) := by decide +kernel
theorem dX1_insert_52 : decode cX1_insert 52 = .ok (.iconst 1, 1) := by decide +kernel
theorem dX1_insert_53 : decode cX1_insert 53 = .ok (.iadd, 1) := by decide +kernel
theorem dX1_insert_54 : decode cX1_insert 54 = .ok (.aload_n 0, 1) := by decide +kernel
theorem dX1_insert_55 : decode cX1_insert 55 = .ok (.getfield 9, 3) := by decide +kernel
theorem dX1_insert_58 : decode cX1_insert 58 = .ok (.iload_n 1, 1) := by decide +kernel
theorem dX1_insert_59 : decode cX1_insert 59 = .ok (.isub, 1) := by decide +kernel
theorem dX1_insert_60 : decode cX1_insert 60 = .ok (.invokestatic 40, 3) := by decide +kernel
theorem dX1_insert_63 : decode cX1_insert 63 = .ok (.aload_n 0, 1) := by decide +kernel
theorem dX1_insert_64 : decode cX1_insert 64 = .ok (.getfield 21, 3) := by decide +kernel
theorem dX1_insert_67 : decode cX1_insert 67 = .ok (.iload_n 1, 1) := by decide +kernel
theorem dX1_insert_68 : decode cX1_insert 68 = .ok (.iload_n 2, 1) := by decide +kernel
theorem dX1_insert_69 : decode cX1_insert 69 = .ok (.iastore, 1) := by decide +kernel
theorem dX1_insert_70 : decode cX1_insert 70 = .ok (.aload_n 0, 1) := by decide +kernel
theorem dX1_insert_71 : decode cX1_insert 71 = .ok (.getfield 25, 3) := by decide +kernel
theorem dX1_insert_74 : decode cX1_insert 74 = .ok (.iload_n 1, 1) := by decide +kernel
theorem dX1_insert_75 : decode cX1_insert 75 = .ok (.iload_n 3, 1) := by decide +kernel
theorem dX1_insert_76 : decode cX1_insert 76 = .ok (.iastore, 1) := by decide +kernel
theorem dX1_insert_77 : decode cX1_insert 77 = .ok (.aload_n 0, 1) := by decide +kernel
theorem dX1_insert_78 : decode cX1_insert 78 = .ok (.dup, 1) := by decide +kernel
theorem dX1_insert_79 : decode cX1_insert 79 = .ok (.getfield 9, 3) := by decide +kernel
theorem dX1_insert_82 : decode cX1_insert 82 = .ok (.iconst 1, 1) := by decide +kernel
theorem dX1_insert_83 : decode cX1_insert 83 = .ok (.iadd, 1) := by decide +kernel
theorem dX1_insert_84 : decode cX1_insert 84 = .ok (.putfield 9, 3) := by decide +kernel
theorem dX1_insert_87 : decode cX1_insert 87 = .ok (.iconst 1, 1) := by decide +kernel
theorem dX1_insert_88 : decode cX1_insert 88 = .ok (.ireturn, 1) := by decide +kernel
theorem dX1_addAll_0 : decode cX1_addAll 0 = .ok (.aload_n 1, 1) := by decide +kernel
theorem dX1_addAll_1 : decode cX1_addAll 1 = .ok (.getfield 9, 3) := by decide +kernel
theorem dX1_addAll_4 : decode cX1_addAll 4 = .ok (.istore_n 2, 1) := by decide +kernel
theorem dX1_addAll_5 : decode cX1_addAll 5 = .ok (.iconst 0, 1) := by decide +kernel
theorem dX1_addAll_6 : decode cX1_addAll 6 = .ok (.istore_n 3, 1) := by decide +kernel
theorem dX1_addAll_7 : decode cX1_addAll 7 = .ok (.iload_n 3, 1) := by decide +kernel
theorem dX1_addAll_8 : decode cX1_addAll 8 = .ok (.iload_n 2, 1) := by decide +kernel
theorem dX1_addAll_9 : decode cX1_addAll 9 = .ok (.if_icmp .ge 24, 3) := by decide +kernel
theorem dX1_addAll_12 : decode cX1_addAll 12 = .ok (.aload_n 0, 1) := by decide +kernel
theorem dX1_addAll_13 : decode cX1_addAll 13 = .ok (.aload_n 1, 1) := by decide +kernel
theorem dX1_addAll_14 : decode cX1_addAll 14 = .ok (.iload_n 3, 1) := by decide +kernel
theorem dX1_addAll_15 : decode cX1_addAll 15 = .ok (.invokevirtual 32, 3) := by decide +kernel
theorem dX1_addAll_18 : decode cX1_addAll 18 = .ok (.aload_n 1, 1) := by decide +kernel
theorem dX1_addAll_19 : decode cX1_addAll 19 = .ok (.iload_n 3, 1) := by decide +kernel
theorem dX1_addAll_20 : decode cX1_addAll 20 = .ok (.invokevirtual 46, 3) := by decide +kernel
theorem dX1_addAll_23 : decode cX1_addAll 23 = .ok (.invokevirtual 49, 3) := by decide +kernel
theorem dX1_addAll_26 : decode cX1_addAll 26 = .ok (.pop, 1) := by decide +kernel
theorem dX1_addAll_27 : decode cX1_addAll 27 = .ok (.iinc 3 1, 3) := by decide +kernel
theorem dX1_addAll_30 : decode cX1_addAll 30 = .ok (.goto (-23), 3) := by decide +kernel
theorem dX1_addAll_33 : decode cX1_addAll 33 = .ok (.return_, 1) := by decide +kernel
theorem dX1_copy_0 : decode cX1_copy 0 = .ok (.aload_n 0, 1) := by decide +kernel
theorem dX1_copy_1 : decode cX1_copy 1 = .ok (.iconst 0, 1) := by decide +kernel
theorem dX1_copy_2 : decode cX1_copy 2 = .ok (.putfield 9, 3) := by decide +kernel
theorem dX1_copy_5 : decode cX1_copy 5 = .ok (.aload_n 0, 1) := by decide +kernel
theorem dX1_copy_6 : decode cX1_copy 6 = .ok (.aload_n 1, 1) := by decide +kernel
theorem dX1_copy_7 : decode cX1_copy 7 = .ok (.invokevirtual 53, 3) := by decide +kernel
theorem dX1_copy_10 : decode cX1_copy 10 = .ok (.return_, 1) := by decide +kernel
theorem dX1_behind_0 : decode cX1_behind 0 = .ok (.iconst 0, 1) := by decide +kernel
theorem dX1_behind_1 : decode cX1_behind 1 = .ok (.iload_n 1, 1) := by decide +kernel
theorem dX1_behind_2 : decode cX1_behind 2 = .ok (.invokestatic 15, 3) := by decide +kernel
theorem dX1_behind_5 : decode cX1_behind 5 = .ok (.istore_n 2, 1) := by decide +kernel
theorem dX1_behind_6 : decode cX1_behind 6 = .ok (.iconst 1, 1) := by decide +kernel
theorem dX1_behind_7 : decode cX1_behind 7 = .ok (.istore_n 3, 1) := by decide +kernel
theorem dX1_behind_8 : decode cX1_behind 8 = .ok (.iload_n 3, 1) := by decide +kernel
theorem dX1_behind_9 : decode cX1_behind 9 = .ok (.ifCond .le 30, 3) := by decide +kernel
theorem dX1_behind_12 : decode cX1_behind 12 = .ok (.iload_n 2, 1) := by decide +kernel
theorem dX1_behind_13 : decode cX1_behind 13 = .ok (.aload_n 0, 1) := by decide +kernel
theorem dX1_behind_14 : decode cX1_behind 14 = .ok (.getfield 9, 3) := by decide +kernel
theorem dX1_behind_17 : decode cX1_behind 17 = .ok (.if_icmp .ge 22, 3) := by decide +kernel
theorem dX1_behind_20 : decode cX1_behind 20 = .ok (.iload_n 3, 1) := by decide +kernel
theorem dX1_behind_21 : decode cX1_behind 21 = .ok (.aload_n 0, 1) := by decide +kernel
theorem dX1_behind_22 : decode cX1_behind 22 = .ok (.iload_n 2, 1) := by decide +kernel
theorem dX1_behind_23 : decode cX1_behind 23 = .ok (.invokevirtual 32, 3) := by decide +kernel
theorem dX1_behind_26 : decode cX1_behind 26 = .ok (.invokestatic 57, 3) := by decide +kernel
theorem dX1_behind_29 : decode cX1_behind 29 = .ok (.iconst 1, 1) := by decide +kernel
theorem dX1_behind_30 : decode cX1_behind 30 = .ok (.isub, 1) := by decide +kernel
theorem dX1_behind_31 : decode cX1_behind 31 = .ok (.iadd, 1) := by decide +kernel
theorem dX1_behind_32 : decode cX1_behind 32 = .ok (.istore_n 3, 1) := by decide +kernel
theorem dX1_behind_33 : decode cX1_behind 33 = .ok (.iinc 2 1, 3) := by decide +kernel
theorem dX1_behind_36 : decode cX1_behind 36 = .ok (.goto (-28), 3) := by decide +kernel
theorem dX1_behind_39 : decode cX1_behind 39 = .ok (.iload_n 2, 1) := by decide +kernel
theorem dX1_behind_40 : decode cX1_behind 40 = .ok (.ireturn, 1) := by decide +kernel
theorem dX1_exchange_0 : decode cX1_exchange 0 = .ok (.aload_n 0, 1) := by decide +kernel
theorem dX1_exchange_1 : decode cX1_exchange 1 = .ok (.iload_n 1, 1) := by decide +kernel
theorem dX1_exchange_2 : decode cX1_exchange 2 = .ok (.iconst 1, 1) := by decide +kernel
theorem dX1_exchange_3 : decode cX1_exchange 3 = .ok (.iadd, 1) := by decide +kernel
theorem dX1_exchange_4 : decode cX1_exchange 4 = .ok (.invokevirtual 60, 3) := by decide +kernel
theorem dX1_exchange_7 : decode cX1_exchange 7 = .ok (.istore_n 2, 1) := by decide +kernel
theorem dX1_exchange_8 : decode cX1_exchange 8 = .ok (.aload_n 0, 1) := by decide +kernel
theorem dX1_exchange_9 : decode cX1_exchange 9 = .ok (.iload_n 2, 1) := by decide +kernel
theorem dX1_exchange_10 : decode cX1_exchange 10 = .ok (.invokevirtual 60, 3) := by decide +kernel
theorem dX1_exchange_13 : decode cX1_exchange 13 = .ok (.istore_n 3, 1) := by decide +kernel
theorem dX1_exchange_14 : decode cX1_exchange 14 = .ok (.aload_n 0, 1) := by decide +kernel
theorem dX1_exchange_15 : decode cX1_exchange 15 = .ok (.iload_n 1, 1) := by decide +kernel
theorem dX1_exchange_16 : decode cX1_exchange 16 = .ok (.iconst 1, 1) := by decide +kernel
theorem dX1_exchange_17 : decode cX1_exchange 17 = .ok (.iadd, 1) := by decide +kernel
theorem dX1_exchange_18 : decode cX1_exchange 18 = .ok (.iload_n 2, 1) := by decide +kernel
theorem dX1_exchange_19 : decode cX1_exchange 19 = .ok (.iconst 1, 1) := by decide +kernel
theorem dX1_exchange_20 : decode cX1_exchange 20 = .ok (.isub, 1) := by decide +kernel
theorem dX1_exchange_21 : decode cX1_exchange 21 = .ok (.invokevirtual 63, 3) := by decide +kernel
theorem dX1_exchange_24 : decode cX1_exchange 24 = .ok (.aload_n 0, 1) := by decide +kernel
theorem dX1_exchange_25 : decode cX1_exchange 25 = .ok (.iload_n 2, 1) := by decide +kernel
theorem dX1_exchange_26 : decode cX1_exchange 26 = .ok (.iload_n 3, 1) := by decide +kernel
theorem dX1_exchange_27 : decode cX1_exchange 27 = .ok (.iconst 1, 1) := by decide +kernel
theorem dX1_exchange_28 : decode cX1_exchange 28 = .ok (.isub, 1) := by decide +kernel
theorem dX1_exchange_29 : decode cX1_exchange 29 = .ok (.invokevirtual 63, 3) := by decide +kernel
theorem dX1_exchange_32 : decode cX1_exchange 32 = .ok (.aload_n 0, 1) := by decide +kernel
theorem dX1_exchange_33 : decode cX1_exchange 33 = .ok (.iload_n 1, 1) := by decide +kernel
theorem dX1_exchange_34 : decode cX1_exchange 34 = .ok (.iconst 1, 1) := by decide +kernel
theorem dX1_exchange_35 : decode cX1_exchange 35 = .ok (.iadd, 1) := by decide +kernel
theorem dX1_exchange_36 : decode cX1_exchange 36 = .ok (.iload_n 3, 1) := by decide +kernel
theorem dX1_exchange_37 : decode cX1_exchange 37 = .ok (.iconst 1, 1) := by decide +kernel
theorem dX1_exchange_38 : decode cX1_exchange 38 = .ok (.isub, 1) := by decide +kernel
theorem dX1_exchange_39 : decode cX1_exchange 39 = .ok (.invokevirtual 63, 3) := by decide +kernel
theorem dX1_exchange_42 : decode cX1_exchange 42 = .ok (.return_, 1) := by decide +kernel
theorem dX1_turnAround_0 : decode cX1_turnAround 0 = .ok (.iload_n 1, 1) := by decide +kernel
theorem dX1_turnAround_1 : decode cX1_turnAround 1 = .ok (.istore_n 3, 1) := by decide +kernel
theorem dX1_turnAround_2 : decode cX1_turnAround 2 = .ok (.iload_n 2, 1) := by decide +kernel
theorem dX1_turnAround_3 : decode cX1_turnAround 3 = .ok (.istore 4, 2) := by decide +kernel
theorem dX1_turnAround_5 : decode cX1_turnAround 5 = .ok (.iload_n 3, 1) := by decide +kernel
theorem dX1_turnAround_6 : decode cX1_turnAround 6 = .ok (.iload 4, 2) := by decide +kernel
theorem dX1_turnAround_8 : decode cX1_turnAround 8 = .ok (.if_icmp .ge 89, 3) := by decide +kernel
theorem dX1_turnAround_11 : decode cX1_turnAround 11 = .ok (.aload_n 0, 1) := by decide +kernel
theorem dX1_turnAround_12 : decode cX1_turnAround 12 = .ok (.iload_n 3, 1) := by decide +kernel
theorem dX1_turnAround_13 : decode cX1_turnAround 13 = .ok (.invokevirtual 28, 3) := by decide +kernel
theorem dX1_turnAround_16 : decode cX1_turnAround 16 = .ok (.ifCond .eq 81, 3) := by decide +kernel
theorem dX1_turnAround_19 : decode cX1_turnAround 19 = .ok (.aload_n 0, 1) := by decide +kernel
theorem dX1_turnAround_20 : decode cX1_turnAround 20 = .ok (.iload 4, 2) := by decide +kernel
theorem dX1_turnAround_22 : decode cX1_turnAround 22 = .ok (.invokevirtual 28, 3) := by decide +kernel
theorem dX1_turnAround_25 : decode cX1_turnAround 25 = .ok (.ifCond .eq 72, 3) := by decide +kernel
theorem dX1_turnAround_28 : decode cX1_turnAround 28 = .ok (.aload_n 0, 1) := by decide +kernel
theorem dX1_turnAround_29 : decode cX1_turnAround 29 = .ok (.getfield 21, 3) := by decide +kernel
theorem dX1_turnAround_32 : decode cX1_turnAround 32 = .ok (.iload_n 3, 1) := by decide +kernel
theorem dX1_turnAround_33 : decode cX1_turnAround 33 = .ok (.iaload, 1) := by decide +kernel
theorem dX1_turnAround_34 : decode cX1_turnAround 34 = .ok (.istore 5, 2) := by decide +kernel
theorem dX1_turnAround_36 : decode cX1_turnAround 36 = .ok (.aload_n 0, 1) := by decide +kernel
theorem dX1_turnAround_37 : decode cX1_turnAround 37 = .ok (.getfield 21, 3) := by decide +kernel
theorem dX1_turnAround_40 : decode cX1_turnAround 40 = .ok (.iload_n 3, 1) := by decide +kernel
theorem dX1_turnAround_41 : decode cX1_turnAround 41 = .ok (.aload_n 0, 1) := by decide +kernel
theorem dX1_turnAround_42 : decode cX1_turnAround 42 = .ok (.getfield 21, 3) := by decide +kernel
theorem dX1_turnAround_45 : decode cX1_turnAround 45 = .ok (.iload 4, 2) := by decide +kernel
theorem dX1_turnAround_47 : decode cX1_turnAround 47 = .ok (.iaload, 1) := by decide +kernel
theorem dX1_turnAround_48 : decode cX1_turnAround 48 = .ok (.iastore, 1) := by decide +kernel
theorem dX1_turnAround_49 : decode cX1_turnAround 49 = .ok (.aload_n 0, 1) := by decide +kernel
theorem dX1_turnAround_50 : decode cX1_turnAround 50 = .ok (.getfield 21, 3) := by decide +kernel
theorem dX1_turnAround_53 : decode cX1_turnAround 53 = .ok (.iload 4, 2) := by decide +kernel
theorem dX1_turnAround_55 : decode cX1_turnAround 55 = .ok (.iload 5, 2) := by decide +kernel
theorem dX1_turnAround_57 : decode cX1_turnAround 57 = .ok (.iastore, 1) := by decide +kernel
theorem dX1_turnAround_58 : decode cX1_turnAround 58 = .ok (.aload_n 0, 1) := by decide +kernel
theorem dX1_turnAround_59 : decode cX1_turnAround 59 = .ok (.getfield 25, 3) := by decide +kernel
theorem dX1_turnAround_62 : decode cX1_turnAround 62 = .ok (.iload_n 3, 1) := by decide +kernel
theorem dX1_turnAround_63 : decode cX1_turnAround 63 = .ok (.iaload, 1) := by decide +kernel
theorem dX1_turnAround_64 : decode cX1_turnAround 64 = .ok (.istore 6, 2) := by decide +kernel
theorem dX1_turnAround_66 : decode cX1_turnAround 66 = .ok (.aload_n 0, 1) := by decide +kernel
theorem dX1_turnAround_67 : decode cX1_turnAround 67 = .ok (.getfield 25, 3) := by decide +kernel
theorem dX1_turnAround_70 : decode cX1_turnAround 70 = .ok (.iload_n 3, 1) := by decide +kernel
theorem dX1_turnAround_71 : decode cX1_turnAround 71 = .ok (.aload_n 0, 1) := by decide +kernel
theorem dX1_turnAround_72 : decode cX1_turnAround 72 = .ok (.getfield 25, 3) := by decide +kernel
theorem dX1_turnAround_75 : decode cX1_turnAround 75 = .ok (.iload 4, 2) := by decide +kernel
theorem dX1_turnAround_77 : decode cX1_turnAround 77 = .ok (.iaload, 1) := by decide +kernel
theorem dX1_turnAround_78 : decode cX1_turnAround 78 = .ok (.iastore, 1) := by decide +kernel
theorem dX1_turnAround_79 : decode cX1_turnAround 79 = .ok (.aload_n 0, 1) := by decide +kernel
theorem dX1_turnAround_80 : decode cX1_turnAround 80 = .ok (.getfield 25, 3) := by decide +kernel
theorem dX1_turnAround_83 : decode cX1_turnAround 83 = .ok (.iload 4, 2) := by decide +kernel
theorem dX1_turnAround_85 : decode cX1_turnAround 85 = .ok (.iload 6, 2) := by decide +kernel
theorem dX1_turnAround_87 : decode cX1_turnAround 87 = .ok (.iastore, 1) := by decide +kernel
theorem dX1_turnAround_88 : decode cX1_turnAround 88 = .ok (.iinc 3 1, 3) := by decide +kernel
theorem dX1_turnAround_91 : decode cX1_turnAround 91 = .ok (.iinc 4 (-1), 3) := by decide +kernel
theorem dX1_turnAround_94 : decode cX1_turnAround 94 = .ok (.goto (-89), 3) := by decide +kernel
theorem dX1_turnAround_97 : decode cX1_turnAround 97 = .ok (.return_, 1) := by decide +kernel
theorem dX2_init_0 : decode cX2_init 0 = .ok (.aload_n 0, 1) := by decide +kernel
theorem dX2_init_1 : decode cX2_init 1 = .ok (.invokespecial 3, 3) := by decide +kernel
theorem dX2_init_4 : decode cX2_init 4 = .ok (.aload_n 0, 1) := by decide +kernel
theorem dX2_init_5 : decode cX2_init 5 = .ok (.sipush 726, 3) := by decide +kernel
theorem dX2_init_8 : decode cX2_init 8 = .ok (.newarray .int, 2) := by decide +kernel
theorem dX2_init_10 : decode cX2_init 10 = .ok (.putfield 11, 3) := by decide +kernel
theorem dX2_init_13 : decode cX2_init 13 = .ok (.aload_n 0, 1) := by decide +kernel
theorem dX2_init_14 : decode cX2_init 14 = .ok (.sipush 726, 3) := by decide +kernel
theorem dX2_init_17 : decode cX2_init 17 = .ok (.newarray .int, 2) := by decide +kernel
theorem dX2_init_19 : decode cX2_init 19 = .ok (.putfield 15, 3) := by decide +kernel
theorem dX2_init_22 : decode cX2_init 22 = .ok (.aload_n 0, 1) := by decide +kernel
theorem dX2_init_23 : decode cX2_init 23 = .ok (.sipush 726, 3) := by decide +kernel
theorem dX2_init_26 : decode cX2_init 26 = .ok (.newarray .int, 2) := by decide +kernel
theorem dX2_init_28 : decode cX2_init 28 = .ok (.putfield 18, 3) := by decide +kernel
theorem dX2_init_31 : decode cX2_init 31 = .ok (.aload_n 0, 1) := by decide +kernel
theorem dX2_init_32 : decode cX2_init 32 = .ok (.sipush 726, 3) := by decide +kernel
theorem dX2_init_35 : decode cX2_init 35 = .ok (.newarray .int, 2) := by decide +kernel
theorem dX2_init_37 : decode cX2_init 37 = .ok (.putfield 21, 3) := by decide +kernel
theorem dX2_init_40 : decode cX2_init 40 = .ok (.return_, 1) := by decide +kernel
theorem dX2_has_0 : decode cX2_has 0 = .ok (.iload_n 1, 1) := by decide +kernel
theorem dX2_has_1 : decode cX2_has 1 = .ok (.ifCond .lt 22, 3) := by decide +kernel
theorem dX2_has_4 : decode cX2_has 4 = .ok (.iload_n 1, 1) := by decide +kernel
theorem dX2_has_5 : decode cX2_has 5 = .ok (.aload_n 0, 1) := by decide +kernel
theorem dX2_has_6 : decode cX2_has 6 = .ok (.getfield 24, 3) := by decide +kernel
theorem dX2_has_9 : decode cX2_has 9 = .ok (.if_icmp .ge 14, 3) := by decide +kernel
theorem dX2_has_12 : decode cX2_has 12 = .ok (.iload_n 1, 1) := by decide +kernel
theorem dX2_has_13 : decode cX2_has 13 = .ok (.sipush 726, 3) := by decide +kernel
theorem dX2_has_16 : decode cX2_has 16 = .ok (.if_icmp .ge 7, 3) := by decide +kernel
theorem dX2_has_19 : decode cX2_has 19 = .ok (.iconst 1, 1) := by decide +kernel
theorem dX2_has_20 : decode cX2_has 20 = .ok (.goto 4, 3) := by decide +kernel
theorem dX2_has_23 : decode cX2_has 23 = .ok (.iconst 0, 1) := by decide +kernel
theorem dX2_has_24 : decode cX2_has 24 = .ok (.ireturn, 1) := by decide +kernel
theorem dX2_make_0 : decode cX2_make 0 = .ok (.aload_n 0, 1) := by decide +kernel
theorem dX2_make_1 : decode cX2_make 1 = .ok (.iconst 0, 1) := by decide +kernel
theorem dX2_make_2 : decode cX2_make 2 = .ok (.putfield 24, 3) := by decide +kernel
theorem dX2_make_5 : decode cX2_make 5 = .ok (.aload_n 0, 1) := by decide +kernel
theorem dX2_make_6 : decode cX2_make 6 = .ok (.iconst 0, 1) := by decide +kernel
theorem dX2_make_7 : decode cX2_make 7 = .ok (.putfield 28, 3) := by decide +kernel
theorem dX2_make_10 : decode cX2_make 10 = .ok (.aload_n 0, 1) := by decide +kernel
theorem dX2_make_11 : decode cX2_make 11 = .ok (.iconst 0, 1) := by decide +kernel
theorem dX2_make_12 : decode cX2_make 12 = .ok (.putfield 31, 3) := by decide +kernel
theorem dX2_make_15 : decode cX2_make 15 = .ok (.aload_n 0, 1) := by decide +kernel
theorem dX2_make_16 : decode cX2_make 16 = .ok (.iconst 0, 1) := by decide +kernel
theorem dX2_make_17 : decode cX2_make 17 = .ok (.putfield 34, 3) := by decide +kernel
theorem dX2_make_20 : decode cX2_make 20 = .ok (.aload_n 0, 1) := by decide +kernel
theorem dX2_make_21 : decode cX2_make 21 = .ok (.iconst 0, 1) := by decide +kernel
theorem dX2_make_22 : decode cX2_make 22 = .ok (.putfield 37, 3) := by decide +kernel
theorem dX2_make_25 : decode cX2_make 25 = .ok (.aload_n 0, 1) := by decide +kernel
theorem dX2_make_26 : decode cX2_make 26 = .ok (.iconst 0, 1) := by decide +kernel
theorem dX2_make_27 : decode cX2_make 27 = .ok (.putfield 40, 3) := by decide +kernel
theorem dX2_make_30 : decode cX2_make 30 = .ok (.iconst 0, 1) := by decide +kernel
theorem dX2_make_31 : decode cX2_make 31 = .ok (.istore 4, 2) := by decide +kernel
theorem dX2_make_33 : decode cX2_make 33 = .ok (.iload 4, 2) := by decide +kernel
theorem dX2_make_35 : decode cX2_make 35 = .ok (.iload_n 2, 1) := by decide +kernel
theorem dX2_make_36 : decode cX2_make 36 = .ok (.if_icmp .ge 57, 3) := by decide +kernel
theorem dX2_make_39 : decode cX2_make 39 = .ok (.iload 4, 2) := by decide +kernel
theorem dX2_make_41 : decode cX2_make 41 = .ok (.aload_n 1, 1) := by decide +kernel
theorem dX2_make_42 : decode cX2_make 42 = .ok (.arraylength, 1) := by decide +kernel
theorem dX2_make_43 : decode cX2_make 43 = .ok (.if_icmp .ge 50, 3) := by decide +kernel
theorem dX2_make_46 : decode cX2_make 46 = .ok (.aload_n 1, 1) := by decide +kernel
theorem dX2_make_47 : decode cX2_make 47 = .ok (.iload 4, 2) := by decide +kernel
theorem dX2_make_49 : decode cX2_make 49 = .ok (.aaload, 1) := by decide +kernel
theorem dX2_make_50 : decode cX2_make 50 = .ok (.getfield 43, 3) := by decide +kernel
theorem dX2_make_53 : decode cX2_make 53 = .ok (.ifCond .ne 34, 3) := by decide +kernel
theorem dX2_make_56 : decode cX2_make 56 = .ok (.aload_n 0, 1) := by decide +kernel
theorem dX2_make_57 : decode cX2_make 57 = .ok (.aload_n 1, 1) := by decide +kernel
theorem dX2_make_58 : decode cX2_make 58 = .ok (.iload 4, 2) := by decide +kernel
theorem dX2_make_60 : decode cX2_make 60 = .ok (.aaload, 1) := by decide +kernel
theorem dX2_make_61 : decode cX2_make 61 = .ok (.iconst 0, 1) := by decide +kernel
theorem dX2_make_62 : decode cX2_make 62 = .ok (.iload_n 3, 1) := by decide +kernel
theorem dX2_make_63 : decode cX2_make 63 = .ok (.iconst 1, 1) := by decide +kernel
theorem dX2_make_64 : decode cX2_make 64 = .ok (.invokevirtual 49, 3) := by decide +kernel
theorem dX2_make_67 : decode cX2_make 67 = .ok (.iload 4, 2) := by decide +kernel
theorem dX2_make_69 : decode cX2_make 69 = .ok (.iload_n 2, 1) := by decide +kernel
theorem dX2_make_70 : decode cX2_make 70 = .ok (.iconst 1, 1) := by decide +kernel
theorem dX2_make_71 : decode cX2_make 71 = .ok (.isub, 1) := by decide +kernel
theorem dX2_make_72 : decode cX2_make 72 = .ok (.if_icmp .ge 15, 3) := by decide +kernel
theorem dX2_make_75 : decode cX2_make 75 = .ok (.aload_n 0, 1) := by decide +kernel
theorem dX2_make_76 : decode cX2_make 76 = .ok (.iconst 4, 1) := by decide +kernel
theorem dX2_make_77 : decode cX2_make 77 = .ok (.aload_n 1, 1) := by decide +kernel
theorem dX2_make_78 : decode cX2_make 78 = .ok (.iload 4, 2) := by decide +kernel
theorem dX2_make_80 : decode cX2_make 80 = .ok (.aaload, 1) := by decide +kernel
theorem dX2_make_81 : decode cX2_make 81 = .ok (.iconst 0, 1) := by decide +kernel
theorem dX2_make_82 : decode cX2_make 82 = .ok (.iconst 4, 1) := by decide +kernel
theorem dX2_make_83 : decode cX2_make 83 = .ok (.iconst (-1), 1) := by decide +kernel
theorem dX2_make_84 : decode cX2_make 84 = .ok (.invokevirtual 53, 3) := by decide +kernel
theorem dX2_make_87 : decode cX2_make 87 = .ok (.iinc 4 1, 3) := by decide +kernel
theorem dX2_make_90 : decode cX2_make 90 = .ok (.goto (-57), 3) := by decide +kernel
theorem dX2_make_93 : decode cX2_make 93 = .ok (.return_, 1) := by decide +kernel
theorem dX2_workOut_0 : decode cX2_workOut 0 = .ok (.iload 4, 2) := by decide +kernel
theorem dX2_workOut_2 : decode cX2_workOut 2 = .ok (.bipush 40, 2) := by decide +kernel
theorem dX2_workOut_4 : decode cX2_workOut 4 = .ok (.if_icmp .le 4, 3) := by decide +kernel
theorem dX2_workOut_7 : decode cX2_workOut 7 = .ok (.return_, 1) := by decide +kernel
theorem dX2_workOut_8 : decode cX2_workOut 8 = .ok (.aload_n 1, 1) := by decide +kernel
theorem dX2_workOut_9 : decode cX2_workOut 9 = .ok (.getfield 57, 3) := by decide +kernel
theorem dX2_workOut_12 : decode cX2_workOut 12 = .ok (.iload_n 2, 1) := by decide +kernel
theorem dX2_workOut_13 : decode cX2_workOut 13 = .ok (.invokevirtual 60, 3) := by decide +kernel
theorem dX2_workOut_16 : decode cX2_workOut 16 = .ok (.istore 5, 2) := by decide +kernel
theorem dX2_workOut_18 : decode cX2_workOut 18 = .ok (.iload 5, 2) := by decide +kernel
theorem dX2_workOut_20 : decode cX2_workOut 20 = .ok (.invokestatic 66, 3) := by decide +kernel
theorem dX2_workOut_23 : decode cX2_workOut 23 = .ok (.istore 6, 2) := by decide +kernel
theorem dX2_workOut_25 : decode cX2_workOut 25 = .ok (.iload 5, 2) := by decide +kernel
theorem dX2_workOut_27 : decode cX2_workOut 27 = .ok (.iconst 2, 1) := by decide +kernel
theorem dX2_workOut_28 : decode cX2_workOut 28 = .ok (.if_icmp .ne 15, 3) := by decide +kernel
theorem dX2_workOut_31 : decode cX2_workOut 31 = .ok (.aload_n 0, 1) := by decide +kernel
theorem dX2_workOut_32 : decode cX2_workOut 32 = .ok (.iconst 5, 1) := by decide +kernel
theorem dX2_workOut_33 : decode cX2_workOut 33 = .ok (.aload_n 1, 1) := by decide +kernel
theorem dX2_workOut_34 : decode cX2_workOut 34 = .ok (.iload_n 2, 1) := by decide +kernel
theorem dX2_workOut_35 : decode cX2_workOut 35 = .ok (.iconst 4, 1) := by decide +kernel
theorem dX2_workOut_36 : decode cX2_workOut 36 = .ok (.iconst 1, 1) := by decide +kernel
theorem dX2_workOut_37 : decode cX2_workOut 37 = .ok (.invokevirtual 53, 3) := by decide +kernel
theorem dX2_workOut_40 : decode cX2_workOut 40 = .ok (.goto 82, 3) := by decide +kernel
theorem dX2_workOut_43 : decode cX2_workOut 43 = .ok (.iload 6, 2) := by decide +kernel
theorem dX2_workOut_45 : decode cX2_workOut 45 = .ok (.ifCond .ne 15, 3) := by decide +kernel
theorem dX2_workOut_48 : decode cX2_workOut 48 = .ok (.aload_n 0, 1) := by decide +kernel
theorem dX2_workOut_49 : decode cX2_workOut 49 = .ok (.iconst 0, 1) := by decide +kernel
theorem dX2_workOut_50 : decode cX2_workOut 50 = .ok (.aload_n 1, 1) := by decide +kernel
theorem dX2_workOut_51 : decode cX2_workOut 51 = .ok (.iload_n 2, 1) := by decide +kernel
theorem dX2_workOut_52 : decode cX2_workOut 52 = .ok (.iconst 1, 1) := by decide +kernel
theorem dX2_workOut_53 : decode cX2_workOut 53 = .ok (.iconst 1, 1) := by decide +kernel
theorem dX2_workOut_54 : decode cX2_workOut 54 = .ok (.invokevirtual 53, 3) := by decide +kernel
theorem dX2_workOut_57 : decode cX2_workOut 57 = .ok (.goto 65, 3) := by decide +kernel
theorem dX2_workOut_60 : decode cX2_workOut 60 = .ok (.iload 6, 2) := by decide +kernel
theorem dX2_workOut_62 : decode cX2_workOut 62 = .ok (.iconst 1, 1) := by decide +kernel
theorem dX2_workOut_63 : decode cX2_workOut 63 = .ok (.if_icmp .ne 28, 3) := by decide +kernel
theorem dX2_workOut_66 : decode cX2_workOut 66 = .ok (.aload_n 0, 1) := by decide +kernel
theorem dX2_workOut_67 : decode cX2_workOut 67 = .ok (.aload_n 1, 1) := by decide +kernel
theorem dX2_workOut_68 : decode cX2_workOut 68 = .ok (.iload_n 2, 1) := by decide +kernel
theorem dX2_workOut_69 : decode cX2_workOut 69 = .ok (.iconst 1, 1) := by decide +kernel
theorem dX2_workOut_70 : decode cX2_workOut 70 = .ok (.iadd, 1) := by decide +kernel
theorem dX2_workOut_71 : decode cX2_workOut 71 = .ok (.iload_n 3, 1) := by decide +kernel
theorem dX2_workOut_72 : decode cX2_workOut 72 = .ok (.iload 4, 2) := by decide +kernel
theorem dX2_workOut_74 : decode cX2_workOut 74 = .ok (.iconst 1, 1) := by decide +kernel
theorem dX2_workOut_75 : decode cX2_workOut 75 = .ok (.iadd, 1) := by decide +kernel
theorem dX2_workOut_76 : decode cX2_workOut 76 = .ok (.invokevirtual 49, 3) := by decide +kernel
theorem dX2_workOut_79 : decode cX2_workOut 79 = .ok (.aload_n 0, 1) := by decide +kernel
theorem dX2_workOut_80 : decode cX2_workOut 80 = .ok (.iconst 1, 1) := by decide +kernel
theorem dX2_workOut_81 : decode cX2_workOut 81 = .ok (.aload_n 1, 1) := by decide +kernel
theorem dX2_workOut_82 : decode cX2_workOut 82 = .ok (.iload_n 2, 1) := by decide +kernel
theorem dX2_workOut_83 : decode cX2_workOut 83 = .ok (.iconst 1, 1) := by decide +kernel
theorem dX2_workOut_84 : decode cX2_workOut 84 = .ok (.iconst 0, 1) := by decide +kernel
theorem dX2_workOut_85 : decode cX2_workOut 85 = .ok (.invokevirtual 53, 3) := by decide +kernel
theorem dX2_workOut_88 : decode cX2_workOut 88 = .ok (.goto 34, 3) := by decide +kernel
theorem dX2_workOut_91 : decode cX2_workOut 91 = .ok (.aload_n 0, 1) := by decide +kernel
theorem dX2_workOut_92 : decode cX2_workOut 92 = .ok (.aload_n 1, 1) := by decide +kernel
theorem dX2_workOut_93 : decode cX2_workOut 93 = .ok (.iload_n 2, 1) := by decide +kernel
theorem dX2_workOut_94 : decode cX2_workOut 94 = .ok (.iload_n 3, 1) := by decide +kernel
theorem dX2_workOut_95 : decode cX2_workOut 95 = .ok (.iload 4, 2) := by decide +kernel
theorem dX2_workOut_97 : decode cX2_workOut 97 = .ok (.iconst 1, 1) := by decide +kernel
theorem dX2_workOut_98 : decode cX2_workOut 98 = .ok (.iadd, 1) := by decide +kernel
theorem dX2_workOut_99 : decode cX2_workOut 99 = .ok (.invokevirtual 69, 3) := by decide +kernel
theorem dX2_workOut_102 : decode cX2_workOut 102 = .ok (.aload_n 0, 1) := by decide +kernel
theorem dX2_workOut_103 : decode cX2_workOut 103 = .ok (.iconst 1, 1) := by decide +kernel
theorem dX2_workOut_104 : decode cX2_workOut 104 = .ok (.aload_n 1, 1) := by decide +kernel
theorem dX2_workOut_105 : decode cX2_workOut 105 = .ok (.iload_n 2, 1) := by decide +kernel
theorem dX2_workOut_106 : decode cX2_workOut 106 = .ok (.iload 5, 2) := by decide +kernel
theorem dX2_workOut_108 : decode cX2_workOut 108 = .ok (.bipush 6, 2) := by decide +kernel
theorem dX2_workOut_110 : decode cX2_workOut 110 = .ok (.if_icmp .ne 7, 3) := by decide +kernel
theorem dX2_workOut_113 : decode cX2_workOut 113 = .ok (.iconst 3, 1) := by decide +kernel
theorem dX2_workOut_114 : decode cX2_workOut 114 = .ok (.goto 4, 3) := by decide +kernel
theorem dX2_workOut_117 : decode cX2_workOut 117 = .ok (.iconst 1, 1) := by decide +kernel
theorem dX2_workOut_118 : decode cX2_workOut 118 = .ok (.iconst (-1), 1) := by decide +kernel
theorem dX2_workOut_119 : decode cX2_workOut 119 = .ok (.invokevirtual 53, 3) := by decide +kernel
theorem dX2_workOut_122 : decode cX2_workOut 122 = .ok (.return_, 1) := by decide +kernel
theorem dX2_workOutParts_0 : decode cX2_workOutParts 0 = .ok (.iload_n 2, 1) := by decide +kernel
theorem dX2_workOutParts_1 : decode cX2_workOutParts 1 = .ok (.iconst 1, 1) := by decide +kernel
theorem dX2_workOutParts_2 : decode cX2_workOutParts 2 = .ok (.iadd, 1) := by decide +kernel
theorem dX2_workOutParts_3 : decode cX2_workOutParts 3 = .ok (.istore 5, 2) := by decide +kernel
theorem dX2_workOutParts_5 : decode cX2_workOutParts 5 = .ok (.aload_n 1, 1) := by decide +kernel
theorem dX2_workOutParts_6 : decode cX2_workOutParts 6 = .ok (.iload_n 2, 1) := by decide +kernel
theorem dX2_workOutParts_7 : decode cX2_workOutParts 7 = .ok (.invokevirtual 72, 3) := by decide +kernel
theorem dX2_workOutParts_10 : decode cX2_workOutParts 10 = .ok (.istore 6, 2) := by decide +kernel
theorem dX2_workOutParts_12 : decode cX2_workOutParts 12 = .ok (.aload_n 1, 1) := by decide +kernel
theorem dX2_workOutParts_13 : decode cX2_workOutParts 13 = .ok (.iload 5, 2) := by decide +kernel
theorem dX2_workOutParts_15 : decode cX2_workOutParts 15 = .ok (.invokevirtual 75, 3) := by decide +kernel
theorem dX2_workOutParts_18 : decode cX2_workOutParts 18 = .ok (.aload_n 1, 1) := by decide +kernel
theorem dX2_workOutParts_19 : decode cX2_workOutParts 19 = .ok (.iload 6, 2) := by decide +kernel
theorem dX2_workOutParts_21 : decode cX2_workOutParts 21 = .ok (.invokevirtual 75, 3) := by decide +kernel
theorem dX2_workOutParts_24 : decode cX2_workOutParts 24 = .ok (.if_icmp .lt 7, 3) := by decide +kernel
theorem dX2_workOutParts_27 : decode cX2_workOutParts 27 = .ok (.iconst 1, 1) := by decide +kernel
theorem dX2_workOutParts_28 : decode cX2_workOutParts 28 = .ok (.goto 4, 3) := by decide +kernel
theorem dX2_workOutParts_31 : decode cX2_workOutParts 31 = .ok (.iconst 0, 1) := by decide +kernel
theorem dX2_workOutParts_32 : decode cX2_workOutParts 32 = .ok (.istore 7, 2) := by decide +kernel
theorem dX2_workOutParts_34 : decode cX2_workOutParts 34 = .ok (.iload 7, 2) := by decide +kernel
theorem dX2_workOutParts_36 : decode cX2_workOutParts 36 = .ok (.ifCond .eq 8, 3) := by decide +kernel
theorem dX2_workOutParts_39 : decode cX2_workOutParts 39 = .ok (.iload 5, 2) := by decide +kernel
theorem dX2_workOutParts_41 : decode cX2_workOutParts 41 = .ok (.goto 5, 3) := by decide +kernel
theorem dX2_workOutParts_44 : decode cX2_workOutParts 44 = .ok (.iload 6, 2) := by decide +kernel
theorem dX2_workOutParts_46 : decode cX2_workOutParts 46 = .ok (.istore 8, 2) := by decide +kernel
theorem dX2_workOutParts_48 : decode cX2_workOutParts 48 = .ok (.iload 7, 2) := by decide +kernel
theorem dX2_workOutParts_50 : decode cX2_workOutParts 50 = .ok (.ifCond .eq 8, 3) := by decide +kernel
theorem dX2_workOutParts_53 : decode cX2_workOutParts 53 = .ok (.iload 6, 2) := by decide +kernel
theorem dX2_workOutParts_55 : decode cX2_workOutParts 55 = .ok (.goto 5, 3) := by decide +kernel
theorem dX2_workOutParts_58 : decode cX2_workOutParts 58 = .ok (.iload 5, 2) := by decide +kernel
theorem dX2_workOutParts_60 : decode cX2_workOutParts 60 = .ok (.istore 9, 2) := by decide +kernel
theorem dX2_workOutParts_62 : decode cX2_workOutParts 62 = .ok (.aload_n 0, 1) := by decide +kernel
theorem dX2_workOutParts_63 : decode cX2_workOutParts 63 = .ok (.aload_n 1, 1) := by decide +kernel
theorem dX2_workOutParts_64 : decode cX2_workOutParts 64 = .ok (.iload 8, 2) := by decide +kernel
theorem dX2_workOutParts_66 : decode cX2_workOutParts 66 = .ok (.iload_n 3, 1) := by decide +kernel
theorem dX2_workOutParts_67 : decode cX2_workOutParts 67 = .ok (.iload 4, 2) := by decide +kernel
theorem dX2_workOutParts_69 : decode cX2_workOutParts 69 = .ok (.invokevirtual 49, 3) := by decide +kernel
theorem dX2_workOutParts_72 : decode cX2_workOutParts 72 = .ok (.aload_n 1, 1) := by decide +kernel
theorem dX2_workOutParts_73 : decode cX2_workOutParts 73 = .ok (.iload 9, 2) := by decide +kernel
theorem dX2_workOutParts_75 : decode cX2_workOutParts 75 = .ok (.invokevirtual 75, 3) := by decide +kernel
theorem dX2_workOutParts_78 : decode cX2_workOutParts 78 = .ok (.iload_n 3, 1) := by decide +kernel
theorem dX2_workOutParts_79 : decode cX2_workOutParts 79 = .ok (.if_icmp .ge 18, 3) := by decide +kernel
theorem dX2_workOutParts_82 : decode cX2_workOutParts 82 = .ok (.aload_n 0, 1) := by decide +kernel
theorem dX2_workOutParts_83 : decode cX2_workOutParts 83 = .ok (.aload_n 1, 1) := by decide +kernel
theorem dX2_workOutParts_84 : decode cX2_workOutParts 84 = .ok (.iload 9, 2) := by decide +kernel
theorem dX2_workOutParts_86 : decode cX2_workOutParts 86 = .ok (.iload_n 3, 1) := by decide +kernel
theorem dX2_workOutParts_87 : decode cX2_workOutParts 87 = .ok (.iconst 1, 1) := by decide +kernel
theorem dX2_workOutParts_88 : decode cX2_workOutParts 88 = .ok (.isub, 1) := by decide +kernel
theorem dX2_workOutParts_89 : decode cX2_workOutParts 89 = .ok (.iload 4, 2) := by decide +kernel
theorem dX2_workOutParts_91 : decode cX2_workOutParts 91 = .ok (.invokevirtual 49, 3) := by decide +kernel
theorem dX2_workOutParts_94 : decode cX2_workOutParts 94 = .ok (.goto 33, 3) := by decide +kernel
theorem dX2_workOutParts_97 : decode cX2_workOutParts 97 = .ok (.aload_n 0, 1) := by decide +kernel
theorem dX2_workOutParts_98 : decode cX2_workOutParts 98 = .ok (.iconst 2, 1) := by decide +kernel
theorem dX2_workOutParts_99 : decode cX2_workOutParts 99 = .ok (.aload_n 1, 1) := by decide +kernel
theorem dX2_workOutParts_100 : decode cX2_workOutParts 100 = .ok (.iload 8, 2) := by decide +kernel
theorem dX2_workOutParts_102 : decode cX2_workOutParts 102 = .ok (.iconst 4, 1) := by decide +kernel
theorem dX2_workOutParts_103 : decode cX2_workOutParts 103 = .ok (.iconst (-1), 1) := by decide +kernel
theorem dX2_workOutParts_104 : decode cX2_workOutParts 104 = .ok (.invokevirtual 53, 3) := by decide +kernel
theorem dX2_workOutParts_107 : decode cX2_workOutParts 107 = .ok (.aload_n 0, 1) := by decide +kernel
theorem dX2_workOutParts_108 : decode cX2_workOutParts 108 = .ok (.aload_n 1, 1) := by decide +kernel
theorem dX2_workOutParts_109 : decode cX2_workOutParts 109 = .ok (.iload 9, 2) := by decide +kernel
theorem dX2_workOutParts_111 : decode cX2_workOutParts 111 = .ok (.iload_n 3, 1) := by decide +kernel
theorem dX2_workOutParts_112 : decode cX2_workOutParts 112 = .ok (.iload 4, 2) := by decide +kernel
theorem dX2_workOutParts_114 : decode cX2_workOutParts 114 = .ok (.invokevirtual 49, 3) := by decide +kernel
theorem dX2_workOutParts_117 : decode cX2_workOutParts 117 = .ok (.aload_n 0, 1) := by decide +kernel
theorem dX2_workOutParts_118 : decode cX2_workOutParts 118 = .ok (.iconst 3, 1) := by decide +kernel
theorem dX2_workOutParts_119 : decode cX2_workOutParts 119 = .ok (.aload_n 1, 1) := by decide +kernel
theorem dX2_workOutParts_120 : decode cX2_workOutParts 120 = .ok (.iload 8, 2) := by decide +kernel
theorem dX2_workOutParts_122 : decode cX2_workOutParts 122 = .ok (.iconst 4, 1) := by decide +kernel
theorem dX2_workOutParts_123 : decode cX2_workOutParts 123 = .ok (.iconst 1, 1) := by decide +kernel
theorem dX2_workOutParts_124 : decode cX2_workOutParts 124 = .ok (.invokevirtual 53, 3) := by decide +kernel
theorem dX2_workOutParts_127 : decode cX2_workOutParts 127 = .ok (.return_, 1) := by decide +kernel
theorem dX2_addStep_0 : decode cX2_addStep 0 = .ok (.aload_n 0, 1) := by decide +kernel
theorem dX2_addStep_1 : decode cX2_addStep 1 = .ok (.dup, 1) := by decide +kernel
theorem dX2_addStep_2 : decode cX2_addStep 2 = .ok (.getfield 40, 3) := by decide +kernel
theorem dX2_addStep_5 : decode cX2_addStep 5 = .ok (.iload 5, 2) := by decide +kernel
theorem dX2_addStep_7 : decode cX2_addStep 7 = .ok (.iadd, 1) := by decide +kernel
theorem dX2_addStep_8 : decode cX2_addStep 8 = .ok (.putfield 40, 3) := by decide +kernel
theorem dX2_addStep_11 : decode cX2_addStep 11 = .ok (.aload_n 0, 1) := by decide +kernel
theorem dX2_addStep_12 : decode cX2_addStep 12 = .ok (.dup, 1) := by decide +kernel
theorem dX2_addStep_13 : decode cX2_addStep 13 = .ok (.getfield 28, 3) := by decide +kernel
theorem dX2_addStep_16 : decode cX2_addStep 16 = .ok (.iload 4, 2) := by decide +kernel
theorem dX2_addStep_18 : decode cX2_addStep 18 = .ok (.iadd, 1) := by decide +kernel
theorem dX2_addStep_19 : decode cX2_addStep 19 = .ok (.putfield 28, 3) := by decide +kernel
theorem dX2_addStep_22 : decode cX2_addStep 22 = .ok (.aload_n 0, 1) := by decide +kernel
theorem dX2_addStep_23 : decode cX2_addStep 23 = .ok (.dup, 1) := by decide +kernel
theorem dX2_addStep_24 : decode cX2_addStep 24 = .ok (.getfield 31, 3) := by decide +kernel
theorem dX2_addStep_27 : decode cX2_addStep 27 = .ok (.iload_n 1, 1) := by decide +kernel
theorem dX2_addStep_28 : decode cX2_addStep 28 = .ok (.iconst 2, 1) := by decide +kernel
theorem dX2_addStep_29 : decode cX2_addStep 29 = .ok (.if_icmp .ne 7, 3) := by decide +kernel
theorem dX2_addStep_32 : decode cX2_addStep 32 = .ok (.iconst 1, 1) := by decide +kernel
theorem dX2_addStep_33 : decode cX2_addStep 33 = .ok (.goto 4, 3) := by decide +kernel
theorem dX2_addStep_36 : decode cX2_addStep 36 = .ok (.iconst 0, 1) := by decide +kernel
theorem dX2_addStep_37 : decode cX2_addStep 37 = .ok (.iadd, 1) := by decide +kernel
theorem dX2_addStep_38 : decode cX2_addStep 38 = .ok (.putfield 31, 3) := by decide +kernel
theorem dX2_addStep_41 : decode cX2_addStep 41 = .ok (.aload_n 0, 1) := by decide +kernel
theorem dX2_addStep_42 : decode cX2_addStep 42 = .ok (.dup, 1) := by decide +kernel
theorem dX2_addStep_43 : decode cX2_addStep 43 = .ok (.getfield 34, 3) := by decide +kernel
theorem dX2_addStep_46 : decode cX2_addStep 46 = .ok (.iload_n 1, 1) := by decide +kernel
theorem dX2_addStep_47 : decode cX2_addStep 47 = .ok (.iconst 5, 1) := by decide +kernel
theorem dX2_addStep_48 : decode cX2_addStep 48 = .ok (.if_icmp .ne 7, 3) := by decide +kernel
theorem dX2_addStep_51 : decode cX2_addStep 51 = .ok (.iconst 1, 1) := by decide +kernel
theorem dX2_addStep_52 : decode cX2_addStep 52 = .ok (.goto 4, 3) := by decide +kernel
theorem dX2_addStep_55 : decode cX2_addStep 55 = .ok (.iconst 0, 1) := by decide +kernel
theorem dX2_addStep_56 : decode cX2_addStep 56 = .ok (.iadd, 1) := by decide +kernel
theorem dX2_addStep_57 : decode cX2_addStep 57 = .ok (.putfield 34, 3) := by decide +kernel
theorem dX2_addStep_60 : decode cX2_addStep 60 = .ok (.aload_n 0, 1) := by decide +kernel
theorem dX2_addStep_61 : decode cX2_addStep 61 = .ok (.dup, 1) := by decide +kernel
theorem dX2_addStep_62 : decode cX2_addStep 62 = .ok (.getfield 37, 3) := by decide +kernel
theorem dX2_addStep_65 : decode cX2_addStep 65 = .ok (.iload_n 1, 1) := by decide +kernel
theorem dX2_addStep_66 : decode cX2_addStep 66 = .ok (.iconst 1, 1) := by decide +kernel
theorem dX2_addStep_67 : decode cX2_addStep 67 = .ok (.if_icmp .ne 8, 3) := by decide +kernel
theorem dX2_addStep_70 : decode cX2_addStep 70 = .ok (.iload 4, 2) := by decide +kernel
theorem dX2_addStep_72 : decode cX2_addStep 72 = .ok (.goto 4, 3) := by decide +kernel
theorem dX2_addStep_75 : decode cX2_addStep 75 = .ok (.iconst 0, 1) := by decide +kernel
theorem dX2_addStep_76 : decode cX2_addStep 76 = .ok (.iadd, 1) := by decide +kernel
theorem dX2_addStep_77 : decode cX2_addStep 77 = .ok (.putfield 37, 3) := by decide +kernel
theorem dX2_addStep_80 : decode cX2_addStep 80 = .ok (.aload_n 0, 1) := by decide +kernel
theorem dX2_addStep_81 : decode cX2_addStep 81 = .ok (.getfield 24, 3) := by decide +kernel
theorem dX2_addStep_84 : decode cX2_addStep 84 = .ok (.ifCond .lt 69, 3) := by decide +kernel
theorem dX2_addStep_87 : decode cX2_addStep 87 = .ok (.aload_n 0, 1) := by decide +kernel
theorem dX2_addStep_88 : decode cX2_addStep 88 = .ok (.getfield 24, 3) := by decide +kernel
theorem dX2_addStep_91 : decode cX2_addStep 91 = .ok (.sipush 726, 3) := by decide +kernel
theorem dX2_addStep_94 : decode cX2_addStep 94 = .ok (.if_icmp .ge 59, 3) := by decide +kernel
theorem dX2_addStep_97 : decode cX2_addStep 97 = .ok (.aload_n 0, 1) := by decide +kernel
theorem dX2_addStep_98 : decode cX2_addStep 98 = .ok (.getfield 11, 3) := by decide +kernel
theorem dX2_addStep_101 : decode cX2_addStep 101 = .ok (.aload_n 0, 1) := by decide +kernel
theorem dX2_addStep_102 : decode cX2_addStep 102 = .ok (.getfield 24, 3) := by decide +kernel
theorem dX2_addStep_105 : decode cX2_addStep 105 = .ok (.iload_n 1, 1) := by decide +kernel
theorem dX2_addStep_106 : decode cX2_addStep 106 = .ok (.iastore, 1) := by decide +kernel
theorem dX2_addStep_107 : decode cX2_addStep 107 = .ok (.aload_n 0, 1) := by decide +kernel
theorem dX2_addStep_108 : decode cX2_addStep 108 = .ok (.getfield 15, 3) := by decide +kernel
theorem dX2_addStep_111 : decode cX2_addStep 111 = .ok (.aload_n 0, 1) := by decide +kernel
theorem dX2_addStep_112 : decode cX2_addStep 112 = .ok (.getfield 24, 3) := by decide +kernel
theorem dX2_addStep_115 : decode cX2_addStep 115 = .ok (.aload_n 2, 1) := by decide +kernel
theorem dX2_addStep_116 : decode cX2_addStep 116 = .ok (.getfield 78, 3) := by decide +kernel
theorem dX2_addStep_119 : decode cX2_addStep 119 = .ok (.iastore, 1) := by decide +kernel
theorem dX2_addStep_120 : decode cX2_addStep 120 = .ok (.aload_n 0, 1) := by decide +kernel
theorem dX2_addStep_121 : decode cX2_addStep 121 = .ok (.getfield 18, 3) := by decide +kernel
theorem dX2_addStep_124 : decode cX2_addStep 124 = .ok (.aload_n 0, 1) := by decide +kernel
theorem dX2_addStep_125 : decode cX2_addStep 125 = .ok (.getfield 24, 3) := by decide +kernel
theorem dX2_addStep_128 : decode cX2_addStep 128 = .ok (.iload_n 3, 1) := by decide +kernel
theorem dX2_addStep_129 : decode cX2_addStep 129 = .ok (.iastore, 1) := by decide +kernel
theorem dX2_addStep_130 : decode cX2_addStep 130 = .ok (.aload_n 0, 1) := by decide +kernel
theorem dX2_addStep_131 : decode cX2_addStep 131 = .ok (.getfield 21, 3) := by decide +kernel
theorem dX2_addStep_134 : decode cX2_addStep 134 = .ok (.aload_n 0, 1) := by decide +kernel
theorem dX2_addStep_135 : decode cX2_addStep 135 = .ok (.getfield 24, 3) := by decide +kernel
theorem dX2_addStep_138 : decode cX2_addStep 138 = .ok (.aload_n 0, 1) := by decide +kernel
theorem dX2_addStep_139 : decode cX2_addStep 139 = .ok (.getfield 40, 3) := by decide +kernel
theorem dX2_addStep_142 : decode cX2_addStep 142 = .ok (.iastore, 1) := by decide +kernel
theorem dX2_addStep_143 : decode cX2_addStep 143 = .ok (.aload_n 0, 1) := by decide +kernel
theorem dX2_addStep_144 : decode cX2_addStep 144 = .ok (.dup, 1) := by decide +kernel
theorem dX2_addStep_145 : decode cX2_addStep 145 = .ok (.getfield 24, 3) := by decide +kernel
theorem dX2_addStep_148 : decode cX2_addStep 148 = .ok (.iconst 1, 1) := by decide +kernel
theorem dX2_addStep_149 : decode cX2_addStep 149 = .ok (.iadd, 1) := by decide +kernel
theorem dX2_addStep_150 : decode cX2_addStep 150 = .ok (.putfield 24, 3) := by decide +kernel
theorem dX2_addStep_153 : decode cX2_addStep 153 = .ok (.return_, 1) := by decide +kernel
end
section
theorem dX3_init_0 : decode cX3_init 0 = .ok (.aload_n 0, 1) := by decide +kernel
theorem dX3_init_1 : decode cX3_init 1 = .ok (.invokespecial 3, 3) := by decide +kernel
theorem dX3_init_4 : decode cX3_init 4 = .ok (.aload_n 0, 1) := by decide +kernel
theorem dX3_init_5 : decode cX3_init 5 = .ok (.bipush 100, 2) := by decide +kernel
theorem dX3_init_7 : decode cX3_init 7 = .ok (.newarray .int, 2) := by decide +kernel
theorem dX3_init_9 : decode cX3_init 9 = .ok (.putfield 9, 3) := by decide +kernel
theorem dX3_init_12 : decode cX3_init 12 = .ok (.aload_n 0, 1) := by decide +kernel
theorem dX3_init_13 : decode cX3_init 13 = .ok (.new 15, 3) := by decide +kernel
theorem dX3_init_16 : decode cX3_init 16 = .ok (.dup, 1) := by decide +kernel
theorem dX3_init_17 : decode cX3_init 17 = .ok (.invokespecial 17, 3) := by decide +kernel
theorem dX3_init_20 : decode cX3_init 20 = .ok (.putfield 18, 3) := by decide +kernel
theorem dX3_init_23 : decode cX3_init 23 = .ok (.return_, 1) := by decide +kernel
theorem dX3_take_0 : decode cX3_take 0 = .ok (.aload_n 0, 1) := by decide +kernel
theorem dX3_take_1 : decode cX3_take 1 = .ok (.getfield 22, 3) := by decide +kernel
theorem dX3_take_4 : decode cX3_take 4 = .ok (.ifCond .lt 15, 3) := by decide +kernel
theorem dX3_take_7 : decode cX3_take 7 = .ok (.aload_n 0, 1) := by decide +kernel
theorem dX3_take_8 : decode cX3_take 8 = .ok (.getfield 22, 3) := by decide +kernel
theorem dX3_take_11 : decode cX3_take 11 = .ok (.aload_n 0, 1) := by decide +kernel
theorem dX3_take_12 : decode cX3_take 12 = .ok (.getfield 9, 3) := by decide +kernel
theorem dX3_take_15 : decode cX3_take 15 = .ok (.arraylength, 1) := by decide +kernel
theorem dX3_take_16 : decode cX3_take 16 = .ok (.if_icmp .lt 5, 3) := by decide +kernel
theorem dX3_take_19 : decode cX3_take 19 = .ok (.iconst 0, 1) := by decide +kernel
theorem dX3_take_20 : decode cX3_take 20 = .ok (.ireturn, 1) := by decide +kernel
theorem dX3_take_21 : decode cX3_take 21 = .ok (.aload_n 0, 1) := by decide +kernel
theorem dX3_take_22 : decode cX3_take 22 = .ok (.getfield 9, 3) := by decide +kernel
theorem dX3_take_25 : decode cX3_take 25 = .ok (.aload_n 0, 1) := by decide +kernel
theorem dX3_take_26 : decode cX3_take 26 = .ok (.getfield 22, 3) := by decide +kernel
theorem dX3_take_29 : decode cX3_take 29 = .ok (.iload_n 1, 1) := by decide +kernel
theorem dX3_take_30 : decode cX3_take 30 = .ok (.iastore, 1) := by decide +kernel
theorem dX3_take_31 : decode cX3_take 31 = .ok (.aload_n 0, 1) := by decide +kernel
theorem dX3_take_32 : decode cX3_take 32 = .ok (.dup, 1) := by decide +kernel
theorem dX3_take_33 : decode cX3_take 33 = .ok (.getfield 22, 3) := by decide +kernel
theorem dX3_take_36 : decode cX3_take 36 = .ok (.iconst 1, 1) := by decide +kernel
theorem dX3_take_37 : decode cX3_take 37 = .ok (.iadd, 1) := by decide +kernel
theorem dX3_take_38 : decode cX3_take 38 = .ok (.putfield 22, 3) := by decide +kernel
theorem dX3_take_41 : decode cX3_take 41 = .ok (.iconst 1, 1) := by decide +kernel
theorem dX3_take_42 : decode cX3_take 42 = .ok (.ireturn, 1) := by decide +kernel
theorem dX3_sign_0 : decode cX3_sign 0 = .ok (.aload_n 0, 1) := by decide +kernel
theorem dX3_sign_1 : decode cX3_sign 1 = .ok (.getfield 26, 3) := by decide +kernel
theorem dX3_sign_4 : decode cX3_sign 4 = .ok (.ifCond .lt 38, 3) := by decide +kernel
theorem dX3_sign_7 : decode cX3_sign 7 = .ok (.aload_n 0, 1) := by decide +kernel
theorem dX3_sign_8 : decode cX3_sign 8 = .ok (.getfield 26, 3) := by decide +kernel
theorem dX3_sign_11 : decode cX3_sign 11 = .ok (.aload_n 0, 1) := by decide +kernel
theorem dX3_sign_12 : decode cX3_sign 12 = .ok (.getfield 22, 3) := by decide +kernel
theorem dX3_sign_15 : decode cX3_sign 15 = .ok (.if_icmp .ge 27, 3) := by decide +kernel
theorem dX3_sign_18 : decode cX3_sign 18 = .ok (.aload_n 0, 1) := by decide +kernel
theorem dX3_sign_19 : decode cX3_sign 19 = .ok (.getfield 26, 3) := by decide +kernel
theorem dX3_sign_22 : decode cX3_sign 22 = .ok (.aload_n 0, 1) := by decide +kernel
theorem dX3_sign_23 : decode cX3_sign 23 = .ok (.getfield 9, 3) := by decide +kernel
theorem dX3_sign_26 : decode cX3_sign 26 = .ok (.arraylength, 1) := by decide +kernel
theorem dX3_sign_27 : decode cX3_sign 27 = .ok (.if_icmp .ge 15, 3) := by decide +kernel
theorem dX3_sign_30 : decode cX3_sign 30 = .ok (.aload_n 0, 1) := by decide +kernel
theorem dX3_sign_31 : decode cX3_sign 31 = .ok (.getfield 9, 3) := by decide +kernel
theorem dX3_sign_34 : decode cX3_sign 34 = .ok (.aload_n 0, 1) := by decide +kernel
theorem dX3_sign_35 : decode cX3_sign 35 = .ok (.getfield 26, 3) := by decide +kernel
theorem dX3_sign_38 : decode cX3_sign 38 = .ok (.iaload, 1) := by decide +kernel
theorem dX3_sign_39 : decode cX3_sign 39 = .ok (.goto 4, 3) := by decide +kernel
theorem dX3_sign_42 : decode cX3_sign 42 = .ok (.iconst 0, 1) := by decide +kernel
theorem dX3_sign_43 : decode cX3_sign 43 = .ok (.ireturn, 1) := by decide +kernel
theorem dX3_pass_0 : decode cX3_pass 0 = .ok (.aload_n 0, 1) := by decide +kernel
theorem dX3_pass_1 : decode cX3_pass 1 = .ok (.invokevirtual 29, 3) := by decide +kernel
theorem dX3_pass_4 : decode cX3_pass 4 = .ok (.iload_n 1, 1) := by decide +kernel
theorem dX3_pass_5 : decode cX3_pass 5 = .ok (.if_icmp .ne 7, 3) := by decide +kernel
theorem dX3_pass_8 : decode cX3_pass 8 = .ok (.iconst 1, 1) := by decide +kernel
theorem dX3_pass_9 : decode cX3_pass 9 = .ok (.goto 4, 3) := by decide +kernel
theorem dX3_pass_12 : decode cX3_pass 12 = .ok (.iconst 0, 1) := by decide +kernel
theorem dX3_pass_13 : decode cX3_pass 13 = .ok (.istore_n 2, 1) := by decide +kernel
theorem dX3_pass_14 : decode cX3_pass 14 = .ok (.aload_n 0, 1) := by decide +kernel
theorem dX3_pass_15 : decode cX3_pass 15 = .ok (.dup, 1) := by decide +kernel
theorem dX3_pass_16 : decode cX3_pass 16 = .ok (.getfield 26, 3) := by decide +kernel
theorem dX3_pass_19 : decode cX3_pass 19 = .ok (.iload_n 2, 1) := by decide +kernel
theorem dX3_pass_20 : decode cX3_pass 20 = .ok (.ifCond .eq 7, 3) := by decide +kernel
theorem dX3_pass_23 : decode cX3_pass 23 = .ok (.iconst 1, 1) := by decide +kernel
theorem dX3_pass_24 : decode cX3_pass 24 = .ok (.goto 4, 3) := by decide +kernel
theorem dX3_pass_27 : decode cX3_pass 27 = .ok (.iconst 0, 1) := by decide +kernel
theorem dX3_pass_28 : decode cX3_pass 28 = .ok (.iadd, 1) := by decide +kernel
theorem dX3_pass_29 : decode cX3_pass 29 = .ok (.putfield 26, 3) := by decide +kernel
theorem dX3_pass_32 : decode cX3_pass 32 = .ok (.iload_n 2, 1) := by decide +kernel
theorem dX3_pass_33 : decode cX3_pass 33 = .ok (.ireturn, 1) := by decide +kernel
theorem dX3_readSheet_0 : decode cX3_readSheet 0 = .ok (.aload_n 0, 1) := by decide +kernel
theorem dX3_readSheet_1 : decode cX3_readSheet 1 = .ok (.iconst 0, 1) := by decide +kernel
theorem dX3_readSheet_2 : decode cX3_readSheet 2 = .ok (.putfield 26, 3) := by decide +kernel
theorem dX3_readSheet_5 : decode cX3_readSheet 5 = .ok (.iconst 0, 1) := by decide +kernel
theorem dX3_readSheet_6 : decode cX3_readSheet 6 = .ok (.istore_n 1, 1) := by decide +kernel
theorem dX3_readSheet_7 : decode cX3_readSheet 7 = .ok (.iload_n 1, 1) := by decide +kernel
theorem dX3_readSheet_8 : decode cX3_readSheet 8 = .ok (.bipush 6, 2) := by decide +kernel
theorem dX3_readSheet_10 : decode cX3_readSheet 10 = .ok (.if_icmp .ge 22, 3) := by decide +kernel
theorem dX3_readSheet_13 : decode cX3_readSheet 13 = .ok (.aload_n 0, 1) := by decide +kernel
theorem dX3_readSheet_14 : decode cX3_readSheet 14 = .ok (.getfield 18, 3) := by decide +kernel
theorem dX3_readSheet_17 : decode cX3_readSheet 17 = .ok (.getfield 33, 3) := by decide +kernel
theorem dX3_readSheet_20 : decode cX3_readSheet 20 = .ok (.iload_n 1, 1) := by decide +kernel
theorem dX3_readSheet_21 : decode cX3_readSheet 21 = .ok (.aaload, 1) := by decide +kernel
theorem dX3_readSheet_22 : decode cX3_readSheet 22 = .ok (.iconst 0, 1) := by decide +kernel
theorem dX3_readSheet_23 : decode cX3_readSheet 23 = .ok (.putfield 37, 3) := by decide +kernel
theorem dX3_readSheet_26 : decode cX3_readSheet 26 = .ok (.iinc 1 1, 3) := by decide +kernel
theorem dX3_readSheet_29 : decode cX3_readSheet 29 = .ok (.goto (-22), 3) := by decide +kernel
theorem dX3_readSheet_32 : decode cX3_readSheet 32 = .ok (.iconst 0, 1) := by decide +kernel
theorem dX3_readSheet_33 : decode cX3_readSheet 33 = .ok (.istore_n 1, 1) := by decide +kernel
theorem dX3_readSheet_34 : decode cX3_readSheet 34 = .ok (.iload_n 1, 1) := by decide +kernel
theorem dX3_readSheet_35 : decode cX3_readSheet 35 = .ok (.iconst 5, 1) := by decide +kernel
theorem dX3_readSheet_36 : decode cX3_readSheet 36 = .ok (.if_icmp .ge 58, 3) := by decide +kernel
theorem dX3_readSheet_39 : decode cX3_readSheet 39 = .ok (.aload_n 0, 1) := by decide +kernel
theorem dX3_readSheet_40 : decode cX3_readSheet 40 = .ok (.bipush 65, 2) := by decide +kernel
theorem dX3_readSheet_42 : decode cX3_readSheet 42 = .ok (.iload_n 1, 1) := by decide +kernel
theorem dX3_readSheet_43 : decode cX3_readSheet 43 = .ok (.iadd, 1) := by decide +kernel
theorem dX3_readSheet_44 : decode cX3_readSheet 44 = .ok (.invokevirtual 42, 3) := by decide +kernel
theorem dX3_readSheet_47 : decode cX3_readSheet 47 = .ok (.ifCond .eq 47, 3) := by decide +kernel
theorem dX3_readSheet_50 : decode cX3_readSheet 50 = .ok (.aload_n 0, 1) := by decide +kernel
theorem dX3_readSheet_51 : decode cX3_readSheet 51 = .ok (.bipush 61, 2) := by decide +kernel
theorem dX3_readSheet_53 : decode cX3_readSheet 53 = .ok (.invokevirtual 42, 3) := by decide +kernel
theorem dX3_readSheet_56 : decode cX3_readSheet 56 = .ok (.ifCond .eq 30, 3) := by decide +kernel
theorem dX3_readSheet_59 : decode cX3_readSheet 59 = .ok (.aload_n 0, 1) := by decide +kernel
theorem dX3_readSheet_60 : decode cX3_readSheet 60 = .ok (.aload_n 0, 1) := by decide +kernel
theorem dX3_readSheet_61 : decode cX3_readSheet 61 = .ok (.getfield 18, 3) := by decide +kernel
theorem dX3_readSheet_64 : decode cX3_readSheet 64 = .ok (.getfield 33, 3) := by decide +kernel
theorem dX3_readSheet_67 : decode cX3_readSheet 67 = .ok (.iload_n 1, 1) := by decide +kernel
theorem dX3_readSheet_68 : decode cX3_readSheet 68 = .ok (.aaload, 1) := by decide +kernel
theorem dX3_readSheet_69 : decode cX3_readSheet 69 = .ok (.iload_n 1, 1) := by decide +kernel
theorem dX3_readSheet_70 : decode cX3_readSheet 70 = .ok (.iconst 0, 1) := by decide +kernel
theorem dX3_readSheet_71 : decode cX3_readSheet 71 = .ok (.invokevirtual 46, 3) := by decide +kernel
theorem dX3_readSheet_74 : decode cX3_readSheet 74 = .ok (.ifCond .eq 12, 3) := by decide +kernel
theorem dX3_readSheet_77 : decode cX3_readSheet 77 = .ok (.aload_n 0, 1) := by decide +kernel
theorem dX3_readSheet_78 : decode cX3_readSheet 78 = .ok (.bipush 59, 2) := by decide +kernel
theorem dX3_readSheet_80 : decode cX3_readSheet 80 = .ok (.invokevirtual 42, 3) := by decide +kernel
theorem dX3_readSheet_83 : decode cX3_readSheet 83 = .ok (.ifCond .ne 5, 3) := by decide +kernel
theorem dX3_readSheet_86 : decode cX3_readSheet 86 = .ok (.iconst 0, 1) := by decide +kernel
theorem dX3_readSheet_87 : decode cX3_readSheet 87 = .ok (.ireturn, 1) := by decide +kernel
theorem dX3_readSheet_88 : decode cX3_readSheet 88 = .ok (.iinc 1 1, 3) := by decide +kernel
theorem dX3_readSheet_91 : decode cX3_readSheet 91 = .ok (.goto (-57), 3) := by decide +kernel
theorem dX3_readSheet_94 : decode cX3_readSheet 94 = .ok (.aload_n 0, 1) := by decide +kernel
theorem dX3_readSheet_95 : decode cX3_readSheet 95 = .ok (.getfield 18, 3) := by decide +kernel
theorem dX3_readSheet_98 : decode cX3_readSheet 98 = .ok (.iload_n 1, 1) := by decide +kernel
theorem dX3_readSheet_99 : decode cX3_readSheet 99 = .ok (.iconst 1, 1) := by decide +kernel
theorem dX3_readSheet_100 : decode cX3_readSheet 100 = .ok (.iadd, 1) := by decide +kernel
theorem dX3_readSheet_101 : decode cX3_readSheet 101 = .ok (.putfield 50, 3) := by decide +kernel
theorem dX3_readSheet_104 : decode cX3_readSheet 104 = .ok (.aload_n 0, 1) := by decide +kernel
theorem dX3_readSheet_105 : decode cX3_readSheet 105 = .ok (.aload_n 0, 1) := by decide +kernel
theorem dX3_readSheet_106 : decode cX3_readSheet 106 = .ok (.getfield 18, 3) := by decide +kernel
theorem dX3_readSheet_109 : decode cX3_readSheet 109 = .ok (.getfield 33, 3) := by decide +kernel
theorem dX3_readSheet_112 : decode cX3_readSheet 112 = .ok (.iload_n 1, 1) := by decide +kernel
theorem dX3_readSheet_113 : decode cX3_readSheet 113 = .ok (.aaload, 1) := by decide +kernel
theorem dX3_readSheet_114 : decode cX3_readSheet 114 = .ok (.iload_n 1, 1) := by decide +kernel
theorem dX3_readSheet_115 : decode cX3_readSheet 115 = .ok (.iconst 0, 1) := by decide +kernel
theorem dX3_readSheet_116 : decode cX3_readSheet 116 = .ok (.invokevirtual 46, 3) := by decide +kernel
theorem dX3_readSheet_119 : decode cX3_readSheet 119 = .ok (.ifCond .eq 14, 3) := by decide +kernel
theorem dX3_readSheet_122 : decode cX3_readSheet 122 = .ok (.aload_n 0, 1) := by decide +kernel
theorem dX3_readSheet_123 : decode cX3_readSheet 123 = .ok (.invokevirtual 29, 3) := by decide +kernel
theorem dX3_readSheet_126 : decode cX3_readSheet 126 = .ok (.ifCond .ne 7, 3) := by decide +kernel
theorem dX3_readSheet_129 : decode cX3_readSheet 129 = .ok (.iconst 1, 1) := by decide +kernel
theorem dX3_readSheet_130 : decode cX3_readSheet 130 = .ok (.goto 4, 3) := by decide +kernel
theorem dX3_readSheet_133 : decode cX3_readSheet 133 = .ok (.iconst 0, 1) := by decide +kernel
theorem dX3_readSheet_134 : decode cX3_readSheet 134 = .ok (.ireturn, 1) := by decide +kernel
theorem dX3_readSum_0 : decode cX3_readSum 0 = .ok (.aload_n 1, 1) := by decide +kernel
theorem dX3_readSum_1 : decode cX3_readSum 1 = .ok (.getfield 37, 3) := by decide +kernel
theorem dX3_readSum_4 : decode cX3_readSum 4 = .ok (.istore 4, 2) := by decide +kernel
theorem dX3_readSum_6 : decode cX3_readSum 6 = .ok (.aload_n 0, 1) := by decide +kernel
theorem dX3_readSum_7 : decode cX3_readSum 7 = .ok (.aload_n 1, 1) := by decide +kernel
theorem dX3_readSum_8 : decode cX3_readSum 8 = .ok (.iload_n 2, 1) := by decide +kernel
theorem dX3_readSum_9 : decode cX3_readSum 9 = .ok (.iload_n 3, 1) := by decide +kernel
theorem dX3_readSum_10 : decode cX3_readSum 10 = .ok (.invokevirtual 53, 3) := by decide +kernel
theorem dX3_readSum_13 : decode cX3_readSum 13 = .ok (.istore 5, 2) := by decide +kernel
theorem dX3_readSum_15 : decode cX3_readSum 15 = .ok (.iconst 0, 1) := by decide +kernel
theorem dX3_readSum_16 : decode cX3_readSum 16 = .ok (.istore 6, 2) := by decide +kernel
theorem dX3_readSum_18 : decode cX3_readSum 18 = .ok (.iload 6, 2) := by decide +kernel
theorem dX3_readSum_20 : decode cX3_readSum 20 = .ok (.bipush 30, 2) := by decide +kernel
theorem dX3_readSum_22 : decode cX3_readSum 22 = .ok (.if_icmp .ge 77, 3) := by decide +kernel
theorem dX3_readSum_25 : decode cX3_readSum 25 = .ok (.iload 5, 2) := by decide +kernel
theorem dX3_readSum_27 : decode cX3_readSum 27 = .ok (.ifCond .eq 72, 3) := by decide +kernel
theorem dX3_readSum_30 : decode cX3_readSum 30 = .ok (.aload_n 0, 1) := by decide +kernel
theorem dX3_readSum_31 : decode cX3_readSum 31 = .ok (.invokevirtual 29, 3) := by decide +kernel
theorem dX3_readSum_34 : decode cX3_readSum 34 = .ok (.bipush 43, 2) := by decide +kernel
theorem dX3_readSum_36 : decode cX3_readSum 36 = .ok (.if_icmp .eq 12, 3) := by decide +kernel
theorem dX3_readSum_39 : decode cX3_readSum 39 = .ok (.aload_n 0, 1) := by decide +kernel
theorem dX3_readSum_40 : decode cX3_readSum 40 = .ok (.invokevirtual 29, 3) := by decide +kernel
theorem dX3_readSum_43 : decode cX3_readSum 43 = .ok (.bipush 45, 2) := by decide +kernel
theorem dX3_readSum_45 : decode cX3_readSum 45 = .ok (.if_icmp .ne 54, 3) := by decide +kernel
theorem dX3_readSum_48 : decode cX3_readSum 48 = .ok (.aload_n 0, 1) := by decide +kernel
theorem dX3_readSum_49 : decode cX3_readSum 49 = .ok (.invokevirtual 29, 3) := by decide +kernel
theorem dX3_readSum_52 : decode cX3_readSum 52 = .ok (.bipush 43, 2) := by decide +kernel
theorem dX3_readSum_54 : decode cX3_readSum 54 = .ok (.if_icmp .ne 7, 3) := by decide +kernel
theorem dX3_readSum_57 : decode cX3_readSum 57 = .ok (.iconst 4, 1) := by decide +kernel
theorem dX3_readSum_58 : decode cX3_readSum 58 = .ok (.goto 4, 3) := by decide +kernel
theorem dX3_readSum_61 : decode cX3_readSum 61 = .ok (.iconst 5, 1) := by decide +kernel
theorem dX3_readSum_62 : decode cX3_readSum 62 = .ok (.istore 7, 2) := by decide +kernel
theorem dX3_readSum_64 : decode cX3_readSum 64 = .ok (.aload_n 0, 1) := by decide +kernel
theorem dX3_readSum_65 : decode cX3_readSum 65 = .ok (.aload_n 1, 1) := by decide +kernel
theorem dX3_readSum_66 : decode cX3_readSum 66 = .ok (.iload 4, 2) := by decide +kernel
theorem dX3_readSum_68 : decode cX3_readSum 68 = .ok (.iload 7, 2) := by decide +kernel
theorem dX3_readSum_70 : decode cX3_readSum 70 = .ok (.invokevirtual 56, 3) := by decide +kernel
theorem dX3_readSum_73 : decode cX3_readSum 73 = .ok (.ifCond .eq 17, 3) := by decide +kernel
theorem dX3_readSum_76 : decode cX3_readSum 76 = .ok (.aload_n 0, 1) := by decide +kernel
theorem dX3_readSum_77 : decode cX3_readSum 77 = .ok (.aload_n 1, 1) := by decide +kernel
theorem dX3_readSum_78 : decode cX3_readSum 78 = .ok (.iload_n 2, 1) := by decide +kernel
theorem dX3_readSum_79 : decode cX3_readSum 79 = .ok (.iload_n 3, 1) := by decide +kernel
theorem dX3_readSum_80 : decode cX3_readSum 80 = .ok (.invokevirtual 53, 3) := by decide +kernel
theorem dX3_readSum_83 : decode cX3_readSum 83 = .ok (.ifCond .eq 7, 3) := by decide +kernel
theorem dX3_readSum_86 : decode cX3_readSum 86 = .ok (.iconst 1, 1) := by decide +kernel
theorem dX3_readSum_87 : decode cX3_readSum 87 = .ok (.goto 4, 3) := by decide +kernel
theorem dX3_readSum_90 : decode cX3_readSum 90 = .ok (.iconst 0, 1) := by decide +kernel
theorem dX3_readSum_91 : decode cX3_readSum 91 = .ok (.istore 5, 2) := by decide +kernel
theorem dX3_readSum_93 : decode cX3_readSum 93 = .ok (.iinc 6 1, 3) := by decide +kernel
theorem dX3_readSum_96 : decode cX3_readSum 96 = .ok (.goto (-78), 3) := by decide +kernel
theorem dX3_readSum_99 : decode cX3_readSum 99 = .ok (.iload 5, 2) := by decide +kernel
theorem dX3_readSum_101 : decode cX3_readSum 101 = .ok (.ireturn, 1) := by decide +kernel
theorem dX3_readProduct_0 : decode cX3_readProduct 0 = .ok (.aload_n 1, 1) := by decide +kernel
theorem dX3_readProduct_1 : decode cX3_readProduct 1 = .ok (.getfield 37, 3) := by decide +kernel
theorem dX3_readProduct_4 : decode cX3_readProduct 4 = .ok (.istore 4, 2) := by decide +kernel
theorem dX3_readProduct_6 : decode cX3_readProduct 6 = .ok (.aload_n 0, 1) := by decide +kernel
theorem dX3_readProduct_7 : decode cX3_readProduct 7 = .ok (.aload_n 1, 1) := by decide +kernel
theorem dX3_readProduct_8 : decode cX3_readProduct 8 = .ok (.iload_n 2, 1) := by decide +kernel
theorem dX3_readProduct_9 : decode cX3_readProduct 9 = .ok (.iload_n 3, 1) := by decide +kernel
theorem dX3_readProduct_10 : decode cX3_readProduct 10 = .ok (.invokevirtual 59, 3) := by decide +kernel
theorem dX3_readProduct_13 : decode cX3_readProduct 13 = .ok (.istore 5, 2) := by decide +kernel
theorem dX3_readProduct_15 : decode cX3_readProduct 15 = .ok (.iconst 0, 1) := by decide +kernel
theorem dX3_readProduct_16 : decode cX3_readProduct 16 = .ok (.istore 6, 2) := by decide +kernel
theorem dX3_readProduct_18 : decode cX3_readProduct 18 = .ok (.iload 6, 2) := by decide +kernel
theorem dX3_readProduct_20 : decode cX3_readProduct 20 = .ok (.bipush 30, 2) := by decide +kernel
theorem dX3_readProduct_22 : decode cX3_readProduct 22 = .ok (.if_icmp .ge 52, 3) := by decide +kernel
theorem dX3_readProduct_25 : decode cX3_readProduct 25 = .ok (.iload 5, 2) := by decide +kernel
theorem dX3_readProduct_27 : decode cX3_readProduct 27 = .ok (.ifCond .eq 47, 3) := by decide +kernel
theorem dX3_readProduct_30 : decode cX3_readProduct 30 = .ok (.aload_n 0, 1) := by decide +kernel
theorem dX3_readProduct_31 : decode cX3_readProduct 31 = .ok (.invokevirtual 29, 3) := by decide +kernel
theorem dX3_readProduct_34 : decode cX3_readProduct 34 = .ok (.bipush 42, 2) := by decide +kernel
theorem dX3_readProduct_36 : decode cX3_readProduct 36 = .ok (.if_icmp .ne 38, 3) := by decide +kernel
theorem dX3_readProduct_39 : decode cX3_readProduct 39 = .ok (.aload_n 0, 1) := by decide +kernel
theorem dX3_readProduct_40 : decode cX3_readProduct 40 = .ok (.aload_n 1, 1) := by decide +kernel
theorem dX3_readProduct_41 : decode cX3_readProduct 41 = .ok (.iload 4, 2) := by decide +kernel
theorem dX3_readProduct_43 : decode cX3_readProduct 43 = .ok (.bipush 6, 2) := by decide +kernel
theorem dX3_readProduct_45 : decode cX3_readProduct 45 = .ok (.invokevirtual 56, 3) := by decide +kernel
theorem dX3_readProduct_48 : decode cX3_readProduct 48 = .ok (.ifCond .eq 17, 3) := by decide +kernel
theorem dX3_readProduct_51 : decode cX3_readProduct 51 = .ok (.aload_n 0, 1) := by decide +kernel
theorem dX3_readProduct_52 : decode cX3_readProduct 52 = .ok (.aload_n 1, 1) := by decide +kernel
theorem dX3_readProduct_53 : decode cX3_readProduct 53 = .ok (.iload_n 2, 1) := by decide +kernel
theorem dX3_readProduct_54 : decode cX3_readProduct 54 = .ok (.iload_n 3, 1) := by decide +kernel
theorem dX3_readProduct_55 : decode cX3_readProduct 55 = .ok (.invokevirtual 59, 3) := by decide +kernel
theorem dX3_readProduct_58 : decode cX3_readProduct 58 = .ok (.ifCond .eq 7, 3) := by decide +kernel
theorem dX3_readProduct_61 : decode cX3_readProduct 61 = .ok (.iconst 1, 1) := by decide +kernel
theorem dX3_readProduct_62 : decode cX3_readProduct 62 = .ok (.goto 4, 3) := by decide +kernel
theorem dX3_readProduct_65 : decode cX3_readProduct 65 = .ok (.iconst 0, 1) := by decide +kernel
theorem dX3_readProduct_66 : decode cX3_readProduct 66 = .ok (.istore 5, 2) := by decide +kernel
theorem dX3_readProduct_68 : decode cX3_readProduct 68 = .ok (.iinc 6 1, 3) := by decide +kernel
theorem dX3_readProduct_71 : decode cX3_readProduct 71 = .ok (.goto (-53), 3) := by decide +kernel
theorem dX3_readProduct_74 : decode cX3_readProduct 74 = .ok (.iload 5, 2) := by decide +kernel
theorem dX3_readProduct_76 : decode cX3_readProduct 76 = .ok (.ireturn, 1) := by decide +kernel
theorem dX3_readOperation_0 : decode cX3_readOperation 0 = .ok (.aload_n 1, 1) := by decide +kernel
theorem dX3_readOperation_1 : decode cX3_readOperation 1 = .ok (.iload_n 2, 1) := by decide +kernel
theorem dX3_readOperation_2 : decode cX3_readOperation 2 = .ok (.iload_n 3, 1) := by decide +kernel
theorem dX3_readOperation_3 : decode cX3_readOperation 3 = .ok (.iconst 0, 1) := by decide +kernel
theorem dX3_readOperation_4 : decode cX3_readOperation 4 = .ok (.invokevirtual 62, 3) := by decide +kernel
theorem dX3_readOperation_7 : decode cX3_readOperation 7 = .ok (.istore 4, 2) := by decide +kernel
theorem dX3_readOperation_9 : decode cX3_readOperation 9 = .ok (.aload_n 0, 1) := by decide +kernel
theorem dX3_readOperation_10 : decode cX3_readOperation 10 = .ok (.dup, 1) := by decide +kernel
theorem dX3_readOperation_11 : decode cX3_readOperation 11 = .ok (.getfield 26, 3) := by decide +kernel
theorem dX3_readOperation_14 : decode cX3_readOperation 14 = .ok (.iload 4, 2) := by decide +kernel
theorem dX3_readOperation_16 : decode cX3_readOperation 16 = .ok (.ifCond .eq 7, 3) := by decide +kernel
theorem dX3_readOperation_19 : decode cX3_readOperation 19 = .ok (.iconst 1, 1) := by decide +kernel
theorem dX3_readOperation_20 : decode cX3_readOperation 20 = .ok (.goto 4, 3) := by decide +kernel
theorem dX3_readOperation_23 : decode cX3_readOperation 23 = .ok (.iconst 0, 1) := by decide +kernel
theorem dX3_readOperation_24 : decode cX3_readOperation 24 = .ok (.iadd, 1) := by decide +kernel
theorem dX3_readOperation_25 : decode cX3_readOperation 25 = .ok (.putfield 26, 3) := by decide +kernel
theorem dX3_readOperation_28 : decode cX3_readOperation 28 = .ok (.iload 4, 2) := by decide +kernel
theorem dX3_readOperation_30 : decode cX3_readOperation 30 = .ok (.ireturn, 1) := by decide +kernel
theorem dX3_readFactor_0 : decode cX3_readFactor 0 = .ok (.aload_n 0, 1) := by decide +kernel
theorem dX3_readFactor_1 : decode cX3_readFactor 1 = .ok (.invokevirtual 29, 3) := by decide +kernel
theorem dX3_readFactor_4 : decode cX3_readFactor 4 = .ok (.bipush 40, 2) := by decide +kernel
theorem dX3_readFactor_6 : decode cX3_readFactor 6 = .ok (.if_icmp .eq 12, 3) := by decide +kernel
theorem dX3_readFactor_9 : decode cX3_readFactor 9 = .ok (.aload_n 0, 1) := by decide +kernel
theorem dX3_readFactor_10 : decode cX3_readFactor 10 = .ok (.invokevirtual 29, 3) := by decide +kernel
theorem dX3_readFactor_13 : decode cX3_readFactor 13 = .ok (.bipush 33, 2) := by decide +kernel
theorem dX3_readFactor_15 : decode cX3_readFactor 15 = .ok (.if_icmp .ne 27, 3) := by decide +kernel
theorem dX3_readFactor_18 : decode cX3_readFactor 18 = .ok (.iload_n 3, 1) := by decide +kernel
theorem dX3_readFactor_19 : decode cX3_readFactor 19 = .ok (.bipush 8, 2) := by decide +kernel
theorem dX3_readFactor_21 : decode cX3_readFactor 21 = .ok (.if_icmp .ge 19, 3) := by decide +kernel
theorem dX3_readFactor_24 : decode cX3_readFactor 24 = .ok (.aload_n 0, 1) := by decide +kernel
theorem dX3_readFactor_25 : decode cX3_readFactor 25 = .ok (.aload_n 1, 1) := by decide +kernel
theorem dX3_readFactor_26 : decode cX3_readFactor 26 = .ok (.iload_n 2, 1) := by decide +kernel
theorem dX3_readFactor_27 : decode cX3_readFactor 27 = .ok (.iload_n 3, 1) := by decide +kernel
theorem dX3_readFactor_28 : decode cX3_readFactor 28 = .ok (.iconst 1, 1) := by decide +kernel
theorem dX3_readFactor_29 : decode cX3_readFactor 29 = .ok (.iadd, 1) := by decide +kernel
theorem dX3_readFactor_30 : decode cX3_readFactor 30 = .ok (.invokevirtual 66, 3) := by decide +kernel
theorem dX3_readFactor_33 : decode cX3_readFactor 33 = .ok (.ifCond .eq 7, 3) := by decide +kernel
theorem dX3_readFactor_36 : decode cX3_readFactor 36 = .ok (.iconst 1, 1) := by decide +kernel
theorem dX3_readFactor_37 : decode cX3_readFactor 37 = .ok (.goto 4, 3) := by decide +kernel
theorem dX3_readFactor_40 : decode cX3_readFactor 40 = .ok (.iconst 0, 1) := by decide +kernel
theorem dX3_readFactor_41 : decode cX3_readFactor 41 = .ok (.ireturn, 1) := by decide +kernel
theorem dX3_readFactor_42 : decode cX3_readFactor 42 = .ok (.aload_n 0, 1) := by decide +kernel
theorem dX3_readFactor_43 : decode cX3_readFactor 43 = .ok (.aload_n 1, 1) := by decide +kernel
theorem dX3_readFactor_44 : decode cX3_readFactor 44 = .ok (.iload_n 2, 1) := by decide +kernel
theorem dX3_readFactor_45 : decode cX3_readFactor 45 = .ok (.invokevirtual 69, 3) := by decide +kernel
theorem dX3_readFactor_48 : decode cX3_readFactor 48 = .ok (.ireturn, 1) := by decide +kernel
theorem dX3_readNested_0 : decode cX3_readNested 0 = .ok (.aload_n 0, 1) := by decide +kernel
theorem dX3_readNested_1 : decode cX3_readNested 1 = .ok (.bipush 40, 2) := by decide +kernel
theorem dX3_readNested_3 : decode cX3_readNested 3 = .ok (.invokevirtual 42, 3) := by decide +kernel
theorem dX3_readNested_6 : decode cX3_readNested 6 = .ok (.ifCond .eq 28, 3) := by decide +kernel
theorem dX3_readNested_9 : decode cX3_readNested 9 = .ok (.aload_n 0, 1) := by decide +kernel
theorem dX3_readNested_10 : decode cX3_readNested 10 = .ok (.aload_n 1, 1) := by decide +kernel
theorem dX3_readNested_11 : decode cX3_readNested 11 = .ok (.iload_n 2, 1) := by decide +kernel
theorem dX3_readNested_12 : decode cX3_readNested 12 = .ok (.iload_n 3, 1) := by decide +kernel
theorem dX3_readNested_13 : decode cX3_readNested 13 = .ok (.invokevirtual 46, 3) := by decide +kernel
theorem dX3_readNested_16 : decode cX3_readNested 16 = .ok (.ifCond .eq 16, 3) := by decide +kernel
theorem dX3_readNested_19 : decode cX3_readNested 19 = .ok (.aload_n 0, 1) := by decide +kernel
theorem dX3_readNested_20 : decode cX3_readNested 20 = .ok (.bipush 41, 2) := by decide +kernel
theorem dX3_readNested_22 : decode cX3_readNested 22 = .ok (.invokevirtual 42, 3) := by decide +kernel
theorem dX3_readNested_25 : decode cX3_readNested 25 = .ok (.ifCond .eq 7, 3) := by decide +kernel
theorem dX3_readNested_28 : decode cX3_readNested 28 = .ok (.iconst 1, 1) := by decide +kernel
theorem dX3_readNested_29 : decode cX3_readNested 29 = .ok (.goto 4, 3) := by decide +kernel
theorem dX3_readNested_32 : decode cX3_readNested 32 = .ok (.iconst 0, 1) := by decide +kernel
theorem dX3_readNested_33 : decode cX3_readNested 33 = .ok (.ireturn, 1) := by decide +kernel
theorem dX3_readNested_34 : decode cX3_readNested 34 = .ok (.aload_n 1, 1) := by decide +kernel
theorem dX3_readNested_35 : decode cX3_readNested 35 = .ok (.invokevirtual 73, 3) := by decide +kernel
theorem dX3_readNested_38 : decode cX3_readNested 38 = .ok (.ifCond .ne 35, 3) := by decide +kernel
theorem dX3_readNested_41 : decode cX3_readNested 41 = .ok (.aload_n 0, 1) := by decide +kernel
theorem dX3_readNested_42 : decode cX3_readNested 42 = .ok (.bipush 33, 2) := by decide +kernel
theorem dX3_readNested_44 : decode cX3_readNested 44 = .ok (.invokevirtual 42, 3) := by decide +kernel
theorem dX3_readNested_47 : decode cX3_readNested 47 = .ok (.ifCond .eq 26, 3) := by decide +kernel
theorem dX3_readNested_50 : decode cX3_readNested 50 = .ok (.aload_n 1, 1) := by decide +kernel
theorem dX3_readNested_51 : decode cX3_readNested 51 = .ok (.iconst 3, 1) := by decide +kernel
theorem dX3_readNested_52 : decode cX3_readNested 52 = .ok (.iconst 0, 1) := by decide +kernel
theorem dX3_readNested_53 : decode cX3_readNested 53 = .ok (.invokevirtual 77, 3) := by decide +kernel
theorem dX3_readNested_56 : decode cX3_readNested 56 = .ok (.ifCond .eq 17, 3) := by decide +kernel
theorem dX3_readNested_59 : decode cX3_readNested 59 = .ok (.aload_n 0, 1) := by decide +kernel
theorem dX3_readNested_60 : decode cX3_readNested 60 = .ok (.aload_n 1, 1) := by decide +kernel
theorem dX3_readNested_61 : decode cX3_readNested 61 = .ok (.iload_n 2, 1) := by decide +kernel
theorem dX3_readNested_62 : decode cX3_readNested 62 = .ok (.iload_n 3, 1) := by decide +kernel
theorem dX3_readNested_63 : decode cX3_readNested 63 = .ok (.invokevirtual 59, 3) := by decide +kernel
theorem dX3_readNested_66 : decode cX3_readNested 66 = .ok (.ifCond .eq 7, 3) := by decide +kernel
theorem dX3_readNested_69 : decode cX3_readNested 69 = .ok (.iconst 1, 1) := by decide +kernel
theorem dX3_readNested_70 : decode cX3_readNested 70 = .ok (.goto 4, 3) := by decide +kernel
theorem dX3_readNested_73 : decode cX3_readNested 73 = .ok (.iconst 0, 1) := by decide +kernel
theorem dX3_readNested_74 : decode cX3_readNested 74 = .ok (.ireturn, 1) := by decide +kernel
theorem dX3_readLeaf_0 : decode cX3_readLeaf 0 = .ok (.aload_n 0, 1) := by decide +kernel
theorem dX3_readLeaf_1 : decode cX3_readLeaf 1 = .ok (.invokevirtual 29, 3) := by decide +kernel
theorem dX3_readLeaf_4 : decode cX3_readLeaf 4 = .ok (.istore_n 3, 1) := by decide +kernel
theorem dX3_readLeaf_5 : decode cX3_readLeaf 5 = .ok (.aload_n 1, 1) := by decide +kernel
theorem dX3_readLeaf_6 : decode cX3_readLeaf 6 = .ok (.invokevirtual 73, 3) := by decide +kernel
theorem dX3_readLeaf_9 : decode cX3_readLeaf 9 = .ok (.ifCond .eq 5, 3) := by decide +kernel
theorem dX3_readLeaf_12 : decode cX3_readLeaf 12 = .ok (.iconst 0, 1) := by decide +kernel
theorem dX3_readLeaf_13 : decode cX3_readLeaf 13 = .ok (.ireturn, 1) := by decide +kernel
theorem dX3_readLeaf_14 : decode cX3_readLeaf 14 = .ok (.iload_n 3, 1) := by decide +kernel
theorem dX3_readLeaf_15 : decode cX3_readLeaf 15 = .ok (.invokestatic 81, 3) := by decide +kernel
theorem dX3_readLeaf_18 : decode cX3_readLeaf 18 = .ok (.ifCond .eq 13, 3) := by decide +kernel
theorem dX3_readLeaf_21 : decode cX3_readLeaf 21 = .ok (.aload_n 1, 1) := by decide +kernel
theorem dX3_readLeaf_22 : decode cX3_readLeaf 22 = .ok (.iconst 0, 1) := by decide +kernel
theorem dX3_readLeaf_23 : decode cX3_readLeaf 23 = .ok (.aload_n 0, 1) := by decide +kernel
theorem dX3_readLeaf_24 : decode cX3_readLeaf 24 = .ok (.invokevirtual 84, 3) := by decide +kernel
theorem dX3_readLeaf_27 : decode cX3_readLeaf 27 = .ok (.invokevirtual 77, 3) := by decide +kernel
theorem dX3_readLeaf_30 : decode cX3_readLeaf 30 = .ok (.ireturn, 1) := by decide +kernel
theorem dX3_readLeaf_31 : decode cX3_readLeaf 31 = .ok (.iload_n 3, 1) := by decide +kernel
theorem dX3_readLeaf_32 : decode cX3_readLeaf 32 = .ok (.bipush 97, 2) := by decide +kernel
theorem dX3_readLeaf_34 : decode cX3_readLeaf 34 = .ok (.if_icmp .lt 35, 3) := by decide +kernel
theorem dX3_readLeaf_37 : decode cX3_readLeaf 37 = .ok (.iload_n 3, 1) := by decide +kernel
theorem dX3_readLeaf_38 : decode cX3_readLeaf 38 = .ok (.bipush 105, 2) := by decide +kernel
theorem dX3_readLeaf_40 : decode cX3_readLeaf 40 = .ok (.if_icmp .ge 29, 3) := by decide +kernel
theorem dX3_readLeaf_43 : decode cX3_readLeaf 43 = .ok (.aload_n 0, 1) := by decide +kernel
theorem dX3_readLeaf_44 : decode cX3_readLeaf 44 = .ok (.iload_n 3, 1) := by decide +kernel
theorem dX3_readLeaf_45 : decode cX3_readLeaf 45 = .ok (.invokevirtual 42, 3) := by decide +kernel
theorem dX3_readLeaf_48 : decode cX3_readLeaf 48 = .ok (.ifCond .eq 19, 3) := by decide +kernel
theorem dX3_readLeaf_51 : decode cX3_readLeaf 51 = .ok (.aload_n 1, 1) := by decide +kernel
theorem dX3_readLeaf_52 : decode cX3_readLeaf 52 = .ok (.iconst 1, 1) := by decide +kernel
theorem dX3_readLeaf_53 : decode cX3_readLeaf 53 = .ok (.iload_n 3, 1) := by decide +kernel
theorem dX3_readLeaf_54 : decode cX3_readLeaf 54 = .ok (.bipush 97, 2) := by decide +kernel
theorem dX3_readLeaf_56 : decode cX3_readLeaf 56 = .ok (.isub, 1) := by decide +kernel
theorem dX3_readLeaf_57 : decode cX3_readLeaf 57 = .ok (.invokevirtual 77, 3) := by decide +kernel
theorem dX3_readLeaf_60 : decode cX3_readLeaf 60 = .ok (.ifCond .eq 7, 3) := by decide +kernel
theorem dX3_readLeaf_63 : decode cX3_readLeaf 63 = .ok (.iconst 1, 1) := by decide +kernel
theorem dX3_readLeaf_64 : decode cX3_readLeaf 64 = .ok (.goto 4, 3) := by decide +kernel
theorem dX3_readLeaf_67 : decode cX3_readLeaf 67 = .ok (.iconst 0, 1) := by decide +kernel
theorem dX3_readLeaf_68 : decode cX3_readLeaf 68 = .ok (.ireturn, 1) := by decide +kernel
theorem dX3_readLeaf_69 : decode cX3_readLeaf 69 = .ok (.iload_n 3, 1) := by decide +kernel
theorem dX3_readLeaf_70 : decode cX3_readLeaf 70 = .ok (.bipush 65, 2) := by decide +kernel
theorem dX3_readLeaf_72 : decode cX3_readLeaf 72 = .ok (.if_icmp .lt 35, 3) := by decide +kernel
theorem dX3_readLeaf_75 : decode cX3_readLeaf 75 = .ok (.iload_n 3, 1) := by decide +kernel
theorem dX3_readLeaf_76 : decode cX3_readLeaf 76 = .ok (.bipush 65, 2) := by decide +kernel
theorem dX3_readLeaf_78 : decode cX3_readLeaf 78 = .ok (.iload_n 2, 1) := by decide +kernel
theorem dX3_readLeaf_79 : decode cX3_readLeaf 79 = .ok (.iadd, 1) := by decide +kernel
theorem dX3_readLeaf_80 : decode cX3_readLeaf 80 = .ok (.if_icmp .ge 27, 3) := by decide +kernel
theorem dX3_readLeaf_83 : decode cX3_readLeaf 83 = .ok (.aload_n 0, 1) := by decide +kernel
theorem dX3_readLeaf_84 : decode cX3_readLeaf 84 = .ok (.iload_n 3, 1) := by decide +kernel
theorem dX3_readLeaf_85 : decode cX3_readLeaf 85 = .ok (.invokevirtual 42, 3) := by decide +kernel
theorem dX3_readLeaf_88 : decode cX3_readLeaf 88 = .ok (.ifCond .eq 19, 3) := by decide +kernel
theorem dX3_readLeaf_91 : decode cX3_readLeaf 91 = .ok (.aload_n 1, 1) := by decide +kernel
theorem dX3_readLeaf_92 : decode cX3_readLeaf 92 = .ok (.iconst 2, 1) := by decide +kernel
theorem dX3_readLeaf_93 : decode cX3_readLeaf 93 = .ok (.iload_n 3, 1) := by decide +kernel
theorem dX3_readLeaf_94 : decode cX3_readLeaf 94 = .ok (.bipush 65, 2) := by decide +kernel
theorem dX3_readLeaf_96 : decode cX3_readLeaf 96 = .ok (.isub, 1) := by decide +kernel
theorem dX3_readLeaf_97 : decode cX3_readLeaf 97 = .ok (.invokevirtual 77, 3) := by decide +kernel
theorem dX3_readLeaf_100 : decode cX3_readLeaf 100 = .ok (.ifCond .eq 7, 3) := by decide +kernel
theorem dX3_readLeaf_103 : decode cX3_readLeaf 103 = .ok (.iconst 1, 1) := by decide +kernel
theorem dX3_readLeaf_104 : decode cX3_readLeaf 104 = .ok (.goto 4, 3) := by decide +kernel
theorem dX3_readLeaf_107 : decode cX3_readLeaf 107 = .ok (.iconst 0, 1) := by decide +kernel
theorem dX3_readLeaf_108 : decode cX3_readLeaf 108 = .ok (.ireturn, 1) := by decide +kernel
theorem dX3_readNumber_0 : decode cX3_readNumber 0 = .ok (.iconst 0, 1) := by decide +kernel
theorem dX3_readNumber_1 : decode cX3_readNumber 1 = .ok (.istore_n 1, 1) := by decide +kernel
theorem dX3_readNumber_2 : decode cX3_readNumber 2 = .ok (.iconst 0, 1) := by decide +kernel
theorem dX3_readNumber_3 : decode cX3_readNumber 3 = .ok (.istore_n 2, 1) := by decide +kernel
theorem dX3_readNumber_4 : decode cX3_readNumber 4 = .ok (.iload_n 2, 1) := by decide +kernel
theorem dX3_readNumber_5 : decode cX3_readNumber 5 = .ok (.iconst 3, 1) := by decide +kernel
theorem dX3_readNumber_6 : decode cX3_readNumber 6 = .ok (.if_icmp .ge 50, 3) := by decide +kernel
theorem dX3_readNumber_9 : decode cX3_readNumber 9 = .ok (.aload_n 0, 1) := by decide +kernel
theorem dX3_readNumber_10 : decode cX3_readNumber 10 = .ok (.invokevirtual 29, 3) := by decide +kernel
theorem dX3_readNumber_13 : decode cX3_readNumber 13 = .ok (.invokestatic 81, 3) := by decide +kernel
theorem dX3_readNumber_16 : decode cX3_readNumber 16 = .ok (.ifCond .eq 40, 3) := by decide +kernel
theorem dX3_readNumber_19 : decode cX3_readNumber 19 = .ok (.iload_n 2, 1) := by decide +kernel
theorem dX3_readNumber_20 : decode cX3_readNumber 20 = .ok (.ifCond .eq 7, 3) := by decide +kernel
theorem dX3_readNumber_23 : decode cX3_readNumber 23 = .ok (.iload_n 1, 1) := by decide +kernel
theorem dX3_readNumber_24 : decode cX3_readNumber 24 = .ok (.ifCond .le 32, 3) := by decide +kernel
theorem dX3_readNumber_27 : decode cX3_readNumber 27 = .ok (.bipush 10, 2) := by decide +kernel
theorem dX3_readNumber_29 : decode cX3_readNumber 29 = .ok (.iload_n 1, 1) := by decide +kernel
theorem dX3_readNumber_30 : decode cX3_readNumber 30 = .ok (.imul, 1) := by decide +kernel
theorem dX3_readNumber_31 : decode cX3_readNumber 31 = .ok (.aload_n 0, 1) := by decide +kernel
theorem dX3_readNumber_32 : decode cX3_readNumber 32 = .ok (.invokevirtual 29, 3) := by decide +kernel
theorem dX3_readNumber_35 : decode cX3_readNumber 35 = .ok (.iadd, 1) := by decide +kernel
theorem dX3_readNumber_36 : decode cX3_readNumber 36 = .ok (.bipush 48, 2) := by decide +kernel
theorem dX3_readNumber_38 : decode cX3_readNumber 38 = .ok (.isub, 1) := by decide +kernel
theorem dX3_readNumber_39 : decode cX3_readNumber 39 = .ok (.istore_n 1, 1) := by decide +kernel
theorem dX3_readNumber_40 : decode cX3_readNumber 40 = .ok (.iinc 2 1, 3) := by decide +kernel
theorem dX3_readNumber_43 : decode cX3_readNumber 43 = .ok (.aload_n 0, 1) := by decide +kernel
theorem dX3_readNumber_44 : decode cX3_readNumber 44 = .ok (.dup, 1) := by decide +kernel
theorem dX3_readNumber_45 : decode cX3_readNumber 45 = .ok (.getfield 26, 3) := by decide +kernel
theorem dX3_readNumber_48 : decode cX3_readNumber 48 = .ok (.iconst 1, 1) := by decide +kernel
theorem dX3_readNumber_49 : decode cX3_readNumber 49 = .ok (.iadd, 1) := by decide +kernel
theorem dX3_readNumber_50 : decode cX3_readNumber 50 = .ok (.putfield 26, 3) := by decide +kernel
theorem dX3_readNumber_53 : decode cX3_readNumber 53 = .ok (.goto (-49), 3) := by decide +kernel
theorem dX3_readNumber_56 : decode cX3_readNumber 56 = .ok (.iload_n 1, 1) := by decide +kernel
theorem dX3_readNumber_57 : decode cX3_readNumber 57 = .ok (.ireturn, 1) := by decide +kernel
theorem dX3_isDigit_0 : decode cX3_isDigit 0 = .ok (.iload_n 0, 1) := by decide +kernel
theorem dX3_isDigit_1 : decode cX3_isDigit 1 = .ok (.bipush 48, 2) := by decide +kernel
theorem dX3_isDigit_3 : decode cX3_isDigit 3 = .ok (.if_icmp .lt 13, 3) := by decide +kernel
theorem dX3_isDigit_6 : decode cX3_isDigit 6 = .ok (.iload_n 0, 1) := by decide +kernel
theorem dX3_isDigit_7 : decode cX3_isDigit 7 = .ok (.bipush 57, 2) := by decide +kernel
theorem dX3_isDigit_9 : decode cX3_isDigit 9 = .ok (.if_icmp .gt 7, 3) := by decide +kernel
theorem dX3_isDigit_12 : decode cX3_isDigit 12 = .ok (.iconst 1, 1) := by decide +kernel
theorem dX3_isDigit_13 : decode cX3_isDigit 13 = .ok (.goto 4, 3) := by decide +kernel
theorem dX3_isDigit_16 : decode cX3_isDigit 16 = .ok (.iconst 0, 1) := by decide +kernel
theorem dX3_isDigit_17 : decode cX3_isDigit 17 = .ok (.ireturn, 1) := by decide +kernel
theorem dX4_init_0 : decode cX4_init 0 = .ok (.aload_n 0, 1) := by decide +kernel
theorem dX4_init_1 : decode cX4_init 1 = .ok (.invokespecial 3, 3) := by decide +kernel
theorem dX4_init_4 : decode cX4_init 4 = .ok (.aload_n 0, 1) := by decide +kernel
theorem dX4_init_5 : decode cX4_init 5 = .ok (.bipush 6, 2) := by decide +kernel
theorem dX4_init_7 : decode cX4_init 7 = .ok (.anewarray 9, 3) := by decide +kernel
theorem dX4_init_10 : decode cX4_init 10 = .ok (.putfield 11, 3) := by decide +kernel
theorem dX4_init_13 : decode cX4_init 13 = .ok (.aload_n 0, 1) := by decide +kernel
theorem dX4_init_14 : decode cX4_init 14 = .ok (.iconst 1, 1) := by decide +kernel
theorem dX4_init_15 : decode cX4_init 15 = .ok (.putfield 17, 3) := by decide +kernel
theorem dX4_init_18 : decode cX4_init 18 = .ok (.aload_n 0, 1) := by decide +kernel
theorem dX4_init_19 : decode cX4_init 19 = .ok (.bipush 8, 2) := by decide +kernel
theorem dX4_init_21 : decode cX4_init 21 = .ok (.newarray .int, 2) := by decide +kernel
theorem dX4_init_23 : decode cX4_init 23 = .ok (.putfield 21, 3) := by decide +kernel
theorem dX4_init_26 : decode cX4_init 26 = .ok (.aload_n 0, 1) := by decide +kernel
theorem dX4_init_27 : decode cX4_init 27 = .ok (.iconst 3, 1) := by decide +kernel
theorem dX4_init_28 : decode cX4_init 28 = .ok (.putfield 25, 3) := by decide +kernel
theorem dX4_init_31 : decode cX4_init 31 = .ok (.iconst 0, 1) := by decide +kernel
theorem dX4_init_32 : decode cX4_init 32 = .ok (.istore_n 1, 1) := by decide +kernel
theorem dX4_init_33 : decode cX4_init 33 = .ok (.iload_n 1, 1) := by decide +kernel
theorem dX4_init_34 : decode cX4_init 34 = .ok (.aload_n 0, 1) := by decide +kernel
theorem dX4_init_35 : decode cX4_init 35 = .ok (.getfield 11, 3) := by decide +kernel
theorem dX4_init_38 : decode cX4_init 38 = .ok (.arraylength, 1) := by decide +kernel
theorem dX4_init_39 : decode cX4_init 39 = .ok (.if_icmp .ge 24, 3) := by decide +kernel
theorem dX4_init_42 : decode cX4_init 42 = .ok (.aload_n 0, 1) := by decide +kernel
theorem dX4_init_43 : decode cX4_init 43 = .ok (.getfield 11, 3) := by decide +kernel
theorem dX4_init_46 : decode cX4_init 46 = .ok (.iload_n 1, 1) := by decide +kernel
theorem dX4_init_47 : decode cX4_init 47 = .ok (.new 9, 3) := by decide +kernel
theorem dX4_init_50 : decode cX4_init 50 = .ok (.dup, 1) := by decide +kernel
theorem dX4_init_51 : decode cX4_init 51 = .ok (.bipush 30, 2) := by decide +kernel
theorem dX4_init_53 : decode cX4_init 53 = .ok (.invokespecial 28, 3) := by decide +kernel
theorem dX4_init_56 : decode cX4_init 56 = .ok (.aastore, 1) := by decide +kernel
theorem dX4_init_57 : decode cX4_init 57 = .ok (.iinc 1 1, 3) := by decide +kernel
theorem dX4_init_60 : decode cX4_init 60 = .ok (.goto (-27), 3) := by decide +kernel
theorem dX4_init_63 : decode cX4_init 63 = .ok (.return_, 1) := by decide +kernel
theorem dX4_copyFormulas_0 : decode cX4_copyFormulas 0 = .ok (.aload_n 0, 1) := by decide +kernel
theorem dX4_copyFormulas_1 : decode cX4_copyFormulas 1 = .ok (.aload_n 1, 1) := by decide +kernel
theorem dX4_copyFormulas_2 : decode cX4_copyFormulas 2 = .ok (.getfield 17, 3) := by decide +kernel
theorem dX4_copyFormulas_5 : decode cX4_copyFormulas 5 = .ok (.putfield 17, 3) := by decide +kernel
theorem dX4_copyFormulas_8 : decode cX4_copyFormulas 8 = .ok (.iconst 0, 1) := by decide +kernel
theorem dX4_copyFormulas_9 : decode cX4_copyFormulas 9 = .ok (.istore_n 2, 1) := by decide +kernel
theorem dX4_copyFormulas_10 : decode cX4_copyFormulas 10 = .ok (.iload_n 2, 1) := by decide +kernel
theorem dX4_copyFormulas_11 : decode cX4_copyFormulas 11 = .ok (.aload_n 0, 1) := by decide +kernel
theorem dX4_copyFormulas_12 : decode cX4_copyFormulas 12 = .ok (.getfield 17, 3) := by decide +kernel
theorem dX4_copyFormulas_15 : decode cX4_copyFormulas 15 = .ok (.if_icmp .ge 30, 3) := by decide +kernel
theorem dX4_copyFormulas_18 : decode cX4_copyFormulas 18 = .ok (.iload_n 2, 1) := by decide +kernel
theorem dX4_copyFormulas_19 : decode cX4_copyFormulas 19 = .ok (.bipush 6, 2) := by decide +kernel
theorem dX4_copyFormulas_21 : decode cX4_copyFormulas 21 = .ok (.if_icmp .ge 24, 3) := by decide +kernel
theorem dX4_copyFormulas_24 : decode cX4_copyFormulas 24 = .ok (.aload_n 0, 1) := by decide +kernel
theorem dX4_copyFormulas_25 : decode cX4_copyFormulas 25 = .ok (.getfield 11, 3) := by decide +kernel
theorem dX4_copyFormulas_28 : decode cX4_copyFormulas 28 = .ok (.iload_n 2, 1) := by decide +kernel
theorem dX4_copyFormulas_29 : decode cX4_copyFormulas 29 = .ok (.aaload, 1) := by decide +kernel
theorem dX4_copyFormulas_30 : decode cX4_copyFormulas 30 = .ok (.aload_n 1, 1) := by decide +kernel
theorem dX4_copyFormulas_31 : decode cX4_copyFormulas 31 = .ok (.getfield 11, 3) := by decide +kernel
theorem dX4_copyFormulas_34 : decode cX4_copyFormulas 34 = .ok (.iload_n 2, 1) := by decide +kernel
theorem dX4_copyFormulas_35 : decode cX4_copyFormulas 35 = .ok (.aaload, 1) := by decide +kernel
theorem dX4_copyFormulas_36 : decode cX4_copyFormulas 36 = .ok (.invokevirtual 31, 3) := by decide +kernel
theorem dX4_copyFormulas_39 : decode cX4_copyFormulas 39 = .ok (.iinc 2 1, 3) := by decide +kernel
theorem dX4_copyFormulas_42 : decode cX4_copyFormulas 42 = .ok (.goto (-32), 3) := by decide +kernel
theorem dX4_copyFormulas_45 : decode cX4_copyFormulas 45 = .ok (.return_, 1) := by decide +kernel
theorem dX4_copyState_0 : decode cX4_copyState 0 = .ok (.aload_n 0, 1) := by decide +kernel
theorem dX4_copyState_1 : decode cX4_copyState 1 = .ok (.aload_n 1, 1) := by decide +kernel
theorem dX4_copyState_2 : decode cX4_copyState 2 = .ok (.invokevirtual 35, 3) := by decide +kernel
theorem dX4_copyState_5 : decode cX4_copyState 5 = .ok (.aload_n 1, 1) := by decide +kernel
theorem dX4_copyState_6 : decode cX4_copyState 6 = .ok (.getfield 21, 3) := by decide +kernel
theorem dX4_copyState_9 : decode cX4_copyState 9 = .ok (.iconst 0, 1) := by decide +kernel
theorem dX4_copyState_10 : decode cX4_copyState 10 = .ok (.aload_n 0, 1) := by decide +kernel
theorem dX4_copyState_11 : decode cX4_copyState 11 = .ok (.getfield 21, 3) := by decide +kernel
theorem dX4_copyState_14 : decode cX4_copyState 14 = .ok (.iconst 0, 1) := by decide +kernel
theorem dX4_copyState_15 : decode cX4_copyState 15 = .ok (.bipush 8, 2) := by decide +kernel
theorem dX4_copyState_17 : decode cX4_copyState 17 = .ok (.invokestatic 39, 3) := by decide +kernel
theorem dX4_copyState_20 : decode cX4_copyState 20 = .ok (.aload_n 0, 1) := by decide +kernel
theorem dX4_copyState_21 : decode cX4_copyState 21 = .ok (.aload_n 1, 1) := by decide +kernel
theorem dX4_copyState_22 : decode cX4_copyState 22 = .ok (.getfield 25, 3) := by decide +kernel
theorem dX4_copyState_25 : decode cX4_copyState 25 = .ok (.putfield 25, 3) := by decide +kernel
theorem dX4_copyState_28 : decode cX4_copyState 28 = .ok (.return_, 1) := by decide +kernel
theorem dX5_init_0 : decode cX5_init 0 = .ok (.aload_n 0, 1) := by decide +kernel
theorem dX5_init_1 : decode cX5_init 1 = .ok (.invokespecial 3, 3) := by decide +kernel
theorem dX5_init_4 : decode cX5_init 4 = .ok (.aload_n 0, 1) := by decide +kernel
theorem dX5_init_5 : decode cX5_init 5 = .ok (.bipush 60, 2) := by decide +kernel
theorem dX5_init_7 : decode cX5_init 7 = .ok (.newarray .int, 2) := by decide +kernel
theorem dX5_init_9 : decode cX5_init 9 = .ok (.putfield 9, 3) := by decide +kernel
theorem dX5_init_12 : decode cX5_init 12 = .ok (.aload_n 0, 1) := by decide +kernel
theorem dX5_init_13 : decode cX5_init 13 = .ok (.bipush 60, 2) := by decide +kernel
theorem dX5_init_15 : decode cX5_init 15 = .ok (.newarray .int, 2) := by decide +kernel
theorem dX5_init_17 : decode cX5_init 17 = .ok (.putfield 15, 3) := by decide +kernel
theorem dX5_init_20 : decode cX5_init 20 = .ok (.return_, 1) := by decide +kernel
theorem dX5_tryOrders_0 : decode cX5_tryOrders 0 = .ok (.aload_n 0, 1) := by decide +kernel
theorem dX5_tryOrders_1 : decode cX5_tryOrders 1 = .ok (.iconst 0, 1) := by decide +kernel
theorem dX5_tryOrders_2 : decode cX5_tryOrders 2 = .ok (.putfield 18, 3) := by decide +kernel
theorem dX5_tryOrders_5 : decode cX5_tryOrders 5 = .ok (.iconst 0, 1) := by decide +kernel
theorem dX5_tryOrders_6 : decode cX5_tryOrders 6 = .ok (.istore_n 2, 1) := by decide +kernel
theorem dX5_tryOrders_7 : decode cX5_tryOrders 7 = .ok (.iload_n 2, 1) := by decide +kernel
theorem dX5_tryOrders_8 : decode cX5_tryOrders 8 = .ok (.bipush 60, 2) := by decide +kernel
theorem dX5_tryOrders_10 : decode cX5_tryOrders 10 = .ok (.if_icmp .ge 16, 3) := by decide +kernel
theorem dX5_tryOrders_13 : decode cX5_tryOrders 13 = .ok (.aload_n 0, 1) := by decide +kernel
theorem dX5_tryOrders_14 : decode cX5_tryOrders 14 = .ok (.getfield 9, 3) := by decide +kernel
theorem dX5_tryOrders_17 : decode cX5_tryOrders 17 = .ok (.iload_n 2, 1) := by decide +kernel
theorem dX5_tryOrders_18 : decode cX5_tryOrders 18 = .ok (.iconst 0, 1) := by decide +kernel
theorem dX5_tryOrders_19 : decode cX5_tryOrders 19 = .ok (.iastore, 1) := by decide +kernel
theorem dX5_tryOrders_20 : decode cX5_tryOrders 20 = .ok (.iinc 2 1, 3) := by decide +kernel
theorem dX5_tryOrders_23 : decode cX5_tryOrders 23 = .ok (.goto (-16), 3) := by decide +kernel
theorem dX5_tryOrders_26 : decode cX5_tryOrders 26 = .ok (.aload_n 0, 1) := by decide +kernel
theorem dX5_tryOrders_27 : decode cX5_tryOrders 27 = .ok (.getfield 18, 3) := by decide +kernel
theorem dX5_tryOrders_30 : decode cX5_tryOrders 30 = .ok (.bipush 10, 2) := by decide +kernel
theorem dX5_tryOrders_32 : decode cX5_tryOrders 32 = .ok (.if_icmp .gt 77, 3) := by decide +kernel
theorem dX5_tryOrders_35 : decode cX5_tryOrders 35 = .ok (.aload_n 0, 1) := by decide +kernel
theorem dX5_tryOrders_36 : decode cX5_tryOrders 36 = .ok (.getfield 9, 3) := by decide +kernel
theorem dX5_tryOrders_39 : decode cX5_tryOrders 39 = .ok (.iconst 0, 1) := by decide +kernel
theorem dX5_tryOrders_40 : decode cX5_tryOrders 40 = .ok (.iaload, 1) := by decide +kernel
theorem dX5_tryOrders_41 : decode cX5_tryOrders 41 = .ok (.ifCond .ne 68, 3) := by decide +kernel
theorem dX5_tryOrders_44 : decode cX5_tryOrders 44 = .ok (.aload_n 0, 1) := by decide +kernel
theorem dX5_tryOrders_45 : decode cX5_tryOrders 45 = .ok (.dup, 1) := by decide +kernel
theorem dX5_tryOrders_46 : decode cX5_tryOrders 46 = .ok (.getfield 18, 3) := by decide +kernel
theorem dX5_tryOrders_49 : decode cX5_tryOrders 49 = .ok (.iconst 1, 1) := by decide +kernel
theorem dX5_tryOrders_50 : decode cX5_tryOrders 50 = .ok (.iadd, 1) := by decide +kernel
theorem dX5_tryOrders_51 : decode cX5_tryOrders 51 = .ok (.putfield 18, 3) := by decide +kernel
theorem dX5_tryOrders_54 : decode cX5_tryOrders 54 = .ok (.aload_n 0, 1) := by decide +kernel
theorem dX5_tryOrders_55 : decode cX5_tryOrders 55 = .ok (.getfield 9, 3) := by decide +kernel
theorem dX5_tryOrders_58 : decode cX5_tryOrders 58 = .ok (.iconst 0, 1) := by decide +kernel
theorem dX5_tryOrders_59 : decode cX5_tryOrders 59 = .ok (.aload_n 0, 1) := by decide +kernel
theorem dX5_tryOrders_60 : decode cX5_tryOrders 60 = .ok (.getfield 15, 3) := by decide +kernel
theorem dX5_tryOrders_63 : decode cX5_tryOrders 63 = .ok (.iconst 0, 1) := by decide +kernel
theorem dX5_tryOrders_64 : decode cX5_tryOrders 64 = .ok (.bipush 60, 2) := by decide +kernel
theorem dX5_tryOrders_66 : decode cX5_tryOrders 66 = .ok (.invokestatic 22, 3) := by decide +kernel
theorem dX5_tryOrders_69 : decode cX5_tryOrders 69 = .ok (.aload_n 1, 1) := by decide +kernel
theorem dX5_tryOrders_70 : decode cX5_tryOrders 70 = .ok (.getfield 28, 3) := by decide +kernel
theorem dX5_tryOrders_73 : decode cX5_tryOrders 73 = .ok (.getfield 34, 3) := by decide +kernel
theorem dX5_tryOrders_76 : decode cX5_tryOrders 76 = .ok (.bipush 60, 2) := by decide +kernel
theorem dX5_tryOrders_78 : decode cX5_tryOrders 78 = .ok (.invokestatic 39, 3) := by decide +kernel
theorem dX5_tryOrders_81 : decode cX5_tryOrders 81 = .ok (.iconst 1, 1) := by decide +kernel
theorem dX5_tryOrders_82 : decode cX5_tryOrders 82 = .ok (.isub, 1) := by decide +kernel
theorem dX5_tryOrders_83 : decode cX5_tryOrders 83 = .ok (.istore_n 2, 1) := by decide +kernel
theorem dX5_tryOrders_84 : decode cX5_tryOrders 84 = .ok (.iload_n 2, 1) := by decide +kernel
theorem dX5_tryOrders_85 : decode cX5_tryOrders 85 = .ok (.ifCond .lt 21, 3) := by decide +kernel
theorem dX5_tryOrders_88 : decode cX5_tryOrders 88 = .ok (.aload_n 0, 1) := by decide +kernel
theorem dX5_tryOrders_89 : decode cX5_tryOrders 89 = .ok (.getfield 9, 3) := by decide +kernel
theorem dX5_tryOrders_92 : decode cX5_tryOrders 92 = .ok (.iload_n 2, 1) := by decide +kernel
theorem dX5_tryOrders_93 : decode cX5_tryOrders 93 = .ok (.aload_n 0, 1) := by decide +kernel
theorem dX5_tryOrders_94 : decode cX5_tryOrders 94 = .ok (.aload_n 1, 1) := by decide +kernel
theorem dX5_tryOrders_95 : decode cX5_tryOrders 95 = .ok (.iload_n 2, 1) := by decide +kernel
theorem dX5_tryOrders_96 : decode cX5_tryOrders 96 = .ok (.invokevirtual 45, 3) := by decide +kernel
theorem dX5_tryOrders_99 : decode cX5_tryOrders 99 = .ok (.iastore, 1) := by decide +kernel
theorem dX5_tryOrders_100 : decode cX5_tryOrders 100 = .ok (.iinc 2 (-1), 3) := by decide +kernel
theorem dX5_tryOrders_103 : decode cX5_tryOrders 103 = .ok (.goto (-19), 3) := by decide +kernel
theorem dX5_tryOrders_106 : decode cX5_tryOrders 106 = .ok (.goto (-80), 3) := by decide +kernel
theorem dX5_tryOrders_109 : decode cX5_tryOrders 109 = .ok (.return_, 1) := by decide +kernel
theorem dX5_waysFor_0 : decode cX5_waysFor 0 = .ok (.iload_n 2, 1) := by decide +kernel
theorem dX5_waysFor_1 : decode cX5_waysFor 1 = .ok (.iconst 1, 1) := by decide +kernel
theorem dX5_waysFor_2 : decode cX5_waysFor 2 = .ok (.iadd, 1) := by decide +kernel
theorem dX5_waysFor_3 : decode cX5_waysFor 3 = .ok (.istore_n 3, 1) := by decide +kernel
theorem dX5_waysFor_4 : decode cX5_waysFor 4 = .ok (.aload_n 1, 1) := by decide +kernel
theorem dX5_waysFor_5 : decode cX5_waysFor 5 = .ok (.getfield 28, 3) := by decide +kernel
theorem dX5_waysFor_8 : decode cX5_waysFor 8 = .ok (.iload_n 2, 1) := by decide +kernel
theorem dX5_waysFor_9 : decode cX5_waysFor 9 = .ok (.invokevirtual 49, 3) := by decide +kernel
theorem dX5_waysFor_12 : decode cX5_waysFor 12 = .ok (.invokestatic 53, 3) := by decide +kernel
theorem dX5_waysFor_15 : decode cX5_waysFor 15 = .ok (.istore 4, 2) := by decide +kernel
theorem dX5_waysFor_17 : decode cX5_waysFor 17 = .ok (.iload 4, 2) := by decide +kernel
theorem dX5_waysFor_19 : decode cX5_waysFor 19 = .ok (.ifCond .ne 5, 3) := by decide +kernel
theorem dX5_waysFor_22 : decode cX5_waysFor 22 = .ok (.iconst 1, 1) := by decide +kernel
theorem dX5_waysFor_23 : decode cX5_waysFor 23 = .ok (.ireturn, 1) := by decide +kernel
theorem dX5_waysFor_24 : decode cX5_waysFor 24 = .ok (.iload 4, 2) := by decide +kernel
theorem dX5_waysFor_26 : decode cX5_waysFor 26 = .ok (.iconst 1, 1) := by decide +kernel
theorem dX5_waysFor_27 : decode cX5_waysFor 27 = .ok (.if_icmp .ne 12, 3) := by decide +kernel
theorem dX5_waysFor_30 : decode cX5_waysFor 30 = .ok (.aload_n 0, 1) := by decide +kernel
theorem dX5_waysFor_31 : decode cX5_waysFor 31 = .ok (.getfield 9, 3) := by decide +kernel
theorem dX5_waysFor_34 : decode cX5_waysFor 34 = .ok (.iload_n 3, 1) := by decide +kernel
theorem dX5_waysFor_35 : decode cX5_waysFor 35 = .ok (.invokestatic 56, 3) := by decide +kernel
theorem dX5_waysFor_38 : decode cX5_waysFor 38 = .ok (.ireturn, 1) := by decide +kernel
theorem dX5_waysFor_39 : decode cX5_waysFor 39 = .ok (.aload_n 1, 1) := by decide +kernel
theorem dX5_waysFor_40 : decode cX5_waysFor 40 = .ok (.iload_n 2, 1) := by decide +kernel
theorem dX5_waysFor_41 : decode cX5_waysFor 41 = .ok (.invokevirtual 60, 3) := by decide +kernel
theorem dX5_waysFor_44 : decode cX5_waysFor 44 = .ok (.istore 5, 2) := by decide +kernel
theorem dX5_waysFor_46 : decode cX5_waysFor 46 = .ok (.aload_n 0, 1) := by decide +kernel
theorem dX5_waysFor_47 : decode cX5_waysFor 47 = .ok (.getfield 9, 3) := by decide +kernel
theorem dX5_waysFor_50 : decode cX5_waysFor 50 = .ok (.iload_n 3, 1) := by decide +kernel
theorem dX5_waysFor_51 : decode cX5_waysFor 51 = .ok (.invokestatic 56, 3) := by decide +kernel
theorem dX5_waysFor_54 : decode cX5_waysFor 54 = .ok (.aload_n 0, 1) := by decide +kernel
theorem dX5_waysFor_55 : decode cX5_waysFor 55 = .ok (.getfield 15, 3) := by decide +kernel
theorem dX5_waysFor_58 : decode cX5_waysFor 58 = .ok (.iload 5, 2) := by decide +kernel
theorem dX5_waysFor_60 : decode cX5_waysFor 60 = .ok (.invokestatic 56, 3) := by decide +kernel
theorem dX5_waysFor_63 : decode cX5_waysFor 63 = .ok (.imul, 1) := by decide +kernel
theorem dX5_waysFor_64 : decode cX5_waysFor 64 = .ok (.istore 6, 2) := by decide +kernel
theorem dX5_waysFor_66 : decode cX5_waysFor 66 = .ok (.aload_n 0, 1) := by decide +kernel
theorem dX5_waysFor_67 : decode cX5_waysFor 67 = .ok (.getfield 9, 3) := by decide +kernel
theorem dX5_waysFor_70 : decode cX5_waysFor 70 = .ok (.iload 5, 2) := by decide +kernel
theorem dX5_waysFor_72 : decode cX5_waysFor 72 = .ok (.invokestatic 56, 3) := by decide +kernel
theorem dX5_waysFor_75 : decode cX5_waysFor 75 = .ok (.aload_n 0, 1) := by decide +kernel
theorem dX5_waysFor_76 : decode cX5_waysFor 76 = .ok (.getfield 15, 3) := by decide +kernel
theorem dX5_waysFor_79 : decode cX5_waysFor 79 = .ok (.iload_n 3, 1) := by decide +kernel
theorem dX5_waysFor_80 : decode cX5_waysFor 80 = .ok (.invokestatic 56, 3) := by decide +kernel
theorem dX5_waysFor_83 : decode cX5_waysFor 83 = .ok (.imul, 1) := by decide +kernel
theorem dX5_waysFor_84 : decode cX5_waysFor 84 = .ok (.istore 7, 2) := by decide +kernel
theorem dX5_waysFor_86 : decode cX5_waysFor 86 = .ok (.iload 6, 2) := by decide +kernel
theorem dX5_waysFor_88 : decode cX5_waysFor 88 = .ok (.iload 7, 2) := by decide +kernel
theorem dX5_waysFor_90 : decode cX5_waysFor 90 = .ok (.iadd, 1) := by decide +kernel
theorem dX5_waysFor_91 : decode cX5_waysFor 91 = .ok (.ireturn, 1) := by decide +kernel
end
section
theorem dX6_init_0 : decode cX6_init 0 = .ok (.aload_n 0, 1) := by decide +kernel
theorem dX6_init_1 : decode cX6_init 1 = .ok (.invokespecial 3, 3) := by decide +kernel
theorem dX6_init_4 : decode cX6_init 4 = .ok (.aload_n 0, 1) := by decide +kernel
theorem dX6_init_5 : decode cX6_init 5 = .ok (.new 9, 3) := by decide +kernel
theorem dX6_init_8 : decode cX6_init 8 = .ok (.dup, 1) := by decide +kernel
theorem dX6_init_9 : decode cX6_init 9 = .ok (.invokespecial 11, 3) := by decide +kernel
theorem dX6_init_12 : decode cX6_init 12 = .ok (.putfield 12, 3) := by decide +kernel
theorem dX6_init_15 : decode cX6_init 15 = .ok (.aload_n 0, 1) := by decide +kernel
theorem dX6_init_16 : decode cX6_init 16 = .ok (.new 16, 3) := by decide +kernel
theorem dX6_init_19 : decode cX6_init 19 = .ok (.dup, 1) := by decide +kernel
theorem dX6_init_20 : decode cX6_init 20 = .ok (.invokespecial 18, 3) := by decide +kernel
theorem dX6_init_23 : decode cX6_init 23 = .ok (.putfield 19, 3) := by decide +kernel
theorem dX6_init_26 : decode cX6_init 26 = .ok (.aload_n 0, 1) := by decide +kernel
theorem dX6_init_27 : decode cX6_init 27 = .ok (.iconst 5, 1) := by decide +kernel
theorem dX6_init_28 : decode cX6_init 28 = .ok (.anewarray 16, 3) := by decide +kernel
theorem dX6_init_31 : decode cX6_init 31 = .ok (.putfield 23, 3) := by decide +kernel
theorem dX6_init_34 : decode cX6_init 34 = .ok (.aload_n 0, 1) := by decide +kernel
theorem dX6_init_35 : decode cX6_init 35 = .ok (.bipush 6, 2) := by decide +kernel
theorem dX6_init_37 : decode cX6_init 37 = .ok (.anewarray 27, 3) := by decide +kernel
theorem dX6_init_40 : decode cX6_init 40 = .ok (.putfield 29, 3) := by decide +kernel
theorem dX6_init_43 : decode cX6_init 43 = .ok (.aload_n 0, 1) := by decide +kernel
theorem dX6_init_44 : decode cX6_init 44 = .ok (.new 33, 3) := by decide +kernel
theorem dX6_init_47 : decode cX6_init 47 = .ok (.dup, 1) := by decide +kernel
theorem dX6_init_48 : decode cX6_init 48 = .ok (.invokespecial 35, 3) := by decide +kernel
theorem dX6_init_51 : decode cX6_init 51 = .ok (.putfield 36, 3) := by decide +kernel
theorem dX6_init_54 : decode cX6_init 54 = .ok (.aload_n 0, 1) := by decide +kernel
theorem dX6_init_55 : decode cX6_init 55 = .ok (.new 40, 3) := by decide +kernel
theorem dX6_init_58 : decode cX6_init 58 = .ok (.dup, 1) := by decide +kernel
theorem dX6_init_59 : decode cX6_init 59 = .ok (.invokespecial 42, 3) := by decide +kernel
theorem dX6_init_62 : decode cX6_init 62 = .ok (.putfield 43, 3) := by decide +kernel
theorem dX6_init_65 : decode cX6_init 65 = .ok (.iconst 0, 1) := by decide +kernel
theorem dX6_init_66 : decode cX6_init 66 = .ok (.istore_n 1, 1) := by decide +kernel
theorem dX6_init_67 : decode cX6_init 67 = .ok (.iload_n 1, 1) := by decide +kernel
theorem dX6_init_68 : decode cX6_init 68 = .ok (.aload_n 0, 1) := by decide +kernel
theorem dX6_init_69 : decode cX6_init 69 = .ok (.getfield 23, 3) := by decide +kernel
theorem dX6_init_72 : decode cX6_init 72 = .ok (.arraylength, 1) := by decide +kernel
theorem dX6_init_73 : decode cX6_init 73 = .ok (.if_icmp .ge 22, 3) := by decide +kernel
theorem dX6_init_76 : decode cX6_init 76 = .ok (.aload_n 0, 1) := by decide +kernel
theorem dX6_init_77 : decode cX6_init 77 = .ok (.getfield 23, 3) := by decide +kernel
theorem dX6_init_80 : decode cX6_init 80 = .ok (.iload_n 1, 1) := by decide +kernel
theorem dX6_init_81 : decode cX6_init 81 = .ok (.new 16, 3) := by decide +kernel
theorem dX6_init_84 : decode cX6_init 84 = .ok (.dup, 1) := by decide +kernel
theorem dX6_init_85 : decode cX6_init 85 = .ok (.invokespecial 18, 3) := by decide +kernel
theorem dX6_init_88 : decode cX6_init 88 = .ok (.aastore, 1) := by decide +kernel
theorem dX6_init_89 : decode cX6_init 89 = .ok (.iinc 1 1, 3) := by decide +kernel
theorem dX6_init_92 : decode cX6_init 92 = .ok (.goto (-25), 3) := by decide +kernel
theorem dX6_init_95 : decode cX6_init 95 = .ok (.iconst 0, 1) := by decide +kernel
theorem dX6_init_96 : decode cX6_init 96 = .ok (.istore_n 1, 1) := by decide +kernel
theorem dX6_init_97 : decode cX6_init 97 = .ok (.iload_n 1, 1) := by decide +kernel
theorem dX6_init_98 : decode cX6_init 98 = .ok (.aload_n 0, 1) := by decide +kernel
theorem dX6_init_99 : decode cX6_init 99 = .ok (.getfield 29, 3) := by decide +kernel
theorem dX6_init_102 : decode cX6_init 102 = .ok (.arraylength, 1) := by decide +kernel
theorem dX6_init_103 : decode cX6_init 103 = .ok (.if_icmp .ge 23, 3) := by decide +kernel
theorem dX6_init_106 : decode cX6_init 106 = .ok (.aload_n 0, 1) := by decide +kernel
theorem dX6_init_107 : decode cX6_init 107 = .ok (.getfield 29, 3) := by decide +kernel
theorem dX6_init_110 : decode cX6_init 110 = .ok (.iload_n 1, 1) := by decide +kernel
theorem dX6_init_111 : decode cX6_init 111 = .ok (.new 27, 3) := by decide +kernel
theorem dX6_init_114 : decode cX6_init 114 = .ok (.dup, 1) := by decide +kernel
theorem dX6_init_115 : decode cX6_init 115 = .ok (.iload_n 1, 1) := by decide +kernel
theorem dX6_init_116 : decode cX6_init 116 = .ok (.invokespecial 47, 3) := by decide +kernel
theorem dX6_init_119 : decode cX6_init 119 = .ok (.aastore, 1) := by decide +kernel
theorem dX6_init_120 : decode cX6_init 120 = .ok (.iinc 1 1, 3) := by decide +kernel
theorem dX6_init_123 : decode cX6_init 123 = .ok (.goto (-26), 3) := by decide +kernel
theorem dX6_init_126 : decode cX6_init 126 = .ok (.return_, 1) := by decide +kernel
theorem dX6_append_0 : decode cX6_append 0 = .ok (.iload_n 1, 1) := by decide +kernel
theorem dX6_append_1 : decode cX6_append 1 = .ok (.iconst 1, 1) := by decide +kernel
theorem dX6_append_2 : decode cX6_append 2 = .ok (.if_icmp .lt 10, 3) := by decide +kernel
theorem dX6_append_5 : decode cX6_append 5 = .ok (.iload_n 1, 1) := by decide +kernel
theorem dX6_append_6 : decode cX6_append 6 = .ok (.sipush 255, 3) := by decide +kernel
theorem dX6_append_9 : decode cX6_append 9 = .ok (.if_icmp .le 6, 3) := by decide +kernel
theorem dX6_append_12 : decode cX6_append 12 = .ok (.ldc 50, 2) := by decide +kernel
theorem dX6_append_14 : decode cX6_append 14 = .ok (.ireturn, 1) := by decide +kernel
theorem dX6_append_15 : decode cX6_append 15 = .ok (.aload_n 0, 1) := by decide +kernel
theorem dX6_append_16 : decode cX6_append 16 = .ok (.getfield 12, 3) := by decide +kernel
theorem dX6_append_19 : decode cX6_append 19 = .ok (.iload_n 1, 1) := by decide +kernel
theorem dX6_append_20 : decode cX6_append 20 = .ok (.invokevirtual 51, 3) := by decide +kernel
theorem dX6_append_23 : decode cX6_append 23 = .ok (.ifCond .eq 13, 3) := by decide +kernel
theorem dX6_append_26 : decode cX6_append 26 = .ok (.aload_n 0, 1) := by decide +kernel
theorem dX6_append_27 : decode cX6_append 27 = .ok (.getfield 12, 3) := by decide +kernel
theorem dX6_append_30 : decode cX6_append 30 = .ok (.getfield 55, 3) := by decide +kernel
theorem dX6_append_33 : decode cX6_append 33 = .ok (.goto 5, 3) := by decide +kernel
theorem dX6_append_36 : decode cX6_append 36 = .ok (.ldc 59, 2) := by decide +kernel
theorem dX6_append_38 : decode cX6_append 38 = .ok (.ireturn, 1) := by decide +kernel
theorem dX6_clearText_0 : decode cX6_clearText 0 = .ok (.aload_n 0, 1) := by decide +kernel
theorem dX6_clearText_1 : decode cX6_clearText 1 = .ok (.getfield 12, 3) := by decide +kernel
theorem dX6_clearText_4 : decode cX6_clearText 4 = .ok (.getfield 55, 3) := by decide +kernel
theorem dX6_clearText_7 : decode cX6_clearText 7 = .ok (.istore_n 1, 1) := by decide +kernel
theorem dX6_clearText_8 : decode cX6_clearText 8 = .ok (.aload_n 0, 1) := by decide +kernel
theorem dX6_clearText_9 : decode cX6_clearText 9 = .ok (.getfield 12, 3) := by decide +kernel
theorem dX6_clearText_12 : decode cX6_clearText 12 = .ok (.iconst 0, 1) := by decide +kernel
theorem dX6_clearText_13 : decode cX6_clearText 13 = .ok (.putfield 55, 3) := by decide +kernel
theorem dX6_clearText_16 : decode cX6_clearText 16 = .ok (.iload_n 1, 1) := by decide +kernel
theorem dX6_clearText_17 : decode cX6_clearText 17 = .ok (.ireturn, 1) := by decide +kernel
theorem dX6_read_0 : decode cX6_read 0 = .ok (.aload_n 0, 1) := by decide +kernel
theorem dX6_read_1 : decode cX6_read 1 = .ok (.getfield 12, 3) := by decide +kernel
theorem dX6_read_4 : decode cX6_read 4 = .ok (.invokevirtual 60, 3) := by decide +kernel
theorem dX6_read_7 : decode cX6_read 7 = .ok (.ifCond .ne 15, 3) := by decide +kernel
theorem dX6_read_10 : decode cX6_read 10 = .ok (.sipush (-1000), 3) := by decide +kernel
theorem dX6_read_13 : decode cX6_read 13 = .ok (.aload_n 0, 1) := by decide +kernel
theorem dX6_read_14 : decode cX6_read 14 = .ok (.getfield 12, 3) := by decide +kernel
theorem dX6_read_17 : decode cX6_read 17 = .ok (.getfield 64, 3) := by decide +kernel
theorem dX6_read_20 : decode cX6_read 20 = .ok (.isub, 1) := by decide +kernel
theorem dX6_read_21 : decode cX6_read 21 = .ok (.ireturn, 1) := by decide +kernel
theorem dX6_read_22 : decode cX6_read 22 = .ok (.aload_n 0, 1) := by decide +kernel
theorem dX6_read_23 : decode cX6_read 23 = .ok (.invokevirtual 67, 3) := by decide +kernel
theorem dX6_read_26 : decode cX6_read 26 = .ok (.aload_n 0, 1) := by decide +kernel
theorem dX6_read_27 : decode cX6_read 27 = .ok (.getfield 19, 3) := by decide +kernel
theorem dX6_read_30 : decode cX6_read 30 = .ok (.aload_n 0, 1) := by decide +kernel
theorem dX6_read_31 : decode cX6_read 31 = .ok (.getfield 12, 3) := by decide +kernel
theorem dX6_read_34 : decode cX6_read 34 = .ok (.getfield 70, 3) := by decide +kernel
theorem dX6_read_37 : decode cX6_read 37 = .ok (.invokevirtual 73, 3) := by decide +kernel
theorem dX6_read_40 : decode cX6_read 40 = .ok (.aload_n 0, 1) := by decide +kernel
theorem dX6_read_41 : decode cX6_read 41 = .ok (.invokevirtual 77, 3) := by decide +kernel
theorem dX6_read_44 : decode cX6_read 44 = .ok (.aload_n 0, 1) := by decide +kernel
theorem dX6_read_45 : decode cX6_read 45 = .ok (.getfield 19, 3) := by decide +kernel
theorem dX6_read_48 : decode cX6_read 48 = .ok (.getfield 80, 3) := by decide +kernel
theorem dX6_read_51 : decode cX6_read 51 = .ok (.ireturn, 1) := by decide +kernel
theorem dX6_turn_0 : decode cX6_turn 0 = .ok (.aload_n 0, 1) := by decide +kernel
theorem dX6_turn_1 : decode cX6_turn 1 = .ok (.iload_n 1, 1) := by decide +kernel
theorem dX6_turn_2 : decode cX6_turn 2 = .ok (.invokevirtual 83, 3) := by decide +kernel
theorem dX6_turn_5 : decode cX6_turn 5 = .ok (.ifCond .eq 19, 3) := by decide +kernel
theorem dX6_turn_8 : decode cX6_turn 8 = .ok (.aload_n 0, 1) := by decide +kernel
theorem dX6_turn_9 : decode cX6_turn 9 = .ok (.getfield 19, 3) := by decide +kernel
theorem dX6_turn_12 : decode cX6_turn 12 = .ok (.getfield 86, 3) := by decide +kernel
theorem dX6_turn_15 : decode cX6_turn 15 = .ok (.iload_n 1, 1) := by decide +kernel
theorem dX6_turn_16 : decode cX6_turn 16 = .ok (.aaload, 1) := by decide +kernel
theorem dX6_turn_17 : decode cX6_turn 17 = .ok (.iload_n 2, 1) := by decide +kernel
theorem dX6_turn_18 : decode cX6_turn 18 = .ok (.invokevirtual 90, 3) := by decide +kernel
theorem dX6_turn_21 : decode cX6_turn 21 = .ok (.ifCond .ne 6, 3) := by decide +kernel
theorem dX6_turn_24 : decode cX6_turn 24 = .ok (.ldc 50, 2) := by decide +kernel
theorem dX6_turn_26 : decode cX6_turn 26 = .ok (.ireturn, 1) := by decide +kernel
theorem dX6_turn_27 : decode cX6_turn 27 = .ok (.aload_n 0, 1) := by decide +kernel
theorem dX6_turn_28 : decode cX6_turn 28 = .ok (.getfield 19, 3) := by decide +kernel
theorem dX6_turn_31 : decode cX6_turn 31 = .ok (.getfield 86, 3) := by decide +kernel
theorem dX6_turn_34 : decode cX6_turn 34 = .ok (.iload_n 1, 1) := by decide +kernel
theorem dX6_turn_35 : decode cX6_turn 35 = .ok (.aaload, 1) := by decide +kernel
theorem dX6_turn_36 : decode cX6_turn 36 = .ok (.iload_n 2, 1) := by decide +kernel
theorem dX6_turn_37 : decode cX6_turn 37 = .ok (.invokevirtual 95, 3) := by decide +kernel
theorem dX6_turn_40 : decode cX6_turn 40 = .ok (.istore_n 3, 1) := by decide +kernel
theorem dX6_turn_41 : decode cX6_turn 41 = .ok (.iload_n 3, 1) := by decide +kernel
theorem dX6_turn_42 : decode cX6_turn 42 = .ok (.iconst 4, 1) := by decide +kernel
theorem dX6_turn_43 : decode cX6_turn 43 = .ok (.if_icmp .eq 12, 3) := by decide +kernel
theorem dX6_turn_46 : decode cX6_turn 46 = .ok (.iload_n 3, 1) := by decide +kernel
theorem dX6_turn_47 : decode cX6_turn 47 = .ok (.bipush 6, 2) := by decide +kernel
theorem dX6_turn_49 : decode cX6_turn 49 = .ok (.if_icmp .eq 6, 3) := by decide +kernel
theorem dX6_turn_52 : decode cX6_turn 52 = .ok (.ldc 99, 2) := by decide +kernel
theorem dX6_turn_54 : decode cX6_turn 54 = .ok (.ireturn, 1) := by decide +kernel
theorem dX6_turn_55 : decode cX6_turn 55 = .ok (.aload_n 0, 1) := by decide +kernel
theorem dX6_turn_56 : decode cX6_turn 56 = .ok (.invokevirtual 67, 3) := by decide +kernel
theorem dX6_turn_59 : decode cX6_turn 59 = .ok (.aload_n 0, 1) := by decide +kernel
theorem dX6_turn_60 : decode cX6_turn 60 = .ok (.getfield 19, 3) := by decide +kernel
theorem dX6_turn_63 : decode cX6_turn 63 = .ok (.getfield 86, 3) := by decide +kernel
theorem dX6_turn_66 : decode cX6_turn 66 = .ok (.iload_n 1, 1) := by decide +kernel
theorem dX6_turn_67 : decode cX6_turn 67 = .ok (.aaload, 1) := by decide +kernel
theorem dX6_turn_68 : decode cX6_turn 68 = .ok (.iload_n 2, 1) := by decide +kernel
theorem dX6_turn_69 : decode cX6_turn 69 = .ok (.invokevirtual 100, 3) := by decide +kernel
theorem dX6_turn_72 : decode cX6_turn 72 = .ok (.aload_n 0, 1) := by decide +kernel
theorem dX6_turn_73 : decode cX6_turn 73 = .ok (.invokevirtual 77, 3) := by decide +kernel
theorem dX6_turn_76 : decode cX6_turn 76 = .ok (.aload_n 0, 1) := by decide +kernel
theorem dX6_turn_77 : decode cX6_turn 77 = .ok (.getfield 29, 3) := by decide +kernel
theorem dX6_turn_80 : decode cX6_turn 80 = .ok (.iload_n 1, 1) := by decide +kernel
theorem dX6_turn_81 : decode cX6_turn 81 = .ok (.aaload, 1) := by decide +kernel
theorem dX6_turn_82 : decode cX6_turn 82 = .ok (.iconst 0, 1) := by decide +kernel
theorem dX6_turn_83 : decode cX6_turn 83 = .ok (.invokevirtual 103, 3) := by decide +kernel
theorem dX6_turn_86 : decode cX6_turn 86 = .ok (.ireturn, 1) := by decide +kernel
theorem dX6_setCell_0 : decode cX6_setCell 0 = .ok (.iload_n 1, 1) := by decide +kernel
theorem dX6_setCell_1 : decode cX6_setCell 1 = .ok (.invokestatic 106, 3) := by decide +kernel
theorem dX6_setCell_4 : decode cX6_setCell 4 = .ok (.ifCond .eq 17, 3) := by decide +kernel
theorem dX6_setCell_7 : decode cX6_setCell 7 = .ok (.iload_n 2, 1) := by decide +kernel
theorem dX6_setCell_8 : decode cX6_setCell 8 = .ok (.sipush (-999), 3) := by decide +kernel
theorem dX6_setCell_11 : decode cX6_setCell 11 = .ok (.if_icmp .lt 10, 3) := by decide +kernel
theorem dX6_setCell_14 : decode cX6_setCell 14 = .ok (.iload_n 2, 1) := by decide +kernel
theorem dX6_setCell_15 : decode cX6_setCell 15 = .ok (.sipush 999, 3) := by decide +kernel
theorem dX6_setCell_18 : decode cX6_setCell 18 = .ok (.if_icmp .le 6, 3) := by decide +kernel
theorem dX6_setCell_21 : decode cX6_setCell 21 = .ok (.ldc 50, 2) := by decide +kernel
theorem dX6_setCell_23 : decode cX6_setCell 23 = .ok (.ireturn, 1) := by decide +kernel
theorem dX6_setCell_24 : decode cX6_setCell 24 = .ok (.aload_n 0, 1) := by decide +kernel
theorem dX6_setCell_25 : decode cX6_setCell 25 = .ok (.invokevirtual 67, 3) := by decide +kernel
theorem dX6_setCell_28 : decode cX6_setCell 28 = .ok (.aload_n 0, 1) := by decide +kernel
theorem dX6_setCell_29 : decode cX6_setCell 29 = .ok (.getfield 19, 3) := by decide +kernel
theorem dX6_setCell_32 : decode cX6_setCell 32 = .ok (.getfield 109, 3) := by decide +kernel
theorem dX6_setCell_35 : decode cX6_setCell 35 = .ok (.iload_n 1, 1) := by decide +kernel
theorem dX6_setCell_36 : decode cX6_setCell 36 = .ok (.iaload, 1) := by decide +kernel
theorem dX6_setCell_37 : decode cX6_setCell 37 = .ok (.istore_n 3, 1) := by decide +kernel
theorem dX6_setCell_38 : decode cX6_setCell 38 = .ok (.aload_n 0, 1) := by decide +kernel
theorem dX6_setCell_39 : decode cX6_setCell 39 = .ok (.getfield 19, 3) := by decide +kernel
theorem dX6_setCell_42 : decode cX6_setCell 42 = .ok (.getfield 109, 3) := by decide +kernel
theorem dX6_setCell_45 : decode cX6_setCell 45 = .ok (.iload_n 1, 1) := by decide +kernel
theorem dX6_setCell_46 : decode cX6_setCell 46 = .ok (.iload_n 2, 1) := by decide +kernel
theorem dX6_setCell_47 : decode cX6_setCell 47 = .ok (.iastore, 1) := by decide +kernel
theorem dX6_setCell_48 : decode cX6_setCell 48 = .ok (.aload_n 0, 1) := by decide +kernel
theorem dX6_setCell_49 : decode cX6_setCell 49 = .ok (.invokevirtual 77, 3) := by decide +kernel
theorem dX6_setCell_52 : decode cX6_setCell 52 = .ok (.iload_n 3, 1) := by decide +kernel
theorem dX6_setCell_53 : decode cX6_setCell 53 = .ok (.ireturn, 1) := by decide +kernel
theorem dX6_setPlaces_0 : decode cX6_setPlaces 0 = .ok (.iload_n 1, 1) := by decide +kernel
theorem dX6_setPlaces_1 : decode cX6_setPlaces 1 = .ok (.invokestatic 113, 3) := by decide +kernel
theorem dX6_setPlaces_4 : decode cX6_setPlaces 4 = .ok (.ifCond .ne 6, 3) := by decide +kernel
theorem dX6_setPlaces_7 : decode cX6_setPlaces 7 = .ok (.ldc 50, 2) := by decide +kernel
theorem dX6_setPlaces_9 : decode cX6_setPlaces 9 = .ok (.ireturn, 1) := by decide +kernel
theorem dX6_setPlaces_10 : decode cX6_setPlaces 10 = .ok (.aload_n 0, 1) := by decide +kernel
theorem dX6_setPlaces_11 : decode cX6_setPlaces 11 = .ok (.invokevirtual 67, 3) := by decide +kernel
theorem dX6_setPlaces_14 : decode cX6_setPlaces 14 = .ok (.aload_n 0, 1) := by decide +kernel
theorem dX6_setPlaces_15 : decode cX6_setPlaces 15 = .ok (.getfield 19, 3) := by decide +kernel
theorem dX6_setPlaces_18 : decode cX6_setPlaces 18 = .ok (.getfield 116, 3) := by decide +kernel
theorem dX6_setPlaces_21 : decode cX6_setPlaces 21 = .ok (.istore_n 2, 1) := by decide +kernel
theorem dX6_setPlaces_22 : decode cX6_setPlaces 22 = .ok (.aload_n 0, 1) := by decide +kernel
theorem dX6_setPlaces_23 : decode cX6_setPlaces 23 = .ok (.getfield 19, 3) := by decide +kernel
theorem dX6_setPlaces_26 : decode cX6_setPlaces 26 = .ok (.iload_n 1, 1) := by decide +kernel
theorem dX6_setPlaces_27 : decode cX6_setPlaces 27 = .ok (.putfield 116, 3) := by decide +kernel
theorem dX6_setPlaces_30 : decode cX6_setPlaces 30 = .ok (.iload_n 2, 1) := by decide +kernel
theorem dX6_setPlaces_31 : decode cX6_setPlaces 31 = .ok (.ireturn, 1) := by decide +kernel
theorem dX6_undo_0 : decode cX6_undo 0 = .ok (.aload_n 0, 1) := by decide +kernel
theorem dX6_undo_1 : decode cX6_undo 1 = .ok (.getfield 119, 3) := by decide +kernel
theorem dX6_undo_4 : decode cX6_undo 4 = .ok (.iconst 1, 1) := by decide +kernel
theorem dX6_undo_5 : decode cX6_undo 5 = .ok (.if_icmp .lt 15, 3) := by decide +kernel
theorem dX6_undo_8 : decode cX6_undo 8 = .ok (.aload_n 0, 1) := by decide +kernel
theorem dX6_undo_9 : decode cX6_undo 9 = .ok (.getfield 119, 3) := by decide +kernel
theorem dX6_undo_12 : decode cX6_undo 12 = .ok (.aload_n 0, 1) := by decide +kernel
theorem dX6_undo_13 : decode cX6_undo 13 = .ok (.getfield 23, 3) := by decide +kernel
theorem dX6_undo_16 : decode cX6_undo 16 = .ok (.arraylength, 1) := by decide +kernel
theorem dX6_undo_17 : decode cX6_undo 17 = .ok (.if_icmp .le 6, 3) := by decide +kernel
theorem dX6_undo_20 : decode cX6_undo 20 = .ok (.ldc 99, 2) := by decide +kernel
theorem dX6_undo_22 : decode cX6_undo 22 = .ok (.ireturn, 1) := by decide +kernel
theorem dX6_undo_23 : decode cX6_undo 23 = .ok (.aload_n 0, 1) := by decide +kernel
theorem dX6_undo_24 : decode cX6_undo 24 = .ok (.dup, 1) := by decide +kernel
theorem dX6_undo_25 : decode cX6_undo 25 = .ok (.getfield 119, 3) := by decide +kernel
theorem dX6_undo_28 : decode cX6_undo 28 = .ok (.iconst 1, 1) := by decide +kernel
theorem dX6_undo_29 : decode cX6_undo 29 = .ok (.isub, 1) := by decide +kernel
theorem dX6_undo_30 : decode cX6_undo 30 = .ok (.putfield 119, 3) := by decide +kernel
theorem dX6_undo_33 : decode cX6_undo 33 = .ok (.aload_n 0, 1) := by decide +kernel
theorem dX6_undo_34 : decode cX6_undo 34 = .ok (.getfield 19, 3) := by decide +kernel
theorem dX6_undo_37 : decode cX6_undo 37 = .ok (.aload_n 0, 1) := by decide +kernel
theorem dX6_undo_38 : decode cX6_undo 38 = .ok (.getfield 23, 3) := by decide +kernel
theorem dX6_undo_41 : decode cX6_undo 41 = .ok (.aload_n 0, 1) := by decide +kernel
theorem dX6_undo_42 : decode cX6_undo 42 = .ok (.getfield 119, 3) := by decide +kernel
theorem dX6_undo_45 : decode cX6_undo 45 = .ok (.aaload, 1) := by decide +kernel
theorem dX6_undo_46 : decode cX6_undo 46 = .ok (.invokevirtual 122, 3) := by decide +kernel
theorem dX6_undo_49 : decode cX6_undo 49 = .ok (.aload_n 0, 1) := by decide +kernel
theorem dX6_undo_50 : decode cX6_undo 50 = .ok (.invokevirtual 77, 3) := by decide +kernel
theorem dX6_undo_53 : decode cX6_undo 53 = .ok (.aload_n 0, 1) := by decide +kernel
theorem dX6_undo_54 : decode cX6_undo 54 = .ok (.getfield 119, 3) := by decide +kernel
theorem dX6_undo_57 : decode cX6_undo 57 = .ok (.ireturn, 1) := by decide +kernel
theorem dX6_count_0 : decode cX6_count 0 = .ok (.iload_n 1, 1) := by decide +kernel
theorem dX6_count_1 : decode cX6_count 1 = .ok (.tableswitch 87 0 6 #[43, 51, 56, 61, 69, 74, 79], 43) := by decide +kernel
theorem dX6_count_44 : decode cX6_count 44 = .ok (.aload_n 0, 1) := by decide +kernel
theorem dX6_count_45 : decode cX6_count 45 = .ok (.getfield 19, 3) := by decide +kernel
theorem dX6_count_48 : decode cX6_count 48 = .ok (.getfield 80, 3) := by decide +kernel
theorem dX6_count_51 : decode cX6_count 51 = .ok (.ireturn, 1) := by decide +kernel
theorem dX6_count_52 : decode cX6_count 52 = .ok (.aload_n 0, 1) := by decide +kernel
theorem dX6_count_53 : decode cX6_count 53 = .ok (.invokevirtual 125, 3) := by decide +kernel
theorem dX6_count_56 : decode cX6_count 56 = .ok (.ireturn, 1) := by decide +kernel
theorem dX6_count_57 : decode cX6_count 57 = .ok (.aload_n 0, 1) := by decide +kernel
theorem dX6_count_58 : decode cX6_count 58 = .ok (.invokevirtual 129, 3) := by decide +kernel
theorem dX6_count_61 : decode cX6_count 61 = .ok (.ireturn, 1) := by decide +kernel
theorem dX6_count_62 : decode cX6_count 62 = .ok (.aload_n 0, 1) := by decide +kernel
theorem dX6_count_63 : decode cX6_count 63 = .ok (.getfield 19, 3) := by decide +kernel
theorem dX6_count_66 : decode cX6_count 66 = .ok (.getfield 116, 3) := by decide +kernel
theorem dX6_count_69 : decode cX6_count 69 = .ok (.ireturn, 1) := by decide +kernel
theorem dX6_count_70 : decode cX6_count 70 = .ok (.aload_n 0, 1) := by decide +kernel
theorem dX6_count_71 : decode cX6_count 71 = .ok (.invokevirtual 132, 3) := by decide +kernel
theorem dX6_count_74 : decode cX6_count 74 = .ok (.ireturn, 1) := by decide +kernel
theorem dX6_count_75 : decode cX6_count 75 = .ok (.aload_n 0, 1) := by decide +kernel
theorem dX6_count_76 : decode cX6_count 76 = .ok (.getfield 119, 3) := by decide +kernel
theorem dX6_count_79 : decode cX6_count 79 = .ok (.ireturn, 1) := by decide +kernel
theorem dX6_count_80 : decode cX6_count 80 = .ok (.aload_n 0, 1) := by decide +kernel
theorem dX6_count_81 : decode cX6_count 81 = .ok (.getfield 12, 3) := by decide +kernel
theorem dX6_count_84 : decode cX6_count 84 = .ok (.getfield 55, 3) := by decide +kernel
theorem dX6_count_87 : decode cX6_count 87 = .ok (.ireturn, 1) := by decide +kernel
theorem dX6_count_88 : decode cX6_count 88 = .ok (.ldc 50, 2) := by decide +kernel
theorem dX6_count_90 : decode cX6_count 90 = .ok (.ireturn, 1) := by decide +kernel
theorem dX6_formula_0 : decode cX6_formula 0 = .ok (.aload_n 0, 1) := by decide +kernel
theorem dX6_formula_1 : decode cX6_formula 1 = .ok (.iload_n 1, 1) := by decide +kernel
theorem dX6_formula_2 : decode cX6_formula 2 = .ok (.invokevirtual 83, 3) := by decide +kernel
theorem dX6_formula_5 : decode cX6_formula 5 = .ok (.ifCond .ne 6, 3) := by decide +kernel
theorem dX6_formula_8 : decode cX6_formula 8 = .ok (.ldc 50, 2) := by decide +kernel
theorem dX6_formula_10 : decode cX6_formula 10 = .ok (.ireturn, 1) := by decide +kernel
theorem dX6_formula_11 : decode cX6_formula 11 = .ok (.aload_n 0, 1) := by decide +kernel
theorem dX6_formula_12 : decode cX6_formula 12 = .ok (.getfield 29, 3) := by decide +kernel
theorem dX6_formula_15 : decode cX6_formula 15 = .ok (.iload_n 1, 1) := by decide +kernel
theorem dX6_formula_16 : decode cX6_formula 16 = .ok (.aaload, 1) := by decide +kernel
theorem dX6_formula_17 : decode cX6_formula 17 = .ok (.astore_n 3, 1) := by decide +kernel
theorem dX6_formula_18 : decode cX6_formula 18 = .ok (.iload_n 2, 1) := by decide +kernel
theorem dX6_formula_19 : decode cX6_formula 19 = .ok (.tableswitch 99 0 6 #[41, 54, 62, 68, 81, 87, 93], 41) := by decide +kernel
theorem dX6_formula_60 : decode cX6_formula 60 = .ok (.aload_n 0, 1) := by decide +kernel
theorem dX6_formula_61 : decode cX6_formula 61 = .ok (.getfield 19, 3) := by decide +kernel
theorem dX6_formula_64 : decode cX6_formula 64 = .ok (.getfield 86, 3) := by decide +kernel
theorem dX6_formula_67 : decode cX6_formula 67 = .ok (.iload_n 1, 1) := by decide +kernel
theorem dX6_formula_68 : decode cX6_formula 68 = .ok (.aaload, 1) := by decide +kernel
theorem dX6_formula_69 : decode cX6_formula 69 = .ok (.getfield 135, 3) := by decide +kernel
theorem dX6_formula_72 : decode cX6_formula 72 = .ok (.ireturn, 1) := by decide +kernel
theorem dX6_formula_73 : decode cX6_formula 73 = .ok (.aload_n 3, 1) := by decide +kernel
theorem dX6_formula_74 : decode cX6_formula 74 = .ok (.getfield 138, 3) := by decide +kernel
theorem dX6_formula_77 : decode cX6_formula 77 = .ok (.getfield 135, 3) := by decide +kernel
theorem dX6_formula_80 : decode cX6_formula 80 = .ok (.ireturn, 1) := by decide +kernel
theorem dX6_formula_81 : decode cX6_formula 81 = .ok (.aload_n 3, 1) := by decide +kernel
theorem dX6_formula_82 : decode cX6_formula 82 = .ok (.iconst 0, 1) := by decide +kernel
theorem dX6_formula_83 : decode cX6_formula 83 = .ok (.invokevirtual 103, 3) := by decide +kernel
theorem dX6_formula_86 : decode cX6_formula 86 = .ok (.ireturn, 1) := by decide +kernel
theorem dX6_formula_87 : decode cX6_formula 87 = .ok (.aload_n 3, 1) := by decide +kernel
theorem dX6_formula_88 : decode cX6_formula 88 = .ok (.getfield 142, 3) := by decide +kernel
theorem dX6_formula_91 : decode cX6_formula 91 = .ok (.ifCond .eq 7, 3) := by decide +kernel
theorem dX6_formula_94 : decode cX6_formula 94 = .ok (.iconst 1, 1) := by decide +kernel
theorem dX6_formula_95 : decode cX6_formula 95 = .ok (.goto 4, 3) := by decide +kernel
theorem dX6_formula_98 : decode cX6_formula 98 = .ok (.iconst 0, 1) := by decide +kernel
theorem dX6_formula_99 : decode cX6_formula 99 = .ok (.ireturn, 1) := by decide +kernel
theorem dX6_formula_100 : decode cX6_formula 100 = .ok (.aload_n 3, 1) := by decide +kernel
theorem dX6_formula_101 : decode cX6_formula 101 = .ok (.iconst 0, 1) := by decide +kernel
theorem dX6_formula_102 : decode cX6_formula 102 = .ok (.invokevirtual 146, 3) := by decide +kernel
theorem dX6_formula_105 : decode cX6_formula 105 = .ok (.ireturn, 1) := by decide +kernel
theorem dX6_formula_106 : decode cX6_formula 106 = .ok (.aload_n 3, 1) := by decide +kernel
theorem dX6_formula_107 : decode cX6_formula 107 = .ok (.iconst 0, 1) := by decide +kernel
theorem dX6_formula_108 : decode cX6_formula 108 = .ok (.invokevirtual 149, 3) := by decide +kernel
theorem dX6_formula_111 : decode cX6_formula 111 = .ok (.ireturn, 1) := by decide +kernel
theorem dX6_formula_112 : decode cX6_formula 112 = .ok (.aload_n 0, 1) := by decide +kernel
theorem dX6_formula_113 : decode cX6_formula 113 = .ok (.iload_n 1, 1) := by decide +kernel
theorem dX6_formula_114 : decode cX6_formula 114 = .ok (.invokevirtual 152, 3) := by decide +kernel
theorem dX6_formula_117 : decode cX6_formula 117 = .ok (.ireturn, 1) := by decide +kernel
theorem dX6_formula_118 : decode cX6_formula 118 = .ok (.ldc 50, 2) := by decide +kernel
theorem dX6_formula_120 : decode cX6_formula 120 = .ok (.ireturn, 1) := by decide +kernel
theorem dX6_node_0 : decode cX6_node 0 = .ok (.aload_n 0, 1) := by decide +kernel
theorem dX6_node_1 : decode cX6_node 1 = .ok (.iload_n 1, 1) := by decide +kernel
theorem dX6_node_2 : decode cX6_node 2 = .ok (.invokevirtual 83, 3) := by decide +kernel
theorem dX6_node_5 : decode cX6_node 5 = .ok (.ifCond .eq 19, 3) := by decide +kernel
theorem dX6_node_8 : decode cX6_node 8 = .ok (.aload_n 0, 1) := by decide +kernel
theorem dX6_node_9 : decode cX6_node 9 = .ok (.getfield 29, 3) := by decide +kernel
theorem dX6_node_12 : decode cX6_node 12 = .ok (.iload_n 1, 1) := by decide +kernel
theorem dX6_node_13 : decode cX6_node 13 = .ok (.aaload, 1) := by decide +kernel
theorem dX6_node_14 : decode cX6_node 14 = .ok (.getfield 138, 3) := by decide +kernel
theorem dX6_node_17 : decode cX6_node 17 = .ok (.iload_n 2, 1) := by decide +kernel
theorem dX6_node_18 : decode cX6_node 18 = .ok (.invokevirtual 90, 3) := by decide +kernel
theorem dX6_node_21 : decode cX6_node 21 = .ok (.ifCond .ne 6, 3) := by decide +kernel
theorem dX6_node_24 : decode cX6_node 24 = .ok (.ldc 50, 2) := by decide +kernel
theorem dX6_node_26 : decode cX6_node 26 = .ok (.ireturn, 1) := by decide +kernel
theorem dX6_node_27 : decode cX6_node 27 = .ok (.aload_n 0, 1) := by decide +kernel
theorem dX6_node_28 : decode cX6_node 28 = .ok (.getfield 29, 3) := by decide +kernel
theorem dX6_node_31 : decode cX6_node 31 = .ok (.iload_n 1, 1) := by decide +kernel
theorem dX6_node_32 : decode cX6_node 32 = .ok (.aaload, 1) := by decide +kernel
theorem dX6_node_33 : decode cX6_node 33 = .ok (.astore 4, 2) := by decide +kernel
theorem dX6_node_35 : decode cX6_node 35 = .ok (.aload 4, 2) := by decide +kernel
theorem dX6_node_37 : decode cX6_node 37 = .ok (.getfield 138, 3) := by decide +kernel
theorem dX6_node_40 : decode cX6_node 40 = .ok (.iload_n 2, 1) := by decide +kernel
theorem dX6_node_41 : decode cX6_node 41 = .ok (.invokevirtual 95, 3) := by decide +kernel
theorem dX6_node_44 : decode cX6_node 44 = .ok (.invokestatic 155, 3) := by decide +kernel
theorem dX6_node_47 : decode cX6_node 47 = .ok (.istore 5, 2) := by decide +kernel
theorem dX6_node_49 : decode cX6_node 49 = .ok (.iload_n 3, 1) := by decide +kernel
theorem dX6_node_50 : decode cX6_node 50 = .ok (.tableswitch 125 0 6 #[42, 52, 72, 86, 104, 111, 118], 42) := by decide +kernel
theorem dX6_node_92 : decode cX6_node 92 = .ok (.aload 4, 2) := by decide +kernel
theorem dX6_node_94 : decode cX6_node 94 = .ok (.getfield 138, 3) := by decide +kernel
theorem dX6_node_97 : decode cX6_node 97 = .ok (.iload_n 2, 1) := by decide +kernel
theorem dX6_node_98 : decode cX6_node 98 = .ok (.invokevirtual 95, 3) := by decide +kernel
theorem dX6_node_101 : decode cX6_node 101 = .ok (.ireturn, 1) := by decide +kernel
theorem dX6_node_102 : decode cX6_node 102 = .ok (.iload 5, 2) := by decide +kernel
theorem dX6_node_104 : decode cX6_node 104 = .ok (.ifCond .ne 15, 3) := by decide +kernel
theorem dX6_node_107 : decode cX6_node 107 = .ok (.aload 4, 2) := by decide +kernel
theorem dX6_node_109 : decode cX6_node 109 = .ok (.getfield 138, 3) := by decide +kernel
theorem dX6_node_112 : decode cX6_node 112 = .ok (.iload_n 2, 1) := by decide +kernel
theorem dX6_node_113 : decode cX6_node 113 = .ok (.invokevirtual 158, 3) := by decide +kernel
theorem dX6_node_116 : decode cX6_node 116 = .ok (.goto 5, 3) := by decide +kernel
theorem dX6_node_119 : decode cX6_node 119 = .ok (.ldc 161, 2) := by decide +kernel
theorem dX6_node_121 : decode cX6_node 121 = .ok (.ireturn, 1) := by decide +kernel
theorem dX6_node_122 : decode cX6_node 122 = .ok (.iload 5, 2) := by decide +kernel
theorem dX6_node_124 : decode cX6_node 124 = .ok (.ifCond .le 9, 3) := by decide +kernel
theorem dX6_node_127 : decode cX6_node 127 = .ok (.iload_n 2, 1) := by decide +kernel
theorem dX6_node_128 : decode cX6_node 128 = .ok (.iconst 1, 1) := by decide +kernel
theorem dX6_node_129 : decode cX6_node 129 = .ok (.iadd, 1) := by decide +kernel
theorem dX6_node_130 : decode cX6_node 130 = .ok (.goto 5, 3) := by decide +kernel
theorem dX6_node_133 : decode cX6_node 133 = .ok (.ldc 161, 2) := by decide +kernel
theorem dX6_node_135 : decode cX6_node 135 = .ok (.ireturn, 1) := by decide +kernel
theorem dX6_node_136 : decode cX6_node 136 = .ok (.iload 5, 2) := by decide +kernel
theorem dX6_node_138 : decode cX6_node 138 = .ok (.iconst 1, 1) := by decide +kernel
theorem dX6_node_139 : decode cX6_node 139 = .ok (.if_icmp .le 12, 3) := by decide +kernel
theorem dX6_node_142 : decode cX6_node 142 = .ok (.aload 4, 2) := by decide +kernel
theorem dX6_node_144 : decode cX6_node 144 = .ok (.iload_n 2, 1) := by decide +kernel
theorem dX6_node_145 : decode cX6_node 145 = .ok (.invokevirtual 162, 3) := by decide +kernel
theorem dX6_node_148 : decode cX6_node 148 = .ok (.goto 5, 3) := by decide +kernel
theorem dX6_node_151 : decode cX6_node 151 = .ok (.ldc 161, 2) := by decide +kernel
theorem dX6_node_153 : decode cX6_node 153 = .ok (.ireturn, 1) := by decide +kernel
theorem dX6_node_154 : decode cX6_node 154 = .ok (.aload 4, 2) := by decide +kernel
theorem dX6_node_156 : decode cX6_node 156 = .ok (.iload_n 2, 1) := by decide +kernel
theorem dX6_node_157 : decode cX6_node 157 = .ok (.invokevirtual 103, 3) := by decide +kernel
theorem dX6_node_160 : decode cX6_node 160 = .ok (.ireturn, 1) := by decide +kernel
theorem dX6_node_161 : decode cX6_node 161 = .ok (.aload 4, 2) := by decide +kernel
theorem dX6_node_163 : decode cX6_node 163 = .ok (.iload_n 2, 1) := by decide +kernel
theorem dX6_node_164 : decode cX6_node 164 = .ok (.invokevirtual 165, 3) := by decide +kernel
theorem dX6_node_167 : decode cX6_node 167 = .ok (.ireturn, 1) := by decide +kernel
theorem dX6_node_168 : decode cX6_node 168 = .ok (.aload 4, 2) := by decide +kernel
theorem dX6_node_170 : decode cX6_node 170 = .ok (.iload_n 2, 1) := by decide +kernel
theorem dX6_node_171 : decode cX6_node 171 = .ok (.invokevirtual 146, 3) := by decide +kernel
theorem dX6_node_174 : decode cX6_node 174 = .ok (.ireturn, 1) := by decide +kernel
theorem dX6_node_175 : decode cX6_node 175 = .ok (.ldc 50, 2) := by decide +kernel
theorem dX6_node_177 : decode cX6_node 177 = .ok (.ireturn, 1) := by decide +kernel
theorem dX6_cell_0 : decode cX6_cell 0 = .ok (.iload_n 1, 1) := by decide +kernel
theorem dX6_cell_1 : decode cX6_cell 1 = .ok (.invokestatic 106, 3) := by decide +kernel
theorem dX6_cell_4 : decode cX6_cell 4 = .ok (.ifCond .eq 15, 3) := by decide +kernel
theorem dX6_cell_7 : decode cX6_cell 7 = .ok (.aload_n 0, 1) := by decide +kernel
theorem dX6_cell_8 : decode cX6_cell 8 = .ok (.getfield 19, 3) := by decide +kernel
theorem dX6_cell_11 : decode cX6_cell 11 = .ok (.getfield 109, 3) := by decide +kernel
theorem dX6_cell_14 : decode cX6_cell 14 = .ok (.iload_n 1, 1) := by decide +kernel
theorem dX6_cell_15 : decode cX6_cell 15 = .ok (.iaload, 1) := by decide +kernel
theorem dX6_cell_16 : decode cX6_cell 16 = .ok (.goto 5, 3) := by decide +kernel
theorem dX6_cell_19 : decode cX6_cell 19 = .ok (.ldc 50, 2) := by decide +kernel
theorem dX6_cell_21 : decode cX6_cell 21 = .ok (.ireturn, 1) := by decide +kernel
theorem dX6_plan_0 : decode cX6_plan 0 = .ok (.aload_n 0, 1) := by decide +kernel
theorem dX6_plan_1 : decode cX6_plan 1 = .ok (.getfield 36, 3) := by decide +kernel
theorem dX6_plan_4 : decode cX6_plan 4 = .ok (.aload_n 0, 1) := by decide +kernel
theorem dX6_plan_5 : decode cX6_plan 5 = .ok (.getfield 29, 3) := by decide +kernel
theorem dX6_plan_8 : decode cX6_plan 8 = .ok (.aload_n 0, 1) := by decide +kernel
theorem dX6_plan_9 : decode cX6_plan 9 = .ok (.getfield 19, 3) := by decide +kernel
theorem dX6_plan_12 : decode cX6_plan 12 = .ok (.getfield 80, 3) := by decide +kernel
theorem dX6_plan_15 : decode cX6_plan 15 = .ok (.aload_n 0, 1) := by decide +kernel
theorem dX6_plan_16 : decode cX6_plan 16 = .ok (.getfield 19, 3) := by decide +kernel
theorem dX6_plan_19 : decode cX6_plan 19 = .ok (.getfield 116, 3) := by decide +kernel
theorem dX6_plan_22 : decode cX6_plan 22 = .ok (.invokevirtual 168, 3) := by decide +kernel
theorem dX6_plan_25 : decode cX6_plan 25 = .ok (.iload_n 1, 1) := by decide +kernel
theorem dX6_plan_26 : decode cX6_plan 26 = .ok (.tableswitch 74 0 4 #[34, 42, 50, 58, 66], 34) := by decide +kernel
theorem dX6_plan_60 : decode cX6_plan 60 = .ok (.aload_n 0, 1) := by decide +kernel
theorem dX6_plan_61 : decode cX6_plan 61 = .ok (.getfield 36, 3) := by decide +kernel
theorem dX6_plan_64 : decode cX6_plan 64 = .ok (.getfield 172, 3) := by decide +kernel
theorem dX6_plan_67 : decode cX6_plan 67 = .ok (.ireturn, 1) := by decide +kernel
theorem dX6_plan_68 : decode cX6_plan 68 = .ok (.aload_n 0, 1) := by decide +kernel
theorem dX6_plan_69 : decode cX6_plan 69 = .ok (.getfield 36, 3) := by decide +kernel
theorem dX6_plan_72 : decode cX6_plan 72 = .ok (.getfield 173, 3) := by decide +kernel
theorem dX6_plan_75 : decode cX6_plan 75 = .ok (.ireturn, 1) := by decide +kernel
theorem dX6_plan_76 : decode cX6_plan 76 = .ok (.aload_n 0, 1) := by decide +kernel
theorem dX6_plan_77 : decode cX6_plan 77 = .ok (.getfield 36, 3) := by decide +kernel
theorem dX6_plan_80 : decode cX6_plan 80 = .ok (.getfield 176, 3) := by decide +kernel
theorem dX6_plan_83 : decode cX6_plan 83 = .ok (.ireturn, 1) := by decide +kernel
theorem dX6_plan_84 : decode cX6_plan 84 = .ok (.aload_n 0, 1) := by decide +kernel
theorem dX6_plan_85 : decode cX6_plan 85 = .ok (.getfield 36, 3) := by decide +kernel
theorem dX6_plan_88 : decode cX6_plan 88 = .ok (.getfield 179, 3) := by decide +kernel
theorem dX6_plan_91 : decode cX6_plan 91 = .ok (.ireturn, 1) := by decide +kernel
theorem dX6_plan_92 : decode cX6_plan 92 = .ok (.aload_n 0, 1) := by decide +kernel
theorem dX6_plan_93 : decode cX6_plan 93 = .ok (.getfield 36, 3) := by decide +kernel
theorem dX6_plan_96 : decode cX6_plan 96 = .ok (.getfield 182, 3) := by decide +kernel
theorem dX6_plan_99 : decode cX6_plan 99 = .ok (.ireturn, 1) := by decide +kernel
theorem dX6_plan_100 : decode cX6_plan 100 = .ok (.ldc 50, 2) := by decide +kernel
theorem dX6_plan_102 : decode cX6_plan 102 = .ok (.ireturn, 1) := by decide +kernel
theorem dX6_step_0 : decode cX6_step 0 = .ok (.iload_n 1, 1) := by decide +kernel
theorem dX6_step_1 : decode cX6_step 1 = .ok (.ifCond .lt 12, 3) := by decide +kernel
theorem dX6_step_4 : decode cX6_step 4 = .ok (.iload_n 2, 1) := by decide +kernel
theorem dX6_step_5 : decode cX6_step 5 = .ok (.ifCond .lt 8, 3) := by decide +kernel
theorem dX6_step_8 : decode cX6_step 8 = .ok (.iload_n 2, 1) := by decide +kernel
theorem dX6_step_9 : decode cX6_step 9 = .ok (.iconst 3, 1) := by decide +kernel
theorem dX6_step_10 : decode cX6_step 10 = .ok (.if_icmp .le 6, 3) := by decide +kernel
theorem dX6_step_13 : decode cX6_step 13 = .ok (.ldc 50, 2) := by decide +kernel
theorem dX6_step_15 : decode cX6_step 15 = .ok (.ireturn, 1) := by decide +kernel
theorem dX6_step_16 : decode cX6_step 16 = .ok (.aload_n 0, 1) := by decide +kernel
theorem dX6_step_17 : decode cX6_step 17 = .ok (.getfield 36, 3) := by decide +kernel
theorem dX6_step_20 : decode cX6_step 20 = .ok (.aload_n 0, 1) := by decide +kernel
theorem dX6_step_21 : decode cX6_step 21 = .ok (.getfield 29, 3) := by decide +kernel
theorem dX6_step_24 : decode cX6_step 24 = .ok (.aload_n 0, 1) := by decide +kernel
theorem dX6_step_25 : decode cX6_step 25 = .ok (.getfield 19, 3) := by decide +kernel
theorem dX6_step_28 : decode cX6_step 28 = .ok (.getfield 80, 3) := by decide +kernel
theorem dX6_step_31 : decode cX6_step 31 = .ok (.aload_n 0, 1) := by decide +kernel
theorem dX6_step_32 : decode cX6_step 32 = .ok (.getfield 19, 3) := by decide +kernel
theorem dX6_step_35 : decode cX6_step 35 = .ok (.getfield 116, 3) := by decide +kernel
theorem dX6_step_38 : decode cX6_step 38 = .ok (.invokevirtual 168, 3) := by decide +kernel
theorem dX6_step_41 : decode cX6_step 41 = .ok (.aload_n 0, 1) := by decide +kernel
theorem dX6_step_42 : decode cX6_step 42 = .ok (.getfield 36, 3) := by decide +kernel
theorem dX6_step_45 : decode cX6_step 45 = .ok (.iload_n 1, 1) := by decide +kernel
theorem dX6_step_46 : decode cX6_step 46 = .ok (.invokevirtual 185, 3) := by decide +kernel
theorem dX6_step_49 : decode cX6_step 49 = .ok (.ifCond .ne 6, 3) := by decide +kernel
theorem dX6_step_52 : decode cX6_step 52 = .ok (.ldc 161, 2) := by decide +kernel
theorem dX6_step_54 : decode cX6_step 54 = .ok (.ireturn, 1) := by decide +kernel
theorem dX6_step_55 : decode cX6_step 55 = .ok (.iload_n 2, 1) := by decide +kernel
theorem dX6_step_56 : decode cX6_step 56 = .ok (.tableswitch 58 0 2 #[28, 38, 48], 28) := by decide +kernel
theorem dX6_step_84 : decode cX6_step 84 = .ok (.aload_n 0, 1) := by decide +kernel
theorem dX6_step_85 : decode cX6_step 85 = .ok (.getfield 36, 3) := by decide +kernel
theorem dX6_step_88 : decode cX6_step 88 = .ok (.getfield 186, 3) := by decide +kernel
theorem dX6_step_91 : decode cX6_step 91 = .ok (.iload_n 1, 1) := by decide +kernel
theorem dX6_step_92 : decode cX6_step 92 = .ok (.iaload, 1) := by decide +kernel
theorem dX6_step_93 : decode cX6_step 93 = .ok (.ireturn, 1) := by decide +kernel
theorem dX6_step_94 : decode cX6_step 94 = .ok (.aload_n 0, 1) := by decide +kernel
theorem dX6_step_95 : decode cX6_step 95 = .ok (.getfield 36, 3) := by decide +kernel
theorem dX6_step_98 : decode cX6_step 98 = .ok (.getfield 189, 3) := by decide +kernel
theorem dX6_step_101 : decode cX6_step 101 = .ok (.iload_n 1, 1) := by decide +kernel
theorem dX6_step_102 : decode cX6_step 102 = .ok (.iaload, 1) := by decide +kernel
theorem dX6_step_103 : decode cX6_step 103 = .ok (.ireturn, 1) := by decide +kernel
theorem dX6_step_104 : decode cX6_step 104 = .ok (.aload_n 0, 1) := by decide +kernel
theorem dX6_step_105 : decode cX6_step 105 = .ok (.getfield 36, 3) := by decide +kernel
theorem dX6_step_108 : decode cX6_step 108 = .ok (.getfield 191, 3) := by decide +kernel
theorem dX6_step_111 : decode cX6_step 111 = .ok (.iload_n 1, 1) := by decide +kernel
theorem dX6_step_112 : decode cX6_step 112 = .ok (.iaload, 1) := by decide +kernel
theorem dX6_step_113 : decode cX6_step 113 = .ok (.ireturn, 1) := by decide +kernel
theorem dX6_step_114 : decode cX6_step 114 = .ok (.aload_n 0, 1) := by decide +kernel
theorem dX6_step_115 : decode cX6_step 115 = .ok (.getfield 36, 3) := by decide +kernel
theorem dX6_step_118 : decode cX6_step 118 = .ok (.getfield 193, 3) := by decide +kernel
theorem dX6_step_121 : decode cX6_step 121 = .ok (.iload_n 1, 1) := by decide +kernel
theorem dX6_step_122 : decode cX6_step 122 = .ok (.iaload, 1) := by decide +kernel
theorem dX6_step_123 : decode cX6_step 123 = .ok (.ireturn, 1) := by decide +kernel
theorem dX6_costWith_0 : decode cX6_costWith 0 = .ok (.iload_n 1, 1) := by decide +kernel
theorem dX6_costWith_1 : decode cX6_costWith 1 = .ok (.invokestatic 113, 3) := by decide +kernel
theorem dX6_costWith_4 : decode cX6_costWith 4 = .ok (.ifCond .ne 6, 3) := by decide +kernel
theorem dX6_costWith_7 : decode cX6_costWith 7 = .ok (.ldc 50, 2) := by decide +kernel
theorem dX6_costWith_9 : decode cX6_costWith 9 = .ok (.ireturn, 1) := by decide +kernel
theorem dX6_costWith_10 : decode cX6_costWith 10 = .ok (.aload_n 0, 1) := by decide +kernel
theorem dX6_costWith_11 : decode cX6_costWith 11 = .ok (.getfield 36, 3) := by decide +kernel
theorem dX6_costWith_14 : decode cX6_costWith 14 = .ok (.aload_n 0, 1) := by decide +kernel
theorem dX6_costWith_15 : decode cX6_costWith 15 = .ok (.getfield 29, 3) := by decide +kernel
theorem dX6_costWith_18 : decode cX6_costWith 18 = .ok (.aload_n 0, 1) := by decide +kernel
theorem dX6_costWith_19 : decode cX6_costWith 19 = .ok (.getfield 19, 3) := by decide +kernel
theorem dX6_costWith_22 : decode cX6_costWith 22 = .ok (.getfield 80, 3) := by decide +kernel
theorem dX6_costWith_25 : decode cX6_costWith 25 = .ok (.iload_n 1, 1) := by decide +kernel
theorem dX6_costWith_26 : decode cX6_costWith 26 = .ok (.invokevirtual 168, 3) := by decide +kernel
theorem dX6_costWith_29 : decode cX6_costWith 29 = .ok (.aload_n 0, 1) := by decide +kernel
theorem dX6_costWith_30 : decode cX6_costWith 30 = .ok (.getfield 36, 3) := by decide +kernel
theorem dX6_costWith_33 : decode cX6_costWith 33 = .ok (.getfield 173, 3) := by decide +kernel
theorem dX6_costWith_36 : decode cX6_costWith 36 = .ok (.ireturn, 1) := by decide +kernel
theorem dX6_enough_0 : decode cX6_enough 0 = .ok (.iconst 2, 1) := by decide +kernel
theorem dX6_enough_1 : decode cX6_enough 1 = .ok (.istore_n 1, 1) := by decide +kernel
theorem dX6_enough_2 : decode cX6_enough 2 = .ok (.iload_n 1, 1) := by decide +kernel
theorem dX6_enough_3 : decode cX6_enough 3 = .ok (.bipush 8, 2) := by decide +kernel
theorem dX6_enough_5 : decode cX6_enough 5 = .ok (.if_icmp .ge 40, 3) := by decide +kernel
theorem dX6_enough_8 : decode cX6_enough 8 = .ok (.aload_n 0, 1) := by decide +kernel
theorem dX6_enough_9 : decode cX6_enough 9 = .ok (.getfield 36, 3) := by decide +kernel
theorem dX6_enough_12 : decode cX6_enough 12 = .ok (.aload_n 0, 1) := by decide +kernel
theorem dX6_enough_13 : decode cX6_enough 13 = .ok (.getfield 29, 3) := by decide +kernel
theorem dX6_enough_16 : decode cX6_enough 16 = .ok (.aload_n 0, 1) := by decide +kernel
theorem dX6_enough_17 : decode cX6_enough 17 = .ok (.getfield 19, 3) := by decide +kernel
theorem dX6_enough_20 : decode cX6_enough 20 = .ok (.getfield 80, 3) := by decide +kernel
theorem dX6_enough_23 : decode cX6_enough 23 = .ok (.iload_n 1, 1) := by decide +kernel
theorem dX6_enough_24 : decode cX6_enough 24 = .ok (.invokevirtual 168, 3) := by decide +kernel
theorem dX6_enough_27 : decode cX6_enough 27 = .ok (.aload_n 0, 1) := by decide +kernel
theorem dX6_enough_28 : decode cX6_enough 28 = .ok (.getfield 36, 3) := by decide +kernel
theorem dX6_enough_31 : decode cX6_enough 31 = .ok (.getfield 176, 3) := by decide +kernel
theorem dX6_enough_34 : decode cX6_enough 34 = .ok (.ifCond .ne 5, 3) := by decide +kernel
theorem dX6_enough_37 : decode cX6_enough 37 = .ok (.iload_n 1, 1) := by decide +kernel
theorem dX6_enough_38 : decode cX6_enough 38 = .ok (.ireturn, 1) := by decide +kernel
theorem dX6_enough_39 : decode cX6_enough 39 = .ok (.iinc 1 1, 3) := by decide +kernel
theorem dX6_enough_42 : decode cX6_enough 42 = .ok (.goto (-40), 3) := by decide +kernel
theorem dX6_enough_45 : decode cX6_enough 45 = .ok (.bipush 8, 2) := by decide +kernel
theorem dX6_enough_47 : decode cX6_enough 47 = .ok (.ireturn, 1) := by decide +kernel
theorem dX6_proved_0 : decode cX6_proved 0 = .ok (.aload_n 0, 1) := by decide +kernel
theorem dX6_proved_1 : decode cX6_proved 1 = .ok (.iload_n 1, 1) := by decide +kernel
theorem dX6_proved_2 : decode cX6_proved 2 = .ok (.invokevirtual 196, 3) := by decide +kernel
theorem dX6_proved_5 : decode cX6_proved 5 = .ok (.istore_n 2, 1) := by decide +kernel
theorem dX6_proved_6 : decode cX6_proved 6 = .ok (.iload_n 2, 1) := by decide +kernel
theorem dX6_proved_7 : decode cX6_proved 7 = .ok (.ifCond .eq 5, 3) := by decide +kernel
theorem dX6_proved_10 : decode cX6_proved 10 = .ok (.iload_n 2, 1) := by decide +kernel
theorem dX6_proved_11 : decode cX6_proved 11 = .ok (.ireturn, 1) := by decide +kernel
theorem dX6_proved_12 : decode cX6_proved 12 = .ok (.aload_n 0, 1) := by decide +kernel
theorem dX6_proved_13 : decode cX6_proved 13 = .ok (.getfield 43, 3) := by decide +kernel
theorem dX6_proved_16 : decode cX6_proved 16 = .ok (.aload_n 0, 1) := by decide +kernel
theorem dX6_proved_17 : decode cX6_proved 17 = .ok (.getfield 29, 3) := by decide +kernel
theorem dX6_proved_20 : decode cX6_proved 20 = .ok (.iload_n 1, 1) := by decide +kernel
theorem dX6_proved_21 : decode cX6_proved 21 = .ok (.aaload, 1) := by decide +kernel
theorem dX6_proved_22 : decode cX6_proved 22 = .ok (.invokevirtual 199, 3) := by decide +kernel
theorem dX6_proved_25 : decode cX6_proved 25 = .ok (.aload_n 0, 1) := by decide +kernel
theorem dX6_proved_26 : decode cX6_proved 26 = .ok (.getfield 43, 3) := by decide +kernel
theorem dX6_proved_29 : decode cX6_proved 29 = .ok (.getfield 203, 3) := by decide +kernel
theorem dX6_proved_32 : decode cX6_proved 32 = .ok (.ireturn, 1) := by decide +kernel
theorem dX6_ways_0 : decode cX6_ways 0 = .ok (.aload_n 0, 1) := by decide +kernel
theorem dX6_ways_1 : decode cX6_ways 1 = .ok (.iload_n 1, 1) := by decide +kernel
theorem dX6_ways_2 : decode cX6_ways 2 = .ok (.invokevirtual 196, 3) := by decide +kernel
theorem dX6_ways_5 : decode cX6_ways 5 = .ok (.istore_n 2, 1) := by decide +kernel
theorem dX6_ways_6 : decode cX6_ways 6 = .ok (.iload_n 2, 1) := by decide +kernel
theorem dX6_ways_7 : decode cX6_ways 7 = .ok (.ifCond .eq 5, 3) := by decide +kernel
theorem dX6_ways_10 : decode cX6_ways 10 = .ok (.iload_n 2, 1) := by decide +kernel
theorem dX6_ways_11 : decode cX6_ways 11 = .ok (.ireturn, 1) := by decide +kernel
theorem dX6_ways_12 : decode cX6_ways 12 = .ok (.aload_n 0, 1) := by decide +kernel
theorem dX6_ways_13 : decode cX6_ways 13 = .ok (.getfield 43, 3) := by decide +kernel
theorem dX6_ways_16 : decode cX6_ways 16 = .ok (.aload_n 0, 1) := by decide +kernel
theorem dX6_ways_17 : decode cX6_ways 17 = .ok (.getfield 29, 3) := by decide +kernel
theorem dX6_ways_20 : decode cX6_ways 20 = .ok (.iload_n 1, 1) := by decide +kernel
theorem dX6_ways_21 : decode cX6_ways 21 = .ok (.aaload, 1) := by decide +kernel
theorem dX6_ways_22 : decode cX6_ways 22 = .ok (.invokevirtual 199, 3) := by decide +kernel
theorem dX6_ways_25 : decode cX6_ways 25 = .ok (.aload_n 0, 1) := by decide +kernel
theorem dX6_ways_26 : decode cX6_ways 26 = .ok (.getfield 43, 3) := by decide +kernel
theorem dX6_ways_29 : decode cX6_ways 29 = .ok (.getfield 204, 3) := by decide +kernel
theorem dX6_ways_32 : decode cX6_ways 32 = .ok (.iconst 0, 1) := by decide +kernel
theorem dX6_ways_33 : decode cX6_ways 33 = .ok (.iaload, 1) := by decide +kernel
theorem dX6_ways_34 : decode cX6_ways 34 = .ok (.ireturn, 1) := by decide +kernel
theorem dX6_isFormula_0 : decode cX6_isFormula 0 = .ok (.iload_n 1, 1) := by decide +kernel
theorem dX6_isFormula_1 : decode cX6_isFormula 1 = .ok (.ifCond .lt 24, 3) := by decide +kernel
theorem dX6_isFormula_4 : decode cX6_isFormula 4 = .ok (.iload_n 1, 1) := by decide +kernel
theorem dX6_isFormula_5 : decode cX6_isFormula 5 = .ok (.aload_n 0, 1) := by decide +kernel
theorem dX6_isFormula_6 : decode cX6_isFormula 6 = .ok (.getfield 19, 3) := by decide +kernel
theorem dX6_isFormula_9 : decode cX6_isFormula 9 = .ok (.getfield 80, 3) := by decide +kernel
theorem dX6_isFormula_12 : decode cX6_isFormula 12 = .ok (.if_icmp .ge 13, 3) := by decide +kernel
theorem dX6_isFormula_15 : decode cX6_isFormula 15 = .ok (.iload_n 1, 1) := by decide +kernel
theorem dX6_isFormula_16 : decode cX6_isFormula 16 = .ok (.bipush 6, 2) := by decide +kernel
theorem dX6_isFormula_18 : decode cX6_isFormula 18 = .ok (.if_icmp .ge 7, 3) := by decide +kernel
theorem dX6_isFormula_21 : decode cX6_isFormula 21 = .ok (.iconst 1, 1) := by decide +kernel
theorem dX6_isFormula_22 : decode cX6_isFormula 22 = .ok (.goto 4, 3) := by decide +kernel
theorem dX6_isFormula_25 : decode cX6_isFormula 25 = .ok (.iconst 0, 1) := by decide +kernel
theorem dX6_isFormula_26 : decode cX6_isFormula 26 = .ok (.ireturn, 1) := by decide +kernel
theorem dX6_isCell_0 : decode cX6_isCell 0 = .ok (.iload_n 0, 1) := by decide +kernel
theorem dX6_isCell_1 : decode cX6_isCell 1 = .ok (.ifCond .lt 13, 3) := by decide +kernel
theorem dX6_isCell_4 : decode cX6_isCell 4 = .ok (.iload_n 0, 1) := by decide +kernel
theorem dX6_isCell_5 : decode cX6_isCell 5 = .ok (.bipush 8, 2) := by decide +kernel
theorem dX6_isCell_7 : decode cX6_isCell 7 = .ok (.if_icmp .ge 7, 3) := by decide +kernel
theorem dX6_isCell_10 : decode cX6_isCell 10 = .ok (.iconst 1, 1) := by decide +kernel
theorem dX6_isCell_11 : decode cX6_isCell 11 = .ok (.goto 4, 3) := by decide +kernel
theorem dX6_isCell_14 : decode cX6_isCell 14 = .ok (.iconst 0, 1) := by decide +kernel
theorem dX6_isCell_15 : decode cX6_isCell 15 = .ok (.ireturn, 1) := by decide +kernel
theorem dX6_arePlaces_0 : decode cX6_arePlaces 0 = .ok (.iload_n 0, 1) := by decide +kernel
theorem dX6_arePlaces_1 : decode cX6_arePlaces 1 = .ok (.iconst 2, 1) := by decide +kernel
theorem dX6_arePlaces_2 : decode cX6_arePlaces 2 = .ok (.if_icmp .lt 13, 3) := by decide +kernel
theorem dX6_arePlaces_5 : decode cX6_arePlaces 5 = .ok (.iload_n 0, 1) := by decide +kernel
theorem dX6_arePlaces_6 : decode cX6_arePlaces 6 = .ok (.bipush 8, 2) := by decide +kernel
theorem dX6_arePlaces_8 : decode cX6_arePlaces 8 = .ok (.if_icmp .gt 7, 3) := by decide +kernel
theorem dX6_arePlaces_11 : decode cX6_arePlaces 11 = .ok (.iconst 1, 1) := by decide +kernel
theorem dX6_arePlaces_12 : decode cX6_arePlaces 12 = .ok (.goto 4, 3) := by decide +kernel
theorem dX6_arePlaces_15 : decode cX6_arePlaces 15 = .ok (.iconst 0, 1) := by decide +kernel
theorem dX6_arePlaces_16 : decode cX6_arePlaces 16 = .ok (.ireturn, 1) := by decide +kernel
theorem dX6_refusalToTry_0 : decode cX6_refusalToTry 0 = .ok (.aload_n 0, 1) := by decide +kernel
theorem dX6_refusalToTry_1 : decode cX6_refusalToTry 1 = .ok (.iload_n 1, 1) := by decide +kernel
theorem dX6_refusalToTry_2 : decode cX6_refusalToTry 2 = .ok (.invokevirtual 83, 3) := by decide +kernel
theorem dX6_refusalToTry_5 : decode cX6_refusalToTry 5 = .ok (.ifCond .ne 6, 3) := by decide +kernel
theorem dX6_refusalToTry_8 : decode cX6_refusalToTry 8 = .ok (.ldc 50, 2) := by decide +kernel
theorem dX6_refusalToTry_10 : decode cX6_refusalToTry 10 = .ok (.ireturn, 1) := by decide +kernel
theorem dX6_refusalToTry_11 : decode cX6_refusalToTry 11 = .ok (.aload_n 0, 1) := by decide +kernel
theorem dX6_refusalToTry_12 : decode cX6_refusalToTry 12 = .ok (.getfield 29, 3) := by decide +kernel
theorem dX6_refusalToTry_15 : decode cX6_refusalToTry 15 = .ok (.iload_n 1, 1) := by decide +kernel
theorem dX6_refusalToTry_16 : decode cX6_refusalToTry 16 = .ok (.aaload, 1) := by decide +kernel
theorem dX6_refusalToTry_17 : decode cX6_refusalToTry 17 = .ok (.invokevirtual 207, 3) := by decide +kernel
theorem dX6_refusalToTry_20 : decode cX6_refusalToTry 20 = .ok (.bipush 10, 2) := by decide +kernel
theorem dX6_refusalToTry_22 : decode cX6_refusalToTry 22 = .ok (.if_icmp .le 8, 3) := by decide +kernel
theorem dX6_refusalToTry_25 : decode cX6_refusalToTry 25 = .ok (.ldc 161, 2) := by decide +kernel
theorem dX6_refusalToTry_27 : decode cX6_refusalToTry 27 = .ok (.goto 4, 3) := by decide +kernel
theorem dX6_refusalToTry_30 : decode cX6_refusalToTry 30 = .ok (.iconst 0, 1) := by decide +kernel
theorem dX6_refusalToTry_31 : decode cX6_refusalToTry 31 = .ok (.ireturn, 1) := by decide +kernel
theorem dX6_partsOf_0 : decode cX6_partsOf 0 = .ok (.iload_n 0, 1) := by decide +kernel
theorem dX6_partsOf_1 : decode cX6_partsOf 1 = .ok (.iconst 3, 1) := by decide +kernel
theorem dX6_partsOf_2 : decode cX6_partsOf 2 = .ok (.if_icmp .ge 5, 3) := by decide +kernel
theorem dX6_partsOf_5 : decode cX6_partsOf 5 = .ok (.iconst 0, 1) := by decide +kernel
theorem dX6_partsOf_6 : decode cX6_partsOf 6 = .ok (.ireturn, 1) := by decide +kernel
theorem dX6_partsOf_7 : decode cX6_partsOf 7 = .ok (.iload_n 0, 1) := by decide +kernel
theorem dX6_partsOf_8 : decode cX6_partsOf 8 = .ok (.iconst 3, 1) := by decide +kernel
theorem dX6_partsOf_9 : decode cX6_partsOf 9 = .ok (.if_icmp .ne 7, 3) := by decide +kernel
theorem dX6_partsOf_12 : decode cX6_partsOf 12 = .ok (.iconst 1, 1) := by decide +kernel
theorem dX6_partsOf_13 : decode cX6_partsOf 13 = .ok (.goto 4, 3) := by decide +kernel
theorem dX6_partsOf_16 : decode cX6_partsOf 16 = .ok (.iconst 2, 1) := by decide +kernel
theorem dX6_partsOf_17 : decode cX6_partsOf 17 = .ok (.ireturn, 1) := by decide +kernel
theorem dX6_recordState_0 : decode cX6_recordState 0 = .ok (.aload_n 0, 1) := by decide +kernel
theorem dX6_recordState_1 : decode cX6_recordState 1 = .ok (.getfield 119, 3) := by decide +kernel
theorem dX6_recordState_4 : decode cX6_recordState 4 = .ok (.aload_n 0, 1) := by decide +kernel
theorem dX6_recordState_5 : decode cX6_recordState 5 = .ok (.getfield 23, 3) := by decide +kernel
theorem dX6_recordState_8 : decode cX6_recordState 8 = .ok (.arraylength, 1) := by decide +kernel
theorem dX6_recordState_9 : decode cX6_recordState 9 = .ok (.if_icmp .lt 7, 3) := by decide +kernel
theorem dX6_recordState_12 : decode cX6_recordState 12 = .ok (.aload_n 0, 1) := by decide +kernel
theorem dX6_recordState_13 : decode cX6_recordState 13 = .ok (.invokevirtual 210, 3) := by decide +kernel
theorem dX6_recordState_16 : decode cX6_recordState 16 = .ok (.aload_n 0, 1) := by decide +kernel
theorem dX6_recordState_17 : decode cX6_recordState 17 = .ok (.getfield 119, 3) := by decide +kernel
theorem dX6_recordState_20 : decode cX6_recordState 20 = .ok (.ifCond .lt 41, 3) := by decide +kernel
theorem dX6_recordState_23 : decode cX6_recordState 23 = .ok (.aload_n 0, 1) := by decide +kernel
theorem dX6_recordState_24 : decode cX6_recordState 24 = .ok (.getfield 119, 3) := by decide +kernel
theorem dX6_recordState_27 : decode cX6_recordState 27 = .ok (.aload_n 0, 1) := by decide +kernel
theorem dX6_recordState_28 : decode cX6_recordState 28 = .ok (.getfield 23, 3) := by decide +kernel
theorem dX6_recordState_31 : decode cX6_recordState 31 = .ok (.arraylength, 1) := by decide +kernel
theorem dX6_recordState_32 : decode cX6_recordState 32 = .ok (.if_icmp .ge 29, 3) := by decide +kernel
theorem dX6_recordState_35 : decode cX6_recordState 35 = .ok (.aload_n 0, 1) := by decide +kernel
theorem dX6_recordState_36 : decode cX6_recordState 36 = .ok (.getfield 23, 3) := by decide +kernel
theorem dX6_recordState_39 : decode cX6_recordState 39 = .ok (.aload_n 0, 1) := by decide +kernel
theorem dX6_recordState_40 : decode cX6_recordState 40 = .ok (.getfield 119, 3) := by decide +kernel
theorem dX6_recordState_43 : decode cX6_recordState 43 = .ok (.aaload, 1) := by decide +kernel
theorem dX6_recordState_44 : decode cX6_recordState 44 = .ok (.aload_n 0, 1) := by decide +kernel
theorem dX6_recordState_45 : decode cX6_recordState 45 = .ok (.getfield 19, 3) := by decide +kernel
theorem dX6_recordState_48 : decode cX6_recordState 48 = .ok (.invokevirtual 122, 3) := by decide +kernel
theorem dX6_recordState_51 : decode cX6_recordState 51 = .ok (.aload_n 0, 1) := by decide +kernel
theorem dX6_recordState_52 : decode cX6_recordState 52 = .ok (.dup, 1) := by decide +kernel
theorem dX6_recordState_53 : decode cX6_recordState 53 = .ok (.getfield 119, 3) := by decide +kernel
theorem dX6_recordState_56 : decode cX6_recordState 56 = .ok (.iconst 1, 1) := by decide +kernel
theorem dX6_recordState_57 : decode cX6_recordState 57 = .ok (.iadd, 1) := by decide +kernel
theorem dX6_recordState_58 : decode cX6_recordState 58 = .ok (.putfield 119, 3) := by decide +kernel
theorem dX6_recordState_61 : decode cX6_recordState 61 = .ok (.return_, 1) := by decide +kernel
theorem dX6_dropOldestState_0 : decode cX6_dropOldestState 0 = .ok (.aload_n 0, 1) := by decide +kernel
theorem dX6_dropOldestState_1 : decode cX6_dropOldestState 1 = .ok (.getfield 23, 3) := by decide +kernel
theorem dX6_dropOldestState_4 : decode cX6_dropOldestState 4 = .ok (.iconst 0, 1) := by decide +kernel
theorem dX6_dropOldestState_5 : decode cX6_dropOldestState 5 = .ok (.aaload, 1) := by decide +kernel
theorem dX6_dropOldestState_6 : decode cX6_dropOldestState 6 = .ok (.astore_n 1, 1) := by decide +kernel
theorem dX6_dropOldestState_7 : decode cX6_dropOldestState 7 = .ok (.iconst 1, 1) := by decide +kernel
theorem dX6_dropOldestState_8 : decode cX6_dropOldestState 8 = .ok (.istore_n 2, 1) := by decide +kernel
theorem dX6_dropOldestState_9 : decode cX6_dropOldestState 9 = .ok (.iload_n 2, 1) := by decide +kernel
theorem dX6_dropOldestState_10 : decode cX6_dropOldestState 10 = .ok (.aload_n 0, 1) := by decide +kernel
theorem dX6_dropOldestState_11 : decode cX6_dropOldestState 11 = .ok (.getfield 23, 3) := by decide +kernel
theorem dX6_dropOldestState_14 : decode cX6_dropOldestState 14 = .ok (.arraylength, 1) := by decide +kernel
theorem dX6_dropOldestState_15 : decode cX6_dropOldestState 15 = .ok (.if_icmp .ge 23, 3) := by decide +kernel
theorem dX6_dropOldestState_18 : decode cX6_dropOldestState 18 = .ok (.aload_n 0, 1) := by decide +kernel
theorem dX6_dropOldestState_19 : decode cX6_dropOldestState 19 = .ok (.getfield 23, 3) := by decide +kernel
theorem dX6_dropOldestState_22 : decode cX6_dropOldestState 22 = .ok (.iload_n 2, 1) := by decide +kernel
theorem dX6_dropOldestState_23 : decode cX6_dropOldestState 23 = .ok (.iconst 1, 1) := by decide +kernel
theorem dX6_dropOldestState_24 : decode cX6_dropOldestState 24 = .ok (.isub, 1) := by decide +kernel
theorem dX6_dropOldestState_25 : decode cX6_dropOldestState 25 = .ok (.aload_n 0, 1) := by decide +kernel
theorem dX6_dropOldestState_26 : decode cX6_dropOldestState 26 = .ok (.getfield 23, 3) := by decide +kernel
theorem dX6_dropOldestState_29 : decode cX6_dropOldestState 29 = .ok (.iload_n 2, 1) := by decide +kernel
theorem dX6_dropOldestState_30 : decode cX6_dropOldestState 30 = .ok (.aaload, 1) := by decide +kernel
theorem dX6_dropOldestState_31 : decode cX6_dropOldestState 31 = .ok (.aastore, 1) := by decide +kernel
theorem dX6_dropOldestState_32 : decode cX6_dropOldestState 32 = .ok (.iinc 2 1, 3) := by decide +kernel
theorem dX6_dropOldestState_35 : decode cX6_dropOldestState 35 = .ok (.goto (-26), 3) := by decide +kernel
theorem dX6_dropOldestState_38 : decode cX6_dropOldestState 38 = .ok (.aload_n 0, 1) := by decide +kernel
theorem dX6_dropOldestState_39 : decode cX6_dropOldestState 39 = .ok (.getfield 23, 3) := by decide +kernel
theorem dX6_dropOldestState_42 : decode cX6_dropOldestState 42 = .ok (.aload_n 0, 1) := by decide +kernel
theorem dX6_dropOldestState_43 : decode cX6_dropOldestState 43 = .ok (.getfield 23, 3) := by decide +kernel
theorem dX6_dropOldestState_46 : decode cX6_dropOldestState 46 = .ok (.arraylength, 1) := by decide +kernel
theorem dX6_dropOldestState_47 : decode cX6_dropOldestState 47 = .ok (.iconst 1, 1) := by decide +kernel
theorem dX6_dropOldestState_48 : decode cX6_dropOldestState 48 = .ok (.isub, 1) := by decide +kernel
theorem dX6_dropOldestState_49 : decode cX6_dropOldestState 49 = .ok (.aload_n 1, 1) := by decide +kernel
theorem dX6_dropOldestState_50 : decode cX6_dropOldestState 50 = .ok (.aastore, 1) := by decide +kernel
theorem dX6_dropOldestState_51 : decode cX6_dropOldestState 51 = .ok (.aload_n 0, 1) := by decide +kernel
theorem dX6_dropOldestState_52 : decode cX6_dropOldestState 52 = .ok (.aload_n 0, 1) := by decide +kernel
theorem dX6_dropOldestState_53 : decode cX6_dropOldestState 53 = .ok (.getfield 23, 3) := by decide +kernel
theorem dX6_dropOldestState_56 : decode cX6_dropOldestState 56 = .ok (.arraylength, 1) := by decide +kernel
theorem dX6_dropOldestState_57 : decode cX6_dropOldestState 57 = .ok (.iconst 1, 1) := by decide +kernel
theorem dX6_dropOldestState_58 : decode cX6_dropOldestState 58 = .ok (.isub, 1) := by decide +kernel
theorem dX6_dropOldestState_59 : decode cX6_dropOldestState 59 = .ok (.putfield 119, 3) := by decide +kernel
theorem dX6_dropOldestState_62 : decode cX6_dropOldestState 62 = .ok (.return_, 1) := by decide +kernel
theorem dX6_workAnew_0 : decode cX6_workAnew 0 = .ok (.iconst 0, 1) := by decide +kernel
theorem dX6_workAnew_1 : decode cX6_workAnew 1 = .ok (.istore_n 1, 1) := by decide +kernel
theorem dX6_workAnew_2 : decode cX6_workAnew 2 = .ok (.iload_n 1, 1) := by decide +kernel
theorem dX6_workAnew_3 : decode cX6_workAnew 3 = .ok (.aload_n 0, 1) := by decide +kernel
theorem dX6_workAnew_4 : decode cX6_workAnew 4 = .ok (.getfield 19, 3) := by decide +kernel
theorem dX6_workAnew_7 : decode cX6_workAnew 7 = .ok (.getfield 80, 3) := by decide +kernel
theorem dX6_workAnew_10 : decode cX6_workAnew 10 = .ok (.if_icmp .ge 77, 3) := by decide +kernel
theorem dX6_workAnew_13 : decode cX6_workAnew 13 = .ok (.iload_n 1, 1) := by decide +kernel
theorem dX6_workAnew_14 : decode cX6_workAnew 14 = .ok (.bipush 6, 2) := by decide +kernel
theorem dX6_workAnew_16 : decode cX6_workAnew 16 = .ok (.if_icmp .ge 71, 3) := by decide +kernel
theorem dX6_workAnew_19 : decode cX6_workAnew 19 = .ok (.iload_n 1, 1) := by decide +kernel
theorem dX6_workAnew_20 : decode cX6_workAnew 20 = .ok (.aload_n 0, 1) := by decide +kernel
theorem dX6_workAnew_21 : decode cX6_workAnew 21 = .ok (.getfield 19, 3) := by decide +kernel
theorem dX6_workAnew_24 : decode cX6_workAnew 24 = .ok (.getfield 80, 3) := by decide +kernel
theorem dX6_workAnew_27 : decode cX6_workAnew 27 = .ok (.iconst 1, 1) := by decide +kernel
theorem dX6_workAnew_28 : decode cX6_workAnew 28 = .ok (.isub, 1) := by decide +kernel
theorem dX6_workAnew_29 : decode cX6_workAnew 29 = .ok (.if_icmp .ge 7, 3) := by decide +kernel
theorem dX6_workAnew_32 : decode cX6_workAnew 32 = .ok (.iconst 1, 1) := by decide +kernel
theorem dX6_workAnew_33 : decode cX6_workAnew 33 = .ok (.goto 4, 3) := by decide +kernel
theorem dX6_workAnew_36 : decode cX6_workAnew 36 = .ok (.iconst 0, 1) := by decide +kernel
theorem dX6_workAnew_37 : decode cX6_workAnew 37 = .ok (.istore_n 2, 1) := by decide +kernel
theorem dX6_workAnew_38 : decode cX6_workAnew 38 = .ok (.aload_n 0, 1) := by decide +kernel
theorem dX6_workAnew_39 : decode cX6_workAnew 39 = .ok (.getfield 29, 3) := by decide +kernel
theorem dX6_workAnew_42 : decode cX6_workAnew 42 = .ok (.iload_n 1, 1) := by decide +kernel
theorem dX6_workAnew_43 : decode cX6_workAnew 43 = .ok (.aaload, 1) := by decide +kernel
theorem dX6_workAnew_44 : decode cX6_workAnew 44 = .ok (.aload_n 0, 1) := by decide +kernel
theorem dX6_workAnew_45 : decode cX6_workAnew 45 = .ok (.getfield 19, 3) := by decide +kernel
theorem dX6_workAnew_48 : decode cX6_workAnew 48 = .ok (.getfield 86, 3) := by decide +kernel
theorem dX6_workAnew_51 : decode cX6_workAnew 51 = .ok (.iload_n 1, 1) := by decide +kernel
theorem dX6_workAnew_52 : decode cX6_workAnew 52 = .ok (.aaload, 1) := by decide +kernel
theorem dX6_workAnew_53 : decode cX6_workAnew 53 = .ok (.iload_n 2, 1) := by decide +kernel
theorem dX6_workAnew_54 : decode cX6_workAnew 54 = .ok (.aload_n 0, 1) := by decide +kernel
theorem dX6_workAnew_55 : decode cX6_workAnew 55 = .ok (.getfield 29, 3) := by decide +kernel
theorem dX6_workAnew_58 : decode cX6_workAnew 58 = .ok (.invokevirtual 213, 3) := by decide +kernel
theorem dX6_workAnew_61 : decode cX6_workAnew 61 = .ok (.aload_n 0, 1) := by decide +kernel
theorem dX6_workAnew_62 : decode cX6_workAnew 62 = .ok (.getfield 29, 3) := by decide +kernel
theorem dX6_workAnew_65 : decode cX6_workAnew 65 = .ok (.iload_n 1, 1) := by decide +kernel
theorem dX6_workAnew_66 : decode cX6_workAnew 66 = .ok (.aaload, 1) := by decide +kernel
theorem dX6_workAnew_67 : decode cX6_workAnew 67 = .ok (.aload_n 0, 1) := by decide +kernel
theorem dX6_workAnew_68 : decode cX6_workAnew 68 = .ok (.getfield 19, 3) := by decide +kernel
theorem dX6_workAnew_71 : decode cX6_workAnew 71 = .ok (.getfield 109, 3) := by decide +kernel
theorem dX6_workAnew_74 : decode cX6_workAnew 74 = .ok (.aload_n 0, 1) := by decide +kernel
theorem dX6_workAnew_75 : decode cX6_workAnew 75 = .ok (.getfield 29, 3) := by decide +kernel
theorem dX6_workAnew_78 : decode cX6_workAnew 78 = .ok (.invokevirtual 216, 3) := by decide +kernel
theorem dX6_workAnew_81 : decode cX6_workAnew 81 = .ok (.iinc 1 1, 3) := by decide +kernel
theorem dX6_workAnew_84 : decode cX6_workAnew 84 = .ok (.goto (-82), 3) := by decide +kernel
theorem dX6_workAnew_87 : decode cX6_workAnew 87 = .ok (.return_, 1) := by decide +kernel
theorem dX6_cheapDefinitions_0 : decode cX6_cheapDefinitions 0 = .ok (.iconst 0, 1) := by decide +kernel
theorem dX6_cheapDefinitions_1 : decode cX6_cheapDefinitions 1 = .ok (.istore_n 1, 1) := by decide +kernel
theorem dX6_cheapDefinitions_2 : decode cX6_cheapDefinitions 2 = .ok (.iconst 0, 1) := by decide +kernel
theorem dX6_cheapDefinitions_3 : decode cX6_cheapDefinitions 3 = .ok (.istore_n 2, 1) := by decide +kernel
theorem dX6_cheapDefinitions_4 : decode cX6_cheapDefinitions 4 = .ok (.iload_n 2, 1) := by decide +kernel
theorem dX6_cheapDefinitions_5 : decode cX6_cheapDefinitions 5 = .ok (.aload_n 0, 1) := by decide +kernel
theorem dX6_cheapDefinitions_6 : decode cX6_cheapDefinitions 6 = .ok (.getfield 19, 3) := by decide +kernel
theorem dX6_cheapDefinitions_9 : decode cX6_cheapDefinitions 9 = .ok (.getfield 80, 3) := by decide +kernel
theorem dX6_cheapDefinitions_12 : decode cX6_cheapDefinitions 12 = .ok (.if_icmp .ge 35, 3) := by decide +kernel
theorem dX6_cheapDefinitions_15 : decode cX6_cheapDefinitions 15 = .ok (.iload_n 2, 1) := by decide +kernel
theorem dX6_cheapDefinitions_16 : decode cX6_cheapDefinitions 16 = .ok (.bipush 6, 2) := by decide +kernel
theorem dX6_cheapDefinitions_18 : decode cX6_cheapDefinitions 18 = .ok (.if_icmp .ge 29, 3) := by decide +kernel
theorem dX6_cheapDefinitions_21 : decode cX6_cheapDefinitions 21 = .ok (.iload_n 1, 1) := by decide +kernel
theorem dX6_cheapDefinitions_22 : decode cX6_cheapDefinitions 22 = .ok (.aload_n 0, 1) := by decide +kernel
theorem dX6_cheapDefinitions_23 : decode cX6_cheapDefinitions 23 = .ok (.getfield 29, 3) := by decide +kernel
theorem dX6_cheapDefinitions_26 : decode cX6_cheapDefinitions 26 = .ok (.iload_n 2, 1) := by decide +kernel
theorem dX6_cheapDefinitions_27 : decode cX6_cheapDefinitions 27 = .ok (.aaload, 1) := by decide +kernel
theorem dX6_cheapDefinitions_28 : decode cX6_cheapDefinitions 28 = .ok (.getfield 142, 3) := by decide +kernel
theorem dX6_cheapDefinitions_31 : decode cX6_cheapDefinitions 31 = .ok (.ifCond .eq 7, 3) := by decide +kernel
theorem dX6_cheapDefinitions_34 : decode cX6_cheapDefinitions 34 = .ok (.iconst 1, 1) := by decide +kernel
theorem dX6_cheapDefinitions_35 : decode cX6_cheapDefinitions 35 = .ok (.goto 4, 3) := by decide +kernel
theorem dX6_cheapDefinitions_38 : decode cX6_cheapDefinitions 38 = .ok (.iconst 0, 1) := by decide +kernel
theorem dX6_cheapDefinitions_39 : decode cX6_cheapDefinitions 39 = .ok (.iadd, 1) := by decide +kernel
theorem dX6_cheapDefinitions_40 : decode cX6_cheapDefinitions 40 = .ok (.istore_n 1, 1) := by decide +kernel
theorem dX6_cheapDefinitions_41 : decode cX6_cheapDefinitions 41 = .ok (.iinc 2 1, 3) := by decide +kernel
theorem dX6_cheapDefinitions_44 : decode cX6_cheapDefinitions 44 = .ok (.goto (-40), 3) := by decide +kernel
theorem dX6_cheapDefinitions_47 : decode cX6_cheapDefinitions 47 = .ok (.iload_n 1, 1) := by decide +kernel
theorem dX6_cheapDefinitions_48 : decode cX6_cheapDefinitions 48 = .ok (.ireturn, 1) := by decide +kernel
theorem dX6_nodesAsRead_0 : decode cX6_nodesAsRead 0 = .ok (.iconst 0, 1) := by decide +kernel
theorem dX6_nodesAsRead_1 : decode cX6_nodesAsRead 1 = .ok (.istore_n 1, 1) := by decide +kernel
theorem dX6_nodesAsRead_2 : decode cX6_nodesAsRead 2 = .ok (.iconst 0, 1) := by decide +kernel
theorem dX6_nodesAsRead_3 : decode cX6_nodesAsRead 3 = .ok (.istore_n 2, 1) := by decide +kernel
theorem dX6_nodesAsRead_4 : decode cX6_nodesAsRead 4 = .ok (.iload_n 2, 1) := by decide +kernel
theorem dX6_nodesAsRead_5 : decode cX6_nodesAsRead 5 = .ok (.aload_n 0, 1) := by decide +kernel
theorem dX6_nodesAsRead_6 : decode cX6_nodesAsRead 6 = .ok (.getfield 19, 3) := by decide +kernel
theorem dX6_nodesAsRead_9 : decode cX6_nodesAsRead 9 = .ok (.getfield 80, 3) := by decide +kernel
theorem dX6_nodesAsRead_12 : decode cX6_nodesAsRead 12 = .ok (.if_icmp .ge 30, 3) := by decide +kernel
theorem dX6_nodesAsRead_15 : decode cX6_nodesAsRead 15 = .ok (.iload_n 2, 1) := by decide +kernel
theorem dX6_nodesAsRead_16 : decode cX6_nodesAsRead 16 = .ok (.bipush 6, 2) := by decide +kernel
theorem dX6_nodesAsRead_18 : decode cX6_nodesAsRead 18 = .ok (.if_icmp .ge 24, 3) := by decide +kernel
theorem dX6_nodesAsRead_21 : decode cX6_nodesAsRead 21 = .ok (.iload_n 1, 1) := by decide +kernel
theorem dX6_nodesAsRead_22 : decode cX6_nodesAsRead 22 = .ok (.aload_n 0, 1) := by decide +kernel
theorem dX6_nodesAsRead_23 : decode cX6_nodesAsRead 23 = .ok (.getfield 19, 3) := by decide +kernel
theorem dX6_nodesAsRead_26 : decode cX6_nodesAsRead 26 = .ok (.getfield 86, 3) := by decide +kernel
theorem dX6_nodesAsRead_29 : decode cX6_nodesAsRead 29 = .ok (.iload_n 2, 1) := by decide +kernel
theorem dX6_nodesAsRead_30 : decode cX6_nodesAsRead 30 = .ok (.aaload, 1) := by decide +kernel
theorem dX6_nodesAsRead_31 : decode cX6_nodesAsRead 31 = .ok (.getfield 135, 3) := by decide +kernel
theorem dX6_nodesAsRead_34 : decode cX6_nodesAsRead 34 = .ok (.iadd, 1) := by decide +kernel
theorem dX6_nodesAsRead_35 : decode cX6_nodesAsRead 35 = .ok (.istore_n 1, 1) := by decide +kernel
theorem dX6_nodesAsRead_36 : decode cX6_nodesAsRead 36 = .ok (.iinc 2 1, 3) := by decide +kernel
theorem dX6_nodesAsRead_39 : decode cX6_nodesAsRead 39 = .ok (.goto (-35), 3) := by decide +kernel
theorem dX6_nodesAsRead_42 : decode cX6_nodesAsRead 42 = .ok (.iload_n 1, 1) := by decide +kernel
theorem dX6_nodesAsRead_43 : decode cX6_nodesAsRead 43 = .ok (.ireturn, 1) := by decide +kernel
theorem dX6_greatestNeed_0 : decode cX6_greatestNeed 0 = .ok (.iconst 0, 1) := by decide +kernel
theorem dX6_greatestNeed_1 : decode cX6_greatestNeed 1 = .ok (.istore_n 1, 1) := by decide +kernel
theorem dX6_greatestNeed_2 : decode cX6_greatestNeed 2 = .ok (.iconst 0, 1) := by decide +kernel
theorem dX6_greatestNeed_3 : decode cX6_greatestNeed 3 = .ok (.istore_n 2, 1) := by decide +kernel
theorem dX6_greatestNeed_4 : decode cX6_greatestNeed 4 = .ok (.iload_n 2, 1) := by decide +kernel
theorem dX6_greatestNeed_5 : decode cX6_greatestNeed 5 = .ok (.aload_n 0, 1) := by decide +kernel
theorem dX6_greatestNeed_6 : decode cX6_greatestNeed 6 = .ok (.getfield 19, 3) := by decide +kernel
theorem dX6_greatestNeed_9 : decode cX6_greatestNeed 9 = .ok (.getfield 80, 3) := by decide +kernel
theorem dX6_greatestNeed_12 : decode cX6_greatestNeed 12 = .ok (.if_icmp .ge 42, 3) := by decide +kernel
theorem dX6_greatestNeed_15 : decode cX6_greatestNeed 15 = .ok (.iload_n 2, 1) := by decide +kernel
theorem dX6_greatestNeed_16 : decode cX6_greatestNeed 16 = .ok (.bipush 6, 2) := by decide +kernel
theorem dX6_greatestNeed_18 : decode cX6_greatestNeed 18 = .ok (.if_icmp .ge 36, 3) := by decide +kernel
theorem dX6_greatestNeed_21 : decode cX6_greatestNeed 21 = .ok (.aload_n 0, 1) := by decide +kernel
theorem dX6_greatestNeed_22 : decode cX6_greatestNeed 22 = .ok (.getfield 29, 3) := by decide +kernel
theorem dX6_greatestNeed_25 : decode cX6_greatestNeed 25 = .ok (.iload_n 2, 1) := by decide +kernel
theorem dX6_greatestNeed_26 : decode cX6_greatestNeed 26 = .ok (.aaload, 1) := by decide +kernel
theorem dX6_greatestNeed_27 : decode cX6_greatestNeed 27 = .ok (.getfield 142, 3) := by decide +kernel
theorem dX6_greatestNeed_30 : decode cX6_greatestNeed 30 = .ok (.ifCond .ne 18, 3) := by decide +kernel
theorem dX6_greatestNeed_33 : decode cX6_greatestNeed 33 = .ok (.iload_n 1, 1) := by decide +kernel
theorem dX6_greatestNeed_34 : decode cX6_greatestNeed 34 = .ok (.aload_n 0, 1) := by decide +kernel
theorem dX6_greatestNeed_35 : decode cX6_greatestNeed 35 = .ok (.getfield 29, 3) := by decide +kernel
theorem dX6_greatestNeed_38 : decode cX6_greatestNeed 38 = .ok (.iload_n 2, 1) := by decide +kernel
theorem dX6_greatestNeed_39 : decode cX6_greatestNeed 39 = .ok (.aaload, 1) := by decide +kernel
theorem dX6_greatestNeed_40 : decode cX6_greatestNeed 40 = .ok (.iconst 0, 1) := by decide +kernel
theorem dX6_greatestNeed_41 : decode cX6_greatestNeed 41 = .ok (.invokevirtual 103, 3) := by decide +kernel
theorem dX6_greatestNeed_44 : decode cX6_greatestNeed 44 = .ok (.invokestatic 220, 3) := by decide +kernel
theorem dX6_greatestNeed_47 : decode cX6_greatestNeed 47 = .ok (.istore_n 1, 1) := by decide +kernel
theorem dX6_greatestNeed_48 : decode cX6_greatestNeed 48 = .ok (.iinc 2 1, 3) := by decide +kernel
theorem dX6_greatestNeed_51 : decode cX6_greatestNeed 51 = .ok (.goto (-47), 3) := by decide +kernel
theorem dX6_greatestNeed_54 : decode cX6_greatestNeed 54 = .ok (.iload_n 1, 1) := by decide +kernel
theorem dX6_greatestNeed_55 : decode cX6_greatestNeed 55 = .ok (.ireturn, 1) := by decide +kernel
theorem dX6_usesOf_0 : decode cX6_usesOf 0 = .ok (.iconst 0, 1) := by decide +kernel
theorem dX6_usesOf_1 : decode cX6_usesOf 1 = .ok (.istore_n 2, 1) := by decide +kernel
theorem dX6_usesOf_2 : decode cX6_usesOf 2 = .ok (.iconst 0, 1) := by decide +kernel
theorem dX6_usesOf_3 : decode cX6_usesOf 3 = .ok (.istore_n 3, 1) := by decide +kernel
theorem dX6_usesOf_4 : decode cX6_usesOf 4 = .ok (.iload_n 3, 1) := by decide +kernel
theorem dX6_usesOf_5 : decode cX6_usesOf 5 = .ok (.aload_n 0, 1) := by decide +kernel
theorem dX6_usesOf_6 : decode cX6_usesOf 6 = .ok (.getfield 19, 3) := by decide +kernel
theorem dX6_usesOf_9 : decode cX6_usesOf 9 = .ok (.getfield 80, 3) := by decide +kernel
theorem dX6_usesOf_12 : decode cX6_usesOf 12 = .ok (.if_icmp .ge 87, 3) := by decide +kernel
theorem dX6_usesOf_15 : decode cX6_usesOf 15 = .ok (.iload_n 3, 1) := by decide +kernel
theorem dX6_usesOf_16 : decode cX6_usesOf 16 = .ok (.bipush 6, 2) := by decide +kernel
theorem dX6_usesOf_18 : decode cX6_usesOf 18 = .ok (.if_icmp .ge 81, 3) := by decide +kernel
theorem dX6_usesOf_21 : decode cX6_usesOf 21 = .ok (.aload_n 0, 1) := by decide +kernel
theorem dX6_usesOf_22 : decode cX6_usesOf 22 = .ok (.getfield 29, 3) := by decide +kernel
theorem dX6_usesOf_25 : decode cX6_usesOf 25 = .ok (.iload_n 3, 1) := by decide +kernel
theorem dX6_usesOf_26 : decode cX6_usesOf 26 = .ok (.aaload, 1) := by decide +kernel
theorem dX6_usesOf_27 : decode cX6_usesOf 27 = .ok (.getfield 138, 3) := by decide +kernel
theorem dX6_usesOf_30 : decode cX6_usesOf 30 = .ok (.astore 4, 2) := by decide +kernel
theorem dX6_usesOf_32 : decode cX6_usesOf 32 = .ok (.iconst 0, 1) := by decide +kernel
theorem dX6_usesOf_33 : decode cX6_usesOf 33 = .ok (.istore 5, 2) := by decide +kernel
theorem dX6_usesOf_35 : decode cX6_usesOf 35 = .ok (.iload 5, 2) := by decide +kernel
theorem dX6_usesOf_37 : decode cX6_usesOf 37 = .ok (.aload 4, 2) := by decide +kernel
theorem dX6_usesOf_39 : decode cX6_usesOf 39 = .ok (.getfield 135, 3) := by decide +kernel
theorem dX6_usesOf_42 : decode cX6_usesOf 42 = .ok (.if_icmp .ge 51, 3) := by decide +kernel
theorem dX6_usesOf_45 : decode cX6_usesOf 45 = .ok (.aload 4, 2) := by decide +kernel
theorem dX6_usesOf_47 : decode cX6_usesOf 47 = .ok (.iload 5, 2) := by decide +kernel
theorem dX6_usesOf_49 : decode cX6_usesOf 49 = .ok (.invokevirtual 95, 3) := by decide +kernel
theorem dX6_usesOf_52 : decode cX6_usesOf 52 = .ok (.iconst 2, 1) := by decide +kernel
theorem dX6_usesOf_53 : decode cX6_usesOf 53 = .ok (.if_icmp .ne 18, 3) := by decide +kernel
theorem dX6_usesOf_56 : decode cX6_usesOf 56 = .ok (.aload 4, 2) := by decide +kernel
theorem dX6_usesOf_58 : decode cX6_usesOf 58 = .ok (.iload 5, 2) := by decide +kernel
theorem dX6_usesOf_60 : decode cX6_usesOf 60 = .ok (.invokevirtual 158, 3) := by decide +kernel
theorem dX6_usesOf_63 : decode cX6_usesOf 63 = .ok (.iload_n 1, 1) := by decide +kernel
theorem dX6_usesOf_64 : decode cX6_usesOf 64 = .ok (.if_icmp .ne 7, 3) := by decide +kernel
theorem dX6_usesOf_67 : decode cX6_usesOf 67 = .ok (.iconst 1, 1) := by decide +kernel
theorem dX6_usesOf_68 : decode cX6_usesOf 68 = .ok (.goto 4, 3) := by decide +kernel
theorem dX6_usesOf_71 : decode cX6_usesOf 71 = .ok (.iconst 0, 1) := by decide +kernel
theorem dX6_usesOf_72 : decode cX6_usesOf 72 = .ok (.istore 6, 2) := by decide +kernel
theorem dX6_usesOf_74 : decode cX6_usesOf 74 = .ok (.iload_n 2, 1) := by decide +kernel
theorem dX6_usesOf_75 : decode cX6_usesOf 75 = .ok (.iload 6, 2) := by decide +kernel
theorem dX6_usesOf_77 : decode cX6_usesOf 77 = .ok (.ifCond .eq 7, 3) := by decide +kernel
theorem dX6_usesOf_80 : decode cX6_usesOf 80 = .ok (.iconst 1, 1) := by decide +kernel
theorem dX6_usesOf_81 : decode cX6_usesOf 81 = .ok (.goto 4, 3) := by decide +kernel
theorem dX6_usesOf_84 : decode cX6_usesOf 84 = .ok (.iconst 0, 1) := by decide +kernel
theorem dX6_usesOf_85 : decode cX6_usesOf 85 = .ok (.iadd, 1) := by decide +kernel
theorem dX6_usesOf_86 : decode cX6_usesOf 86 = .ok (.istore_n 2, 1) := by decide +kernel
theorem dX6_usesOf_87 : decode cX6_usesOf 87 = .ok (.iinc 5 1, 3) := by decide +kernel
theorem dX6_usesOf_90 : decode cX6_usesOf 90 = .ok (.goto (-55), 3) := by decide +kernel
theorem dX6_usesOf_93 : decode cX6_usesOf 93 = .ok (.iinc 3 1, 3) := by decide +kernel
theorem dX6_usesOf_96 : decode cX6_usesOf 96 = .ok (.goto (-92), 3) := by decide +kernel
theorem dX6_usesOf_99 : decode cX6_usesOf 99 = .ok (.iload_n 2, 1) := by decide +kernel
theorem dX6_usesOf_100 : decode cX6_usesOf 100 = .ok (.ireturn, 1) := by decide +kernel
end
section
theorem dX7_init_0 : decode cX7_init 0 = .ok (.aload_n 0, 1) := by decide +kernel
theorem dX7_init_1 : decode cX7_init 1 = .ok (.invokespecial 1, 3) := by decide +kernel
theorem dX7_init_4 : decode cX7_init 4 = .ok (.aload_n 0, 1) := by decide +kernel
theorem dX7_init_5 : decode cX7_init 5 = .ok (.sipush 376, 3) := by decide +kernel
theorem dX7_init_8 : decode cX7_init 8 = .ok (.newarray .int, 2) := by decide +kernel
theorem dX7_init_10 : decode cX7_init 10 = .ok (.putfield 7, 3) := by decide +kernel
theorem dX7_init_13 : decode cX7_init 13 = .ok (.aload_n 0, 1) := by decide +kernel
theorem dX7_init_14 : decode cX7_init 14 = .ok (.sipush 1880, 3) := by decide +kernel
theorem dX7_init_17 : decode cX7_init 17 = .ok (.newarray .int, 2) := by decide +kernel
theorem dX7_init_19 : decode cX7_init 19 = .ok (.putfield 13, 3) := by decide +kernel
theorem dX7_init_22 : decode cX7_init 22 = .ok (.aload_n 0, 1) := by decide +kernel
theorem dX7_init_23 : decode cX7_init 23 = .ok (.bipush 100, 2) := by decide +kernel
theorem dX7_init_25 : decode cX7_init 25 = .ok (.newarray .int, 2) := by decide +kernel
theorem dX7_init_27 : decode cX7_init 27 = .ok (.putfield 16, 3) := by decide +kernel
theorem dX7_init_30 : decode cX7_init 30 = .ok (.aload_n 0, 1) := by decide +kernel
theorem dX7_init_31 : decode cX7_init 31 = .ok (.sipush 376, 3) := by decide +kernel
theorem dX7_init_34 : decode cX7_init 34 = .ok (.newarray .int, 2) := by decide +kernel
theorem dX7_init_36 : decode cX7_init 36 = .ok (.putfield 19, 3) := by decide +kernel
theorem dX7_init_39 : decode cX7_init 39 = .ok (.aload_n 0, 1) := by decide +kernel
theorem dX7_init_40 : decode cX7_init 40 = .ok (.bipush 31, 2) := by decide +kernel
theorem dX7_init_42 : decode cX7_init 42 = .ok (.newarray .int, 2) := by decide +kernel
theorem dX7_init_44 : decode cX7_init 44 = .ok (.putfield 22, 3) := by decide +kernel
theorem dX7_init_47 : decode cX7_init 47 = .ok (.aload_n 0, 1) := by decide +kernel
theorem dX7_init_48 : decode cX7_init 48 = .ok (.bipush 64, 2) := by decide +kernel
theorem dX7_init_50 : decode cX7_init 50 = .ok (.newarray .int, 2) := by decide +kernel
theorem dX7_init_52 : decode cX7_init 52 = .ok (.putfield 25, 3) := by decide +kernel
theorem dX7_init_55 : decode cX7_init 55 = .ok (.aload_n 0, 1) := by decide +kernel
theorem dX7_init_56 : decode cX7_init 56 = .ok (.bipush 60, 2) := by decide +kernel
theorem dX7_init_58 : decode cX7_init 58 = .ok (.newarray .int, 2) := by decide +kernel
theorem dX7_init_60 : decode cX7_init 60 = .ok (.putfield 28, 3) := by decide +kernel
theorem dX7_init_63 : decode cX7_init 63 = .ok (.aload_n 0, 1) := by decide +kernel
theorem dX7_init_64 : decode cX7_init 64 = .ok (.sipush 540, 3) := by decide +kernel
theorem dX7_init_67 : decode cX7_init 67 = .ok (.newarray .int, 2) := by decide +kernel
theorem dX7_init_69 : decode cX7_init 69 = .ok (.putfield 31, 3) := by decide +kernel
theorem dX7_init_72 : decode cX7_init 72 = .ok (.aload_n 0, 1) := by decide +kernel
theorem dX7_init_73 : decode cX7_init 73 = .ok (.sipush 540, 3) := by decide +kernel
theorem dX7_init_76 : decode cX7_init 76 = .ok (.newarray .int, 2) := by decide +kernel
theorem dX7_init_78 : decode cX7_init 78 = .ok (.putfield 34, 3) := by decide +kernel
theorem dX7_init_81 : decode cX7_init 81 = .ok (.aload_n 0, 1) := by decide +kernel
theorem dX7_init_82 : decode cX7_init 82 = .ok (.sipush 540, 3) := by decide +kernel
theorem dX7_init_85 : decode cX7_init 85 = .ok (.newarray .int, 2) := by decide +kernel
theorem dX7_init_87 : decode cX7_init 87 = .ok (.putfield 37, 3) := by decide +kernel
theorem dX7_init_90 : decode cX7_init 90 = .ok (.aload_n 0, 1) := by decide +kernel
theorem dX7_init_91 : decode cX7_init 91 = .ok (.sipush 540, 3) := by decide +kernel
theorem dX7_init_94 : decode cX7_init 94 = .ok (.newarray .int, 2) := by decide +kernel
theorem dX7_init_96 : decode cX7_init 96 = .ok (.putfield 40, 3) := by decide +kernel
theorem dX7_init_99 : decode cX7_init 99 = .ok (.aload_n 0, 1) := by decide +kernel
theorem dX7_init_100 : decode cX7_init 100 = .ok (.sipush 540, 3) := by decide +kernel
theorem dX7_init_103 : decode cX7_init 103 = .ok (.newarray .int, 2) := by decide +kernel
theorem dX7_init_105 : decode cX7_init 105 = .ok (.putfield 43, 3) := by decide +kernel
theorem dX7_init_108 : decode cX7_init 108 = .ok (.aload_n 0, 1) := by decide +kernel
theorem dX7_init_109 : decode cX7_init 109 = .ok (.sipush 540, 3) := by decide +kernel
theorem dX7_init_112 : decode cX7_init 112 = .ok (.newarray .int, 2) := by decide +kernel
theorem dX7_init_114 : decode cX7_init 114 = .ok (.putfield 46, 3) := by decide +kernel
theorem dX7_init_117 : decode cX7_init 117 = .ok (.aload_n 0, 1) := by decide +kernel
theorem dX7_init_118 : decode cX7_init 118 = .ok (.bipush 6, 2) := by decide +kernel
theorem dX7_init_120 : decode cX7_init 120 = .ok (.newarray .int, 2) := by decide +kernel
theorem dX7_init_122 : decode cX7_init 122 = .ok (.putfield 49, 3) := by decide +kernel
theorem dX7_init_125 : decode cX7_init 125 = .ok (.aload_n 0, 1) := by decide +kernel
theorem dX7_init_126 : decode cX7_init 126 = .ok (.bipush 6, 2) := by decide +kernel
theorem dX7_init_128 : decode cX7_init 128 = .ok (.newarray .boolean, 2) := by decide +kernel
theorem dX7_init_130 : decode cX7_init 130 = .ok (.putfield 52, 3) := by decide +kernel
theorem dX7_init_133 : decode cX7_init 133 = .ok (.aload_n 0, 1) := by decide +kernel
theorem dX7_init_134 : decode cX7_init 134 = .ok (.iconst 4, 1) := by decide +kernel
theorem dX7_init_135 : decode cX7_init 135 = .ok (.newarray .int, 2) := by decide +kernel
theorem dX7_init_137 : decode cX7_init 137 = .ok (.putfield 56, 3) := by decide +kernel
theorem dX7_init_140 : decode cX7_init 140 = .ok (.aload_n 0, 1) := by decide +kernel
theorem dX7_init_141 : decode cX7_init 141 = .ok (.bipush 100, 2) := by decide +kernel
theorem dX7_init_143 : decode cX7_init 143 = .ok (.newarray .int, 2) := by decide +kernel
theorem dX7_init_145 : decode cX7_init 145 = .ok (.putfield 59, 3) := by decide +kernel
theorem dX7_init_148 : decode cX7_init 148 = .ok (.aload_n 0, 1) := by decide +kernel
theorem dX7_init_149 : decode cX7_init 149 = .ok (.bipush 100, 2) := by decide +kernel
theorem dX7_init_151 : decode cX7_init 151 = .ok (.newarray .int, 2) := by decide +kernel
theorem dX7_init_153 : decode cX7_init 153 = .ok (.putfield 62, 3) := by decide +kernel
theorem dX7_init_156 : decode cX7_init 156 = .ok (.aload_n 0, 1) := by decide +kernel
theorem dX7_init_157 : decode cX7_init 157 = .ok (.bipush 100, 2) := by decide +kernel
theorem dX7_init_159 : decode cX7_init 159 = .ok (.newarray .int, 2) := by decide +kernel
theorem dX7_init_161 : decode cX7_init 161 = .ok (.putfield 65, 3) := by decide +kernel
theorem dX7_init_164 : decode cX7_init 164 = .ok (.aload_n 0, 1) := by decide +kernel
theorem dX7_init_165 : decode cX7_init 165 = .ok (.sipush 1170, 3) := by decide +kernel
theorem dX7_init_168 : decode cX7_init 168 = .ok (.newarray .int, 2) := by decide +kernel
theorem dX7_init_170 : decode cX7_init 170 = .ok (.putfield 68, 3) := by decide +kernel
theorem dX7_init_173 : decode cX7_init 173 = .ok (.aload_n 0, 1) := by decide +kernel
theorem dX7_init_174 : decode cX7_init 174 = .ok (.getfield 7, 3) := by decide +kernel
theorem dX7_init_177 : decode cX7_init 177 = .ok (.iconst 0, 1) := by decide +kernel
theorem dX7_init_178 : decode cX7_init 178 = .ok (.iconst 1, 1) := by decide +kernel
theorem dX7_init_179 : decode cX7_init 179 = .ok (.iastore, 1) := by decide +kernel
theorem dX7_init_180 : decode cX7_init 180 = .ok (.aload_n 0, 1) := by decide +kernel
theorem dX7_init_181 : decode cX7_init 181 = .ok (.getfield 7, 3) := by decide +kernel
theorem dX7_init_184 : decode cX7_init 184 = .ok (.iconst 1, 1) := by decide +kernel
theorem dX7_init_185 : decode cX7_init 185 = .ok (.iconst 3, 1) := by decide +kernel
theorem dX7_init_186 : decode cX7_init 186 = .ok (.iastore, 1) := by decide +kernel
theorem dX7_init_187 : decode cX7_init 187 = .ok (.aload_n 0, 1) := by decide +kernel
theorem dX7_init_188 : decode cX7_init 188 = .ok (.getfield 7, 3) := by decide +kernel
theorem dX7_init_191 : decode cX7_init 191 = .ok (.bipush 10, 2) := by decide +kernel
theorem dX7_init_193 : decode cX7_init 193 = .ok (.iconst 1, 1) := by decide +kernel
theorem dX7_init_194 : decode cX7_init 194 = .ok (.iastore, 1) := by decide +kernel
theorem dX7_init_195 : decode cX7_init 195 = .ok (.return_, 1) := by decide +kernel
theorem dX7_in_0 : decode cX7_in 0 = .ok (.iload_n 0, 1) := by decide +kernel
theorem dX7_in_1 : decode cX7_in 1 = .ok (.iload_n 1, 1) := by decide +kernel
theorem dX7_in_2 : decode cX7_in 2 = .ok (.if_icmp .lt 12, 3) := by decide +kernel
theorem dX7_in_5 : decode cX7_in 5 = .ok (.iload_n 0, 1) := by decide +kernel
theorem dX7_in_6 : decode cX7_in 6 = .ok (.iload_n 2, 1) := by decide +kernel
theorem dX7_in_7 : decode cX7_in 7 = .ok (.if_icmp .gt 7, 3) := by decide +kernel
theorem dX7_in_10 : decode cX7_in 10 = .ok (.iconst 1, 1) := by decide +kernel
theorem dX7_in_11 : decode cX7_in 11 = .ok (.goto 4, 3) := by decide +kernel
theorem dX7_in_14 : decode cX7_in 14 = .ok (.iconst 0, 1) := by decide +kernel
theorem dX7_in_15 : decode cX7_in 15 = .ok (.ireturn, 1) := by decide +kernel
theorem dX7_acts_0 : decode cX7_acts 0 = .ok (.aload_n 0, 1) := by decide +kernel
theorem dX7_acts_1 : decode cX7_acts 1 = .ok (.getfield 71, 3) := by decide +kernel
theorem dX7_acts_4 : decode cX7_acts 4 = .ok (.iconst 5, 1) := by decide +kernel
theorem dX7_acts_5 : decode cX7_acts 5 = .ok (.if_icmp .ne 44, 3) := by decide +kernel
theorem dX7_acts_8 : decode cX7_acts 8 = .ok (.iconst 0, 1) := by decide +kernel
theorem dX7_acts_9 : decode cX7_acts 9 = .ok (.istore_n 1, 1) := by decide +kernel
theorem dX7_acts_10 : decode cX7_acts 10 = .ok (.iload_n 1, 1) := by decide +kernel
theorem dX7_acts_11 : decode cX7_acts 11 = .ok (.sipush 1504, 3) := by decide +kernel
theorem dX7_acts_14 : decode cX7_acts 14 = .ok (.if_icmp .ge 25, 3) := by decide +kernel
theorem dX7_acts_17 : decode cX7_acts 17 = .ok (.aload_n 0, 1) := by decide +kernel
theorem dX7_acts_18 : decode cX7_acts 18 = .ok (.getfield 13, 3) := by decide +kernel
theorem dX7_acts_21 : decode cX7_acts 21 = .ok (.iload_n 1, 1) := by decide +kernel
theorem dX7_acts_22 : decode cX7_acts 22 = .ok (.aload_n 0, 1) := by decide +kernel
theorem dX7_acts_23 : decode cX7_acts 23 = .ok (.getfield 13, 3) := by decide +kernel
theorem dX7_acts_26 : decode cX7_acts 26 = .ok (.iload_n 1, 1) := by decide +kernel
theorem dX7_acts_27 : decode cX7_acts 27 = .ok (.sipush 376, 3) := by decide +kernel
theorem dX7_acts_30 : decode cX7_acts 30 = .ok (.iadd, 1) := by decide +kernel
theorem dX7_acts_31 : decode cX7_acts 31 = .ok (.iaload, 1) := by decide +kernel
theorem dX7_acts_32 : decode cX7_acts 32 = .ok (.iastore, 1) := by decide +kernel
theorem dX7_acts_33 : decode cX7_acts 33 = .ok (.iinc 1 1, 3) := by decide +kernel
theorem dX7_acts_36 : decode cX7_acts 36 = .ok (.goto (-26), 3) := by decide +kernel
theorem dX7_acts_39 : decode cX7_acts 39 = .ok (.aload_n 0, 1) := by decide +kernel
theorem dX7_acts_40 : decode cX7_acts 40 = .ok (.dup, 1) := by decide +kernel
theorem dX7_acts_41 : decode cX7_acts 41 = .ok (.getfield 71, 3) := by decide +kernel
theorem dX7_acts_44 : decode cX7_acts 44 = .ok (.iconst 1, 1) := by decide +kernel
theorem dX7_acts_45 : decode cX7_acts 45 = .ok (.isub, 1) := by decide +kernel
theorem dX7_acts_46 : decode cX7_acts 46 = .ok (.putfield 71, 3) := by decide +kernel
theorem dX7_acts_49 : decode cX7_acts 49 = .ok (.iconst 0, 1) := by decide +kernel
theorem dX7_acts_50 : decode cX7_acts 50 = .ok (.istore_n 1, 1) := by decide +kernel
theorem dX7_acts_51 : decode cX7_acts 51 = .ok (.iload_n 1, 1) := by decide +kernel
theorem dX7_acts_52 : decode cX7_acts 52 = .ok (.sipush 376, 3) := by decide +kernel
theorem dX7_acts_55 : decode cX7_acts 55 = .ok (.if_icmp .ge 30, 3) := by decide +kernel
theorem dX7_acts_58 : decode cX7_acts 58 = .ok (.aload_n 0, 1) := by decide +kernel
theorem dX7_acts_59 : decode cX7_acts 59 = .ok (.getfield 13, 3) := by decide +kernel
theorem dX7_acts_62 : decode cX7_acts 62 = .ok (.sipush 376, 3) := by decide +kernel
theorem dX7_acts_65 : decode cX7_acts 65 = .ok (.aload_n 0, 1) := by decide +kernel
theorem dX7_acts_66 : decode cX7_acts 66 = .ok (.getfield 71, 3) := by decide +kernel
theorem dX7_acts_69 : decode cX7_acts 69 = .ok (.imul, 1) := by decide +kernel
theorem dX7_acts_70 : decode cX7_acts 70 = .ok (.iload_n 1, 1) := by decide +kernel
theorem dX7_acts_71 : decode cX7_acts 71 = .ok (.iadd, 1) := by decide +kernel
theorem dX7_acts_72 : decode cX7_acts 72 = .ok (.aload_n 0, 1) := by decide +kernel
theorem dX7_acts_73 : decode cX7_acts 73 = .ok (.getfield 7, 3) := by decide +kernel
theorem dX7_acts_76 : decode cX7_acts 76 = .ok (.iload_n 1, 1) := by decide +kernel
theorem dX7_acts_77 : decode cX7_acts 77 = .ok (.iaload, 1) := by decide +kernel
theorem dX7_acts_78 : decode cX7_acts 78 = .ok (.iastore, 1) := by decide +kernel
theorem dX7_acts_79 : decode cX7_acts 79 = .ok (.iinc 1 1, 3) := by decide +kernel
theorem dX7_acts_82 : decode cX7_acts 82 = .ok (.goto (-31), 3) := by decide +kernel
theorem dX7_acts_85 : decode cX7_acts 85 = .ok (.aload_n 0, 1) := by decide +kernel
theorem dX7_acts_86 : decode cX7_acts 86 = .ok (.dup, 1) := by decide +kernel
theorem dX7_acts_87 : decode cX7_acts 87 = .ok (.getfield 71, 3) := by decide +kernel
theorem dX7_acts_90 : decode cX7_acts 90 = .ok (.iconst 1, 1) := by decide +kernel
theorem dX7_acts_91 : decode cX7_acts 91 = .ok (.iadd, 1) := by decide +kernel
theorem dX7_acts_92 : decode cX7_acts 92 = .ok (.putfield 71, 3) := by decide +kernel
theorem dX7_acts_95 : decode cX7_acts 95 = .ok (.return_, 1) := by decide +kernel
theorem dX7_append_0 : decode cX7_append 0 = .ok (.iload_n 1, 1) := by decide +kernel
theorem dX7_append_1 : decode cX7_append 1 = .ok (.iconst 1, 1) := by decide +kernel
theorem dX7_append_2 : decode cX7_append 2 = .ok (.sipush 255, 3) := by decide +kernel
theorem dX7_append_5 : decode cX7_append 5 = .ok (.invokestatic 75, 3) := by decide +kernel
theorem dX7_append_8 : decode cX7_append 8 = .ok (.ifCond .ne 6, 3) := by decide +kernel
theorem dX7_append_11 : decode cX7_append 11 = .ok (.ldc 79, 2) := by decide +kernel
theorem dX7_append_13 : decode cX7_append 13 = .ok (.ireturn, 1) := by decide +kernel
theorem dX7_append_14 : decode cX7_append 14 = .ok (.aload_n 0, 1) := by decide +kernel
theorem dX7_append_15 : decode cX7_append 15 = .ok (.getfield 80, 3) := by decide +kernel
theorem dX7_append_18 : decode cX7_append 18 = .ok (.bipush 100, 2) := by decide +kernel
theorem dX7_append_20 : decode cX7_append 20 = .ok (.if_icmp .ne 6, 3) := by decide +kernel
theorem dX7_append_23 : decode cX7_append 23 = .ok (.ldc 83, 2) := by decide +kernel
theorem dX7_append_25 : decode cX7_append 25 = .ok (.ireturn, 1) := by decide +kernel
theorem dX7_append_26 : decode cX7_append 26 = .ok (.aload_n 0, 1) := by decide +kernel
theorem dX7_append_27 : decode cX7_append 27 = .ok (.getfield 16, 3) := by decide +kernel
theorem dX7_append_30 : decode cX7_append 30 = .ok (.aload_n 0, 1) := by decide +kernel
theorem dX7_append_31 : decode cX7_append 31 = .ok (.getfield 80, 3) := by decide +kernel
theorem dX7_append_34 : decode cX7_append 34 = .ok (.iload_n 1, 1) := by decide +kernel
theorem dX7_append_35 : decode cX7_append 35 = .ok (.iastore, 1) := by decide +kernel
theorem dX7_append_36 : decode cX7_append 36 = .ok (.aload_n 0, 1) := by decide +kernel
theorem dX7_append_37 : decode cX7_append 37 = .ok (.dup, 1) := by decide +kernel
theorem dX7_append_38 : decode cX7_append 38 = .ok (.getfield 80, 3) := by decide +kernel
theorem dX7_append_41 : decode cX7_append 41 = .ok (.iconst 1, 1) := by decide +kernel
theorem dX7_append_42 : decode cX7_append 42 = .ok (.iadd, 1) := by decide +kernel
theorem dX7_append_43 : decode cX7_append 43 = .ok (.putfield 80, 3) := by decide +kernel
theorem dX7_append_46 : decode cX7_append 46 = .ok (.aload_n 0, 1) := by decide +kernel
theorem dX7_append_47 : decode cX7_append 47 = .ok (.getfield 80, 3) := by decide +kernel
theorem dX7_append_50 : decode cX7_append 50 = .ok (.ireturn, 1) := by decide +kernel
theorem dX7_clearText_0 : decode cX7_clearText 0 = .ok (.aload_n 0, 1) := by decide +kernel
theorem dX7_clearText_1 : decode cX7_clearText 1 = .ok (.getfield 80, 3) := by decide +kernel
theorem dX7_clearText_4 : decode cX7_clearText 4 = .ok (.istore_n 1, 1) := by decide +kernel
theorem dX7_clearText_5 : decode cX7_clearText 5 = .ok (.aload_n 0, 1) := by decide +kernel
theorem dX7_clearText_6 : decode cX7_clearText 6 = .ok (.iconst 0, 1) := by decide +kernel
theorem dX7_clearText_7 : decode cX7_clearText 7 = .ok (.putfield 80, 3) := by decide +kernel
theorem dX7_clearText_10 : decode cX7_clearText 10 = .ok (.iload_n 1, 1) := by decide +kernel
theorem dX7_clearText_11 : decode cX7_clearText 11 = .ok (.ireturn, 1) := by decide +kernel
theorem dX7_here_0 : decode cX7_here 0 = .ok (.aload_n 0, 1) := by decide +kernel
theorem dX7_here_1 : decode cX7_here 1 = .ok (.getfield 84, 3) := by decide +kernel
theorem dX7_here_4 : decode cX7_here 4 = .ok (.aload_n 0, 1) := by decide +kernel
theorem dX7_here_5 : decode cX7_here 5 = .ok (.getfield 80, 3) := by decide +kernel
theorem dX7_here_8 : decode cX7_here 8 = .ok (.if_icmp .ge 15, 3) := by decide +kernel
theorem dX7_here_11 : decode cX7_here 11 = .ok (.aload_n 0, 1) := by decide +kernel
theorem dX7_here_12 : decode cX7_here 12 = .ok (.getfield 16, 3) := by decide +kernel
theorem dX7_here_15 : decode cX7_here 15 = .ok (.aload_n 0, 1) := by decide +kernel
theorem dX7_here_16 : decode cX7_here 16 = .ok (.getfield 84, 3) := by decide +kernel
theorem dX7_here_19 : decode cX7_here 19 = .ok (.iaload, 1) := by decide +kernel
theorem dX7_here_20 : decode cX7_here 20 = .ok (.goto 5, 3) := by decide +kernel
theorem dX7_here_23 : decode cX7_here 23 = .ok (.ldc 87, 2) := by decide +kernel
theorem dX7_here_25 : decode cX7_here 25 = .ok (.ireturn, 1) := by decide +kernel
theorem dX7_puts_0 : decode cX7_puts 0 = .ok (.bipush 16, 2) := by decide +kernel
theorem dX7_puts_2 : decode cX7_puts 2 = .ok (.bipush 60, 2) := by decide +kernel
theorem dX7_puts_4 : decode cX7_puts 4 = .ok (.aload_n 0, 1) := by decide +kernel
theorem dX7_puts_5 : decode cX7_puts 5 = .ok (.getfield 88, 3) := by decide +kernel
theorem dX7_puts_8 : decode cX7_puts 8 = .ok (.imul, 1) := by decide +kernel
theorem dX7_puts_9 : decode cX7_puts 9 = .ok (.iadd, 1) := by decide +kernel
theorem dX7_puts_10 : decode cX7_puts 10 = .ok (.istore 4, 2) := by decide +kernel
theorem dX7_puts_12 : decode cX7_puts 12 = .ok (.aload_n 0, 1) := by decide +kernel
theorem dX7_puts_13 : decode cX7_puts 13 = .ok (.getfield 91, 3) := by decide +kernel
theorem dX7_puts_16 : decode cX7_puts 16 = .ok (.istore 5, 2) := by decide +kernel
theorem dX7_puts_18 : decode cX7_puts 18 = .ok (.iload 5, 2) := by decide +kernel
theorem dX7_puts_20 : decode cX7_puts 20 = .ok (.iload_n 1, 1) := by decide +kernel
theorem dX7_puts_21 : decode cX7_puts 21 = .ok (.if_icmp .le 63, 3) := by decide +kernel
theorem dX7_puts_24 : decode cX7_puts 24 = .ok (.aload_n 0, 1) := by decide +kernel
theorem dX7_puts_25 : decode cX7_puts 25 = .ok (.getfield 19, 3) := by decide +kernel
theorem dX7_puts_28 : decode cX7_puts 28 = .ok (.iload 4, 2) := by decide +kernel
theorem dX7_puts_30 : decode cX7_puts 30 = .ok (.iconst 2, 1) := by decide +kernel
theorem dX7_puts_31 : decode cX7_puts 31 = .ok (.iload 5, 2) := by decide +kernel
theorem dX7_puts_33 : decode cX7_puts 33 = .ok (.imul, 1) := by decide +kernel
theorem dX7_puts_34 : decode cX7_puts 34 = .ok (.iadd, 1) := by decide +kernel
theorem dX7_puts_35 : decode cX7_puts 35 = .ok (.aload_n 0, 1) := by decide +kernel
theorem dX7_puts_36 : decode cX7_puts 36 = .ok (.getfield 19, 3) := by decide +kernel
theorem dX7_puts_39 : decode cX7_puts 39 = .ok (.iload 4, 2) := by decide +kernel
theorem dX7_puts_41 : decode cX7_puts 41 = .ok (.iconst 2, 1) := by decide +kernel
theorem dX7_puts_42 : decode cX7_puts 42 = .ok (.iload 5, 2) := by decide +kernel
theorem dX7_puts_44 : decode cX7_puts 44 = .ok (.imul, 1) := by decide +kernel
theorem dX7_puts_45 : decode cX7_puts 45 = .ok (.iadd, 1) := by decide +kernel
theorem dX7_puts_46 : decode cX7_puts 46 = .ok (.iconst 2, 1) := by decide +kernel
theorem dX7_puts_47 : decode cX7_puts 47 = .ok (.isub, 1) := by decide +kernel
theorem dX7_puts_48 : decode cX7_puts 48 = .ok (.iaload, 1) := by decide +kernel
theorem dX7_puts_49 : decode cX7_puts 49 = .ok (.iastore, 1) := by decide +kernel
theorem dX7_puts_50 : decode cX7_puts 50 = .ok (.aload_n 0, 1) := by decide +kernel
theorem dX7_puts_51 : decode cX7_puts 51 = .ok (.getfield 19, 3) := by decide +kernel
theorem dX7_puts_54 : decode cX7_puts 54 = .ok (.iload 4, 2) := by decide +kernel
theorem dX7_puts_56 : decode cX7_puts 56 = .ok (.iconst 2, 1) := by decide +kernel
theorem dX7_puts_57 : decode cX7_puts 57 = .ok (.iload 5, 2) := by decide +kernel
theorem dX7_puts_59 : decode cX7_puts 59 = .ok (.imul, 1) := by decide +kernel
theorem dX7_puts_60 : decode cX7_puts 60 = .ok (.iadd, 1) := by decide +kernel
theorem dX7_puts_61 : decode cX7_puts 61 = .ok (.iconst 1, 1) := by decide +kernel
theorem dX7_puts_62 : decode cX7_puts 62 = .ok (.iadd, 1) := by decide +kernel
theorem dX7_puts_63 : decode cX7_puts 63 = .ok (.aload_n 0, 1) := by decide +kernel
theorem dX7_puts_64 : decode cX7_puts 64 = .ok (.getfield 19, 3) := by decide +kernel
theorem dX7_puts_67 : decode cX7_puts 67 = .ok (.iload 4, 2) := by decide +kernel
theorem dX7_puts_69 : decode cX7_puts 69 = .ok (.iconst 2, 1) := by decide +kernel
theorem dX7_puts_70 : decode cX7_puts 70 = .ok (.iload 5, 2) := by decide +kernel
theorem dX7_puts_72 : decode cX7_puts 72 = .ok (.imul, 1) := by decide +kernel
theorem dX7_puts_73 : decode cX7_puts 73 = .ok (.iadd, 1) := by decide +kernel
theorem dX7_puts_74 : decode cX7_puts 74 = .ok (.iconst 1, 1) := by decide +kernel
theorem dX7_puts_75 : decode cX7_puts 75 = .ok (.isub, 1) := by decide +kernel
theorem dX7_puts_76 : decode cX7_puts 76 = .ok (.iaload, 1) := by decide +kernel
theorem dX7_puts_77 : decode cX7_puts 77 = .ok (.iastore, 1) := by decide +kernel
theorem dX7_puts_78 : decode cX7_puts 78 = .ok (.iinc 5 (-1), 3) := by decide +kernel
theorem dX7_puts_81 : decode cX7_puts 81 = .ok (.goto (-63), 3) := by decide +kernel
theorem dX7_puts_84 : decode cX7_puts 84 = .ok (.aload_n 0, 1) := by decide +kernel
theorem dX7_puts_85 : decode cX7_puts 85 = .ok (.getfield 19, 3) := by decide +kernel
theorem dX7_puts_88 : decode cX7_puts 88 = .ok (.iload 4, 2) := by decide +kernel
theorem dX7_puts_90 : decode cX7_puts 90 = .ok (.iconst 2, 1) := by decide +kernel
theorem dX7_puts_91 : decode cX7_puts 91 = .ok (.iload_n 1, 1) := by decide +kernel
theorem dX7_puts_92 : decode cX7_puts 92 = .ok (.imul, 1) := by decide +kernel
theorem dX7_puts_93 : decode cX7_puts 93 = .ok (.iadd, 1) := by decide +kernel
theorem dX7_puts_94 : decode cX7_puts 94 = .ok (.iload_n 2, 1) := by decide +kernel
theorem dX7_puts_95 : decode cX7_puts 95 = .ok (.iastore, 1) := by decide +kernel
theorem dX7_puts_96 : decode cX7_puts 96 = .ok (.aload_n 0, 1) := by decide +kernel
theorem dX7_puts_97 : decode cX7_puts 97 = .ok (.getfield 19, 3) := by decide +kernel
theorem dX7_puts_100 : decode cX7_puts 100 = .ok (.iload 4, 2) := by decide +kernel
theorem dX7_puts_102 : decode cX7_puts 102 = .ok (.iconst 2, 1) := by decide +kernel
theorem dX7_puts_103 : decode cX7_puts 103 = .ok (.iload_n 1, 1) := by decide +kernel
theorem dX7_puts_104 : decode cX7_puts 104 = .ok (.imul, 1) := by decide +kernel
theorem dX7_puts_105 : decode cX7_puts 105 = .ok (.iadd, 1) := by decide +kernel
theorem dX7_puts_106 : decode cX7_puts 106 = .ok (.iconst 1, 1) := by decide +kernel
theorem dX7_puts_107 : decode cX7_puts 107 = .ok (.iadd, 1) := by decide +kernel
theorem dX7_puts_108 : decode cX7_puts 108 = .ok (.iload_n 3, 1) := by decide +kernel
theorem dX7_puts_109 : decode cX7_puts 109 = .ok (.iastore, 1) := by decide +kernel
theorem dX7_puts_110 : decode cX7_puts 110 = .ok (.aload_n 0, 1) := by decide +kernel
theorem dX7_puts_111 : decode cX7_puts 111 = .ok (.dup, 1) := by decide +kernel
theorem dX7_puts_112 : decode cX7_puts 112 = .ok (.getfield 91, 3) := by decide +kernel
theorem dX7_puts_115 : decode cX7_puts 115 = .ok (.iconst 1, 1) := by decide +kernel
theorem dX7_puts_116 : decode cX7_puts 116 = .ok (.iadd, 1) := by decide +kernel
theorem dX7_puts_117 : decode cX7_puts 117 = .ok (.putfield 91, 3) := by decide +kernel
theorem dX7_puts_120 : decode cX7_puts 120 = .ok (.return_, 1) := by decide +kernel
theorem dX7_leaf_0 : decode cX7_leaf 0 = .ok (.aload_n 0, 1) := by decide +kernel
theorem dX7_leaf_1 : decode cX7_leaf 1 = .ok (.getfield 22, 3) := by decide +kernel
theorem dX7_leaf_4 : decode cX7_leaf 4 = .ok (.aload_n 0, 1) := by decide +kernel
theorem dX7_leaf_5 : decode cX7_leaf 5 = .ok (.getfield 94, 3) := by decide +kernel
theorem dX7_leaf_8 : decode cX7_leaf 8 = .ok (.aload_n 0, 1) := by decide +kernel
theorem dX7_leaf_9 : decode cX7_leaf 9 = .ok (.getfield 91, 3) := by decide +kernel
theorem dX7_leaf_12 : decode cX7_leaf 12 = .ok (.iastore, 1) := by decide +kernel
theorem dX7_leaf_13 : decode cX7_leaf 13 = .ok (.aload_n 0, 1) := by decide +kernel
theorem dX7_leaf_14 : decode cX7_leaf 14 = .ok (.dup, 1) := by decide +kernel
theorem dX7_leaf_15 : decode cX7_leaf 15 = .ok (.getfield 94, 3) := by decide +kernel
theorem dX7_leaf_18 : decode cX7_leaf 18 = .ok (.iconst 1, 1) := by decide +kernel
theorem dX7_leaf_19 : decode cX7_leaf 19 = .ok (.iadd, 1) := by decide +kernel
theorem dX7_leaf_20 : decode cX7_leaf 20 = .ok (.putfield 94, 3) := by decide +kernel
theorem dX7_leaf_23 : decode cX7_leaf 23 = .ok (.aload_n 0, 1) := by decide +kernel
theorem dX7_leaf_24 : decode cX7_leaf 24 = .ok (.aload_n 0, 1) := by decide +kernel
theorem dX7_leaf_25 : decode cX7_leaf 25 = .ok (.getfield 91, 3) := by decide +kernel
theorem dX7_leaf_28 : decode cX7_leaf 28 = .ok (.iload_n 1, 1) := by decide +kernel
theorem dX7_leaf_29 : decode cX7_leaf 29 = .ok (.iload_n 2, 1) := by decide +kernel
theorem dX7_leaf_30 : decode cX7_leaf 30 = .ok (.invokevirtual 97, 3) := by decide +kernel
theorem dX7_leaf_33 : decode cX7_leaf 33 = .ok (.aload_n 0, 1) := by decide +kernel
theorem dX7_leaf_34 : decode cX7_leaf 34 = .ok (.dup, 1) := by decide +kernel
theorem dX7_leaf_35 : decode cX7_leaf 35 = .ok (.getfield 101, 3) := by decide +kernel
theorem dX7_leaf_38 : decode cX7_leaf 38 = .ok (.iconst 1, 1) := by decide +kernel
theorem dX7_leaf_39 : decode cX7_leaf 39 = .ok (.iadd, 1) := by decide +kernel
theorem dX7_leaf_40 : decode cX7_leaf 40 = .ok (.putfield 101, 3) := by decide +kernel
theorem dX7_leaf_43 : decode cX7_leaf 43 = .ok (.iconst 1, 1) := by decide +kernel
theorem dX7_leaf_44 : decode cX7_leaf 44 = .ok (.ireturn, 1) := by decide +kernel
theorem dX7_kindOf_0 : decode cX7_kindOf 0 = .ok (.iload_n 0, 1) := by decide +kernel
theorem dX7_kindOf_1 : decode cX7_kindOf 1 = .ok (.bipush 33, 2) := by decide +kernel
theorem dX7_kindOf_3 : decode cX7_kindOf 3 = .ok (.if_icmp .ne 7, 3) := by decide +kernel
theorem dX7_kindOf_6 : decode cX7_kindOf 6 = .ok (.iconst 3, 1) := by decide +kernel
theorem dX7_kindOf_7 : decode cX7_kindOf 7 = .ok (.goto 25, 3) := by decide +kernel
theorem dX7_kindOf_10 : decode cX7_kindOf 10 = .ok (.iload_n 0, 1) := by decide +kernel
theorem dX7_kindOf_11 : decode cX7_kindOf 11 = .ok (.bipush 43, 2) := by decide +kernel
theorem dX7_kindOf_13 : decode cX7_kindOf 13 = .ok (.if_icmp .ne 7, 3) := by decide +kernel
theorem dX7_kindOf_16 : decode cX7_kindOf 16 = .ok (.iconst 4, 1) := by decide +kernel
theorem dX7_kindOf_17 : decode cX7_kindOf 17 = .ok (.goto 15, 3) := by decide +kernel
theorem dX7_kindOf_20 : decode cX7_kindOf 20 = .ok (.iload_n 0, 1) := by decide +kernel
theorem dX7_kindOf_21 : decode cX7_kindOf 21 = .ok (.bipush 45, 2) := by decide +kernel
theorem dX7_kindOf_23 : decode cX7_kindOf 23 = .ok (.if_icmp .ne 7, 3) := by decide +kernel
theorem dX7_kindOf_26 : decode cX7_kindOf 26 = .ok (.iconst 5, 1) := by decide +kernel
theorem dX7_kindOf_27 : decode cX7_kindOf 27 = .ok (.goto 5, 3) := by decide +kernel
theorem dX7_kindOf_30 : decode cX7_kindOf 30 = .ok (.bipush 6, 2) := by decide +kernel
theorem dX7_kindOf_32 : decode cX7_kindOf 32 = .ok (.ireturn, 1) := by decide +kernel
theorem dX7_makes_0 : decode cX7_makes 0 = .ok (.iload_n 1, 1) := by decide +kernel
theorem dX7_makes_1 : decode cX7_makes 1 = .ok (.bipush 33, 2) := by decide +kernel
theorem dX7_makes_3 : decode cX7_makes 3 = .ok (.if_icmp .eq 13, 3) := by decide +kernel
theorem dX7_makes_6 : decode cX7_makes 6 = .ok (.aload_n 0, 1) := by decide +kernel
theorem dX7_makes_7 : decode cX7_makes 7 = .ok (.dup, 1) := by decide +kernel
theorem dX7_makes_8 : decode cX7_makes 8 = .ok (.getfield 94, 3) := by decide +kernel
theorem dX7_makes_11 : decode cX7_makes 11 = .ok (.iconst 1, 1) := by decide +kernel
theorem dX7_makes_12 : decode cX7_makes 12 = .ok (.isub, 1) := by decide +kernel
theorem dX7_makes_13 : decode cX7_makes 13 = .ok (.putfield 94, 3) := by decide +kernel
theorem dX7_makes_16 : decode cX7_makes 16 = .ok (.aload_n 0, 1) := by decide +kernel
theorem dX7_makes_17 : decode cX7_makes 17 = .ok (.aload_n 0, 1) := by decide +kernel
theorem dX7_makes_18 : decode cX7_makes 18 = .ok (.getfield 22, 3) := by decide +kernel
theorem dX7_makes_21 : decode cX7_makes 21 = .ok (.aload_n 0, 1) := by decide +kernel
theorem dX7_makes_22 : decode cX7_makes 22 = .ok (.getfield 94, 3) := by decide +kernel
theorem dX7_makes_25 : decode cX7_makes 25 = .ok (.iconst 1, 1) := by decide +kernel
theorem dX7_makes_26 : decode cX7_makes 26 = .ok (.isub, 1) := by decide +kernel
theorem dX7_makes_27 : decode cX7_makes 27 = .ok (.iaload, 1) := by decide +kernel
theorem dX7_makes_28 : decode cX7_makes 28 = .ok (.iload_n 1, 1) := by decide +kernel
theorem dX7_makes_29 : decode cX7_makes 29 = .ok (.invokestatic 104, 3) := by decide +kernel
theorem dX7_makes_32 : decode cX7_makes 32 = .ok (.ldc 87, 2) := by decide +kernel
theorem dX7_makes_34 : decode cX7_makes 34 = .ok (.invokevirtual 97, 3) := by decide +kernel
theorem dX7_makes_37 : decode cX7_makes 37 = .ok (.return_, 1) := by decide +kernel
theorem dX7_settles_0 : decode cX7_settles 0 = .ok (.iconst 1, 1) := by decide +kernel
theorem dX7_settles_1 : decode cX7_settles 1 = .ok (.istore_n 2, 1) := by decide +kernel
theorem dX7_settles_2 : decode cX7_settles 2 = .ok (.iload_n 2, 1) := by decide +kernel
theorem dX7_settles_3 : decode cX7_settles 3 = .ok (.ifCond .eq 109, 3) := by decide +kernel
theorem dX7_settles_6 : decode cX7_settles 6 = .ok (.aload_n 0, 1) := by decide +kernel
theorem dX7_settles_7 : decode cX7_settles 7 = .ok (.getfield 108, 3) := by decide +kernel
theorem dX7_settles_10 : decode cX7_settles 10 = .ok (.ifCond .le 102, 3) := by decide +kernel
theorem dX7_settles_13 : decode cX7_settles 13 = .ok (.aload_n 0, 1) := by decide +kernel
theorem dX7_settles_14 : decode cX7_settles 14 = .ok (.getfield 25, 3) := by decide +kernel
theorem dX7_settles_17 : decode cX7_settles 17 = .ok (.aload_n 0, 1) := by decide +kernel
theorem dX7_settles_18 : decode cX7_settles 18 = .ok (.getfield 108, 3) := by decide +kernel
theorem dX7_settles_21 : decode cX7_settles 21 = .ok (.iconst 1, 1) := by decide +kernel
theorem dX7_settles_22 : decode cX7_settles 22 = .ok (.isub, 1) := by decide +kernel
theorem dX7_settles_23 : decode cX7_settles 23 = .ok (.iaload, 1) := by decide +kernel
theorem dX7_settles_24 : decode cX7_settles 24 = .ok (.istore_n 3, 1) := by decide +kernel
theorem dX7_settles_25 : decode cX7_settles 25 = .ok (.iload_n 3, 1) := by decide +kernel
theorem dX7_settles_26 : decode cX7_settles 26 = .ok (.bipush 40, 2) := by decide +kernel
theorem dX7_settles_28 : decode cX7_settles 28 = .ok (.if_icmp .ne 7, 3) := by decide +kernel
theorem dX7_settles_31 : decode cX7_settles 31 = .ok (.iconst 0, 1) := by decide +kernel
theorem dX7_settles_32 : decode cX7_settles 32 = .ok (.goto 24, 3) := by decide +kernel
theorem dX7_settles_35 : decode cX7_settles 35 = .ok (.iload_n 3, 1) := by decide +kernel
theorem dX7_settles_36 : decode cX7_settles 36 = .ok (.bipush 33, 2) := by decide +kernel
theorem dX7_settles_38 : decode cX7_settles 38 = .ok (.if_icmp .ne 7, 3) := by decide +kernel
theorem dX7_settles_41 : decode cX7_settles 41 = .ok (.iconst 3, 1) := by decide +kernel
theorem dX7_settles_42 : decode cX7_settles 42 = .ok (.goto 14, 3) := by decide +kernel
theorem dX7_settles_45 : decode cX7_settles 45 = .ok (.iload_n 3, 1) := by decide +kernel
theorem dX7_settles_46 : decode cX7_settles 46 = .ok (.bipush 42, 2) := by decide +kernel
theorem dX7_settles_48 : decode cX7_settles 48 = .ok (.if_icmp .ne 7, 3) := by decide +kernel
theorem dX7_settles_51 : decode cX7_settles 51 = .ok (.iconst 2, 1) := by decide +kernel
theorem dX7_settles_52 : decode cX7_settles 52 = .ok (.goto 4, 3) := by decide +kernel
theorem dX7_settles_55 : decode cX7_settles 55 = .ok (.iconst 1, 1) := by decide +kernel
theorem dX7_settles_56 : decode cX7_settles 56 = .ok (.istore 4, 2) := by decide +kernel
theorem dX7_settles_58 : decode cX7_settles 58 = .ok (.iload 4, 2) := by decide +kernel
theorem dX7_settles_60 : decode cX7_settles 60 = .ok (.iload_n 1, 1) := by decide +kernel
theorem dX7_settles_61 : decode cX7_settles 61 = .ok (.if_icmp .lt 7, 3) := by decide +kernel
theorem dX7_settles_64 : decode cX7_settles 64 = .ok (.iconst 1, 1) := by decide +kernel
theorem dX7_settles_65 : decode cX7_settles 65 = .ok (.goto 4, 3) := by decide +kernel
theorem dX7_settles_68 : decode cX7_settles 68 = .ok (.iconst 0, 1) := by decide +kernel
theorem dX7_settles_69 : decode cX7_settles 69 = .ok (.istore_n 2, 1) := by decide +kernel
theorem dX7_settles_70 : decode cX7_settles 70 = .ok (.iload_n 2, 1) := by decide +kernel
theorem dX7_settles_71 : decode cX7_settles 71 = .ok (.ifCond .eq 38, 3) := by decide +kernel
theorem dX7_settles_74 : decode cX7_settles 74 = .ok (.aload_n 0, 1) := by decide +kernel
theorem dX7_settles_75 : decode cX7_settles 75 = .ok (.iload_n 3, 1) := by decide +kernel
theorem dX7_settles_76 : decode cX7_settles 76 = .ok (.invokevirtual 111, 3) := by decide +kernel
theorem dX7_settles_79 : decode cX7_settles 79 = .ok (.aload_n 0, 1) := by decide +kernel
theorem dX7_settles_80 : decode cX7_settles 80 = .ok (.dup, 1) := by decide +kernel
theorem dX7_settles_81 : decode cX7_settles 81 = .ok (.getfield 108, 3) := by decide +kernel
theorem dX7_settles_84 : decode cX7_settles 84 = .ok (.iconst 1, 1) := by decide +kernel
theorem dX7_settles_85 : decode cX7_settles 85 = .ok (.isub, 1) := by decide +kernel
theorem dX7_settles_86 : decode cX7_settles 86 = .ok (.putfield 108, 3) := by decide +kernel
theorem dX7_settles_89 : decode cX7_settles 89 = .ok (.aload_n 0, 1) := by decide +kernel
theorem dX7_settles_90 : decode cX7_settles 90 = .ok (.dup, 1) := by decide +kernel
theorem dX7_settles_91 : decode cX7_settles 91 = .ok (.getfield 115, 3) := by decide +kernel
theorem dX7_settles_94 : decode cX7_settles 94 = .ok (.iload_n 3, 1) := by decide +kernel
theorem dX7_settles_95 : decode cX7_settles 95 = .ok (.bipush 33, 2) := by decide +kernel
theorem dX7_settles_97 : decode cX7_settles 97 = .ok (.if_icmp .ne 7, 3) := by decide +kernel
theorem dX7_settles_100 : decode cX7_settles 100 = .ok (.iconst 1, 1) := by decide +kernel
theorem dX7_settles_101 : decode cX7_settles 101 = .ok (.goto 4, 3) := by decide +kernel
theorem dX7_settles_104 : decode cX7_settles 104 = .ok (.iconst 0, 1) := by decide +kernel
theorem dX7_settles_105 : decode cX7_settles 105 = .ok (.isub, 1) := by decide +kernel
theorem dX7_settles_106 : decode cX7_settles 106 = .ok (.putfield 115, 3) := by decide +kernel
theorem dX7_settles_109 : decode cX7_settles 109 = .ok (.goto (-107), 3) := by decide +kernel
theorem dX7_settles_112 : decode cX7_settles 112 = .ok (.return_, 1) := by decide +kernel
theorem dX7_number_0 : decode cX7_number 0 = .ok (.aload_n 0, 1) := by decide +kernel
theorem dX7_number_1 : decode cX7_number 1 = .ok (.invokevirtual 118, 3) := by decide +kernel
theorem dX7_number_4 : decode cX7_number 4 = .ok (.bipush 48, 2) := by decide +kernel
theorem dX7_number_6 : decode cX7_number 6 = .ok (.isub, 1) := by decide +kernel
theorem dX7_number_7 : decode cX7_number 7 = .ok (.istore_n 1, 1) := by decide +kernel
theorem dX7_number_8 : decode cX7_number 8 = .ok (.aload_n 0, 1) := by decide +kernel
theorem dX7_number_9 : decode cX7_number 9 = .ok (.getfield 84, 3) := by decide +kernel
theorem dX7_number_12 : decode cX7_number 12 = .ok (.istore_n 2, 1) := by decide +kernel
theorem dX7_number_13 : decode cX7_number 13 = .ok (.aload_n 0, 1) := by decide +kernel
theorem dX7_number_14 : decode cX7_number 14 = .ok (.dup, 1) := by decide +kernel
theorem dX7_number_15 : decode cX7_number 15 = .ok (.getfield 84, 3) := by decide +kernel
theorem dX7_number_18 : decode cX7_number 18 = .ok (.iconst 1, 1) := by decide +kernel
theorem dX7_number_19 : decode cX7_number 19 = .ok (.iadd, 1) := by decide +kernel
theorem dX7_number_20 : decode cX7_number 20 = .ok (.putfield 84, 3) := by decide +kernel
theorem dX7_number_23 : decode cX7_number 23 = .ok (.aload_n 0, 1) := by decide +kernel
theorem dX7_number_24 : decode cX7_number 24 = .ok (.invokevirtual 118, 3) := by decide +kernel
theorem dX7_number_27 : decode cX7_number 27 = .ok (.bipush 48, 2) := by decide +kernel
theorem dX7_number_29 : decode cX7_number 29 = .ok (.bipush 57, 2) := by decide +kernel
theorem dX7_number_31 : decode cX7_number 31 = .ok (.invokestatic 75, 3) := by decide +kernel
theorem dX7_number_34 : decode cX7_number 34 = .ok (.ifCond .eq 45, 3) := by decide +kernel
theorem dX7_number_37 : decode cX7_number 37 = .ok (.iload_n 1, 1) := by decide +kernel
theorem dX7_number_38 : decode cX7_number 38 = .ok (.ifCond .eq 13, 3) := by decide +kernel
theorem dX7_number_41 : decode cX7_number 41 = .ok (.aload_n 0, 1) := by decide +kernel
theorem dX7_number_42 : decode cX7_number 42 = .ok (.getfield 84, 3) := by decide +kernel
theorem dX7_number_45 : decode cX7_number 45 = .ok (.iload_n 2, 1) := by decide +kernel
theorem dX7_number_46 : decode cX7_number 46 = .ok (.isub, 1) := by decide +kernel
theorem dX7_number_47 : decode cX7_number 47 = .ok (.iconst 3, 1) := by decide +kernel
theorem dX7_number_48 : decode cX7_number 48 = .ok (.if_icmp .ne 5, 3) := by decide +kernel
theorem dX7_number_51 : decode cX7_number 51 = .ok (.iconst 0, 1) := by decide +kernel
theorem dX7_number_52 : decode cX7_number 52 = .ok (.ireturn, 1) := by decide +kernel
theorem dX7_number_53 : decode cX7_number 53 = .ok (.bipush 10, 2) := by decide +kernel
theorem dX7_number_55 : decode cX7_number 55 = .ok (.iload_n 1, 1) := by decide +kernel
theorem dX7_number_56 : decode cX7_number 56 = .ok (.imul, 1) := by decide +kernel
theorem dX7_number_57 : decode cX7_number 57 = .ok (.aload_n 0, 1) := by decide +kernel
theorem dX7_number_58 : decode cX7_number 58 = .ok (.invokevirtual 118, 3) := by decide +kernel
theorem dX7_number_61 : decode cX7_number 61 = .ok (.iadd, 1) := by decide +kernel
theorem dX7_number_62 : decode cX7_number 62 = .ok (.bipush 48, 2) := by decide +kernel
theorem dX7_number_64 : decode cX7_number 64 = .ok (.isub, 1) := by decide +kernel
theorem dX7_number_65 : decode cX7_number 65 = .ok (.istore_n 1, 1) := by decide +kernel
theorem dX7_number_66 : decode cX7_number 66 = .ok (.aload_n 0, 1) := by decide +kernel
theorem dX7_number_67 : decode cX7_number 67 = .ok (.dup, 1) := by decide +kernel
theorem dX7_number_68 : decode cX7_number 68 = .ok (.getfield 84, 3) := by decide +kernel
theorem dX7_number_71 : decode cX7_number 71 = .ok (.iconst 1, 1) := by decide +kernel
theorem dX7_number_72 : decode cX7_number 72 = .ok (.iadd, 1) := by decide +kernel
theorem dX7_number_73 : decode cX7_number 73 = .ok (.putfield 84, 3) := by decide +kernel
theorem dX7_number_76 : decode cX7_number 76 = .ok (.goto (-53), 3) := by decide +kernel
theorem dX7_number_79 : decode cX7_number 79 = .ok (.aload_n 0, 1) := by decide +kernel
theorem dX7_number_80 : decode cX7_number 80 = .ok (.iconst 0, 1) := by decide +kernel
theorem dX7_number_81 : decode cX7_number 81 = .ok (.iload_n 1, 1) := by decide +kernel
theorem dX7_number_82 : decode cX7_number 82 = .ok (.invokevirtual 122, 3) := by decide +kernel
theorem dX7_number_85 : decode cX7_number 85 = .ok (.ireturn, 1) := by decide +kernel
theorem dX7_factor_0 : decode cX7_factor 0 = .ok (.aload_n 0, 1) := by decide +kernel
theorem dX7_factor_1 : decode cX7_factor 1 = .ok (.invokevirtual 118, 3) := by decide +kernel
theorem dX7_factor_4 : decode cX7_factor 4 = .ok (.istore_n 1, 1) := by decide +kernel
theorem dX7_factor_5 : decode cX7_factor 5 = .ok (.aload_n 0, 1) := by decide +kernel
theorem dX7_factor_6 : decode cX7_factor 6 = .ok (.iconst 0, 1) := by decide +kernel
theorem dX7_factor_7 : decode cX7_factor 7 = .ok (.putfield 126, 3) := by decide +kernel
theorem dX7_factor_10 : decode cX7_factor 10 = .ok (.iload_n 1, 1) := by decide +kernel
theorem dX7_factor_11 : decode cX7_factor 11 = .ok (.bipush 40, 2) := by decide +kernel
theorem dX7_factor_13 : decode cX7_factor 13 = .ok (.if_icmp .eq 9, 3) := by decide +kernel
theorem dX7_factor_16 : decode cX7_factor 16 = .ok (.iload_n 1, 1) := by decide +kernel
theorem dX7_factor_17 : decode cX7_factor 17 = .ok (.bipush 33, 2) := by decide +kernel
theorem dX7_factor_19 : decode cX7_factor 19 = .ok (.if_icmp .ne 91, 3) := by decide +kernel
theorem dX7_factor_22 : decode cX7_factor 22 = .ok (.aload_n 0, 1) := by decide +kernel
theorem dX7_factor_23 : decode cX7_factor 23 = .ok (.getfield 115, 3) := by decide +kernel
theorem dX7_factor_26 : decode cX7_factor 26 = .ok (.bipush 8, 2) := by decide +kernel
theorem dX7_factor_28 : decode cX7_factor 28 = .ok (.if_icmp .eq 18, 3) := by decide +kernel
theorem dX7_factor_31 : decode cX7_factor 31 = .ok (.iload_n 1, 1) := by decide +kernel
theorem dX7_factor_32 : decode cX7_factor 32 = .ok (.bipush 33, 2) := by decide +kernel
theorem dX7_factor_34 : decode cX7_factor 34 = .ok (.if_icmp .ne 14, 3) := by decide +kernel
theorem dX7_factor_37 : decode cX7_factor 37 = .ok (.aload_n 0, 1) := by decide +kernel
theorem dX7_factor_38 : decode cX7_factor 38 = .ok (.getfield 101, 3) := by decide +kernel
theorem dX7_factor_41 : decode cX7_factor 41 = .ok (.bipush 30, 2) := by decide +kernel
theorem dX7_factor_43 : decode cX7_factor 43 = .ok (.if_icmp .ne 5, 3) := by decide +kernel
theorem dX7_factor_46 : decode cX7_factor 46 = .ok (.iconst 0, 1) := by decide +kernel
theorem dX7_factor_47 : decode cX7_factor 47 = .ok (.ireturn, 1) := by decide +kernel
theorem dX7_factor_48 : decode cX7_factor 48 = .ok (.aload_n 0, 1) := by decide +kernel
theorem dX7_factor_49 : decode cX7_factor 49 = .ok (.getfield 25, 3) := by decide +kernel
theorem dX7_factor_52 : decode cX7_factor 52 = .ok (.aload_n 0, 1) := by decide +kernel
theorem dX7_factor_53 : decode cX7_factor 53 = .ok (.getfield 108, 3) := by decide +kernel
theorem dX7_factor_56 : decode cX7_factor 56 = .ok (.iload_n 1, 1) := by decide +kernel
theorem dX7_factor_57 : decode cX7_factor 57 = .ok (.iastore, 1) := by decide +kernel
theorem dX7_factor_58 : decode cX7_factor 58 = .ok (.aload_n 0, 1) := by decide +kernel
theorem dX7_factor_59 : decode cX7_factor 59 = .ok (.dup, 1) := by decide +kernel
theorem dX7_factor_60 : decode cX7_factor 60 = .ok (.getfield 108, 3) := by decide +kernel
theorem dX7_factor_63 : decode cX7_factor 63 = .ok (.iconst 1, 1) := by decide +kernel
theorem dX7_factor_64 : decode cX7_factor 64 = .ok (.iadd, 1) := by decide +kernel
theorem dX7_factor_65 : decode cX7_factor 65 = .ok (.putfield 108, 3) := by decide +kernel
theorem dX7_factor_68 : decode cX7_factor 68 = .ok (.aload_n 0, 1) := by decide +kernel
theorem dX7_factor_69 : decode cX7_factor 69 = .ok (.dup, 1) := by decide +kernel
theorem dX7_factor_70 : decode cX7_factor 70 = .ok (.getfield 115, 3) := by decide +kernel
theorem dX7_factor_73 : decode cX7_factor 73 = .ok (.iconst 1, 1) := by decide +kernel
theorem dX7_factor_74 : decode cX7_factor 74 = .ok (.iadd, 1) := by decide +kernel
theorem dX7_factor_75 : decode cX7_factor 75 = .ok (.putfield 115, 3) := by decide +kernel
theorem dX7_factor_78 : decode cX7_factor 78 = .ok (.aload_n 0, 1) := by decide +kernel
theorem dX7_factor_79 : decode cX7_factor 79 = .ok (.dup, 1) := by decide +kernel
theorem dX7_factor_80 : decode cX7_factor 80 = .ok (.getfield 101, 3) := by decide +kernel
theorem dX7_factor_83 : decode cX7_factor 83 = .ok (.iload_n 1, 1) := by decide +kernel
theorem dX7_factor_84 : decode cX7_factor 84 = .ok (.bipush 33, 2) := by decide +kernel
theorem dX7_factor_86 : decode cX7_factor 86 = .ok (.if_icmp .ne 7, 3) := by decide +kernel
theorem dX7_factor_89 : decode cX7_factor 89 = .ok (.iconst 1, 1) := by decide +kernel
theorem dX7_factor_90 : decode cX7_factor 90 = .ok (.goto 4, 3) := by decide +kernel
theorem dX7_factor_93 : decode cX7_factor 93 = .ok (.iconst 0, 1) := by decide +kernel
theorem dX7_factor_94 : decode cX7_factor 94 = .ok (.iadd, 1) := by decide +kernel
theorem dX7_factor_95 : decode cX7_factor 95 = .ok (.putfield 101, 3) := by decide +kernel
theorem dX7_factor_98 : decode cX7_factor 98 = .ok (.aload_n 0, 1) := by decide +kernel
theorem dX7_factor_99 : decode cX7_factor 99 = .ok (.dup, 1) := by decide +kernel
theorem dX7_factor_100 : decode cX7_factor 100 = .ok (.getfield 84, 3) := by decide +kernel
theorem dX7_factor_103 : decode cX7_factor 103 = .ok (.iconst 1, 1) := by decide +kernel
theorem dX7_factor_104 : decode cX7_factor 104 = .ok (.iadd, 1) := by decide +kernel
theorem dX7_factor_105 : decode cX7_factor 105 = .ok (.putfield 84, 3) := by decide +kernel
theorem dX7_factor_108 : decode cX7_factor 108 = .ok (.iconst 1, 1) := by decide +kernel
theorem dX7_factor_109 : decode cX7_factor 109 = .ok (.ireturn, 1) := by decide +kernel
theorem dX7_factor_110 : decode cX7_factor 110 = .ok (.iload_n 1, 1) := by decide +kernel
theorem dX7_factor_111 : decode cX7_factor 111 = .ok (.bipush 97, 2) := by decide +kernel
theorem dX7_factor_113 : decode cX7_factor 113 = .ok (.bipush 104, 2) := by decide +kernel
theorem dX7_factor_115 : decode cX7_factor 115 = .ok (.invokestatic 75, 3) := by decide +kernel
theorem dX7_factor_118 : decode cX7_factor 118 = .ok (.istore_n 2, 1) := by decide +kernel
theorem dX7_factor_119 : decode cX7_factor 119 = .ok (.iload_n 1, 1) := by decide +kernel
theorem dX7_factor_120 : decode cX7_factor 120 = .ok (.bipush 65, 2) := by decide +kernel
theorem dX7_factor_122 : decode cX7_factor 122 = .ok (.if_icmp .lt 18, 3) := by decide +kernel
theorem dX7_factor_125 : decode cX7_factor 125 = .ok (.iload_n 1, 1) := by decide +kernel
theorem dX7_factor_126 : decode cX7_factor 126 = .ok (.bipush 65, 2) := by decide +kernel
theorem dX7_factor_128 : decode cX7_factor 128 = .ok (.aload_n 0, 1) := by decide +kernel
theorem dX7_factor_129 : decode cX7_factor 129 = .ok (.getfield 88, 3) := by decide +kernel
theorem dX7_factor_132 : decode cX7_factor 132 = .ok (.iadd, 1) := by decide +kernel
theorem dX7_factor_133 : decode cX7_factor 133 = .ok (.if_icmp .ge 7, 3) := by decide +kernel
theorem dX7_factor_136 : decode cX7_factor 136 = .ok (.iconst 1, 1) := by decide +kernel
theorem dX7_factor_137 : decode cX7_factor 137 = .ok (.goto 4, 3) := by decide +kernel
theorem dX7_factor_140 : decode cX7_factor 140 = .ok (.iconst 0, 1) := by decide +kernel
theorem dX7_factor_141 : decode cX7_factor 141 = .ok (.istore_n 3, 1) := by decide +kernel
theorem dX7_factor_142 : decode cX7_factor 142 = .ok (.iload_n 2, 1) := by decide +kernel
theorem dX7_factor_143 : decode cX7_factor 143 = .ok (.ifCond .ne 18, 3) := by decide +kernel
theorem dX7_factor_146 : decode cX7_factor 146 = .ok (.iload_n 3, 1) := by decide +kernel
theorem dX7_factor_147 : decode cX7_factor 147 = .ok (.ifCond .ne 14, 3) := by decide +kernel
theorem dX7_factor_150 : decode cX7_factor 150 = .ok (.iload_n 1, 1) := by decide +kernel
theorem dX7_factor_151 : decode cX7_factor 151 = .ok (.bipush 48, 2) := by decide +kernel
theorem dX7_factor_153 : decode cX7_factor 153 = .ok (.bipush 57, 2) := by decide +kernel
theorem dX7_factor_155 : decode cX7_factor 155 = .ok (.invokestatic 75, 3) := by decide +kernel
theorem dX7_factor_158 : decode cX7_factor 158 = .ok (.ifCond .eq 12, 3) := by decide +kernel
theorem dX7_factor_161 : decode cX7_factor 161 = .ok (.aload_n 0, 1) := by decide +kernel
theorem dX7_factor_162 : decode cX7_factor 162 = .ok (.getfield 101, 3) := by decide +kernel
theorem dX7_factor_165 : decode cX7_factor 165 = .ok (.bipush 30, 2) := by decide +kernel
theorem dX7_factor_167 : decode cX7_factor 167 = .ok (.if_icmp .ne 5, 3) := by decide +kernel
theorem dX7_factor_170 : decode cX7_factor 170 = .ok (.iconst 0, 1) := by decide +kernel
theorem dX7_factor_171 : decode cX7_factor 171 = .ok (.ireturn, 1) := by decide +kernel
theorem dX7_factor_172 : decode cX7_factor 172 = .ok (.aload_n 0, 1) := by decide +kernel
theorem dX7_factor_173 : decode cX7_factor 173 = .ok (.iconst 1, 1) := by decide +kernel
theorem dX7_factor_174 : decode cX7_factor 174 = .ok (.putfield 126, 3) := by decide +kernel
theorem dX7_factor_177 : decode cX7_factor 177 = .ok (.iload_n 1, 1) := by decide +kernel
theorem dX7_factor_178 : decode cX7_factor 178 = .ok (.bipush 48, 2) := by decide +kernel
theorem dX7_factor_180 : decode cX7_factor 180 = .ok (.bipush 57, 2) := by decide +kernel
theorem dX7_factor_182 : decode cX7_factor 182 = .ok (.invokestatic 75, 3) := by decide +kernel
theorem dX7_factor_185 : decode cX7_factor 185 = .ok (.ifCond .eq 8, 3) := by decide +kernel
theorem dX7_factor_188 : decode cX7_factor 188 = .ok (.aload_n 0, 1) := by decide +kernel
theorem dX7_factor_189 : decode cX7_factor 189 = .ok (.invokevirtual 130, 3) := by decide +kernel
theorem dX7_factor_192 : decode cX7_factor 192 = .ok (.ireturn, 1) := by decide +kernel
theorem dX7_factor_193 : decode cX7_factor 193 = .ok (.aload_n 0, 1) := by decide +kernel
theorem dX7_factor_194 : decode cX7_factor 194 = .ok (.dup, 1) := by decide +kernel
theorem dX7_factor_195 : decode cX7_factor 195 = .ok (.getfield 84, 3) := by decide +kernel
theorem dX7_factor_198 : decode cX7_factor 198 = .ok (.iconst 1, 1) := by decide +kernel
theorem dX7_factor_199 : decode cX7_factor 199 = .ok (.iadd, 1) := by decide +kernel
theorem dX7_factor_200 : decode cX7_factor 200 = .ok (.putfield 84, 3) := by decide +kernel
theorem dX7_factor_203 : decode cX7_factor 203 = .ok (.aload_n 0, 1) := by decide +kernel
theorem dX7_factor_204 : decode cX7_factor 204 = .ok (.iload_n 2, 1) := by decide +kernel
theorem dX7_factor_205 : decode cX7_factor 205 = .ok (.ifCond .eq 7, 3) := by decide +kernel
theorem dX7_factor_208 : decode cX7_factor 208 = .ok (.iconst 1, 1) := by decide +kernel
theorem dX7_factor_209 : decode cX7_factor 209 = .ok (.goto 4, 3) := by decide +kernel
theorem dX7_factor_212 : decode cX7_factor 212 = .ok (.iconst 2, 1) := by decide +kernel
theorem dX7_factor_213 : decode cX7_factor 213 = .ok (.iload_n 2, 1) := by decide +kernel
theorem dX7_factor_214 : decode cX7_factor 214 = .ok (.ifCond .eq 10, 3) := by decide +kernel
theorem dX7_factor_217 : decode cX7_factor 217 = .ok (.iload_n 1, 1) := by decide +kernel
theorem dX7_factor_218 : decode cX7_factor 218 = .ok (.bipush 97, 2) := by decide +kernel
theorem dX7_factor_220 : decode cX7_factor 220 = .ok (.isub, 1) := by decide +kernel
theorem dX7_factor_221 : decode cX7_factor 221 = .ok (.goto 7, 3) := by decide +kernel
theorem dX7_factor_224 : decode cX7_factor 224 = .ok (.iload_n 1, 1) := by decide +kernel
theorem dX7_factor_225 : decode cX7_factor 225 = .ok (.bipush 65, 2) := by decide +kernel
theorem dX7_factor_227 : decode cX7_factor 227 = .ok (.isub, 1) := by decide +kernel
theorem dX7_factor_228 : decode cX7_factor 228 = .ok (.invokevirtual 122, 3) := by decide +kernel
theorem dX7_factor_231 : decode cX7_factor 231 = .ok (.ireturn, 1) := by decide +kernel
theorem dX7_isOpen_0 : decode cX7_isOpen 0 = .ok (.iconst 0, 1) := by decide +kernel
theorem dX7_isOpen_1 : decode cX7_isOpen 1 = .ok (.istore_n 1, 1) := by decide +kernel
theorem dX7_isOpen_2 : decode cX7_isOpen 2 = .ok (.iconst 0, 1) := by decide +kernel
theorem dX7_isOpen_3 : decode cX7_isOpen 3 = .ok (.istore_n 2, 1) := by decide +kernel
theorem dX7_isOpen_4 : decode cX7_isOpen 4 = .ok (.iload_n 2, 1) := by decide +kernel
theorem dX7_isOpen_5 : decode cX7_isOpen 5 = .ok (.aload_n 0, 1) := by decide +kernel
theorem dX7_isOpen_6 : decode cX7_isOpen 6 = .ok (.getfield 108, 3) := by decide +kernel
theorem dX7_isOpen_9 : decode cX7_isOpen 9 = .ok (.if_icmp .ge 30, 3) := by decide +kernel
theorem dX7_isOpen_12 : decode cX7_isOpen 12 = .ok (.iload_n 1, 1) := by decide +kernel
theorem dX7_isOpen_13 : decode cX7_isOpen 13 = .ok (.ifCond .ne 14, 3) := by decide +kernel
theorem dX7_isOpen_16 : decode cX7_isOpen 16 = .ok (.aload_n 0, 1) := by decide +kernel
theorem dX7_isOpen_17 : decode cX7_isOpen 17 = .ok (.getfield 25, 3) := by decide +kernel
theorem dX7_isOpen_20 : decode cX7_isOpen 20 = .ok (.iload_n 2, 1) := by decide +kernel
theorem dX7_isOpen_21 : decode cX7_isOpen 21 = .ok (.iaload, 1) := by decide +kernel
theorem dX7_isOpen_22 : decode cX7_isOpen 22 = .ok (.bipush 40, 2) := by decide +kernel
theorem dX7_isOpen_24 : decode cX7_isOpen 24 = .ok (.if_icmp .ne 7, 3) := by decide +kernel
theorem dX7_isOpen_27 : decode cX7_isOpen 27 = .ok (.iconst 1, 1) := by decide +kernel
theorem dX7_isOpen_28 : decode cX7_isOpen 28 = .ok (.goto 4, 3) := by decide +kernel
theorem dX7_isOpen_31 : decode cX7_isOpen 31 = .ok (.iconst 0, 1) := by decide +kernel
theorem dX7_isOpen_32 : decode cX7_isOpen 32 = .ok (.istore_n 1, 1) := by decide +kernel
theorem dX7_isOpen_33 : decode cX7_isOpen 33 = .ok (.iinc 2 1, 3) := by decide +kernel
theorem dX7_isOpen_36 : decode cX7_isOpen 36 = .ok (.goto (-32), 3) := by decide +kernel
theorem dX7_isOpen_39 : decode cX7_isOpen 39 = .ok (.iload_n 1, 1) := by decide +kernel
theorem dX7_isOpen_40 : decode cX7_isOpen 40 = .ok (.ireturn, 1) := by decide +kernel
theorem dX7_formulaRead_0 : decode cX7_formulaRead 0 = .ok (.aload_n 0, 1) := by decide +kernel
theorem dX7_formulaRead_1 : decode cX7_formulaRead 1 = .ok (.iconst 0, 1) := by decide +kernel
theorem dX7_formulaRead_2 : decode cX7_formulaRead 2 = .ok (.putfield 91, 3) := by decide +kernel
theorem dX7_formulaRead_5 : decode cX7_formulaRead 5 = .ok (.aload_n 0, 1) := by decide +kernel
theorem dX7_formulaRead_6 : decode cX7_formulaRead 6 = .ok (.iconst 0, 1) := by decide +kernel
theorem dX7_formulaRead_7 : decode cX7_formulaRead 7 = .ok (.putfield 101, 3) := by decide +kernel
theorem dX7_formulaRead_10 : decode cX7_formulaRead 10 = .ok (.aload_n 0, 1) := by decide +kernel
theorem dX7_formulaRead_11 : decode cX7_formulaRead 11 = .ok (.iconst 0, 1) := by decide +kernel
theorem dX7_formulaRead_12 : decode cX7_formulaRead 12 = .ok (.putfield 115, 3) := by decide +kernel
theorem dX7_formulaRead_15 : decode cX7_formulaRead 15 = .ok (.aload_n 0, 1) := by decide +kernel
theorem dX7_formulaRead_16 : decode cX7_formulaRead 16 = .ok (.iconst 0, 1) := by decide +kernel
theorem dX7_formulaRead_17 : decode cX7_formulaRead 17 = .ok (.putfield 94, 3) := by decide +kernel
theorem dX7_formulaRead_20 : decode cX7_formulaRead 20 = .ok (.aload_n 0, 1) := by decide +kernel
theorem dX7_formulaRead_21 : decode cX7_formulaRead 21 = .ok (.iconst 0, 1) := by decide +kernel
theorem dX7_formulaRead_22 : decode cX7_formulaRead 22 = .ok (.putfield 108, 3) := by decide +kernel
theorem dX7_formulaRead_25 : decode cX7_formulaRead 25 = .ok (.iconst 1, 1) := by decide +kernel
theorem dX7_formulaRead_26 : decode cX7_formulaRead 26 = .ok (.istore_n 1, 1) := by decide +kernel
theorem dX7_formulaRead_27 : decode cX7_formulaRead 27 = .ok (.aload_n 0, 1) := by decide +kernel
theorem dX7_formulaRead_28 : decode cX7_formulaRead 28 = .ok (.invokevirtual 118, 3) := by decide +kernel
theorem dX7_formulaRead_31 : decode cX7_formulaRead 31 = .ok (.istore_n 2, 1) := by decide +kernel
theorem dX7_formulaRead_32 : decode cX7_formulaRead 32 = .ok (.iload_n 1, 1) := by decide +kernel
theorem dX7_formulaRead_33 : decode cX7_formulaRead 33 = .ok (.ifCond .eq 40, 3) := by decide +kernel
theorem dX7_formulaRead_36 : decode cX7_formulaRead 36 = .ok (.aload_n 0, 1) := by decide +kernel
theorem dX7_formulaRead_37 : decode cX7_formulaRead 37 = .ok (.invokevirtual 134, 3) := by decide +kernel
theorem dX7_formulaRead_40 : decode cX7_formulaRead 40 = .ok (.ifCond .ne 5, 3) := by decide +kernel
theorem dX7_formulaRead_43 : decode cX7_formulaRead 43 = .ok (.iconst 0, 1) := by decide +kernel
theorem dX7_formulaRead_44 : decode cX7_formulaRead 44 = .ok (.ireturn, 1) := by decide +kernel
theorem dX7_formulaRead_45 : decode cX7_formulaRead 45 = .ok (.aload_n 0, 1) := by decide +kernel
theorem dX7_formulaRead_46 : decode cX7_formulaRead 46 = .ok (.getfield 126, 3) := by decide +kernel
theorem dX7_formulaRead_49 : decode cX7_formulaRead 49 = .ok (.ifCond .ne 7, 3) := by decide +kernel
theorem dX7_formulaRead_52 : decode cX7_formulaRead 52 = .ok (.iconst 1, 1) := by decide +kernel
theorem dX7_formulaRead_53 : decode cX7_formulaRead 53 = .ok (.goto 4, 3) := by decide +kernel
theorem dX7_formulaRead_56 : decode cX7_formulaRead 56 = .ok (.iconst 0, 1) := by decide +kernel
theorem dX7_formulaRead_57 : decode cX7_formulaRead 57 = .ok (.istore_n 1, 1) := by decide +kernel
theorem dX7_formulaRead_58 : decode cX7_formulaRead 58 = .ok (.aload_n 0, 1) := by decide +kernel
theorem dX7_formulaRead_59 : decode cX7_formulaRead 59 = .ok (.getfield 126, 3) := by decide +kernel
theorem dX7_formulaRead_62 : decode cX7_formulaRead 62 = .ok (.ifCond .eq 201, 3) := by decide +kernel
theorem dX7_formulaRead_65 : decode cX7_formulaRead 65 = .ok (.aload_n 0, 1) := by decide +kernel
theorem dX7_formulaRead_66 : decode cX7_formulaRead 66 = .ok (.iconst 3, 1) := by decide +kernel
theorem dX7_formulaRead_67 : decode cX7_formulaRead 67 = .ok (.invokevirtual 137, 3) := by decide +kernel
theorem dX7_formulaRead_70 : decode cX7_formulaRead 70 = .ok (.goto 193, 3) := by decide +kernel
theorem dX7_formulaRead_73 : decode cX7_formulaRead 73 = .ok (.iload_n 2, 1) := by decide +kernel
theorem dX7_formulaRead_74 : decode cX7_formulaRead 74 = .ok (.bipush 41, 2) := by decide +kernel
theorem dX7_formulaRead_76 : decode cX7_formulaRead 76 = .ok (.if_icmp .ne 53, 3) := by decide +kernel
theorem dX7_formulaRead_79 : decode cX7_formulaRead 79 = .ok (.aload_n 0, 1) := by decide +kernel
theorem dX7_formulaRead_80 : decode cX7_formulaRead 80 = .ok (.invokevirtual 140, 3) := by decide +kernel
theorem dX7_formulaRead_83 : decode cX7_formulaRead 83 = .ok (.ifCond .eq 46, 3) := by decide +kernel
theorem dX7_formulaRead_86 : decode cX7_formulaRead 86 = .ok (.aload_n 0, 1) := by decide +kernel
theorem dX7_formulaRead_87 : decode cX7_formulaRead 87 = .ok (.iconst 1, 1) := by decide +kernel
theorem dX7_formulaRead_88 : decode cX7_formulaRead 88 = .ok (.invokevirtual 137, 3) := by decide +kernel
theorem dX7_formulaRead_91 : decode cX7_formulaRead 91 = .ok (.aload_n 0, 1) := by decide +kernel
theorem dX7_formulaRead_92 : decode cX7_formulaRead 92 = .ok (.dup, 1) := by decide +kernel
theorem dX7_formulaRead_93 : decode cX7_formulaRead 93 = .ok (.getfield 108, 3) := by decide +kernel
theorem dX7_formulaRead_96 : decode cX7_formulaRead 96 = .ok (.iconst 1, 1) := by decide +kernel
theorem dX7_formulaRead_97 : decode cX7_formulaRead 97 = .ok (.isub, 1) := by decide +kernel
theorem dX7_formulaRead_98 : decode cX7_formulaRead 98 = .ok (.putfield 108, 3) := by decide +kernel
theorem dX7_formulaRead_101 : decode cX7_formulaRead 101 = .ok (.aload_n 0, 1) := by decide +kernel
theorem dX7_formulaRead_102 : decode cX7_formulaRead 102 = .ok (.dup, 1) := by decide +kernel
theorem dX7_formulaRead_103 : decode cX7_formulaRead 103 = .ok (.getfield 115, 3) := by decide +kernel
theorem dX7_formulaRead_106 : decode cX7_formulaRead 106 = .ok (.iconst 1, 1) := by decide +kernel
theorem dX7_formulaRead_107 : decode cX7_formulaRead 107 = .ok (.isub, 1) := by decide +kernel
theorem dX7_formulaRead_108 : decode cX7_formulaRead 108 = .ok (.putfield 115, 3) := by decide +kernel
theorem dX7_formulaRead_111 : decode cX7_formulaRead 111 = .ok (.aload_n 0, 1) := by decide +kernel
theorem dX7_formulaRead_112 : decode cX7_formulaRead 112 = .ok (.dup, 1) := by decide +kernel
theorem dX7_formulaRead_113 : decode cX7_formulaRead 113 = .ok (.getfield 84, 3) := by decide +kernel
theorem dX7_formulaRead_116 : decode cX7_formulaRead 116 = .ok (.iconst 1, 1) := by decide +kernel
theorem dX7_formulaRead_117 : decode cX7_formulaRead 117 = .ok (.iadd, 1) := by decide +kernel
theorem dX7_formulaRead_118 : decode cX7_formulaRead 118 = .ok (.putfield 84, 3) := by decide +kernel
theorem dX7_formulaRead_121 : decode cX7_formulaRead 121 = .ok (.aload_n 0, 1) := by decide +kernel
theorem dX7_formulaRead_122 : decode cX7_formulaRead 122 = .ok (.iconst 3, 1) := by decide +kernel
theorem dX7_formulaRead_123 : decode cX7_formulaRead 123 = .ok (.invokevirtual 137, 3) := by decide +kernel
theorem dX7_formulaRead_126 : decode cX7_formulaRead 126 = .ok (.goto 137, 3) := by decide +kernel
theorem dX7_formulaRead_129 : decode cX7_formulaRead 129 = .ok (.iload_n 2, 1) := by decide +kernel
theorem dX7_formulaRead_130 : decode cX7_formulaRead 130 = .ok (.bipush 43, 2) := by decide +kernel
theorem dX7_formulaRead_132 : decode cX7_formulaRead 132 = .ok (.if_icmp .eq 15, 3) := by decide +kernel
theorem dX7_formulaRead_135 : decode cX7_formulaRead 135 = .ok (.iload_n 2, 1) := by decide +kernel
theorem dX7_formulaRead_136 : decode cX7_formulaRead 136 = .ok (.bipush 45, 2) := by decide +kernel
theorem dX7_formulaRead_138 : decode cX7_formulaRead 138 = .ok (.if_icmp .eq 9, 3) := by decide +kernel
theorem dX7_formulaRead_141 : decode cX7_formulaRead 141 = .ok (.iload_n 2, 1) := by decide +kernel
theorem dX7_formulaRead_142 : decode cX7_formulaRead 142 = .ok (.bipush 42, 2) := by decide +kernel
theorem dX7_formulaRead_144 : decode cX7_formulaRead 144 = .ok (.if_icmp .ne 74, 3) := by decide +kernel
theorem dX7_formulaRead_147 : decode cX7_formulaRead 147 = .ok (.aload_n 0, 1) := by decide +kernel
theorem dX7_formulaRead_148 : decode cX7_formulaRead 148 = .ok (.getfield 101, 3) := by decide +kernel
theorem dX7_formulaRead_151 : decode cX7_formulaRead 151 = .ok (.bipush 30, 2) := by decide +kernel
theorem dX7_formulaRead_153 : decode cX7_formulaRead 153 = .ok (.if_icmp .ne 5, 3) := by decide +kernel
theorem dX7_formulaRead_156 : decode cX7_formulaRead 156 = .ok (.iconst 0, 1) := by decide +kernel
theorem dX7_formulaRead_157 : decode cX7_formulaRead 157 = .ok (.ireturn, 1) := by decide +kernel
theorem dX7_formulaRead_158 : decode cX7_formulaRead 158 = .ok (.aload_n 0, 1) := by decide +kernel
theorem dX7_formulaRead_159 : decode cX7_formulaRead 159 = .ok (.iload_n 2, 1) := by decide +kernel
theorem dX7_formulaRead_160 : decode cX7_formulaRead 160 = .ok (.bipush 42, 2) := by decide +kernel
theorem dX7_formulaRead_162 : decode cX7_formulaRead 162 = .ok (.if_icmp .ne 7, 3) := by decide +kernel
theorem dX7_formulaRead_165 : decode cX7_formulaRead 165 = .ok (.iconst 2, 1) := by decide +kernel
theorem dX7_formulaRead_166 : decode cX7_formulaRead 166 = .ok (.goto 4, 3) := by decide +kernel
theorem dX7_formulaRead_169 : decode cX7_formulaRead 169 = .ok (.iconst 1, 1) := by decide +kernel
theorem dX7_formulaRead_170 : decode cX7_formulaRead 170 = .ok (.invokevirtual 137, 3) := by decide +kernel
theorem dX7_formulaRead_173 : decode cX7_formulaRead 173 = .ok (.aload_n 0, 1) := by decide +kernel
theorem dX7_formulaRead_174 : decode cX7_formulaRead 174 = .ok (.getfield 25, 3) := by decide +kernel
theorem dX7_formulaRead_177 : decode cX7_formulaRead 177 = .ok (.aload_n 0, 1) := by decide +kernel
theorem dX7_formulaRead_178 : decode cX7_formulaRead 178 = .ok (.getfield 108, 3) := by decide +kernel
theorem dX7_formulaRead_181 : decode cX7_formulaRead 181 = .ok (.iload_n 2, 1) := by decide +kernel
theorem dX7_formulaRead_182 : decode cX7_formulaRead 182 = .ok (.iastore, 1) := by decide +kernel
theorem dX7_formulaRead_183 : decode cX7_formulaRead 183 = .ok (.aload_n 0, 1) := by decide +kernel
theorem dX7_formulaRead_184 : decode cX7_formulaRead 184 = .ok (.dup, 1) := by decide +kernel
theorem dX7_formulaRead_185 : decode cX7_formulaRead 185 = .ok (.getfield 108, 3) := by decide +kernel
theorem dX7_formulaRead_188 : decode cX7_formulaRead 188 = .ok (.iconst 1, 1) := by decide +kernel
theorem dX7_formulaRead_189 : decode cX7_formulaRead 189 = .ok (.iadd, 1) := by decide +kernel
theorem dX7_formulaRead_190 : decode cX7_formulaRead 190 = .ok (.putfield 108, 3) := by decide +kernel
theorem dX7_formulaRead_193 : decode cX7_formulaRead 193 = .ok (.aload_n 0, 1) := by decide +kernel
theorem dX7_formulaRead_194 : decode cX7_formulaRead 194 = .ok (.dup, 1) := by decide +kernel
theorem dX7_formulaRead_195 : decode cX7_formulaRead 195 = .ok (.getfield 101, 3) := by decide +kernel
theorem dX7_formulaRead_198 : decode cX7_formulaRead 198 = .ok (.iconst 1, 1) := by decide +kernel
theorem dX7_formulaRead_199 : decode cX7_formulaRead 199 = .ok (.iadd, 1) := by decide +kernel
theorem dX7_formulaRead_200 : decode cX7_formulaRead 200 = .ok (.putfield 101, 3) := by decide +kernel
theorem dX7_formulaRead_203 : decode cX7_formulaRead 203 = .ok (.aload_n 0, 1) := by decide +kernel
theorem dX7_formulaRead_204 : decode cX7_formulaRead 204 = .ok (.dup, 1) := by decide +kernel
theorem dX7_formulaRead_205 : decode cX7_formulaRead 205 = .ok (.getfield 84, 3) := by decide +kernel
theorem dX7_formulaRead_208 : decode cX7_formulaRead 208 = .ok (.iconst 1, 1) := by decide +kernel
theorem dX7_formulaRead_209 : decode cX7_formulaRead 209 = .ok (.iadd, 1) := by decide +kernel
theorem dX7_formulaRead_210 : decode cX7_formulaRead 210 = .ok (.putfield 84, 3) := by decide +kernel
theorem dX7_formulaRead_213 : decode cX7_formulaRead 213 = .ok (.iconst 1, 1) := by decide +kernel
theorem dX7_formulaRead_214 : decode cX7_formulaRead 214 = .ok (.istore_n 1, 1) := by decide +kernel
theorem dX7_formulaRead_215 : decode cX7_formulaRead 215 = .ok (.goto 48, 3) := by decide +kernel
theorem dX7_formulaRead_218 : decode cX7_formulaRead 218 = .ok (.aload_n 0, 1) := by decide +kernel
theorem dX7_formulaRead_219 : decode cX7_formulaRead 219 = .ok (.invokevirtual 140, 3) := by decide +kernel
theorem dX7_formulaRead_222 : decode cX7_formulaRead 222 = .ok (.ifCond .ne 7, 3) := by decide +kernel
theorem dX7_formulaRead_225 : decode cX7_formulaRead 225 = .ok (.iconst 1, 1) := by decide +kernel
theorem dX7_formulaRead_226 : decode cX7_formulaRead 226 = .ok (.goto 4, 3) := by decide +kernel
theorem dX7_formulaRead_229 : decode cX7_formulaRead 229 = .ok (.iconst 0, 1) := by decide +kernel
theorem dX7_formulaRead_230 : decode cX7_formulaRead 230 = .ok (.istore_n 3, 1) := by decide +kernel
theorem dX7_formulaRead_231 : decode cX7_formulaRead 231 = .ok (.aload_n 0, 1) := by decide +kernel
theorem dX7_formulaRead_232 : decode cX7_formulaRead 232 = .ok (.iload_n 3, 1) := by decide +kernel
theorem dX7_formulaRead_233 : decode cX7_formulaRead 233 = .ok (.ifCond .eq 7, 3) := by decide +kernel
theorem dX7_formulaRead_236 : decode cX7_formulaRead 236 = .ok (.iconst 1, 1) := by decide +kernel
theorem dX7_formulaRead_237 : decode cX7_formulaRead 237 = .ok (.goto 5, 3) := by decide +kernel
theorem dX7_formulaRead_240 : decode cX7_formulaRead 240 = .ok (.bipush 9, 2) := by decide +kernel
theorem dX7_formulaRead_242 : decode cX7_formulaRead 242 = .ok (.invokevirtual 137, 3) := by decide +kernel
theorem dX7_formulaRead_245 : decode cX7_formulaRead 245 = .ok (.aload_n 0, 1) := by decide +kernel
theorem dX7_formulaRead_246 : decode cX7_formulaRead 246 = .ok (.getfield 19, 3) := by decide +kernel
theorem dX7_formulaRead_249 : decode cX7_formulaRead 249 = .ok (.bipush 10, 2) := by decide +kernel
theorem dX7_formulaRead_251 : decode cX7_formulaRead 251 = .ok (.aload_n 0, 1) := by decide +kernel
theorem dX7_formulaRead_252 : decode cX7_formulaRead 252 = .ok (.getfield 88, 3) := by decide +kernel
theorem dX7_formulaRead_255 : decode cX7_formulaRead 255 = .ok (.iadd, 1) := by decide +kernel
theorem dX7_formulaRead_256 : decode cX7_formulaRead 256 = .ok (.aload_n 0, 1) := by decide +kernel
theorem dX7_formulaRead_257 : decode cX7_formulaRead 257 = .ok (.getfield 91, 3) := by decide +kernel
theorem dX7_formulaRead_260 : decode cX7_formulaRead 260 = .ok (.iastore, 1) := by decide +kernel
theorem dX7_formulaRead_261 : decode cX7_formulaRead 261 = .ok (.iload_n 3, 1) := by decide +kernel
theorem dX7_formulaRead_262 : decode cX7_formulaRead 262 = .ok (.ireturn, 1) := by decide +kernel
theorem dX7_formulaRead_263 : decode cX7_formulaRead 263 = .ok (.goto (-236), 3) := by decide +kernel
theorem dX7_reads_0 : decode cX7_reads 0 = .ok (.aload_n 0, 1) := by decide +kernel
theorem dX7_reads_1 : decode cX7_reads 1 = .ok (.iconst 0, 1) := by decide +kernel
theorem dX7_reads_2 : decode cX7_reads 2 = .ok (.putfield 84, 3) := by decide +kernel
theorem dX7_reads_5 : decode cX7_reads 5 = .ok (.aload_n 0, 1) := by decide +kernel
theorem dX7_reads_6 : decode cX7_reads 6 = .ok (.iconst 0, 1) := by decide +kernel
theorem dX7_reads_7 : decode cX7_reads 7 = .ok (.putfield 88, 3) := by decide +kernel
theorem dX7_reads_10 : decode cX7_reads 10 = .ok (.iconst 0, 1) := by decide +kernel
theorem dX7_reads_11 : decode cX7_reads 11 = .ok (.istore_n 1, 1) := by decide +kernel
theorem dX7_reads_12 : decode cX7_reads 12 = .ok (.iload_n 1, 1) := by decide +kernel
theorem dX7_reads_13 : decode cX7_reads 13 = .ok (.sipush 376, 3) := by decide +kernel
theorem dX7_reads_16 : decode cX7_reads 16 = .ok (.if_icmp .ge 31, 3) := by decide +kernel
theorem dX7_reads_19 : decode cX7_reads 19 = .ok (.aload_n 0, 1) := by decide +kernel
theorem dX7_reads_20 : decode cX7_reads 20 = .ok (.getfield 19, 3) := by decide +kernel
theorem dX7_reads_23 : decode cX7_reads 23 = .ok (.iload_n 1, 1) := by decide +kernel
theorem dX7_reads_24 : decode cX7_reads 24 = .ok (.iload_n 1, 1) := by decide +kernel
theorem dX7_reads_25 : decode cX7_reads 25 = .ok (.bipush 10, 2) := by decide +kernel
theorem dX7_reads_27 : decode cX7_reads 27 = .ok (.if_icmp .lt 7, 3) := by decide +kernel
theorem dX7_reads_30 : decode cX7_reads 30 = .ok (.iconst 0, 1) := by decide +kernel
theorem dX7_reads_31 : decode cX7_reads 31 = .ok (.goto 9, 3) := by decide +kernel
theorem dX7_reads_34 : decode cX7_reads 34 = .ok (.aload_n 0, 1) := by decide +kernel
theorem dX7_reads_35 : decode cX7_reads 35 = .ok (.getfield 7, 3) := by decide +kernel
theorem dX7_reads_38 : decode cX7_reads 38 = .ok (.iload_n 1, 1) := by decide +kernel
theorem dX7_reads_39 : decode cX7_reads 39 = .ok (.iaload, 1) := by decide +kernel
theorem dX7_reads_40 : decode cX7_reads 40 = .ok (.iastore, 1) := by decide +kernel
theorem dX7_reads_41 : decode cX7_reads 41 = .ok (.iinc 1 1, 3) := by decide +kernel
theorem dX7_reads_44 : decode cX7_reads 44 = .ok (.goto (-32), 3) := by decide +kernel
theorem dX7_reads_47 : decode cX7_reads 47 = .ok (.aload_n 0, 1) := by decide +kernel
theorem dX7_reads_48 : decode cX7_reads 48 = .ok (.getfield 88, 3) := by decide +kernel
theorem dX7_reads_51 : decode cX7_reads 51 = .ok (.iconst 5, 1) := by decide +kernel
theorem dX7_reads_52 : decode cX7_reads 52 = .ok (.if_icmp .ge 89, 3) := by decide +kernel
theorem dX7_reads_55 : decode cX7_reads 55 = .ok (.aload_n 0, 1) := by decide +kernel
theorem dX7_reads_56 : decode cX7_reads 56 = .ok (.invokevirtual 118, 3) := by decide +kernel
theorem dX7_reads_59 : decode cX7_reads 59 = .ok (.bipush 65, 2) := by decide +kernel
theorem dX7_reads_61 : decode cX7_reads 61 = .ok (.aload_n 0, 1) := by decide +kernel
theorem dX7_reads_62 : decode cX7_reads 62 = .ok (.getfield 88, 3) := by decide +kernel
theorem dX7_reads_65 : decode cX7_reads 65 = .ok (.iadd, 1) := by decide +kernel
theorem dX7_reads_66 : decode cX7_reads 66 = .ok (.if_icmp .ne 75, 3) := by decide +kernel
theorem dX7_reads_69 : decode cX7_reads 69 = .ok (.aload_n 0, 1) := by decide +kernel
theorem dX7_reads_70 : decode cX7_reads 70 = .ok (.dup, 1) := by decide +kernel
theorem dX7_reads_71 : decode cX7_reads 71 = .ok (.getfield 84, 3) := by decide +kernel
theorem dX7_reads_74 : decode cX7_reads 74 = .ok (.iconst 1, 1) := by decide +kernel
theorem dX7_reads_75 : decode cX7_reads 75 = .ok (.iadd, 1) := by decide +kernel
theorem dX7_reads_76 : decode cX7_reads 76 = .ok (.putfield 84, 3) := by decide +kernel
theorem dX7_reads_79 : decode cX7_reads 79 = .ok (.aload_n 0, 1) := by decide +kernel
theorem dX7_reads_80 : decode cX7_reads 80 = .ok (.invokevirtual 118, 3) := by decide +kernel
theorem dX7_reads_83 : decode cX7_reads 83 = .ok (.bipush 61, 2) := by decide +kernel
theorem dX7_reads_85 : decode cX7_reads 85 = .ok (.if_icmp .eq 5, 3) := by decide +kernel
theorem dX7_reads_88 : decode cX7_reads 88 = .ok (.iconst 0, 1) := by decide +kernel
theorem dX7_reads_89 : decode cX7_reads 89 = .ok (.ireturn, 1) := by decide +kernel
theorem dX7_reads_90 : decode cX7_reads 90 = .ok (.aload_n 0, 1) := by decide +kernel
theorem dX7_reads_91 : decode cX7_reads 91 = .ok (.dup, 1) := by decide +kernel
theorem dX7_reads_92 : decode cX7_reads 92 = .ok (.getfield 84, 3) := by decide +kernel
theorem dX7_reads_95 : decode cX7_reads 95 = .ok (.iconst 1, 1) := by decide +kernel
theorem dX7_reads_96 : decode cX7_reads 96 = .ok (.iadd, 1) := by decide +kernel
theorem dX7_reads_97 : decode cX7_reads 97 = .ok (.putfield 84, 3) := by decide +kernel
theorem dX7_reads_100 : decode cX7_reads 100 = .ok (.aload_n 0, 1) := by decide +kernel
theorem dX7_reads_101 : decode cX7_reads 101 = .ok (.invokevirtual 143, 3) := by decide +kernel
theorem dX7_reads_104 : decode cX7_reads 104 = .ok (.ifCond .eq 12, 3) := by decide +kernel
theorem dX7_reads_107 : decode cX7_reads 107 = .ok (.aload_n 0, 1) := by decide +kernel
theorem dX7_reads_108 : decode cX7_reads 108 = .ok (.invokevirtual 118, 3) := by decide +kernel
theorem dX7_reads_111 : decode cX7_reads 111 = .ok (.bipush 59, 2) := by decide +kernel
theorem dX7_reads_113 : decode cX7_reads 113 = .ok (.if_icmp .eq 5, 3) := by decide +kernel
theorem dX7_reads_116 : decode cX7_reads 116 = .ok (.iconst 0, 1) := by decide +kernel
theorem dX7_reads_117 : decode cX7_reads 117 = .ok (.ireturn, 1) := by decide +kernel
theorem dX7_reads_118 : decode cX7_reads 118 = .ok (.aload_n 0, 1) := by decide +kernel
theorem dX7_reads_119 : decode cX7_reads 119 = .ok (.dup, 1) := by decide +kernel
theorem dX7_reads_120 : decode cX7_reads 120 = .ok (.getfield 84, 3) := by decide +kernel
theorem dX7_reads_123 : decode cX7_reads 123 = .ok (.iconst 1, 1) := by decide +kernel
theorem dX7_reads_124 : decode cX7_reads 124 = .ok (.iadd, 1) := by decide +kernel
theorem dX7_reads_125 : decode cX7_reads 125 = .ok (.putfield 84, 3) := by decide +kernel
theorem dX7_reads_128 : decode cX7_reads 128 = .ok (.aload_n 0, 1) := by decide +kernel
theorem dX7_reads_129 : decode cX7_reads 129 = .ok (.dup, 1) := by decide +kernel
theorem dX7_reads_130 : decode cX7_reads 130 = .ok (.getfield 88, 3) := by decide +kernel
theorem dX7_reads_133 : decode cX7_reads 133 = .ok (.iconst 1, 1) := by decide +kernel
theorem dX7_reads_134 : decode cX7_reads 134 = .ok (.iadd, 1) := by decide +kernel
theorem dX7_reads_135 : decode cX7_reads 135 = .ok (.putfield 88, 3) := by decide +kernel
theorem dX7_reads_138 : decode cX7_reads 138 = .ok (.goto (-91), 3) := by decide +kernel
theorem dX7_reads_141 : decode cX7_reads 141 = .ok (.aload_n 0, 1) := by decide +kernel
theorem dX7_reads_142 : decode cX7_reads 142 = .ok (.invokevirtual 143, 3) := by decide +kernel
theorem dX7_reads_145 : decode cX7_reads 145 = .ok (.istore_n 1, 1) := by decide +kernel
theorem dX7_reads_146 : decode cX7_reads 146 = .ok (.aload_n 0, 1) := by decide +kernel
theorem dX7_reads_147 : decode cX7_reads 147 = .ok (.getfield 19, 3) := by decide +kernel
theorem dX7_reads_150 : decode cX7_reads 150 = .ok (.iconst 0, 1) := by decide +kernel
theorem dX7_reads_151 : decode cX7_reads 151 = .ok (.aload_n 0, 1) := by decide +kernel
theorem dX7_reads_152 : decode cX7_reads 152 = .ok (.getfield 88, 3) := by decide +kernel
theorem dX7_reads_155 : decode cX7_reads 155 = .ok (.iconst 1, 1) := by decide +kernel
theorem dX7_reads_156 : decode cX7_reads 156 = .ok (.iadd, 1) := by decide +kernel
theorem dX7_reads_157 : decode cX7_reads 157 = .ok (.iastore, 1) := by decide +kernel
theorem dX7_reads_158 : decode cX7_reads 158 = .ok (.iload_n 1, 1) := by decide +kernel
theorem dX7_reads_159 : decode cX7_reads 159 = .ok (.ifCond .eq 18, 3) := by decide +kernel
theorem dX7_reads_162 : decode cX7_reads 162 = .ok (.aload_n 0, 1) := by decide +kernel
theorem dX7_reads_163 : decode cX7_reads 163 = .ok (.getfield 84, 3) := by decide +kernel
theorem dX7_reads_166 : decode cX7_reads 166 = .ok (.aload_n 0, 1) := by decide +kernel
theorem dX7_reads_167 : decode cX7_reads 167 = .ok (.getfield 80, 3) := by decide +kernel
theorem dX7_reads_170 : decode cX7_reads 170 = .ok (.if_icmp .ne 7, 3) := by decide +kernel
theorem dX7_reads_173 : decode cX7_reads 173 = .ok (.iconst 1, 1) := by decide +kernel
theorem dX7_reads_174 : decode cX7_reads 174 = .ok (.goto 4, 3) := by decide +kernel
theorem dX7_reads_177 : decode cX7_reads 177 = .ok (.iconst 0, 1) := by decide +kernel
theorem dX7_reads_178 : decode cX7_reads 178 = .ok (.ireturn, 1) := by decide +kernel
theorem dX7_read_0 : decode cX7_read 0 = .ok (.aload_n 0, 1) := by decide +kernel
theorem dX7_read_1 : decode cX7_read 1 = .ok (.invokevirtual 146, 3) := by decide +kernel
theorem dX7_read_4 : decode cX7_read 4 = .ok (.ifCond .ne 12, 3) := by decide +kernel
theorem dX7_read_7 : decode cX7_read 7 = .ok (.sipush (-1000), 3) := by decide +kernel
theorem dX7_read_10 : decode cX7_read 10 = .ok (.aload_n 0, 1) := by decide +kernel
theorem dX7_read_11 : decode cX7_read 11 = .ok (.getfield 84, 3) := by decide +kernel
theorem dX7_read_14 : decode cX7_read 14 = .ok (.isub, 1) := by decide +kernel
theorem dX7_read_15 : decode cX7_read 15 = .ok (.ireturn, 1) := by decide +kernel
theorem dX7_read_16 : decode cX7_read 16 = .ok (.aload_n 0, 1) := by decide +kernel
theorem dX7_read_17 : decode cX7_read 17 = .ok (.invokevirtual 149, 3) := by decide +kernel
theorem dX7_read_20 : decode cX7_read 20 = .ok (.iconst 0, 1) := by decide +kernel
theorem dX7_read_21 : decode cX7_read 21 = .ok (.istore_n 1, 1) := by decide +kernel
theorem dX7_read_22 : decode cX7_read 22 = .ok (.iload_n 1, 1) := by decide +kernel
theorem dX7_read_23 : decode cX7_read 23 = .ok (.sipush 376, 3) := by decide +kernel
theorem dX7_read_26 : decode cX7_read 26 = .ok (.if_icmp .ge 21, 3) := by decide +kernel
theorem dX7_read_29 : decode cX7_read 29 = .ok (.aload_n 0, 1) := by decide +kernel
theorem dX7_read_30 : decode cX7_read 30 = .ok (.getfield 7, 3) := by decide +kernel
theorem dX7_read_33 : decode cX7_read 33 = .ok (.iload_n 1, 1) := by decide +kernel
theorem dX7_read_34 : decode cX7_read 34 = .ok (.aload_n 0, 1) := by decide +kernel
theorem dX7_read_35 : decode cX7_read 35 = .ok (.getfield 19, 3) := by decide +kernel
theorem dX7_read_38 : decode cX7_read 38 = .ok (.iload_n 1, 1) := by decide +kernel
theorem dX7_read_39 : decode cX7_read 39 = .ok (.iaload, 1) := by decide +kernel
theorem dX7_read_40 : decode cX7_read 40 = .ok (.iastore, 1) := by decide +kernel
theorem dX7_read_41 : decode cX7_read 41 = .ok (.iinc 1 1, 3) := by decide +kernel
theorem dX7_read_44 : decode cX7_read 44 = .ok (.goto (-22), 3) := by decide +kernel
theorem dX7_read_47 : decode cX7_read 47 = .ok (.aload_n 0, 1) := by decide +kernel
theorem dX7_read_48 : decode cX7_read 48 = .ok (.getfield 7, 3) := by decide +kernel
theorem dX7_read_51 : decode cX7_read 51 = .ok (.iconst 0, 1) := by decide +kernel
theorem dX7_read_52 : decode cX7_read 52 = .ok (.iaload, 1) := by decide +kernel
end
section
theorem dX7_read_53 : decode cX7_read 53 = .ok (.ireturn, 1) := by decide +kernel
theorem dX7_kindAt_0 : decode cX7_kindAt 0 = .ok (.aload_n 0, 1) := by decide +kernel
theorem dX7_kindAt_1 : decode cX7_kindAt 1 = .ok (.getfield 7, 3) := by decide +kernel
theorem dX7_kindAt_4 : decode cX7_kindAt 4 = .ok (.bipush 16, 2) := by decide +kernel
theorem dX7_kindAt_6 : decode cX7_kindAt 6 = .ok (.bipush 60, 2) := by decide +kernel
theorem dX7_kindAt_8 : decode cX7_kindAt 8 = .ok (.iload_n 1, 1) := by decide +kernel
theorem dX7_kindAt_9 : decode cX7_kindAt 9 = .ok (.imul, 1) := by decide +kernel
theorem dX7_kindAt_10 : decode cX7_kindAt 10 = .ok (.iadd, 1) := by decide +kernel
theorem dX7_kindAt_11 : decode cX7_kindAt 11 = .ok (.iconst 2, 1) := by decide +kernel
theorem dX7_kindAt_12 : decode cX7_kindAt 12 = .ok (.iload_n 2, 1) := by decide +kernel
theorem dX7_kindAt_13 : decode cX7_kindAt 13 = .ok (.imul, 1) := by decide +kernel
theorem dX7_kindAt_14 : decode cX7_kindAt 14 = .ok (.iadd, 1) := by decide +kernel
theorem dX7_kindAt_15 : decode cX7_kindAt 15 = .ok (.iaload, 1) := by decide +kernel
theorem dX7_kindAt_16 : decode cX7_kindAt 16 = .ok (.ireturn, 1) := by decide +kernel
theorem dX7_sizeAt_0 : decode cX7_sizeAt 0 = .ok (.iconst 1, 1) := by decide +kernel
theorem dX7_sizeAt_1 : decode cX7_sizeAt 1 = .ok (.istore_n 3, 1) := by decide +kernel
theorem dX7_sizeAt_2 : decode cX7_sizeAt 2 = .ok (.iload_n 2, 1) := by decide +kernel
theorem dX7_sizeAt_3 : decode cX7_sizeAt 3 = .ok (.istore 4, 2) := by decide +kernel
theorem dX7_sizeAt_5 : decode cX7_sizeAt 5 = .ok (.iload_n 3, 1) := by decide +kernel
theorem dX7_sizeAt_6 : decode cX7_sizeAt 6 = .ok (.ifCond .le 42, 3) := by decide +kernel
theorem dX7_sizeAt_9 : decode cX7_sizeAt 9 = .ok (.aload_n 0, 1) := by decide +kernel
theorem dX7_sizeAt_10 : decode cX7_sizeAt 10 = .ok (.iload_n 1, 1) := by decide +kernel
theorem dX7_sizeAt_11 : decode cX7_sizeAt 11 = .ok (.iload 4, 2) := by decide +kernel
theorem dX7_sizeAt_13 : decode cX7_sizeAt 13 = .ok (.invokevirtual 152, 3) := by decide +kernel
theorem dX7_sizeAt_16 : decode cX7_sizeAt 16 = .ok (.istore 5, 2) := by decide +kernel
theorem dX7_sizeAt_18 : decode cX7_sizeAt 18 = .ok (.iload_n 3, 1) := by decide +kernel
theorem dX7_sizeAt_19 : decode cX7_sizeAt 19 = .ok (.iload 5, 2) := by decide +kernel
theorem dX7_sizeAt_21 : decode cX7_sizeAt 21 = .ok (.iconst 3, 1) := by decide +kernel
theorem dX7_sizeAt_22 : decode cX7_sizeAt 22 = .ok (.if_icmp .ge 7, 3) := by decide +kernel
theorem dX7_sizeAt_25 : decode cX7_sizeAt 25 = .ok (.iconst (-1), 1) := by decide +kernel
theorem dX7_sizeAt_26 : decode cX7_sizeAt 26 = .ok (.goto 14, 3) := by decide +kernel
theorem dX7_sizeAt_29 : decode cX7_sizeAt 29 = .ok (.iload 5, 2) := by decide +kernel
theorem dX7_sizeAt_31 : decode cX7_sizeAt 31 = .ok (.iconst 3, 1) := by decide +kernel
theorem dX7_sizeAt_32 : decode cX7_sizeAt 32 = .ok (.if_icmp .ne 7, 3) := by decide +kernel
theorem dX7_sizeAt_35 : decode cX7_sizeAt 35 = .ok (.iconst 0, 1) := by decide +kernel
theorem dX7_sizeAt_36 : decode cX7_sizeAt 36 = .ok (.goto 4, 3) := by decide +kernel
theorem dX7_sizeAt_39 : decode cX7_sizeAt 39 = .ok (.iconst 1, 1) := by decide +kernel
theorem dX7_sizeAt_40 : decode cX7_sizeAt 40 = .ok (.iadd, 1) := by decide +kernel
theorem dX7_sizeAt_41 : decode cX7_sizeAt 41 = .ok (.istore_n 3, 1) := by decide +kernel
theorem dX7_sizeAt_42 : decode cX7_sizeAt 42 = .ok (.iinc 4 1, 3) := by decide +kernel
theorem dX7_sizeAt_45 : decode cX7_sizeAt 45 = .ok (.goto (-40), 3) := by decide +kernel
theorem dX7_sizeAt_48 : decode cX7_sizeAt 48 = .ok (.iload 4, 2) := by decide +kernel
theorem dX7_sizeAt_50 : decode cX7_sizeAt 50 = .ok (.iload_n 2, 1) := by decide +kernel
theorem dX7_sizeAt_51 : decode cX7_sizeAt 51 = .ok (.isub, 1) := by decide +kernel
theorem dX7_sizeAt_52 : decode cX7_sizeAt 52 = .ok (.ireturn, 1) := by decide +kernel
theorem dX7_isFormula_0 : decode cX7_isFormula 0 = .ok (.iload_n 1, 1) := by decide +kernel
theorem dX7_isFormula_1 : decode cX7_isFormula 1 = .ok (.ifCond .lt 17, 3) := by decide +kernel
theorem dX7_isFormula_4 : decode cX7_isFormula 4 = .ok (.iload_n 1, 1) := by decide +kernel
theorem dX7_isFormula_5 : decode cX7_isFormula 5 = .ok (.aload_n 0, 1) := by decide +kernel
theorem dX7_isFormula_6 : decode cX7_isFormula 6 = .ok (.getfield 7, 3) := by decide +kernel
theorem dX7_isFormula_9 : decode cX7_isFormula 9 = .ok (.iconst 0, 1) := by decide +kernel
theorem dX7_isFormula_10 : decode cX7_isFormula 10 = .ok (.iaload, 1) := by decide +kernel
theorem dX7_isFormula_11 : decode cX7_isFormula 11 = .ok (.if_icmp .ge 7, 3) := by decide +kernel
theorem dX7_isFormula_14 : decode cX7_isFormula 14 = .ok (.iconst 1, 1) := by decide +kernel
theorem dX7_isFormula_15 : decode cX7_isFormula 15 = .ok (.goto 4, 3) := by decide +kernel
theorem dX7_isFormula_18 : decode cX7_isFormula 18 = .ok (.iconst 0, 1) := by decide +kernel
theorem dX7_isFormula_19 : decode cX7_isFormula 19 = .ok (.ireturn, 1) := by decide +kernel
theorem dX7_turn_0 : decode cX7_turn 0 = .ok (.aload_n 0, 1) := by decide +kernel
theorem dX7_turn_1 : decode cX7_turn 1 = .ok (.iload_n 1, 1) := by decide +kernel
theorem dX7_turn_2 : decode cX7_turn 2 = .ok (.invokevirtual 156, 3) := by decide +kernel
theorem dX7_turn_5 : decode cX7_turn 5 = .ok (.ifCond .eq 22, 3) := by decide +kernel
theorem dX7_turn_8 : decode cX7_turn 8 = .ok (.iload_n 2, 1) := by decide +kernel
theorem dX7_turn_9 : decode cX7_turn 9 = .ok (.iconst 0, 1) := by decide +kernel
theorem dX7_turn_10 : decode cX7_turn 10 = .ok (.aload_n 0, 1) := by decide +kernel
theorem dX7_turn_11 : decode cX7_turn 11 = .ok (.getfield 7, 3) := by decide +kernel
theorem dX7_turn_14 : decode cX7_turn 14 = .ok (.bipush 10, 2) := by decide +kernel
theorem dX7_turn_16 : decode cX7_turn 16 = .ok (.iload_n 1, 1) := by decide +kernel
theorem dX7_turn_17 : decode cX7_turn 17 = .ok (.iadd, 1) := by decide +kernel
theorem dX7_turn_18 : decode cX7_turn 18 = .ok (.iaload, 1) := by decide +kernel
theorem dX7_turn_19 : decode cX7_turn 19 = .ok (.iconst 1, 1) := by decide +kernel
theorem dX7_turn_20 : decode cX7_turn 20 = .ok (.isub, 1) := by decide +kernel
theorem dX7_turn_21 : decode cX7_turn 21 = .ok (.invokestatic 75, 3) := by decide +kernel
theorem dX7_turn_24 : decode cX7_turn 24 = .ok (.ifCond .ne 6, 3) := by decide +kernel
theorem dX7_turn_27 : decode cX7_turn 27 = .ok (.ldc 79, 2) := by decide +kernel
theorem dX7_turn_29 : decode cX7_turn 29 = .ok (.ireturn, 1) := by decide +kernel
theorem dX7_turn_30 : decode cX7_turn 30 = .ok (.aload_n 0, 1) := by decide +kernel
theorem dX7_turn_31 : decode cX7_turn 31 = .ok (.iload_n 1, 1) := by decide +kernel
theorem dX7_turn_32 : decode cX7_turn 32 = .ok (.iload_n 2, 1) := by decide +kernel
theorem dX7_turn_33 : decode cX7_turn 33 = .ok (.invokevirtual 152, 3) := by decide +kernel
theorem dX7_turn_36 : decode cX7_turn 36 = .ok (.istore_n 3, 1) := by decide +kernel
theorem dX7_turn_37 : decode cX7_turn 37 = .ok (.iload_n 3, 1) := by decide +kernel
theorem dX7_turn_38 : decode cX7_turn 38 = .ok (.iconst 4, 1) := by decide +kernel
theorem dX7_turn_39 : decode cX7_turn 39 = .ok (.if_icmp .eq 12, 3) := by decide +kernel
theorem dX7_turn_42 : decode cX7_turn 42 = .ok (.iload_n 3, 1) := by decide +kernel
theorem dX7_turn_43 : decode cX7_turn 43 = .ok (.bipush 6, 2) := by decide +kernel
theorem dX7_turn_45 : decode cX7_turn 45 = .ok (.if_icmp .eq 6, 3) := by decide +kernel
theorem dX7_turn_48 : decode cX7_turn 48 = .ok (.ldc 160, 2) := by decide +kernel
theorem dX7_turn_50 : decode cX7_turn 50 = .ok (.ireturn, 1) := by decide +kernel
theorem dX7_turn_51 : decode cX7_turn 51 = .ok (.aload_n 0, 1) := by decide +kernel
theorem dX7_turn_52 : decode cX7_turn 52 = .ok (.invokevirtual 149, 3) := by decide +kernel
theorem dX7_turn_55 : decode cX7_turn 55 = .ok (.bipush 16, 2) := by decide +kernel
theorem dX7_turn_57 : decode cX7_turn 57 = .ok (.bipush 60, 2) := by decide +kernel
theorem dX7_turn_59 : decode cX7_turn 59 = .ok (.iload_n 1, 1) := by decide +kernel
theorem dX7_turn_60 : decode cX7_turn 60 = .ok (.imul, 1) := by decide +kernel
theorem dX7_turn_61 : decode cX7_turn 61 = .ok (.iadd, 1) := by decide +kernel
theorem dX7_turn_62 : decode cX7_turn 62 = .ok (.istore 4, 2) := by decide +kernel
theorem dX7_turn_64 : decode cX7_turn 64 = .ok (.aload_n 0, 1) := by decide +kernel
theorem dX7_turn_65 : decode cX7_turn 65 = .ok (.iload_n 1, 1) := by decide +kernel
theorem dX7_turn_66 : decode cX7_turn 66 = .ok (.iload_n 2, 1) := by decide +kernel
theorem dX7_turn_67 : decode cX7_turn 67 = .ok (.iconst 1, 1) := by decide +kernel
theorem dX7_turn_68 : decode cX7_turn 68 = .ok (.iadd, 1) := by decide +kernel
theorem dX7_turn_69 : decode cX7_turn 69 = .ok (.invokevirtual 161, 3) := by decide +kernel
theorem dX7_turn_72 : decode cX7_turn 72 = .ok (.istore 5, 2) := by decide +kernel
theorem dX7_turn_74 : decode cX7_turn 74 = .ok (.aload_n 0, 1) := by decide +kernel
theorem dX7_turn_75 : decode cX7_turn 75 = .ok (.iload_n 1, 1) := by decide +kernel
theorem dX7_turn_76 : decode cX7_turn 76 = .ok (.iload_n 2, 1) := by decide +kernel
theorem dX7_turn_77 : decode cX7_turn 77 = .ok (.iconst 1, 1) := by decide +kernel
theorem dX7_turn_78 : decode cX7_turn 78 = .ok (.iadd, 1) := by decide +kernel
theorem dX7_turn_79 : decode cX7_turn 79 = .ok (.iload 5, 2) := by decide +kernel
theorem dX7_turn_81 : decode cX7_turn 81 = .ok (.iadd, 1) := by decide +kernel
theorem dX7_turn_82 : decode cX7_turn 82 = .ok (.invokevirtual 161, 3) := by decide +kernel
theorem dX7_turn_85 : decode cX7_turn 85 = .ok (.istore 6, 2) := by decide +kernel
theorem dX7_turn_87 : decode cX7_turn 87 = .ok (.iconst 0, 1) := by decide +kernel
theorem dX7_turn_88 : decode cX7_turn 88 = .ok (.istore 7, 2) := by decide +kernel
theorem dX7_turn_90 : decode cX7_turn 90 = .ok (.iload 7, 2) := by decide +kernel
theorem dX7_turn_92 : decode cX7_turn 92 = .ok (.iconst 2, 1) := by decide +kernel
theorem dX7_turn_93 : decode cX7_turn 93 = .ok (.iload 5, 2) := by decide +kernel
theorem dX7_turn_95 : decode cX7_turn 95 = .ok (.iload 6, 2) := by decide +kernel
theorem dX7_turn_97 : decode cX7_turn 97 = .ok (.iadd, 1) := by decide +kernel
theorem dX7_turn_98 : decode cX7_turn 98 = .ok (.imul, 1) := by decide +kernel
theorem dX7_turn_99 : decode cX7_turn 99 = .ok (.if_icmp .ge 56, 3) := by decide +kernel
theorem dX7_turn_102 : decode cX7_turn 102 = .ok (.aload_n 0, 1) := by decide +kernel
theorem dX7_turn_103 : decode cX7_turn 103 = .ok (.getfield 28, 3) := by decide +kernel
theorem dX7_turn_106 : decode cX7_turn 106 = .ok (.iload 7, 2) := by decide +kernel
theorem dX7_turn_108 : decode cX7_turn 108 = .ok (.aload_n 0, 1) := by decide +kernel
theorem dX7_turn_109 : decode cX7_turn 109 = .ok (.getfield 7, 3) := by decide +kernel
theorem dX7_turn_112 : decode cX7_turn 112 = .ok (.iload 4, 2) := by decide +kernel
theorem dX7_turn_114 : decode cX7_turn 114 = .ok (.iconst 2, 1) := by decide +kernel
theorem dX7_turn_115 : decode cX7_turn 115 = .ok (.iload_n 2, 1) := by decide +kernel
theorem dX7_turn_116 : decode cX7_turn 116 = .ok (.imul, 1) := by decide +kernel
theorem dX7_turn_117 : decode cX7_turn 117 = .ok (.iadd, 1) := by decide +kernel
theorem dX7_turn_118 : decode cX7_turn 118 = .ok (.iconst 2, 1) := by decide +kernel
theorem dX7_turn_119 : decode cX7_turn 119 = .ok (.iadd, 1) := by decide +kernel
theorem dX7_turn_120 : decode cX7_turn 120 = .ok (.iload 7, 2) := by decide +kernel
theorem dX7_turn_122 : decode cX7_turn 122 = .ok (.iconst 2, 1) := by decide +kernel
theorem dX7_turn_123 : decode cX7_turn 123 = .ok (.iload 6, 2) := by decide +kernel
theorem dX7_turn_125 : decode cX7_turn 125 = .ok (.imul, 1) := by decide +kernel
theorem dX7_turn_126 : decode cX7_turn 126 = .ok (.if_icmp .ge 13, 3) := by decide +kernel
theorem dX7_turn_129 : decode cX7_turn 129 = .ok (.iconst 2, 1) := by decide +kernel
theorem dX7_turn_130 : decode cX7_turn 130 = .ok (.iload 5, 2) := by decide +kernel
theorem dX7_turn_132 : decode cX7_turn 132 = .ok (.imul, 1) := by decide +kernel
theorem dX7_turn_133 : decode cX7_turn 133 = .ok (.iload 7, 2) := by decide +kernel
theorem dX7_turn_135 : decode cX7_turn 135 = .ok (.iadd, 1) := by decide +kernel
theorem dX7_turn_136 : decode cX7_turn 136 = .ok (.goto 10, 3) := by decide +kernel
theorem dX7_turn_139 : decode cX7_turn 139 = .ok (.iload 7, 2) := by decide +kernel
theorem dX7_turn_141 : decode cX7_turn 141 = .ok (.iconst 2, 1) := by decide +kernel
theorem dX7_turn_142 : decode cX7_turn 142 = .ok (.iload 6, 2) := by decide +kernel
theorem dX7_turn_144 : decode cX7_turn 144 = .ok (.imul, 1) := by decide +kernel
theorem dX7_turn_145 : decode cX7_turn 145 = .ok (.isub, 1) := by decide +kernel
theorem dX7_turn_146 : decode cX7_turn 146 = .ok (.iadd, 1) := by decide +kernel
theorem dX7_turn_147 : decode cX7_turn 147 = .ok (.iaload, 1) := by decide +kernel
theorem dX7_turn_148 : decode cX7_turn 148 = .ok (.iastore, 1) := by decide +kernel
theorem dX7_turn_149 : decode cX7_turn 149 = .ok (.iinc 7 1, 3) := by decide +kernel
theorem dX7_turn_152 : decode cX7_turn 152 = .ok (.goto (-62), 3) := by decide +kernel
theorem dX7_turn_155 : decode cX7_turn 155 = .ok (.iconst 0, 1) := by decide +kernel
theorem dX7_turn_156 : decode cX7_turn 156 = .ok (.istore 7, 2) := by decide +kernel
theorem dX7_turn_158 : decode cX7_turn 158 = .ok (.iload 7, 2) := by decide +kernel
theorem dX7_turn_160 : decode cX7_turn 160 = .ok (.iconst 2, 1) := by decide +kernel
theorem dX7_turn_161 : decode cX7_turn 161 = .ok (.iload 5, 2) := by decide +kernel
theorem dX7_turn_163 : decode cX7_turn 163 = .ok (.iload 6, 2) := by decide +kernel
theorem dX7_turn_165 : decode cX7_turn 165 = .ok (.iadd, 1) := by decide +kernel
theorem dX7_turn_166 : decode cX7_turn 166 = .ok (.imul, 1) := by decide +kernel
theorem dX7_turn_167 : decode cX7_turn 167 = .ok (.if_icmp .ge 32, 3) := by decide +kernel
theorem dX7_turn_170 : decode cX7_turn 170 = .ok (.aload_n 0, 1) := by decide +kernel
theorem dX7_turn_171 : decode cX7_turn 171 = .ok (.getfield 7, 3) := by decide +kernel
theorem dX7_turn_174 : decode cX7_turn 174 = .ok (.iload 4, 2) := by decide +kernel
theorem dX7_turn_176 : decode cX7_turn 176 = .ok (.iconst 2, 1) := by decide +kernel
theorem dX7_turn_177 : decode cX7_turn 177 = .ok (.iload_n 2, 1) := by decide +kernel
theorem dX7_turn_178 : decode cX7_turn 178 = .ok (.imul, 1) := by decide +kernel
theorem dX7_turn_179 : decode cX7_turn 179 = .ok (.iadd, 1) := by decide +kernel
theorem dX7_turn_180 : decode cX7_turn 180 = .ok (.iconst 2, 1) := by decide +kernel
theorem dX7_turn_181 : decode cX7_turn 181 = .ok (.iadd, 1) := by decide +kernel
theorem dX7_turn_182 : decode cX7_turn 182 = .ok (.iload 7, 2) := by decide +kernel
theorem dX7_turn_184 : decode cX7_turn 184 = .ok (.iadd, 1) := by decide +kernel
theorem dX7_turn_185 : decode cX7_turn 185 = .ok (.aload_n 0, 1) := by decide +kernel
theorem dX7_turn_186 : decode cX7_turn 186 = .ok (.getfield 28, 3) := by decide +kernel
theorem dX7_turn_189 : decode cX7_turn 189 = .ok (.iload 7, 2) := by decide +kernel
theorem dX7_turn_191 : decode cX7_turn 191 = .ok (.iaload, 1) := by decide +kernel
theorem dX7_turn_192 : decode cX7_turn 192 = .ok (.iastore, 1) := by decide +kernel
theorem dX7_turn_193 : decode cX7_turn 193 = .ok (.iinc 7 1, 3) := by decide +kernel
theorem dX7_turn_196 : decode cX7_turn 196 = .ok (.goto (-38), 3) := by decide +kernel
theorem dX7_turn_199 : decode cX7_turn 199 = .ok (.aload_n 0, 1) := by decide +kernel
theorem dX7_turn_200 : decode cX7_turn 200 = .ok (.invokevirtual 164, 3) := by decide +kernel
theorem dX7_turn_203 : decode cX7_turn 203 = .ok (.aload_n 0, 1) := by decide +kernel
theorem dX7_turn_204 : decode cX7_turn 204 = .ok (.getfield 40, 3) := by decide +kernel
theorem dX7_turn_207 : decode cX7_turn 207 = .ok (.bipush 90, 2) := by decide +kernel
theorem dX7_turn_209 : decode cX7_turn 209 = .ok (.iload_n 1, 1) := by decide +kernel
theorem dX7_turn_210 : decode cX7_turn 210 = .ok (.imul, 1) := by decide +kernel
theorem dX7_turn_211 : decode cX7_turn 211 = .ok (.iaload, 1) := by decide +kernel
theorem dX7_turn_212 : decode cX7_turn 212 = .ok (.ireturn, 1) := by decide +kernel
theorem dX7_isCell_0 : decode cX7_isCell 0 = .ok (.iload_n 0, 1) := by decide +kernel
theorem dX7_isCell_1 : decode cX7_isCell 1 = .ok (.iconst 0, 1) := by decide +kernel
theorem dX7_isCell_2 : decode cX7_isCell 2 = .ok (.bipush 7, 2) := by decide +kernel
theorem dX7_isCell_4 : decode cX7_isCell 4 = .ok (.invokestatic 75, 3) := by decide +kernel
theorem dX7_isCell_7 : decode cX7_isCell 7 = .ok (.ireturn, 1) := by decide +kernel
theorem dX7_setCell_0 : decode cX7_setCell 0 = .ok (.iload_n 1, 1) := by decide +kernel
theorem dX7_setCell_1 : decode cX7_setCell 1 = .ok (.invokestatic 167, 3) := by decide +kernel
theorem dX7_setCell_4 : decode cX7_setCell 4 = .ok (.ifCond .eq 16, 3) := by decide +kernel
theorem dX7_setCell_7 : decode cX7_setCell 7 = .ok (.iload_n 2, 1) := by decide +kernel
theorem dX7_setCell_8 : decode cX7_setCell 8 = .ok (.sipush (-999), 3) := by decide +kernel
theorem dX7_setCell_11 : decode cX7_setCell 11 = .ok (.sipush 999, 3) := by decide +kernel
theorem dX7_setCell_14 : decode cX7_setCell 14 = .ok (.invokestatic 75, 3) := by decide +kernel
theorem dX7_setCell_17 : decode cX7_setCell 17 = .ok (.ifCond .ne 6, 3) := by decide +kernel
theorem dX7_setCell_20 : decode cX7_setCell 20 = .ok (.ldc 79, 2) := by decide +kernel
theorem dX7_setCell_22 : decode cX7_setCell 22 = .ok (.ireturn, 1) := by decide +kernel
theorem dX7_setCell_23 : decode cX7_setCell 23 = .ok (.aload_n 0, 1) := by decide +kernel
theorem dX7_setCell_24 : decode cX7_setCell 24 = .ok (.invokevirtual 149, 3) := by decide +kernel
theorem dX7_setCell_27 : decode cX7_setCell 27 = .ok (.aload_n 0, 1) := by decide +kernel
theorem dX7_setCell_28 : decode cX7_setCell 28 = .ok (.getfield 7, 3) := by decide +kernel
theorem dX7_setCell_31 : decode cX7_setCell 31 = .ok (.iconst 2, 1) := by decide +kernel
theorem dX7_setCell_32 : decode cX7_setCell 32 = .ok (.iload_n 1, 1) := by decide +kernel
theorem dX7_setCell_33 : decode cX7_setCell 33 = .ok (.iadd, 1) := by decide +kernel
theorem dX7_setCell_34 : decode cX7_setCell 34 = .ok (.iaload, 1) := by decide +kernel
theorem dX7_setCell_35 : decode cX7_setCell 35 = .ok (.istore_n 3, 1) := by decide +kernel
theorem dX7_setCell_36 : decode cX7_setCell 36 = .ok (.aload_n 0, 1) := by decide +kernel
theorem dX7_setCell_37 : decode cX7_setCell 37 = .ok (.getfield 7, 3) := by decide +kernel
theorem dX7_setCell_40 : decode cX7_setCell 40 = .ok (.iconst 2, 1) := by decide +kernel
theorem dX7_setCell_41 : decode cX7_setCell 41 = .ok (.iload_n 1, 1) := by decide +kernel
theorem dX7_setCell_42 : decode cX7_setCell 42 = .ok (.iadd, 1) := by decide +kernel
theorem dX7_setCell_43 : decode cX7_setCell 43 = .ok (.iload_n 2, 1) := by decide +kernel
theorem dX7_setCell_44 : decode cX7_setCell 44 = .ok (.iastore, 1) := by decide +kernel
theorem dX7_setCell_45 : decode cX7_setCell 45 = .ok (.iload_n 3, 1) := by decide +kernel
theorem dX7_setCell_46 : decode cX7_setCell 46 = .ok (.ireturn, 1) := by decide +kernel
theorem dX7_setPlaces_0 : decode cX7_setPlaces 0 = .ok (.iload_n 1, 1) := by decide +kernel
theorem dX7_setPlaces_1 : decode cX7_setPlaces 1 = .ok (.iconst 2, 1) := by decide +kernel
theorem dX7_setPlaces_2 : decode cX7_setPlaces 2 = .ok (.bipush 8, 2) := by decide +kernel
theorem dX7_setPlaces_4 : decode cX7_setPlaces 4 = .ok (.invokestatic 75, 3) := by decide +kernel
theorem dX7_setPlaces_7 : decode cX7_setPlaces 7 = .ok (.ifCond .ne 6, 3) := by decide +kernel
theorem dX7_setPlaces_10 : decode cX7_setPlaces 10 = .ok (.ldc 79, 2) := by decide +kernel
theorem dX7_setPlaces_12 : decode cX7_setPlaces 12 = .ok (.ireturn, 1) := by decide +kernel
theorem dX7_setPlaces_13 : decode cX7_setPlaces 13 = .ok (.aload_n 0, 1) := by decide +kernel
theorem dX7_setPlaces_14 : decode cX7_setPlaces 14 = .ok (.invokevirtual 149, 3) := by decide +kernel
theorem dX7_setPlaces_17 : decode cX7_setPlaces 17 = .ok (.aload_n 0, 1) := by decide +kernel
theorem dX7_setPlaces_18 : decode cX7_setPlaces 18 = .ok (.getfield 7, 3) := by decide +kernel
theorem dX7_setPlaces_21 : decode cX7_setPlaces 21 = .ok (.iconst 1, 1) := by decide +kernel
theorem dX7_setPlaces_22 : decode cX7_setPlaces 22 = .ok (.iaload, 1) := by decide +kernel
theorem dX7_setPlaces_23 : decode cX7_setPlaces 23 = .ok (.istore_n 2, 1) := by decide +kernel
theorem dX7_setPlaces_24 : decode cX7_setPlaces 24 = .ok (.aload_n 0, 1) := by decide +kernel
theorem dX7_setPlaces_25 : decode cX7_setPlaces 25 = .ok (.getfield 7, 3) := by decide +kernel
theorem dX7_setPlaces_28 : decode cX7_setPlaces 28 = .ok (.iconst 1, 1) := by decide +kernel
theorem dX7_setPlaces_29 : decode cX7_setPlaces 29 = .ok (.iload_n 1, 1) := by decide +kernel
theorem dX7_setPlaces_30 : decode cX7_setPlaces 30 = .ok (.iastore, 1) := by decide +kernel
theorem dX7_setPlaces_31 : decode cX7_setPlaces 31 = .ok (.iload_n 2, 1) := by decide +kernel
theorem dX7_setPlaces_32 : decode cX7_setPlaces 32 = .ok (.ireturn, 1) := by decide +kernel
theorem dX7_undo_0 : decode cX7_undo 0 = .ok (.aload_n 0, 1) := by decide +kernel
theorem dX7_undo_1 : decode cX7_undo 1 = .ok (.getfield 71, 3) := by decide +kernel
theorem dX7_undo_4 : decode cX7_undo 4 = .ok (.ifCond .ne 6, 3) := by decide +kernel
theorem dX7_undo_7 : decode cX7_undo 7 = .ok (.ldc 160, 2) := by decide +kernel
theorem dX7_undo_9 : decode cX7_undo 9 = .ok (.ireturn, 1) := by decide +kernel
theorem dX7_undo_10 : decode cX7_undo 10 = .ok (.aload_n 0, 1) := by decide +kernel
theorem dX7_undo_11 : decode cX7_undo 11 = .ok (.dup, 1) := by decide +kernel
theorem dX7_undo_12 : decode cX7_undo 12 = .ok (.getfield 71, 3) := by decide +kernel
theorem dX7_undo_15 : decode cX7_undo 15 = .ok (.iconst 1, 1) := by decide +kernel
theorem dX7_undo_16 : decode cX7_undo 16 = .ok (.isub, 1) := by decide +kernel
theorem dX7_undo_17 : decode cX7_undo 17 = .ok (.putfield 71, 3) := by decide +kernel
theorem dX7_undo_20 : decode cX7_undo 20 = .ok (.iconst 0, 1) := by decide +kernel
theorem dX7_undo_21 : decode cX7_undo 21 = .ok (.istore_n 1, 1) := by decide +kernel
theorem dX7_undo_22 : decode cX7_undo 22 = .ok (.iload_n 1, 1) := by decide +kernel
theorem dX7_undo_23 : decode cX7_undo 23 = .ok (.sipush 376, 3) := by decide +kernel
theorem dX7_undo_26 : decode cX7_undo 26 = .ok (.if_icmp .ge 30, 3) := by decide +kernel
theorem dX7_undo_29 : decode cX7_undo 29 = .ok (.aload_n 0, 1) := by decide +kernel
theorem dX7_undo_30 : decode cX7_undo 30 = .ok (.getfield 7, 3) := by decide +kernel
theorem dX7_undo_33 : decode cX7_undo 33 = .ok (.iload_n 1, 1) := by decide +kernel
theorem dX7_undo_34 : decode cX7_undo 34 = .ok (.aload_n 0, 1) := by decide +kernel
theorem dX7_undo_35 : decode cX7_undo 35 = .ok (.getfield 13, 3) := by decide +kernel
theorem dX7_undo_38 : decode cX7_undo 38 = .ok (.sipush 376, 3) := by decide +kernel
theorem dX7_undo_41 : decode cX7_undo 41 = .ok (.aload_n 0, 1) := by decide +kernel
theorem dX7_undo_42 : decode cX7_undo 42 = .ok (.getfield 71, 3) := by decide +kernel
theorem dX7_undo_45 : decode cX7_undo 45 = .ok (.imul, 1) := by decide +kernel
theorem dX7_undo_46 : decode cX7_undo 46 = .ok (.iload_n 1, 1) := by decide +kernel
theorem dX7_undo_47 : decode cX7_undo 47 = .ok (.iadd, 1) := by decide +kernel
theorem dX7_undo_48 : decode cX7_undo 48 = .ok (.iaload, 1) := by decide +kernel
theorem dX7_undo_49 : decode cX7_undo 49 = .ok (.iastore, 1) := by decide +kernel
theorem dX7_undo_50 : decode cX7_undo 50 = .ok (.iinc 1 1, 3) := by decide +kernel
theorem dX7_undo_53 : decode cX7_undo 53 = .ok (.goto (-31), 3) := by decide +kernel
theorem dX7_undo_56 : decode cX7_undo 56 = .ok (.aload_n 0, 1) := by decide +kernel
theorem dX7_undo_57 : decode cX7_undo 57 = .ok (.getfield 71, 3) := by decide +kernel
theorem dX7_undo_60 : decode cX7_undo 60 = .ok (.ireturn, 1) := by decide +kernel
theorem dX7_cut_0 : decode cX7_cut 0 = .ok (.lload_n 0, 1) := by decide +kernel
theorem dX7_cut_1 : decode cX7_cut 1 = .ok (.ldc2_w 170, 3) := by decide +kernel
theorem dX7_cut_4 : decode cX7_cut 4 = .ok (.lcmp, 1) := by decide +kernel
theorem dX7_cut_5 : decode cX7_cut 5 = .ok (.ifCond .le 9, 3) := by decide +kernel
theorem dX7_cut_8 : decode cX7_cut 8 = .ok (.ldc2_w 170, 3) := by decide +kernel
theorem dX7_cut_11 : decode cX7_cut 11 = .ok (.goto 18, 3) := by decide +kernel
theorem dX7_cut_14 : decode cX7_cut 14 = .ok (.lload_n 0, 1) := by decide +kernel
theorem dX7_cut_15 : decode cX7_cut 15 = .ok (.ldc2_w 172, 3) := by decide +kernel
theorem dX7_cut_18 : decode cX7_cut 18 = .ok (.lcmp, 1) := by decide +kernel
theorem dX7_cut_19 : decode cX7_cut 19 = .ok (.ifCond .ge 9, 3) := by decide +kernel
theorem dX7_cut_22 : decode cX7_cut 22 = .ok (.ldc2_w 172, 3) := by decide +kernel
theorem dX7_cut_25 : decode cX7_cut 25 = .ok (.goto 4, 3) := by decide +kernel
theorem dX7_cut_28 : decode cX7_cut 28 = .ok (.lload_n 0, 1) := by decide +kernel
theorem dX7_cut_29 : decode cX7_cut 29 = .ok (.l2i, 1) := by decide +kernel
theorem dX7_cut_30 : decode cX7_cut 30 = .ok (.ireturn, 1) := by decide +kernel
theorem dX7_copies_0 : decode cX7_copies 0 = .ok (.aload_n 0, 1) := by decide +kernel
theorem dX7_copies_1 : decode cX7_copies 1 = .ok (.getfield 31, 3) := by decide +kernel
theorem dX7_copies_4 : decode cX7_copies 4 = .ok (.bipush 90, 2) := by decide +kernel
theorem dX7_copies_6 : decode cX7_copies 6 = .ok (.iload_n 1, 1) := by decide +kernel
theorem dX7_copies_7 : decode cX7_copies 7 = .ok (.imul, 1) := by decide +kernel
theorem dX7_copies_8 : decode cX7_copies 8 = .ok (.aload_n 0, 1) := by decide +kernel
theorem dX7_copies_9 : decode cX7_copies 9 = .ok (.getfield 49, 3) := by decide +kernel
theorem dX7_copies_12 : decode cX7_copies 12 = .ok (.iload_n 1, 1) := by decide +kernel
theorem dX7_copies_13 : decode cX7_copies 13 = .ok (.iaload, 1) := by decide +kernel
theorem dX7_copies_14 : decode cX7_copies 14 = .ok (.iadd, 1) := by decide +kernel
theorem dX7_copies_15 : decode cX7_copies 15 = .ok (.iload_n 2, 1) := by decide +kernel
theorem dX7_copies_16 : decode cX7_copies 16 = .ok (.iastore, 1) := by decide +kernel
theorem dX7_copies_17 : decode cX7_copies 17 = .ok (.aload_n 0, 1) := by decide +kernel
theorem dX7_copies_18 : decode cX7_copies 18 = .ok (.getfield 34, 3) := by decide +kernel
theorem dX7_copies_21 : decode cX7_copies 21 = .ok (.bipush 90, 2) := by decide +kernel
theorem dX7_copies_23 : decode cX7_copies 23 = .ok (.iload_n 1, 1) := by decide +kernel
theorem dX7_copies_24 : decode cX7_copies 24 = .ok (.imul, 1) := by decide +kernel
theorem dX7_copies_25 : decode cX7_copies 25 = .ok (.aload_n 0, 1) := by decide +kernel
theorem dX7_copies_26 : decode cX7_copies 26 = .ok (.getfield 49, 3) := by decide +kernel
theorem dX7_copies_29 : decode cX7_copies 29 = .ok (.iload_n 1, 1) := by decide +kernel
theorem dX7_copies_30 : decode cX7_copies 30 = .ok (.iaload, 1) := by decide +kernel
theorem dX7_copies_31 : decode cX7_copies 31 = .ok (.iadd, 1) := by decide +kernel
theorem dX7_copies_32 : decode cX7_copies 32 = .ok (.iload_n 3, 1) := by decide +kernel
theorem dX7_copies_33 : decode cX7_copies 33 = .ok (.iastore, 1) := by decide +kernel
theorem dX7_copies_34 : decode cX7_copies 34 = .ok (.aload_n 0, 1) := by decide +kernel
theorem dX7_copies_35 : decode cX7_copies 35 = .ok (.getfield 49, 3) := by decide +kernel
theorem dX7_copies_38 : decode cX7_copies 38 = .ok (.iload_n 1, 1) := by decide +kernel
theorem dX7_copies_39 : decode cX7_copies 39 = .ok (.dup2, 1) := by decide +kernel
theorem dX7_copies_40 : decode cX7_copies 40 = .ok (.iaload, 1) := by decide +kernel
theorem dX7_copies_41 : decode cX7_copies 41 = .ok (.iconst 1, 1) := by decide +kernel
theorem dX7_copies_42 : decode cX7_copies 42 = .ok (.iadd, 1) := by decide +kernel
theorem dX7_copies_43 : decode cX7_copies 43 = .ok (.iastore, 1) := by decide +kernel
theorem dX7_copies_44 : decode cX7_copies 44 = .ok (.return_, 1) := by decide +kernel
theorem dX7_expands_0 : decode cX7_expands 0 = .ok (.aload_n 0, 1) := by decide +kernel
theorem dX7_expands_1 : decode cX7_expands 1 = .ok (.getfield 49, 3) := by decide +kernel
theorem dX7_expands_4 : decode cX7_expands 4 = .ok (.iload_n 1, 1) := by decide +kernel
theorem dX7_expands_5 : decode cX7_expands 5 = .ok (.iconst 0, 1) := by decide +kernel
theorem dX7_expands_6 : decode cX7_expands 6 = .ok (.iastore, 1) := by decide +kernel
theorem dX7_expands_7 : decode cX7_expands 7 = .ok (.iconst 0, 1) := by decide +kernel
theorem dX7_expands_8 : decode cX7_expands 8 = .ok (.istore_n 2, 1) := by decide +kernel
theorem dX7_expands_9 : decode cX7_expands 9 = .ok (.iload_n 2, 1) := by decide +kernel
theorem dX7_expands_10 : decode cX7_expands 10 = .ok (.aload_n 0, 1) := by decide +kernel
theorem dX7_expands_11 : decode cX7_expands 11 = .ok (.getfield 7, 3) := by decide +kernel
theorem dX7_expands_14 : decode cX7_expands 14 = .ok (.bipush 10, 2) := by decide +kernel
theorem dX7_expands_16 : decode cX7_expands 16 = .ok (.iload_n 1, 1) := by decide +kernel
theorem dX7_expands_17 : decode cX7_expands 17 = .ok (.iadd, 1) := by decide +kernel
theorem dX7_expands_18 : decode cX7_expands 18 = .ok (.iaload, 1) := by decide +kernel
theorem dX7_expands_19 : decode cX7_expands 19 = .ok (.if_icmp .ge 111, 3) := by decide +kernel
theorem dX7_expands_22 : decode cX7_expands 22 = .ok (.aload_n 0, 1) := by decide +kernel
theorem dX7_expands_23 : decode cX7_expands 23 = .ok (.getfield 7, 3) := by decide +kernel
theorem dX7_expands_26 : decode cX7_expands 26 = .ok (.bipush 16, 2) := by decide +kernel
theorem dX7_expands_28 : decode cX7_expands 28 = .ok (.bipush 60, 2) := by decide +kernel
theorem dX7_expands_30 : decode cX7_expands 30 = .ok (.iload_n 1, 1) := by decide +kernel
theorem dX7_expands_31 : decode cX7_expands 31 = .ok (.imul, 1) := by decide +kernel
theorem dX7_expands_32 : decode cX7_expands 32 = .ok (.iadd, 1) := by decide +kernel
theorem dX7_expands_33 : decode cX7_expands 33 = .ok (.iconst 2, 1) := by decide +kernel
theorem dX7_expands_34 : decode cX7_expands 34 = .ok (.iload_n 2, 1) := by decide +kernel
theorem dX7_expands_35 : decode cX7_expands 35 = .ok (.imul, 1) := by decide +kernel
theorem dX7_expands_36 : decode cX7_expands 36 = .ok (.iadd, 1) := by decide +kernel
theorem dX7_expands_37 : decode cX7_expands 37 = .ok (.iconst 1, 1) := by decide +kernel
theorem dX7_expands_38 : decode cX7_expands 38 = .ok (.iadd, 1) := by decide +kernel
theorem dX7_expands_39 : decode cX7_expands 39 = .ok (.iaload, 1) := by decide +kernel
theorem dX7_expands_40 : decode cX7_expands 40 = .ok (.istore_n 3, 1) := by decide +kernel
theorem dX7_expands_41 : decode cX7_expands 41 = .ok (.aload_n 0, 1) := by decide +kernel
theorem dX7_expands_42 : decode cX7_expands 42 = .ok (.iload_n 1, 1) := by decide +kernel
theorem dX7_expands_43 : decode cX7_expands 43 = .ok (.iload_n 2, 1) := by decide +kernel
theorem dX7_expands_44 : decode cX7_expands 44 = .ok (.invokevirtual 152, 3) := by decide +kernel
theorem dX7_expands_47 : decode cX7_expands 47 = .ok (.iconst 2, 1) := by decide +kernel
theorem dX7_expands_48 : decode cX7_expands 48 = .ok (.if_icmp .ne 64, 3) := by decide +kernel
theorem dX7_expands_51 : decode cX7_expands 51 = .ok (.aload_n 0, 1) := by decide +kernel
theorem dX7_expands_52 : decode cX7_expands 52 = .ok (.getfield 52, 3) := by decide +kernel
theorem dX7_expands_55 : decode cX7_expands 55 = .ok (.iload_n 3, 1) := by decide +kernel
theorem dX7_expands_56 : decode cX7_expands 56 = .ok (.baload, 1) := by decide +kernel
theorem dX7_expands_57 : decode cX7_expands 57 = .ok (.ifCond .eq 55, 3) := by decide +kernel
theorem dX7_expands_60 : decode cX7_expands 60 = .ok (.iconst 0, 1) := by decide +kernel
theorem dX7_expands_61 : decode cX7_expands 61 = .ok (.istore 4, 2) := by decide +kernel
theorem dX7_expands_63 : decode cX7_expands 63 = .ok (.iload 4, 2) := by decide +kernel
theorem dX7_expands_65 : decode cX7_expands 65 = .ok (.aload_n 0, 1) := by decide +kernel
theorem dX7_expands_66 : decode cX7_expands 66 = .ok (.getfield 49, 3) := by decide +kernel
theorem dX7_expands_69 : decode cX7_expands 69 = .ok (.iload_n 3, 1) := by decide +kernel
theorem dX7_expands_70 : decode cX7_expands 70 = .ok (.iaload, 1) := by decide +kernel
theorem dX7_expands_71 : decode cX7_expands 71 = .ok (.if_icmp .ge 38, 3) := by decide +kernel
theorem dX7_expands_74 : decode cX7_expands 74 = .ok (.aload_n 0, 1) := by decide +kernel
theorem dX7_expands_75 : decode cX7_expands 75 = .ok (.iload_n 1, 1) := by decide +kernel
theorem dX7_expands_76 : decode cX7_expands 76 = .ok (.aload_n 0, 1) := by decide +kernel
theorem dX7_expands_77 : decode cX7_expands 77 = .ok (.getfield 31, 3) := by decide +kernel
theorem dX7_expands_80 : decode cX7_expands 80 = .ok (.bipush 90, 2) := by decide +kernel
theorem dX7_expands_82 : decode cX7_expands 82 = .ok (.iload_n 3, 1) := by decide +kernel
theorem dX7_expands_83 : decode cX7_expands 83 = .ok (.imul, 1) := by decide +kernel
theorem dX7_expands_84 : decode cX7_expands 84 = .ok (.iload 4, 2) := by decide +kernel
theorem dX7_expands_86 : decode cX7_expands 86 = .ok (.iadd, 1) := by decide +kernel
theorem dX7_expands_87 : decode cX7_expands 87 = .ok (.iaload, 1) := by decide +kernel
theorem dX7_expands_88 : decode cX7_expands 88 = .ok (.aload_n 0, 1) := by decide +kernel
theorem dX7_expands_89 : decode cX7_expands 89 = .ok (.getfield 34, 3) := by decide +kernel
theorem dX7_expands_92 : decode cX7_expands 92 = .ok (.bipush 90, 2) := by decide +kernel
theorem dX7_expands_94 : decode cX7_expands 94 = .ok (.iload_n 3, 1) := by decide +kernel
theorem dX7_expands_95 : decode cX7_expands 95 = .ok (.imul, 1) := by decide +kernel
theorem dX7_expands_96 : decode cX7_expands 96 = .ok (.iload 4, 2) := by decide +kernel
theorem dX7_expands_98 : decode cX7_expands 98 = .ok (.iadd, 1) := by decide +kernel
theorem dX7_expands_99 : decode cX7_expands 99 = .ok (.iaload, 1) := by decide +kernel
theorem dX7_expands_100 : decode cX7_expands 100 = .ok (.invokevirtual 174, 3) := by decide +kernel
theorem dX7_expands_103 : decode cX7_expands 103 = .ok (.iinc 4 1, 3) := by decide +kernel
theorem dX7_expands_106 : decode cX7_expands 106 = .ok (.goto (-43), 3) := by decide +kernel
theorem dX7_expands_109 : decode cX7_expands 109 = .ok (.goto 15, 3) := by decide +kernel
theorem dX7_expands_112 : decode cX7_expands 112 = .ok (.aload_n 0, 1) := by decide +kernel
theorem dX7_expands_113 : decode cX7_expands 113 = .ok (.iload_n 1, 1) := by decide +kernel
theorem dX7_expands_114 : decode cX7_expands 114 = .ok (.aload_n 0, 1) := by decide +kernel
theorem dX7_expands_115 : decode cX7_expands 115 = .ok (.iload_n 1, 1) := by decide +kernel
theorem dX7_expands_116 : decode cX7_expands 116 = .ok (.iload_n 2, 1) := by decide +kernel
theorem dX7_expands_117 : decode cX7_expands 117 = .ok (.invokevirtual 152, 3) := by decide +kernel
theorem dX7_expands_120 : decode cX7_expands 120 = .ok (.iload_n 3, 1) := by decide +kernel
theorem dX7_expands_121 : decode cX7_expands 121 = .ok (.invokevirtual 174, 3) := by decide +kernel
theorem dX7_expands_124 : decode cX7_expands 124 = .ok (.iinc 2 1, 3) := by decide +kernel
theorem dX7_expands_127 : decode cX7_expands 127 = .ok (.goto (-118), 3) := by decide +kernel
theorem dX7_expands_130 : decode cX7_expands 130 = .ok (.iconst 1, 1) := by decide +kernel
theorem dX7_expands_131 : decode cX7_expands 131 = .ok (.istore_n 2, 1) := by decide +kernel
theorem dX7_expands_132 : decode cX7_expands 132 = .ok (.iconst 0, 1) := by decide +kernel
theorem dX7_expands_133 : decode cX7_expands 133 = .ok (.istore_n 3, 1) := by decide +kernel
theorem dX7_expands_134 : decode cX7_expands 134 = .ok (.iload_n 3, 1) := by decide +kernel
theorem dX7_expands_135 : decode cX7_expands 135 = .ok (.aload_n 0, 1) := by decide +kernel
theorem dX7_expands_136 : decode cX7_expands 136 = .ok (.getfield 49, 3) := by decide +kernel
theorem dX7_expands_139 : decode cX7_expands 139 = .ok (.iload_n 1, 1) := by decide +kernel
theorem dX7_expands_140 : decode cX7_expands 140 = .ok (.iaload, 1) := by decide +kernel
theorem dX7_expands_141 : decode cX7_expands 141 = .ok (.if_icmp .ge 50, 3) := by decide +kernel
theorem dX7_expands_144 : decode cX7_expands 144 = .ok (.iload_n 2, 1) := by decide +kernel
theorem dX7_expands_145 : decode cX7_expands 145 = .ok (.ifCond .eq 38, 3) := by decide +kernel
theorem dX7_expands_148 : decode cX7_expands 148 = .ok (.aload_n 0, 1) := by decide +kernel
theorem dX7_expands_149 : decode cX7_expands 149 = .ok (.getfield 31, 3) := by decide +kernel
theorem dX7_expands_152 : decode cX7_expands 152 = .ok (.bipush 90, 2) := by decide +kernel
theorem dX7_expands_154 : decode cX7_expands 154 = .ok (.iload_n 1, 1) := by decide +kernel
theorem dX7_expands_155 : decode cX7_expands 155 = .ok (.imul, 1) := by decide +kernel
theorem dX7_expands_156 : decode cX7_expands 156 = .ok (.iload_n 3, 1) := by decide +kernel
theorem dX7_expands_157 : decode cX7_expands 157 = .ok (.iadd, 1) := by decide +kernel
theorem dX7_expands_158 : decode cX7_expands 158 = .ok (.iaload, 1) := by decide +kernel
theorem dX7_expands_159 : decode cX7_expands 159 = .ok (.bipush 6, 2) := by decide +kernel
theorem dX7_expands_161 : decode cX7_expands 161 = .ok (.if_icmp .eq 22, 3) := by decide +kernel
theorem dX7_expands_164 : decode cX7_expands 164 = .ok (.aload_n 0, 1) := by decide +kernel
theorem dX7_expands_165 : decode cX7_expands 165 = .ok (.getfield 31, 3) := by decide +kernel
theorem dX7_expands_168 : decode cX7_expands 168 = .ok (.bipush 90, 2) := by decide +kernel
theorem dX7_expands_170 : decode cX7_expands 170 = .ok (.iload_n 1, 1) := by decide +kernel
theorem dX7_expands_171 : decode cX7_expands 171 = .ok (.imul, 1) := by decide +kernel
theorem dX7_expands_172 : decode cX7_expands 172 = .ok (.iload_n 3, 1) := by decide +kernel
theorem dX7_expands_173 : decode cX7_expands 173 = .ok (.iadd, 1) := by decide +kernel
theorem dX7_expands_174 : decode cX7_expands 174 = .ok (.iaload, 1) := by decide +kernel
theorem dX7_expands_175 : decode cX7_expands 175 = .ok (.iconst 2, 1) := by decide +kernel
theorem dX7_expands_176 : decode cX7_expands 176 = .ok (.if_icmp .eq 7, 3) := by decide +kernel
theorem dX7_expands_179 : decode cX7_expands 179 = .ok (.iconst 1, 1) := by decide +kernel
theorem dX7_expands_180 : decode cX7_expands 180 = .ok (.goto 4, 3) := by decide +kernel
theorem dX7_expands_183 : decode cX7_expands 183 = .ok (.iconst 0, 1) := by decide +kernel
theorem dX7_expands_184 : decode cX7_expands 184 = .ok (.istore_n 2, 1) := by decide +kernel
theorem dX7_expands_185 : decode cX7_expands 185 = .ok (.iinc 3 1, 3) := by decide +kernel
theorem dX7_expands_188 : decode cX7_expands 188 = .ok (.goto (-54), 3) := by decide +kernel
theorem dX7_expands_191 : decode cX7_expands 191 = .ok (.aload_n 0, 1) := by decide +kernel
theorem dX7_expands_192 : decode cX7_expands 192 = .ok (.getfield 52, 3) := by decide +kernel
theorem dX7_expands_195 : decode cX7_expands 195 = .ok (.iload_n 1, 1) := by decide +kernel
theorem dX7_expands_196 : decode cX7_expands 196 = .ok (.iload_n 1, 1) := by decide +kernel
theorem dX7_expands_197 : decode cX7_expands 197 = .ok (.aload_n 0, 1) := by decide +kernel
theorem dX7_expands_198 : decode cX7_expands 198 = .ok (.getfield 7, 3) := by decide +kernel
theorem dX7_expands_201 : decode cX7_expands 201 = .ok (.iconst 0, 1) := by decide +kernel
theorem dX7_expands_202 : decode cX7_expands 202 = .ok (.iaload, 1) := by decide +kernel
theorem dX7_expands_203 : decode cX7_expands 203 = .ok (.iconst 1, 1) := by decide +kernel
theorem dX7_expands_204 : decode cX7_expands 204 = .ok (.isub, 1) := by decide +kernel
theorem dX7_expands_205 : decode cX7_expands 205 = .ok (.if_icmp .ge 21, 3) := by decide +kernel
theorem dX7_expands_208 : decode cX7_expands 208 = .ok (.aload_n 0, 1) := by decide +kernel
theorem dX7_expands_209 : decode cX7_expands 209 = .ok (.getfield 49, 3) := by decide +kernel
theorem dX7_expands_212 : decode cX7_expands 212 = .ok (.iload_n 1, 1) := by decide +kernel
theorem dX7_expands_213 : decode cX7_expands 213 = .ok (.iaload, 1) := by decide +kernel
theorem dX7_expands_214 : decode cX7_expands 214 = .ok (.iconst 4, 1) := by decide +kernel
theorem dX7_expands_215 : decode cX7_expands 215 = .ok (.if_icmp .ge 11, 3) := by decide +kernel
theorem dX7_expands_218 : decode cX7_expands 218 = .ok (.iload_n 2, 1) := by decide +kernel
theorem dX7_expands_219 : decode cX7_expands 219 = .ok (.ifCond .eq 7, 3) := by decide +kernel
theorem dX7_expands_222 : decode cX7_expands 222 = .ok (.iconst 1, 1) := by decide +kernel
theorem dX7_expands_223 : decode cX7_expands 223 = .ok (.goto 4, 3) := by decide +kernel
theorem dX7_expands_226 : decode cX7_expands 226 = .ok (.iconst 0, 1) := by decide +kernel
theorem dX7_expands_227 : decode cX7_expands 227 = .ok (.bastore, 1) := by decide +kernel
theorem dX7_expands_228 : decode cX7_expands 228 = .ok (.return_, 1) := by decide +kernel
theorem dX7_tells_0 : decode cX7_tells 0 = .ok (.aload_n 0, 1) := by decide +kernel
theorem dX7_tells_1 : decode cX7_tells 1 = .ok (.getfield 34, 3) := by decide +kernel
theorem dX7_tells_4 : decode cX7_tells 4 = .ok (.iload_n 2, 1) := by decide +kernel
theorem dX7_tells_5 : decode cX7_tells 5 = .ok (.iaload, 1) := by decide +kernel
theorem dX7_tells_6 : decode cX7_tells 6 = .ok (.istore_n 3, 1) := by decide +kernel
theorem dX7_tells_7 : decode cX7_tells 7 = .ok (.aload_n 0, 1) := by decide +kernel
theorem dX7_tells_8 : decode cX7_tells 8 = .ok (.getfield 31, 3) := by decide +kernel
theorem dX7_tells_11 : decode cX7_tells 11 = .ok (.iload_n 2, 1) := by decide +kernel
theorem dX7_tells_12 : decode cX7_tells 12 = .ok (.iaload, 1) := by decide +kernel
theorem dX7_tells_13 : decode cX7_tells 13 = .ok (.tableswitch 168 0 3 #[31, 31, 31, 104], 31) := by decide +kernel
theorem dX7_tells_44 : decode cX7_tells 44 = .ok (.aload_n 0, 1) := by decide +kernel
theorem dX7_tells_45 : decode cX7_tells 45 = .ok (.getfield 37, 3) := by decide +kernel
theorem dX7_tells_48 : decode cX7_tells 48 = .ok (.iload_n 2, 1) := by decide +kernel
theorem dX7_tells_49 : decode cX7_tells 49 = .ok (.iconst 1, 1) := by decide +kernel
theorem dX7_tells_50 : decode cX7_tells 50 = .ok (.iastore, 1) := by decide +kernel
theorem dX7_tells_51 : decode cX7_tells 51 = .ok (.aload_n 0, 1) := by decide +kernel
theorem dX7_tells_52 : decode cX7_tells 52 = .ok (.getfield 40, 3) := by decide +kernel
theorem dX7_tells_55 : decode cX7_tells 55 = .ok (.iload_n 2, 1) := by decide +kernel
theorem dX7_tells_56 : decode cX7_tells 56 = .ok (.iconst 1, 1) := by decide +kernel
theorem dX7_tells_57 : decode cX7_tells 57 = .ok (.iastore, 1) := by decide +kernel
theorem dX7_tells_58 : decode cX7_tells 58 = .ok (.aload_n 0, 1) := by decide +kernel
theorem dX7_tells_59 : decode cX7_tells 59 = .ok (.getfield 43, 3) := by decide +kernel
theorem dX7_tells_62 : decode cX7_tells 62 = .ok (.iload_n 2, 1) := by decide +kernel
theorem dX7_tells_63 : decode cX7_tells 63 = .ok (.iconst 1, 1) := by decide +kernel
theorem dX7_tells_64 : decode cX7_tells 64 = .ok (.iastore, 1) := by decide +kernel
theorem dX7_tells_65 : decode cX7_tells 65 = .ok (.aload_n 0, 1) := by decide +kernel
theorem dX7_tells_66 : decode cX7_tells 66 = .ok (.getfield 46, 3) := by decide +kernel
theorem dX7_tells_69 : decode cX7_tells 69 = .ok (.iload_n 2, 1) := by decide +kernel
theorem dX7_tells_70 : decode cX7_tells 70 = .ok (.aload_n 0, 1) := by decide +kernel
theorem dX7_tells_71 : decode cX7_tells 71 = .ok (.getfield 31, 3) := by decide +kernel
theorem dX7_tells_74 : decode cX7_tells 74 = .ok (.iload_n 2, 1) := by decide +kernel
theorem dX7_tells_75 : decode cX7_tells 75 = .ok (.iaload, 1) := by decide +kernel
theorem dX7_tells_76 : decode cX7_tells 76 = .ok (.ifCond .ne 7, 3) := by decide +kernel
theorem dX7_tells_79 : decode cX7_tells 79 = .ok (.iload_n 3, 1) := by decide +kernel
theorem dX7_tells_80 : decode cX7_tells 80 = .ok (.goto 33, 3) := by decide +kernel
theorem dX7_tells_83 : decode cX7_tells 83 = .ok (.aload_n 0, 1) := by decide +kernel
theorem dX7_tells_84 : decode cX7_tells 84 = .ok (.getfield 31, 3) := by decide +kernel
theorem dX7_tells_87 : decode cX7_tells 87 = .ok (.iload_n 2, 1) := by decide +kernel
theorem dX7_tells_88 : decode cX7_tells 88 = .ok (.iaload, 1) := by decide +kernel
theorem dX7_tells_89 : decode cX7_tells 89 = .ok (.iconst 1, 1) := by decide +kernel
theorem dX7_tells_90 : decode cX7_tells 90 = .ok (.if_icmp .ne 14, 3) := by decide +kernel
theorem dX7_tells_93 : decode cX7_tells 93 = .ok (.aload_n 0, 1) := by decide +kernel
theorem dX7_tells_94 : decode cX7_tells 94 = .ok (.getfield 7, 3) := by decide +kernel
theorem dX7_tells_97 : decode cX7_tells 97 = .ok (.iconst 2, 1) := by decide +kernel
theorem dX7_tells_98 : decode cX7_tells 98 = .ok (.iload_n 3, 1) := by decide +kernel
theorem dX7_tells_99 : decode cX7_tells 99 = .ok (.iadd, 1) := by decide +kernel
theorem dX7_tells_100 : decode cX7_tells 100 = .ok (.iaload, 1) := by decide +kernel
theorem dX7_tells_101 : decode cX7_tells 101 = .ok (.goto 12, 3) := by decide +kernel
theorem dX7_tells_104 : decode cX7_tells 104 = .ok (.aload_n 0, 1) := by decide +kernel
theorem dX7_tells_105 : decode cX7_tells 105 = .ok (.getfield 46, 3) := by decide +kernel
theorem dX7_tells_108 : decode cX7_tells 108 = .ok (.bipush 90, 2) := by decide +kernel
theorem dX7_tells_110 : decode cX7_tells 110 = .ok (.iload_n 3, 1) := by decide +kernel
theorem dX7_tells_111 : decode cX7_tells 111 = .ok (.imul, 1) := by decide +kernel
theorem dX7_tells_112 : decode cX7_tells 112 = .ok (.iaload, 1) := by decide +kernel
theorem dX7_tells_113 : decode cX7_tells 113 = .ok (.iastore, 1) := by decide +kernel
theorem dX7_tells_114 : decode cX7_tells 114 = .ok (.goto 87, 3) := by decide +kernel
theorem dX7_tells_117 : decode cX7_tells 117 = .ok (.aload_n 0, 1) := by decide +kernel
theorem dX7_tells_118 : decode cX7_tells 118 = .ok (.getfield 37, 3) := by decide +kernel
theorem dX7_tells_121 : decode cX7_tells 121 = .ok (.iload_n 2, 1) := by decide +kernel
theorem dX7_tells_122 : decode cX7_tells 122 = .ok (.aload_n 0, 1) := by decide +kernel
theorem dX7_tells_123 : decode cX7_tells 123 = .ok (.getfield 37, 3) := by decide +kernel
theorem dX7_tells_126 : decode cX7_tells 126 = .ok (.iload_n 2, 1) := by decide +kernel
theorem dX7_tells_127 : decode cX7_tells 127 = .ok (.iconst 1, 1) := by decide +kernel
theorem dX7_tells_128 : decode cX7_tells 128 = .ok (.iadd, 1) := by decide +kernel
theorem dX7_tells_129 : decode cX7_tells 129 = .ok (.iaload, 1) := by decide +kernel
theorem dX7_tells_130 : decode cX7_tells 130 = .ok (.iconst 1, 1) := by decide +kernel
theorem dX7_tells_131 : decode cX7_tells 131 = .ok (.iadd, 1) := by decide +kernel
theorem dX7_tells_132 : decode cX7_tells 132 = .ok (.iastore, 1) := by decide +kernel
theorem dX7_tells_133 : decode cX7_tells 133 = .ok (.aload_n 0, 1) := by decide +kernel
theorem dX7_tells_134 : decode cX7_tells 134 = .ok (.getfield 40, 3) := by decide +kernel
theorem dX7_tells_137 : decode cX7_tells 137 = .ok (.iload_n 2, 1) := by decide +kernel
theorem dX7_tells_138 : decode cX7_tells 138 = .ok (.aload_n 0, 1) := by decide +kernel
theorem dX7_tells_139 : decode cX7_tells 139 = .ok (.getfield 40, 3) := by decide +kernel
theorem dX7_tells_142 : decode cX7_tells 142 = .ok (.iload_n 2, 1) := by decide +kernel
theorem dX7_tells_143 : decode cX7_tells 143 = .ok (.iconst 1, 1) := by decide +kernel
theorem dX7_tells_144 : decode cX7_tells 144 = .ok (.iadd, 1) := by decide +kernel
theorem dX7_tells_145 : decode cX7_tells 145 = .ok (.iaload, 1) := by decide +kernel
theorem dX7_tells_146 : decode cX7_tells 146 = .ok (.iastore, 1) := by decide +kernel
theorem dX7_tells_147 : decode cX7_tells 147 = .ok (.aload_n 0, 1) := by decide +kernel
theorem dX7_tells_148 : decode cX7_tells 148 = .ok (.getfield 43, 3) := by decide +kernel
theorem dX7_tells_151 : decode cX7_tells 151 = .ok (.iload_n 2, 1) := by decide +kernel
theorem dX7_tells_152 : decode cX7_tells 152 = .ok (.aload_n 0, 1) := by decide +kernel
theorem dX7_tells_153 : decode cX7_tells 153 = .ok (.getfield 43, 3) := by decide +kernel
theorem dX7_tells_156 : decode cX7_tells 156 = .ok (.iload_n 2, 1) := by decide +kernel
theorem dX7_tells_157 : decode cX7_tells 157 = .ok (.iconst 1, 1) := by decide +kernel
theorem dX7_tells_158 : decode cX7_tells 158 = .ok (.iadd, 1) := by decide +kernel
theorem dX7_tells_159 : decode cX7_tells 159 = .ok (.iaload, 1) := by decide +kernel
theorem dX7_tells_160 : decode cX7_tells 160 = .ok (.iconst 1, 1) := by decide +kernel
theorem dX7_tells_161 : decode cX7_tells 161 = .ok (.iadd, 1) := by decide +kernel
theorem dX7_tells_162 : decode cX7_tells 162 = .ok (.iastore, 1) := by decide +kernel
theorem dX7_tells_163 : decode cX7_tells 163 = .ok (.aload_n 0, 1) := by decide +kernel
theorem dX7_tells_164 : decode cX7_tells 164 = .ok (.getfield 46, 3) := by decide +kernel
theorem dX7_tells_167 : decode cX7_tells 167 = .ok (.iload_n 2, 1) := by decide +kernel
theorem dX7_tells_168 : decode cX7_tells 168 = .ok (.aload_n 0, 1) := by decide +kernel
theorem dX7_tells_169 : decode cX7_tells 169 = .ok (.getfield 46, 3) := by decide +kernel
theorem dX7_tells_172 : decode cX7_tells 172 = .ok (.iload_n 2, 1) := by decide +kernel
theorem dX7_tells_173 : decode cX7_tells 173 = .ok (.iconst 1, 1) := by decide +kernel
theorem dX7_tells_174 : decode cX7_tells 174 = .ok (.iadd, 1) := by decide +kernel
theorem dX7_tells_175 : decode cX7_tells 175 = .ok (.iaload, 1) := by decide +kernel
theorem dX7_tells_176 : decode cX7_tells 176 = .ok (.ineg, 1) := by decide +kernel
theorem dX7_tells_177 : decode cX7_tells 177 = .ok (.iastore, 1) := by decide +kernel
theorem dX7_tells_178 : decode cX7_tells 178 = .ok (.goto 23, 3) := by decide +kernel
theorem dX7_tells_181 : decode cX7_tells 181 = .ok (.aload_n 0, 1) := by decide +kernel
theorem dX7_tells_182 : decode cX7_tells 182 = .ok (.iload_n 2, 1) := by decide +kernel
theorem dX7_tells_183 : decode cX7_tells 183 = .ok (.iload_n 2, 1) := by decide +kernel
theorem dX7_tells_184 : decode cX7_tells 184 = .ok (.iconst 1, 1) := by decide +kernel
theorem dX7_tells_185 : decode cX7_tells 185 = .ok (.iadd, 1) := by decide +kernel
theorem dX7_tells_186 : decode cX7_tells 186 = .ok (.iload_n 2, 1) := by decide +kernel
theorem dX7_tells_187 : decode cX7_tells 187 = .ok (.iconst 1, 1) := by decide +kernel
theorem dX7_tells_188 : decode cX7_tells 188 = .ok (.iadd, 1) := by decide +kernel
theorem dX7_tells_189 : decode cX7_tells 189 = .ok (.aload_n 0, 1) := by decide +kernel
theorem dX7_tells_190 : decode cX7_tells 190 = .ok (.getfield 37, 3) := by decide +kernel
theorem dX7_tells_193 : decode cX7_tells 193 = .ok (.iload_n 2, 1) := by decide +kernel
theorem dX7_tells_194 : decode cX7_tells 194 = .ok (.iconst 1, 1) := by decide +kernel
theorem dX7_tells_195 : decode cX7_tells 195 = .ok (.iadd, 1) := by decide +kernel
theorem dX7_tells_196 : decode cX7_tells 196 = .ok (.iaload, 1) := by decide +kernel
theorem dX7_tells_197 : decode cX7_tells 197 = .ok (.iadd, 1) := by decide +kernel
theorem dX7_tells_198 : decode cX7_tells 198 = .ok (.invokevirtual 177, 3) := by decide +kernel
theorem dX7_tells_201 : decode cX7_tells 201 = .ok (.return_, 1) := by decide +kernel
theorem dX7_joins_0 : decode cX7_joins 0 = .ok (.aload_n 0, 1) := by decide +kernel
theorem dX7_joins_1 : decode cX7_joins 1 = .ok (.getfield 37, 3) := by decide +kernel
theorem dX7_joins_4 : decode cX7_joins 4 = .ok (.iload_n 1, 1) := by decide +kernel
theorem dX7_joins_5 : decode cX7_joins 5 = .ok (.aload_n 0, 1) := by decide +kernel
theorem dX7_joins_6 : decode cX7_joins 6 = .ok (.getfield 37, 3) := by decide +kernel
theorem dX7_joins_9 : decode cX7_joins 9 = .ok (.iload_n 2, 1) := by decide +kernel
theorem dX7_joins_10 : decode cX7_joins 10 = .ok (.iaload, 1) := by decide +kernel
theorem dX7_joins_11 : decode cX7_joins 11 = .ok (.aload_n 0, 1) := by decide +kernel
theorem dX7_joins_12 : decode cX7_joins 12 = .ok (.getfield 37, 3) := by decide +kernel
theorem dX7_joins_15 : decode cX7_joins 15 = .ok (.iload_n 3, 1) := by decide +kernel
theorem dX7_joins_16 : decode cX7_joins 16 = .ok (.iaload, 1) := by decide +kernel
theorem dX7_joins_17 : decode cX7_joins 17 = .ok (.iadd, 1) := by decide +kernel
theorem dX7_joins_18 : decode cX7_joins 18 = .ok (.iconst 1, 1) := by decide +kernel
theorem dX7_joins_19 : decode cX7_joins 19 = .ok (.iadd, 1) := by decide +kernel
theorem dX7_joins_20 : decode cX7_joins 20 = .ok (.iastore, 1) := by decide +kernel
theorem dX7_joins_21 : decode cX7_joins 21 = .ok (.aload_n 0, 1) := by decide +kernel
theorem dX7_joins_22 : decode cX7_joins 22 = .ok (.getfield 40, 3) := by decide +kernel
theorem dX7_joins_25 : decode cX7_joins 25 = .ok (.iload_n 1, 1) := by decide +kernel
theorem dX7_joins_26 : decode cX7_joins 26 = .ok (.aload_n 0, 1) := by decide +kernel
theorem dX7_joins_27 : decode cX7_joins 27 = .ok (.getfield 40, 3) := by decide +kernel
theorem dX7_joins_30 : decode cX7_joins 30 = .ok (.iload_n 2, 1) := by decide +kernel
theorem dX7_joins_31 : decode cX7_joins 31 = .ok (.iaload, 1) := by decide +kernel
theorem dX7_joins_32 : decode cX7_joins 32 = .ok (.aload_n 0, 1) := by decide +kernel
theorem dX7_joins_33 : decode cX7_joins 33 = .ok (.getfield 40, 3) := by decide +kernel
theorem dX7_joins_36 : decode cX7_joins 36 = .ok (.iload_n 3, 1) := by decide +kernel
theorem dX7_joins_37 : decode cX7_joins 37 = .ok (.iaload, 1) := by decide +kernel
theorem dX7_joins_38 : decode cX7_joins 38 = .ok (.if_icmp .ne 14, 3) := by decide +kernel
theorem dX7_joins_41 : decode cX7_joins 41 = .ok (.aload_n 0, 1) := by decide +kernel
theorem dX7_joins_42 : decode cX7_joins 42 = .ok (.getfield 40, 3) := by decide +kernel
theorem dX7_joins_45 : decode cX7_joins 45 = .ok (.iload_n 2, 1) := by decide +kernel
theorem dX7_joins_46 : decode cX7_joins 46 = .ok (.iaload, 1) := by decide +kernel
theorem dX7_joins_47 : decode cX7_joins 47 = .ok (.iconst 1, 1) := by decide +kernel
theorem dX7_joins_48 : decode cX7_joins 48 = .ok (.iadd, 1) := by decide +kernel
theorem dX7_joins_49 : decode cX7_joins 49 = .ok (.goto 33, 3) := by decide +kernel
theorem dX7_joins_52 : decode cX7_joins 52 = .ok (.aload_n 0, 1) := by decide +kernel
theorem dX7_joins_53 : decode cX7_joins 53 = .ok (.getfield 40, 3) := by decide +kernel
theorem dX7_joins_56 : decode cX7_joins 56 = .ok (.iload_n 2, 1) := by decide +kernel
theorem dX7_joins_57 : decode cX7_joins 57 = .ok (.iaload, 1) := by decide +kernel
theorem dX7_joins_58 : decode cX7_joins 58 = .ok (.aload_n 0, 1) := by decide +kernel
theorem dX7_joins_59 : decode cX7_joins 59 = .ok (.getfield 40, 3) := by decide +kernel
theorem dX7_joins_62 : decode cX7_joins 62 = .ok (.iload_n 3, 1) := by decide +kernel
theorem dX7_joins_63 : decode cX7_joins 63 = .ok (.iaload, 1) := by decide +kernel
theorem dX7_joins_64 : decode cX7_joins 64 = .ok (.if_icmp .le 12, 3) := by decide +kernel
theorem dX7_joins_67 : decode cX7_joins 67 = .ok (.aload_n 0, 1) := by decide +kernel
theorem dX7_joins_68 : decode cX7_joins 68 = .ok (.getfield 40, 3) := by decide +kernel
theorem dX7_joins_71 : decode cX7_joins 71 = .ok (.iload_n 2, 1) := by decide +kernel
theorem dX7_joins_72 : decode cX7_joins 72 = .ok (.iaload, 1) := by decide +kernel
theorem dX7_joins_73 : decode cX7_joins 73 = .ok (.goto 9, 3) := by decide +kernel
theorem dX7_joins_76 : decode cX7_joins 76 = .ok (.aload_n 0, 1) := by decide +kernel
theorem dX7_joins_77 : decode cX7_joins 77 = .ok (.getfield 40, 3) := by decide +kernel
theorem dX7_joins_80 : decode cX7_joins 80 = .ok (.iload_n 3, 1) := by decide +kernel
theorem dX7_joins_81 : decode cX7_joins 81 = .ok (.iaload, 1) := by decide +kernel
theorem dX7_joins_82 : decode cX7_joins 82 = .ok (.iastore, 1) := by decide +kernel
theorem dX7_joins_83 : decode cX7_joins 83 = .ok (.aload_n 0, 1) := by decide +kernel
theorem dX7_joins_84 : decode cX7_joins 84 = .ok (.getfield 43, 3) := by decide +kernel
theorem dX7_joins_87 : decode cX7_joins 87 = .ok (.iload_n 1, 1) := by decide +kernel
theorem dX7_joins_88 : decode cX7_joins 88 = .ok (.iconst 1, 1) := by decide +kernel
theorem dX7_joins_89 : decode cX7_joins 89 = .ok (.aload_n 0, 1) := by decide +kernel
theorem dX7_joins_90 : decode cX7_joins 90 = .ok (.getfield 43, 3) := by decide +kernel
theorem dX7_joins_93 : decode cX7_joins 93 = .ok (.iload_n 2, 1) := by decide +kernel
theorem dX7_joins_94 : decode cX7_joins 94 = .ok (.iaload, 1) := by decide +kernel
theorem dX7_joins_95 : decode cX7_joins 95 = .ok (.aload_n 0, 1) := by decide +kernel
theorem dX7_joins_96 : decode cX7_joins 96 = .ok (.getfield 43, 3) := by decide +kernel
theorem dX7_joins_99 : decode cX7_joins 99 = .ok (.iload_n 3, 1) := by decide +kernel
theorem dX7_joins_100 : decode cX7_joins 100 = .ok (.iaload, 1) := by decide +kernel
theorem dX7_joins_101 : decode cX7_joins 101 = .ok (.if_icmp .le 12, 3) := by decide +kernel
theorem dX7_joins_104 : decode cX7_joins 104 = .ok (.aload_n 0, 1) := by decide +kernel
theorem dX7_joins_105 : decode cX7_joins 105 = .ok (.getfield 43, 3) := by decide +kernel
theorem dX7_joins_108 : decode cX7_joins 108 = .ok (.iload_n 2, 1) := by decide +kernel
theorem dX7_joins_109 : decode cX7_joins 109 = .ok (.iaload, 1) := by decide +kernel
theorem dX7_joins_110 : decode cX7_joins 110 = .ok (.goto 9, 3) := by decide +kernel
theorem dX7_joins_113 : decode cX7_joins 113 = .ok (.aload_n 0, 1) := by decide +kernel
theorem dX7_joins_114 : decode cX7_joins 114 = .ok (.getfield 43, 3) := by decide +kernel
theorem dX7_joins_117 : decode cX7_joins 117 = .ok (.iload_n 3, 1) := by decide +kernel
theorem dX7_joins_118 : decode cX7_joins 118 = .ok (.iaload, 1) := by decide +kernel
theorem dX7_joins_119 : decode cX7_joins 119 = .ok (.iadd, 1) := by decide +kernel
theorem dX7_joins_120 : decode cX7_joins 120 = .ok (.iastore, 1) := by decide +kernel
theorem dX7_joins_121 : decode cX7_joins 121 = .ok (.aload_n 0, 1) := by decide +kernel
theorem dX7_joins_122 : decode cX7_joins 122 = .ok (.getfield 46, 3) := by decide +kernel
theorem dX7_joins_125 : decode cX7_joins 125 = .ok (.iload_n 2, 1) := by decide +kernel
theorem dX7_joins_126 : decode cX7_joins 126 = .ok (.iaload, 1) := by decide +kernel
theorem dX7_joins_127 : decode cX7_joins 127 = .ok (.i2l, 1) := by decide +kernel
theorem dX7_joins_128 : decode cX7_joins 128 = .ok (.lstore 4, 2) := by decide +kernel
theorem dX7_joins_130 : decode cX7_joins 130 = .ok (.aload_n 0, 1) := by decide +kernel
theorem dX7_joins_131 : decode cX7_joins 131 = .ok (.getfield 46, 3) := by decide +kernel
theorem dX7_joins_134 : decode cX7_joins 134 = .ok (.iload_n 3, 1) := by decide +kernel
theorem dX7_joins_135 : decode cX7_joins 135 = .ok (.iaload, 1) := by decide +kernel
theorem dX7_joins_136 : decode cX7_joins 136 = .ok (.i2l, 1) := by decide +kernel
theorem dX7_joins_137 : decode cX7_joins 137 = .ok (.lstore 6, 2) := by decide +kernel
theorem dX7_joins_139 : decode cX7_joins 139 = .ok (.aload_n 0, 1) := by decide +kernel
theorem dX7_joins_140 : decode cX7_joins 140 = .ok (.getfield 46, 3) := by decide +kernel
theorem dX7_joins_143 : decode cX7_joins 143 = .ok (.iload_n 1, 1) := by decide +kernel
theorem dX7_joins_144 : decode cX7_joins 144 = .ok (.aload_n 0, 1) := by decide +kernel
theorem dX7_joins_145 : decode cX7_joins 145 = .ok (.getfield 31, 3) := by decide +kernel
theorem dX7_joins_148 : decode cX7_joins 148 = .ok (.iload_n 1, 1) := by decide +kernel
theorem dX7_joins_149 : decode cX7_joins 149 = .ok (.iaload, 1) := by decide +kernel
theorem dX7_joins_150 : decode cX7_joins 150 = .ok (.iconst 4, 1) := by decide +kernel
theorem dX7_joins_151 : decode cX7_joins 151 = .ok (.if_icmp .ne 11, 3) := by decide +kernel
theorem dX7_joins_154 : decode cX7_joins 154 = .ok (.lload 4, 2) := by decide +kernel
theorem dX7_joins_156 : decode cX7_joins 156 = .ok (.lload 6, 2) := by decide +kernel
theorem dX7_joins_158 : decode cX7_joins 158 = .ok (.ladd, 1) := by decide +kernel
theorem dX7_joins_159 : decode cX7_joins 159 = .ok (.goto 26, 3) := by decide +kernel
theorem dX7_joins_162 : decode cX7_joins 162 = .ok (.aload_n 0, 1) := by decide +kernel
theorem dX7_joins_163 : decode cX7_joins 163 = .ok (.getfield 31, 3) := by decide +kernel
theorem dX7_joins_166 : decode cX7_joins 166 = .ok (.iload_n 1, 1) := by decide +kernel
theorem dX7_joins_167 : decode cX7_joins 167 = .ok (.iaload, 1) := by decide +kernel
theorem dX7_joins_168 : decode cX7_joins 168 = .ok (.iconst 5, 1) := by decide +kernel
theorem dX7_joins_169 : decode cX7_joins 169 = .ok (.if_icmp .ne 11, 3) := by decide +kernel
theorem dX7_joins_172 : decode cX7_joins 172 = .ok (.lload 4, 2) := by decide +kernel
theorem dX7_joins_174 : decode cX7_joins 174 = .ok (.lload 6, 2) := by decide +kernel
theorem dX7_joins_176 : decode cX7_joins 176 = .ok (.lsub, 1) := by decide +kernel
theorem dX7_joins_177 : decode cX7_joins 177 = .ok (.goto 8, 3) := by decide +kernel
theorem dX7_joins_180 : decode cX7_joins 180 = .ok (.lload 4, 2) := by decide +kernel
theorem dX7_joins_182 : decode cX7_joins 182 = .ok (.lload 6, 2) := by decide +kernel
theorem dX7_joins_184 : decode cX7_joins 184 = .ok (.lmul, 1) := by decide +kernel
theorem dX7_joins_185 : decode cX7_joins 185 = .ok (.invokestatic 180, 3) := by decide +kernel
theorem dX7_joins_188 : decode cX7_joins 188 = .ok (.iastore, 1) := by decide +kernel
theorem dX7_joins_189 : decode cX7_joins 189 = .ok (.return_, 1) := by decide +kernel
theorem dX7_lays_0 : decode cX7_lays 0 = .ok (.iconst 0, 1) := by decide +kernel
theorem dX7_lays_1 : decode cX7_lays 1 = .ok (.istore_n 1, 1) := by decide +kernel
theorem dX7_lays_2 : decode cX7_lays 2 = .ok (.iload_n 1, 1) := by decide +kernel
theorem dX7_lays_3 : decode cX7_lays 3 = .ok (.aload_n 0, 1) := by decide +kernel
theorem dX7_lays_4 : decode cX7_lays 4 = .ok (.getfield 7, 3) := by decide +kernel
theorem dX7_lays_7 : decode cX7_lays 7 = .ok (.iconst 0, 1) := by decide +kernel
theorem dX7_lays_8 : decode cX7_lays 8 = .ok (.iaload, 1) := by decide +kernel
theorem dX7_lays_9 : decode cX7_lays 9 = .ok (.if_icmp .ge 44, 3) := by decide +kernel
theorem dX7_lays_12 : decode cX7_lays 12 = .ok (.aload_n 0, 1) := by decide +kernel
theorem dX7_lays_13 : decode cX7_lays 13 = .ok (.iload_n 1, 1) := by decide +kernel
theorem dX7_lays_14 : decode cX7_lays 14 = .ok (.invokevirtual 184, 3) := by decide +kernel
theorem dX7_lays_17 : decode cX7_lays 17 = .ok (.aload_n 0, 1) := by decide +kernel
theorem dX7_lays_18 : decode cX7_lays 18 = .ok (.getfield 49, 3) := by decide +kernel
theorem dX7_lays_21 : decode cX7_lays 21 = .ok (.iload_n 1, 1) := by decide +kernel
theorem dX7_lays_22 : decode cX7_lays 22 = .ok (.iaload, 1) := by decide +kernel
theorem dX7_lays_23 : decode cX7_lays 23 = .ok (.iconst 1, 1) := by decide +kernel
theorem dX7_lays_24 : decode cX7_lays 24 = .ok (.isub, 1) := by decide +kernel
theorem dX7_lays_25 : decode cX7_lays 25 = .ok (.istore_n 2, 1) := by decide +kernel
theorem dX7_lays_26 : decode cX7_lays 26 = .ok (.iload_n 2, 1) := by decide +kernel
theorem dX7_lays_27 : decode cX7_lays 27 = .ok (.ifCond .lt 20, 3) := by decide +kernel
theorem dX7_lays_30 : decode cX7_lays 30 = .ok (.aload_n 0, 1) := by decide +kernel
theorem dX7_lays_31 : decode cX7_lays 31 = .ok (.iload_n 1, 1) := by decide +kernel
theorem dX7_lays_32 : decode cX7_lays 32 = .ok (.bipush 90, 2) := by decide +kernel
theorem dX7_lays_34 : decode cX7_lays 34 = .ok (.iload_n 1, 1) := by decide +kernel
theorem dX7_lays_35 : decode cX7_lays 35 = .ok (.imul, 1) := by decide +kernel
theorem dX7_lays_36 : decode cX7_lays 36 = .ok (.iload_n 2, 1) := by decide +kernel
theorem dX7_lays_37 : decode cX7_lays 37 = .ok (.iadd, 1) := by decide +kernel
theorem dX7_lays_38 : decode cX7_lays 38 = .ok (.invokevirtual 187, 3) := by decide +kernel
theorem dX7_lays_41 : decode cX7_lays 41 = .ok (.iinc 2 (-1), 3) := by decide +kernel
theorem dX7_lays_44 : decode cX7_lays 44 = .ok (.goto (-18), 3) := by decide +kernel
theorem dX7_lays_47 : decode cX7_lays 47 = .ok (.iinc 1 1, 3) := by decide +kernel
theorem dX7_lays_50 : decode cX7_lays 50 = .ok (.goto (-48), 3) := by decide +kernel
theorem dX7_lays_53 : decode cX7_lays 53 = .ok (.return_, 1) := by decide +kernel
theorem dX7_cheapOnes_0 : decode cX7_cheapOnes 0 = .ok (.iconst 0, 1) := by decide +kernel
theorem dX7_cheapOnes_1 : decode cX7_cheapOnes 1 = .ok (.istore_n 1, 1) := by decide +kernel
theorem dX7_cheapOnes_2 : decode cX7_cheapOnes 2 = .ok (.iconst 0, 1) := by decide +kernel
theorem dX7_cheapOnes_3 : decode cX7_cheapOnes 3 = .ok (.istore_n 2, 1) := by decide +kernel
theorem dX7_cheapOnes_4 : decode cX7_cheapOnes 4 = .ok (.iload_n 2, 1) := by decide +kernel
theorem dX7_cheapOnes_5 : decode cX7_cheapOnes 5 = .ok (.aload_n 0, 1) := by decide +kernel
theorem dX7_cheapOnes_6 : decode cX7_cheapOnes 6 = .ok (.getfield 7, 3) := by decide +kernel
theorem dX7_cheapOnes_9 : decode cX7_cheapOnes 9 = .ok (.iconst 0, 1) := by decide +kernel
theorem dX7_cheapOnes_10 : decode cX7_cheapOnes 10 = .ok (.iaload, 1) := by decide +kernel
theorem dX7_cheapOnes_11 : decode cX7_cheapOnes 11 = .ok (.if_icmp .ge 26, 3) := by decide +kernel
theorem dX7_cheapOnes_14 : decode cX7_cheapOnes 14 = .ok (.iload_n 1, 1) := by decide +kernel
theorem dX7_cheapOnes_15 : decode cX7_cheapOnes 15 = .ok (.aload_n 0, 1) := by decide +kernel
theorem dX7_cheapOnes_16 : decode cX7_cheapOnes 16 = .ok (.getfield 52, 3) := by decide +kernel
theorem dX7_cheapOnes_19 : decode cX7_cheapOnes 19 = .ok (.iload_n 2, 1) := by decide +kernel
theorem dX7_cheapOnes_20 : decode cX7_cheapOnes 20 = .ok (.baload, 1) := by decide +kernel
theorem dX7_cheapOnes_21 : decode cX7_cheapOnes 21 = .ok (.ifCond .eq 7, 3) := by decide +kernel
theorem dX7_cheapOnes_24 : decode cX7_cheapOnes 24 = .ok (.iconst 1, 1) := by decide +kernel
theorem dX7_cheapOnes_25 : decode cX7_cheapOnes 25 = .ok (.goto 4, 3) := by decide +kernel
theorem dX7_cheapOnes_28 : decode cX7_cheapOnes 28 = .ok (.iconst 0, 1) := by decide +kernel
theorem dX7_cheapOnes_29 : decode cX7_cheapOnes 29 = .ok (.iadd, 1) := by decide +kernel
theorem dX7_cheapOnes_30 : decode cX7_cheapOnes 30 = .ok (.istore_n 1, 1) := by decide +kernel
theorem dX7_cheapOnes_31 : decode cX7_cheapOnes 31 = .ok (.iinc 2 1, 3) := by decide +kernel
theorem dX7_cheapOnes_34 : decode cX7_cheapOnes 34 = .ok (.goto (-30), 3) := by decide +kernel
theorem dX7_cheapOnes_37 : decode cX7_cheapOnes 37 = .ok (.iload_n 1, 1) := by decide +kernel
theorem dX7_cheapOnes_38 : decode cX7_cheapOnes 38 = .ok (.ireturn, 1) := by decide +kernel
theorem dX7_greatestNeed_0 : decode cX7_greatestNeed 0 = .ok (.iconst 0, 1) := by decide +kernel
theorem dX7_greatestNeed_1 : decode cX7_greatestNeed 1 = .ok (.istore_n 1, 1) := by decide +kernel
theorem dX7_greatestNeed_2 : decode cX7_greatestNeed 2 = .ok (.iconst 0, 1) := by decide +kernel
theorem dX7_greatestNeed_3 : decode cX7_greatestNeed 3 = .ok (.istore_n 2, 1) := by decide +kernel
theorem dX7_greatestNeed_4 : decode cX7_greatestNeed 4 = .ok (.iload_n 2, 1) := by decide +kernel
theorem dX7_greatestNeed_5 : decode cX7_greatestNeed 5 = .ok (.aload_n 0, 1) := by decide +kernel
theorem dX7_greatestNeed_6 : decode cX7_greatestNeed 6 = .ok (.getfield 7, 3) := by decide +kernel
theorem dX7_greatestNeed_9 : decode cX7_greatestNeed 9 = .ok (.iconst 0, 1) := by decide +kernel
theorem dX7_greatestNeed_10 : decode cX7_greatestNeed 10 = .ok (.iaload, 1) := by decide +kernel
theorem dX7_greatestNeed_11 : decode cX7_greatestNeed 11 = .ok (.if_icmp .ge 45, 3) := by decide +kernel
theorem dX7_greatestNeed_14 : decode cX7_greatestNeed 14 = .ok (.aload_n 0, 1) := by decide +kernel
theorem dX7_greatestNeed_15 : decode cX7_greatestNeed 15 = .ok (.getfield 52, 3) := by decide +kernel
theorem dX7_greatestNeed_18 : decode cX7_greatestNeed 18 = .ok (.iload_n 2, 1) := by decide +kernel
theorem dX7_greatestNeed_19 : decode cX7_greatestNeed 19 = .ok (.baload, 1) := by decide +kernel
theorem dX7_greatestNeed_20 : decode cX7_greatestNeed 20 = .ok (.ifCond .ne 28, 3) := by decide +kernel
theorem dX7_greatestNeed_23 : decode cX7_greatestNeed 23 = .ok (.aload_n 0, 1) := by decide +kernel
theorem dX7_greatestNeed_24 : decode cX7_greatestNeed 24 = .ok (.getfield 40, 3) := by decide +kernel
theorem dX7_greatestNeed_27 : decode cX7_greatestNeed 27 = .ok (.bipush 90, 2) := by decide +kernel
theorem dX7_greatestNeed_29 : decode cX7_greatestNeed 29 = .ok (.iload_n 2, 1) := by decide +kernel
theorem dX7_greatestNeed_30 : decode cX7_greatestNeed 30 = .ok (.imul, 1) := by decide +kernel
theorem dX7_greatestNeed_31 : decode cX7_greatestNeed 31 = .ok (.iaload, 1) := by decide +kernel
theorem dX7_greatestNeed_32 : decode cX7_greatestNeed 32 = .ok (.iload_n 1, 1) := by decide +kernel
theorem dX7_greatestNeed_33 : decode cX7_greatestNeed 33 = .ok (.if_icmp .le 15, 3) := by decide +kernel
theorem dX7_greatestNeed_36 : decode cX7_greatestNeed 36 = .ok (.aload_n 0, 1) := by decide +kernel
theorem dX7_greatestNeed_37 : decode cX7_greatestNeed 37 = .ok (.getfield 40, 3) := by decide +kernel
theorem dX7_greatestNeed_40 : decode cX7_greatestNeed 40 = .ok (.bipush 90, 2) := by decide +kernel
theorem dX7_greatestNeed_42 : decode cX7_greatestNeed 42 = .ok (.iload_n 2, 1) := by decide +kernel
theorem dX7_greatestNeed_43 : decode cX7_greatestNeed 43 = .ok (.imul, 1) := by decide +kernel
theorem dX7_greatestNeed_44 : decode cX7_greatestNeed 44 = .ok (.iaload, 1) := by decide +kernel
theorem dX7_greatestNeed_45 : decode cX7_greatestNeed 45 = .ok (.goto 4, 3) := by decide +kernel
theorem dX7_greatestNeed_48 : decode cX7_greatestNeed 48 = .ok (.iload_n 1, 1) := by decide +kernel
theorem dX7_greatestNeed_49 : decode cX7_greatestNeed 49 = .ok (.istore_n 1, 1) := by decide +kernel
theorem dX7_greatestNeed_50 : decode cX7_greatestNeed 50 = .ok (.iinc 2 1, 3) := by decide +kernel
theorem dX7_greatestNeed_53 : decode cX7_greatestNeed 53 = .ok (.goto (-49), 3) := by decide +kernel
theorem dX7_greatestNeed_56 : decode cX7_greatestNeed 56 = .ok (.iload_n 1, 1) := by decide +kernel
theorem dX7_greatestNeed_57 : decode cX7_greatestNeed 57 = .ok (.ireturn, 1) := by decide +kernel
theorem dX7_count_0 : decode cX7_count 0 = .ok (.aload_n 0, 1) := by decide +kernel
theorem dX7_count_1 : decode cX7_count 1 = .ok (.invokevirtual 164, 3) := by decide +kernel
theorem dX7_count_4 : decode cX7_count 4 = .ok (.iload_n 1, 1) := by decide +kernel
theorem dX7_count_5 : decode cX7_count 5 = .ok (.tableswitch 111 0 6 #[43, 50, 55, 89, 96, 101, 106], 43) := by decide +kernel
theorem dX7_count_48 : decode cX7_count 48 = .ok (.aload_n 0, 1) := by decide +kernel
theorem dX7_count_49 : decode cX7_count 49 = .ok (.getfield 7, 3) := by decide +kernel
theorem dX7_count_52 : decode cX7_count 52 = .ok (.iconst 0, 1) := by decide +kernel
theorem dX7_count_53 : decode cX7_count 53 = .ok (.iaload, 1) := by decide +kernel
theorem dX7_count_54 : decode cX7_count 54 = .ok (.ireturn, 1) := by decide +kernel
theorem dX7_count_55 : decode cX7_count 55 = .ok (.aload_n 0, 1) := by decide +kernel
theorem dX7_count_56 : decode cX7_count 56 = .ok (.invokevirtual 191, 3) := by decide +kernel
theorem dX7_count_59 : decode cX7_count 59 = .ok (.ireturn, 1) := by decide +kernel
theorem dX7_count_60 : decode cX7_count 60 = .ok (.iconst 0, 1) := by decide +kernel
theorem dX7_count_61 : decode cX7_count 61 = .ok (.istore_n 2, 1) := by decide +kernel
theorem dX7_count_62 : decode cX7_count 62 = .ok (.iconst 0, 1) := by decide +kernel
theorem dX7_count_63 : decode cX7_count 63 = .ok (.istore_n 3, 1) := by decide +kernel
theorem dX7_count_64 : decode cX7_count 64 = .ok (.iload_n 3, 1) := by decide +kernel
theorem dX7_count_65 : decode cX7_count 65 = .ok (.aload_n 0, 1) := by decide +kernel
theorem dX7_count_66 : decode cX7_count 66 = .ok (.getfield 7, 3) := by decide +kernel
theorem dX7_count_69 : decode cX7_count 69 = .ok (.iconst 0, 1) := by decide +kernel
theorem dX7_count_70 : decode cX7_count 70 = .ok (.iaload, 1) := by decide +kernel
theorem dX7_count_71 : decode cX7_count 71 = .ok (.if_icmp .ge 21, 3) := by decide +kernel
theorem dX7_count_74 : decode cX7_count 74 = .ok (.iload_n 2, 1) := by decide +kernel
theorem dX7_count_75 : decode cX7_count 75 = .ok (.aload_n 0, 1) := by decide +kernel
theorem dX7_count_76 : decode cX7_count 76 = .ok (.getfield 7, 3) := by decide +kernel
theorem dX7_count_79 : decode cX7_count 79 = .ok (.bipush 10, 2) := by decide +kernel
theorem dX7_count_81 : decode cX7_count 81 = .ok (.iload_n 3, 1) := by decide +kernel
theorem dX7_count_82 : decode cX7_count 82 = .ok (.iadd, 1) := by decide +kernel
theorem dX7_count_83 : decode cX7_count 83 = .ok (.iaload, 1) := by decide +kernel
theorem dX7_count_84 : decode cX7_count 84 = .ok (.iadd, 1) := by decide +kernel
theorem dX7_count_85 : decode cX7_count 85 = .ok (.istore_n 2, 1) := by decide +kernel
theorem dX7_count_86 : decode cX7_count 86 = .ok (.iinc 3 1, 3) := by decide +kernel
theorem dX7_count_89 : decode cX7_count 89 = .ok (.goto (-25), 3) := by decide +kernel
theorem dX7_count_92 : decode cX7_count 92 = .ok (.iload_n 2, 1) := by decide +kernel
theorem dX7_count_93 : decode cX7_count 93 = .ok (.ireturn, 1) := by decide +kernel
theorem dX7_count_94 : decode cX7_count 94 = .ok (.aload_n 0, 1) := by decide +kernel
theorem dX7_count_95 : decode cX7_count 95 = .ok (.getfield 7, 3) := by decide +kernel
theorem dX7_count_98 : decode cX7_count 98 = .ok (.iconst 1, 1) := by decide +kernel
theorem dX7_count_99 : decode cX7_count 99 = .ok (.iaload, 1) := by decide +kernel
theorem dX7_count_100 : decode cX7_count 100 = .ok (.ireturn, 1) := by decide +kernel
theorem dX7_count_101 : decode cX7_count 101 = .ok (.aload_n 0, 1) := by decide +kernel
theorem dX7_count_102 : decode cX7_count 102 = .ok (.invokevirtual 194, 3) := by decide +kernel
theorem dX7_count_105 : decode cX7_count 105 = .ok (.ireturn, 1) := by decide +kernel
theorem dX7_count_106 : decode cX7_count 106 = .ok (.aload_n 0, 1) := by decide +kernel
theorem dX7_count_107 : decode cX7_count 107 = .ok (.getfield 71, 3) := by decide +kernel
theorem dX7_count_110 : decode cX7_count 110 = .ok (.ireturn, 1) := by decide +kernel
theorem dX7_count_111 : decode cX7_count 111 = .ok (.aload_n 0, 1) := by decide +kernel
theorem dX7_count_112 : decode cX7_count 112 = .ok (.getfield 80, 3) := by decide +kernel
theorem dX7_count_115 : decode cX7_count 115 = .ok (.ireturn, 1) := by decide +kernel
theorem dX7_count_116 : decode cX7_count 116 = .ok (.ldc 79, 2) := by decide +kernel
theorem dX7_count_118 : decode cX7_count 118 = .ok (.ireturn, 1) := by decide +kernel
theorem dX7_uses_0 : decode cX7_uses 0 = .ok (.iconst 0, 1) := by decide +kernel
theorem dX7_uses_1 : decode cX7_uses 1 = .ok (.istore_n 2, 1) := by decide +kernel
theorem dX7_uses_2 : decode cX7_uses 2 = .ok (.iconst 0, 1) := by decide +kernel
theorem dX7_uses_3 : decode cX7_uses 3 = .ok (.istore_n 3, 1) := by decide +kernel
theorem dX7_uses_4 : decode cX7_uses 4 = .ok (.iload_n 3, 1) := by decide +kernel
theorem dX7_uses_5 : decode cX7_uses 5 = .ok (.aload_n 0, 1) := by decide +kernel
theorem dX7_uses_6 : decode cX7_uses 6 = .ok (.getfield 7, 3) := by decide +kernel
theorem dX7_uses_9 : decode cX7_uses 9 = .ok (.iconst 0, 1) := by decide +kernel
theorem dX7_uses_10 : decode cX7_uses 10 = .ok (.iaload, 1) := by decide +kernel
theorem dX7_uses_11 : decode cX7_uses 11 = .ok (.if_icmp .ge 76, 3) := by decide +kernel
theorem dX7_uses_14 : decode cX7_uses 14 = .ok (.bipush 90, 2) := by decide +kernel
theorem dX7_uses_16 : decode cX7_uses 16 = .ok (.iload_n 3, 1) := by decide +kernel
theorem dX7_uses_17 : decode cX7_uses 17 = .ok (.imul, 1) := by decide +kernel
theorem dX7_uses_18 : decode cX7_uses 18 = .ok (.istore 4, 2) := by decide +kernel
theorem dX7_uses_20 : decode cX7_uses 20 = .ok (.iload 4, 2) := by decide +kernel
theorem dX7_uses_22 : decode cX7_uses 22 = .ok (.bipush 90, 2) := by decide +kernel
theorem dX7_uses_24 : decode cX7_uses 24 = .ok (.iload_n 3, 1) := by decide +kernel
theorem dX7_uses_25 : decode cX7_uses 25 = .ok (.imul, 1) := by decide +kernel
theorem dX7_uses_26 : decode cX7_uses 26 = .ok (.aload_n 0, 1) := by decide +kernel
theorem dX7_uses_27 : decode cX7_uses 27 = .ok (.getfield 49, 3) := by decide +kernel
theorem dX7_uses_30 : decode cX7_uses 30 = .ok (.iload_n 3, 1) := by decide +kernel
theorem dX7_uses_31 : decode cX7_uses 31 = .ok (.iaload, 1) := by decide +kernel
theorem dX7_uses_32 : decode cX7_uses 32 = .ok (.iadd, 1) := by decide +kernel
theorem dX7_uses_33 : decode cX7_uses 33 = .ok (.if_icmp .ge 48, 3) := by decide +kernel
theorem dX7_uses_36 : decode cX7_uses 36 = .ok (.aload_n 0, 1) := by decide +kernel
theorem dX7_uses_37 : decode cX7_uses 37 = .ok (.getfield 52, 3) := by decide +kernel
theorem dX7_uses_40 : decode cX7_uses 40 = .ok (.iload_n 3, 1) := by decide +kernel
theorem dX7_uses_41 : decode cX7_uses 41 = .ok (.baload, 1) := by decide +kernel
theorem dX7_uses_42 : decode cX7_uses 42 = .ok (.ifCond .ne 39, 3) := by decide +kernel
theorem dX7_uses_45 : decode cX7_uses 45 = .ok (.iload_n 2, 1) := by decide +kernel
theorem dX7_uses_46 : decode cX7_uses 46 = .ok (.aload_n 0, 1) := by decide +kernel
theorem dX7_uses_47 : decode cX7_uses 47 = .ok (.getfield 31, 3) := by decide +kernel
theorem dX7_uses_50 : decode cX7_uses 50 = .ok (.iload 4, 2) := by decide +kernel
theorem dX7_uses_52 : decode cX7_uses 52 = .ok (.iaload, 1) := by decide +kernel
theorem dX7_uses_53 : decode cX7_uses 53 = .ok (.iconst 2, 1) := by decide +kernel
theorem dX7_uses_54 : decode cX7_uses 54 = .ok (.if_icmp .ne 18, 3) := by decide +kernel
theorem dX7_uses_57 : decode cX7_uses 57 = .ok (.aload_n 0, 1) := by decide +kernel
theorem dX7_uses_58 : decode cX7_uses 58 = .ok (.getfield 34, 3) := by decide +kernel
theorem dX7_uses_61 : decode cX7_uses 61 = .ok (.iload 4, 2) := by decide +kernel
theorem dX7_uses_63 : decode cX7_uses 63 = .ok (.iaload, 1) := by decide +kernel
theorem dX7_uses_64 : decode cX7_uses 64 = .ok (.iload_n 1, 1) := by decide +kernel
theorem dX7_uses_65 : decode cX7_uses 65 = .ok (.if_icmp .ne 7, 3) := by decide +kernel
theorem dX7_uses_68 : decode cX7_uses 68 = .ok (.iconst 1, 1) := by decide +kernel
theorem dX7_uses_69 : decode cX7_uses 69 = .ok (.goto 4, 3) := by decide +kernel
theorem dX7_uses_72 : decode cX7_uses 72 = .ok (.iconst 0, 1) := by decide +kernel
theorem dX7_uses_73 : decode cX7_uses 73 = .ok (.iadd, 1) := by decide +kernel
theorem dX7_uses_74 : decode cX7_uses 74 = .ok (.istore_n 2, 1) := by decide +kernel
theorem dX7_uses_75 : decode cX7_uses 75 = .ok (.iinc 4 1, 3) := by decide +kernel
theorem dX7_uses_78 : decode cX7_uses 78 = .ok (.goto (-58), 3) := by decide +kernel
end
section
theorem dX7_uses_81 : decode cX7_uses 81 = .ok (.iinc 3 1, 3) := by decide +kernel
theorem dX7_uses_84 : decode cX7_uses 84 = .ok (.goto (-80), 3) := by decide +kernel
theorem dX7_uses_87 : decode cX7_uses 87 = .ok (.iload_n 2, 1) := by decide +kernel
theorem dX7_uses_88 : decode cX7_uses 88 = .ok (.ireturn, 1) := by decide +kernel
theorem dX7_formula_0 : decode cX7_formula 0 = .ok (.aload_n 0, 1) := by decide +kernel
theorem dX7_formula_1 : decode cX7_formula 1 = .ok (.iload_n 1, 1) := by decide +kernel
theorem dX7_formula_2 : decode cX7_formula 2 = .ok (.invokevirtual 156, 3) := by decide +kernel
theorem dX7_formula_5 : decode cX7_formula 5 = .ok (.ifCond .eq 13, 3) := by decide +kernel
theorem dX7_formula_8 : decode cX7_formula 8 = .ok (.iload_n 2, 1) := by decide +kernel
theorem dX7_formula_9 : decode cX7_formula 9 = .ok (.iconst 0, 1) := by decide +kernel
theorem dX7_formula_10 : decode cX7_formula 10 = .ok (.bipush 6, 2) := by decide +kernel
theorem dX7_formula_12 : decode cX7_formula 12 = .ok (.invokestatic 75, 3) := by decide +kernel
theorem dX7_formula_15 : decode cX7_formula 15 = .ok (.ifCond .ne 6, 3) := by decide +kernel
theorem dX7_formula_18 : decode cX7_formula 18 = .ok (.ldc 79, 2) := by decide +kernel
theorem dX7_formula_20 : decode cX7_formula 20 = .ok (.ireturn, 1) := by decide +kernel
theorem dX7_formula_21 : decode cX7_formula 21 = .ok (.aload_n 0, 1) := by decide +kernel
theorem dX7_formula_22 : decode cX7_formula 22 = .ok (.invokevirtual 164, 3) := by decide +kernel
theorem dX7_formula_25 : decode cX7_formula 25 = .ok (.iload_n 2, 1) := by decide +kernel
theorem dX7_formula_26 : decode cX7_formula 26 = .ok (.tableswitch 100 0 5 #[38, 48, 55, 65, 80, 90], 38) := by decide +kernel
theorem dX7_formula_64 : decode cX7_formula 64 = .ok (.aload_n 0, 1) := by decide +kernel
theorem dX7_formula_65 : decode cX7_formula 65 = .ok (.getfield 7, 3) := by decide +kernel
theorem dX7_formula_68 : decode cX7_formula 68 = .ok (.bipush 10, 2) := by decide +kernel
theorem dX7_formula_70 : decode cX7_formula 70 = .ok (.iload_n 1, 1) := by decide +kernel
theorem dX7_formula_71 : decode cX7_formula 71 = .ok (.iadd, 1) := by decide +kernel
theorem dX7_formula_72 : decode cX7_formula 72 = .ok (.iaload, 1) := by decide +kernel
theorem dX7_formula_73 : decode cX7_formula 73 = .ok (.ireturn, 1) := by decide +kernel
theorem dX7_formula_74 : decode cX7_formula 74 = .ok (.aload_n 0, 1) := by decide +kernel
theorem dX7_formula_75 : decode cX7_formula 75 = .ok (.getfield 49, 3) := by decide +kernel
theorem dX7_formula_78 : decode cX7_formula 78 = .ok (.iload_n 1, 1) := by decide +kernel
theorem dX7_formula_79 : decode cX7_formula 79 = .ok (.iaload, 1) := by decide +kernel
theorem dX7_formula_80 : decode cX7_formula 80 = .ok (.ireturn, 1) := by decide +kernel
theorem dX7_formula_81 : decode cX7_formula 81 = .ok (.aload_n 0, 1) := by decide +kernel
theorem dX7_formula_82 : decode cX7_formula 82 = .ok (.getfield 40, 3) := by decide +kernel
theorem dX7_formula_85 : decode cX7_formula 85 = .ok (.bipush 90, 2) := by decide +kernel
theorem dX7_formula_87 : decode cX7_formula 87 = .ok (.iload_n 1, 1) := by decide +kernel
theorem dX7_formula_88 : decode cX7_formula 88 = .ok (.imul, 1) := by decide +kernel
theorem dX7_formula_89 : decode cX7_formula 89 = .ok (.iaload, 1) := by decide +kernel
theorem dX7_formula_90 : decode cX7_formula 90 = .ok (.ireturn, 1) := by decide +kernel
theorem dX7_formula_91 : decode cX7_formula 91 = .ok (.aload_n 0, 1) := by decide +kernel
theorem dX7_formula_92 : decode cX7_formula 92 = .ok (.getfield 52, 3) := by decide +kernel
theorem dX7_formula_95 : decode cX7_formula 95 = .ok (.iload_n 1, 1) := by decide +kernel
theorem dX7_formula_96 : decode cX7_formula 96 = .ok (.baload, 1) := by decide +kernel
theorem dX7_formula_97 : decode cX7_formula 97 = .ok (.ifCond .eq 7, 3) := by decide +kernel
theorem dX7_formula_100 : decode cX7_formula 100 = .ok (.iconst 1, 1) := by decide +kernel
theorem dX7_formula_101 : decode cX7_formula 101 = .ok (.goto 4, 3) := by decide +kernel
theorem dX7_formula_104 : decode cX7_formula 104 = .ok (.iconst 0, 1) := by decide +kernel
theorem dX7_formula_105 : decode cX7_formula 105 = .ok (.ireturn, 1) := by decide +kernel
theorem dX7_formula_106 : decode cX7_formula 106 = .ok (.aload_n 0, 1) := by decide +kernel
theorem dX7_formula_107 : decode cX7_formula 107 = .ok (.getfield 46, 3) := by decide +kernel
theorem dX7_formula_110 : decode cX7_formula 110 = .ok (.bipush 90, 2) := by decide +kernel
theorem dX7_formula_112 : decode cX7_formula 112 = .ok (.iload_n 1, 1) := by decide +kernel
theorem dX7_formula_113 : decode cX7_formula 113 = .ok (.imul, 1) := by decide +kernel
theorem dX7_formula_114 : decode cX7_formula 114 = .ok (.iaload, 1) := by decide +kernel
theorem dX7_formula_115 : decode cX7_formula 115 = .ok (.ireturn, 1) := by decide +kernel
theorem dX7_formula_116 : decode cX7_formula 116 = .ok (.aload_n 0, 1) := by decide +kernel
theorem dX7_formula_117 : decode cX7_formula 117 = .ok (.getfield 43, 3) := by decide +kernel
theorem dX7_formula_120 : decode cX7_formula 120 = .ok (.bipush 90, 2) := by decide +kernel
theorem dX7_formula_122 : decode cX7_formula 122 = .ok (.iload_n 1, 1) := by decide +kernel
theorem dX7_formula_123 : decode cX7_formula 123 = .ok (.imul, 1) := by decide +kernel
theorem dX7_formula_124 : decode cX7_formula 124 = .ok (.iaload, 1) := by decide +kernel
theorem dX7_formula_125 : decode cX7_formula 125 = .ok (.ireturn, 1) := by decide +kernel
theorem dX7_formula_126 : decode cX7_formula 126 = .ok (.aload_n 0, 1) := by decide +kernel
theorem dX7_formula_127 : decode cX7_formula 127 = .ok (.iload_n 1, 1) := by decide +kernel
theorem dX7_formula_128 : decode cX7_formula 128 = .ok (.invokevirtual 197, 3) := by decide +kernel
theorem dX7_formula_131 : decode cX7_formula 131 = .ok (.ireturn, 1) := by decide +kernel
theorem dX7_node_0 : decode cX7_node 0 = .ok (.aload_n 0, 1) := by decide +kernel
theorem dX7_node_1 : decode cX7_node 1 = .ok (.invokevirtual 164, 3) := by decide +kernel
theorem dX7_node_4 : decode cX7_node 4 = .ok (.aload_n 0, 1) := by decide +kernel
theorem dX7_node_5 : decode cX7_node 5 = .ok (.iload_n 1, 1) := by decide +kernel
theorem dX7_node_6 : decode cX7_node 6 = .ok (.invokevirtual 156, 3) := by decide +kernel
theorem dX7_node_9 : decode cX7_node 9 = .ok (.ifCond .eq 29, 3) := by decide +kernel
theorem dX7_node_12 : decode cX7_node 12 = .ok (.iload_n 2, 1) := by decide +kernel
theorem dX7_node_13 : decode cX7_node 13 = .ok (.iconst 0, 1) := by decide +kernel
theorem dX7_node_14 : decode cX7_node 14 = .ok (.aload_n 0, 1) := by decide +kernel
theorem dX7_node_15 : decode cX7_node 15 = .ok (.getfield 49, 3) := by decide +kernel
theorem dX7_node_18 : decode cX7_node 18 = .ok (.iload_n 1, 1) := by decide +kernel
theorem dX7_node_19 : decode cX7_node 19 = .ok (.iaload, 1) := by decide +kernel
theorem dX7_node_20 : decode cX7_node 20 = .ok (.iconst 1, 1) := by decide +kernel
theorem dX7_node_21 : decode cX7_node 21 = .ok (.isub, 1) := by decide +kernel
theorem dX7_node_22 : decode cX7_node 22 = .ok (.invokestatic 75, 3) := by decide +kernel
theorem dX7_node_25 : decode cX7_node 25 = .ok (.ifCond .eq 13, 3) := by decide +kernel
theorem dX7_node_28 : decode cX7_node 28 = .ok (.iload_n 3, 1) := by decide +kernel
theorem dX7_node_29 : decode cX7_node 29 = .ok (.iconst 0, 1) := by decide +kernel
theorem dX7_node_30 : decode cX7_node 30 = .ok (.bipush 6, 2) := by decide +kernel
theorem dX7_node_32 : decode cX7_node 32 = .ok (.invokestatic 75, 3) := by decide +kernel
theorem dX7_node_35 : decode cX7_node 35 = .ok (.ifCond .ne 6, 3) := by decide +kernel
theorem dX7_node_38 : decode cX7_node 38 = .ok (.ldc 79, 2) := by decide +kernel
theorem dX7_node_40 : decode cX7_node 40 = .ok (.ireturn, 1) := by decide +kernel
theorem dX7_node_41 : decode cX7_node 41 = .ok (.bipush 90, 2) := by decide +kernel
theorem dX7_node_43 : decode cX7_node 43 = .ok (.iload_n 1, 1) := by decide +kernel
theorem dX7_node_44 : decode cX7_node 44 = .ok (.imul, 1) := by decide +kernel
theorem dX7_node_45 : decode cX7_node 45 = .ok (.iload_n 2, 1) := by decide +kernel
theorem dX7_node_46 : decode cX7_node 46 = .ok (.iadd, 1) := by decide +kernel
theorem dX7_node_47 : decode cX7_node 47 = .ok (.istore 4, 2) := by decide +kernel
theorem dX7_node_49 : decode cX7_node 49 = .ok (.iload_n 3, 1) := by decide +kernel
theorem dX7_node_50 : decode cX7_node 50 = .ok (.tableswitch 136 0 5 #[38, 46, 70, 90, 120, 128], 38) := by decide +kernel
theorem dX7_node_88 : decode cX7_node 88 = .ok (.aload_n 0, 1) := by decide +kernel
theorem dX7_node_89 : decode cX7_node 89 = .ok (.getfield 31, 3) := by decide +kernel
theorem dX7_node_92 : decode cX7_node 92 = .ok (.iload 4, 2) := by decide +kernel
theorem dX7_node_94 : decode cX7_node 94 = .ok (.iaload, 1) := by decide +kernel
theorem dX7_node_95 : decode cX7_node 95 = .ok (.ireturn, 1) := by decide +kernel
theorem dX7_node_96 : decode cX7_node 96 = .ok (.aload_n 0, 1) := by decide +kernel
theorem dX7_node_97 : decode cX7_node 97 = .ok (.getfield 31, 3) := by decide +kernel
theorem dX7_node_100 : decode cX7_node 100 = .ok (.iload 4, 2) := by decide +kernel
theorem dX7_node_102 : decode cX7_node 102 = .ok (.iaload, 1) := by decide +kernel
theorem dX7_node_103 : decode cX7_node 103 = .ok (.iconst 3, 1) := by decide +kernel
theorem dX7_node_104 : decode cX7_node 104 = .ok (.if_icmp .ge 13, 3) := by decide +kernel
theorem dX7_node_107 : decode cX7_node 107 = .ok (.aload_n 0, 1) := by decide +kernel
theorem dX7_node_108 : decode cX7_node 108 = .ok (.getfield 34, 3) := by decide +kernel
theorem dX7_node_111 : decode cX7_node 111 = .ok (.iload 4, 2) := by decide +kernel
theorem dX7_node_113 : decode cX7_node 113 = .ok (.iaload, 1) := by decide +kernel
theorem dX7_node_114 : decode cX7_node 114 = .ok (.goto 5, 3) := by decide +kernel
theorem dX7_node_117 : decode cX7_node 117 = .ok (.ldc 87, 2) := by decide +kernel
theorem dX7_node_119 : decode cX7_node 119 = .ok (.ireturn, 1) := by decide +kernel
theorem dX7_node_120 : decode cX7_node 120 = .ok (.aload_n 0, 1) := by decide +kernel
theorem dX7_node_121 : decode cX7_node 121 = .ok (.getfield 31, 3) := by decide +kernel
theorem dX7_node_124 : decode cX7_node 124 = .ok (.iload 4, 2) := by decide +kernel
theorem dX7_node_126 : decode cX7_node 126 = .ok (.iaload, 1) := by decide +kernel
theorem dX7_node_127 : decode cX7_node 127 = .ok (.iconst 3, 1) := by decide +kernel
theorem dX7_node_128 : decode cX7_node 128 = .ok (.if_icmp .ge 8, 3) := by decide +kernel
theorem dX7_node_131 : decode cX7_node 131 = .ok (.ldc 87, 2) := by decide +kernel
theorem dX7_node_133 : decode cX7_node 133 = .ok (.goto 6, 3) := by decide +kernel
theorem dX7_node_136 : decode cX7_node 136 = .ok (.iload_n 2, 1) := by decide +kernel
theorem dX7_node_137 : decode cX7_node 137 = .ok (.iconst 1, 1) := by decide +kernel
theorem dX7_node_138 : decode cX7_node 138 = .ok (.iadd, 1) := by decide +kernel
theorem dX7_node_139 : decode cX7_node 139 = .ok (.ireturn, 1) := by decide +kernel
theorem dX7_node_140 : decode cX7_node 140 = .ok (.aload_n 0, 1) := by decide +kernel
theorem dX7_node_141 : decode cX7_node 141 = .ok (.getfield 31, 3) := by decide +kernel
theorem dX7_node_144 : decode cX7_node 144 = .ok (.iload 4, 2) := by decide +kernel
theorem dX7_node_146 : decode cX7_node 146 = .ok (.iaload, 1) := by decide +kernel
theorem dX7_node_147 : decode cX7_node 147 = .ok (.iconst 3, 1) := by decide +kernel
theorem dX7_node_148 : decode cX7_node 148 = .ok (.if_icmp .gt 8, 3) := by decide +kernel
theorem dX7_node_151 : decode cX7_node 151 = .ok (.ldc 87, 2) := by decide +kernel
theorem dX7_node_153 : decode cX7_node 153 = .ok (.goto 16, 3) := by decide +kernel
theorem dX7_node_156 : decode cX7_node 156 = .ok (.iload_n 2, 1) := by decide +kernel
theorem dX7_node_157 : decode cX7_node 157 = .ok (.iconst 1, 1) := by decide +kernel
theorem dX7_node_158 : decode cX7_node 158 = .ok (.iadd, 1) := by decide +kernel
theorem dX7_node_159 : decode cX7_node 159 = .ok (.aload_n 0, 1) := by decide +kernel
theorem dX7_node_160 : decode cX7_node 160 = .ok (.getfield 37, 3) := by decide +kernel
theorem dX7_node_163 : decode cX7_node 163 = .ok (.iload 4, 2) := by decide +kernel
theorem dX7_node_165 : decode cX7_node 165 = .ok (.iconst 1, 1) := by decide +kernel
theorem dX7_node_166 : decode cX7_node 166 = .ok (.iadd, 1) := by decide +kernel
theorem dX7_node_167 : decode cX7_node 167 = .ok (.iaload, 1) := by decide +kernel
theorem dX7_node_168 : decode cX7_node 168 = .ok (.iadd, 1) := by decide +kernel
theorem dX7_node_169 : decode cX7_node 169 = .ok (.ireturn, 1) := by decide +kernel
theorem dX7_node_170 : decode cX7_node 170 = .ok (.aload_n 0, 1) := by decide +kernel
theorem dX7_node_171 : decode cX7_node 171 = .ok (.getfield 40, 3) := by decide +kernel
theorem dX7_node_174 : decode cX7_node 174 = .ok (.iload 4, 2) := by decide +kernel
theorem dX7_node_176 : decode cX7_node 176 = .ok (.iaload, 1) := by decide +kernel
theorem dX7_node_177 : decode cX7_node 177 = .ok (.ireturn, 1) := by decide +kernel
theorem dX7_node_178 : decode cX7_node 178 = .ok (.aload_n 0, 1) := by decide +kernel
theorem dX7_node_179 : decode cX7_node 179 = .ok (.getfield 37, 3) := by decide +kernel
theorem dX7_node_182 : decode cX7_node 182 = .ok (.iload 4, 2) := by decide +kernel
theorem dX7_node_184 : decode cX7_node 184 = .ok (.iaload, 1) := by decide +kernel
theorem dX7_node_185 : decode cX7_node 185 = .ok (.ireturn, 1) := by decide +kernel
theorem dX7_node_186 : decode cX7_node 186 = .ok (.aload_n 0, 1) := by decide +kernel
theorem dX7_node_187 : decode cX7_node 187 = .ok (.getfield 46, 3) := by decide +kernel
theorem dX7_node_190 : decode cX7_node 190 = .ok (.iload 4, 2) := by decide +kernel
theorem dX7_node_192 : decode cX7_node 192 = .ok (.iaload, 1) := by decide +kernel
theorem dX7_node_193 : decode cX7_node 193 = .ok (.ireturn, 1) := by decide +kernel
theorem dX7_cell_0 : decode cX7_cell 0 = .ok (.iload_n 1, 1) := by decide +kernel
theorem dX7_cell_1 : decode cX7_cell 1 = .ok (.invokestatic 167, 3) := by decide +kernel
theorem dX7_cell_4 : decode cX7_cell 4 = .ok (.ifCond .eq 14, 3) := by decide +kernel
theorem dX7_cell_7 : decode cX7_cell 7 = .ok (.aload_n 0, 1) := by decide +kernel
theorem dX7_cell_8 : decode cX7_cell 8 = .ok (.getfield 7, 3) := by decide +kernel
theorem dX7_cell_11 : decode cX7_cell 11 = .ok (.iconst 2, 1) := by decide +kernel
theorem dX7_cell_12 : decode cX7_cell 12 = .ok (.iload_n 1, 1) := by decide +kernel
theorem dX7_cell_13 : decode cX7_cell 13 = .ok (.iadd, 1) := by decide +kernel
theorem dX7_cell_14 : decode cX7_cell 14 = .ok (.iaload, 1) := by decide +kernel
theorem dX7_cell_15 : decode cX7_cell 15 = .ok (.goto 5, 3) := by decide +kernel
theorem dX7_cell_18 : decode cX7_cell 18 = .ok (.ldc 79, 2) := by decide +kernel
theorem dX7_cell_20 : decode cX7_cell 20 = .ok (.ireturn, 1) := by decide +kernel
theorem dX7_does_0 : decode cX7_does 0 = .ok (.aload_n 0, 1) := by decide +kernel
theorem dX7_does_1 : decode cX7_does 1 = .ok (.dup, 1) := by decide +kernel
theorem dX7_does_2 : decode cX7_does 2 = .ok (.getfield 200, 3) := by decide +kernel
theorem dX7_does_5 : decode cX7_does 5 = .ok (.iload 4, 2) := by decide +kernel
theorem dX7_does_7 : decode cX7_does 7 = .ok (.iadd, 1) := by decide +kernel
theorem dX7_does_8 : decode cX7_does 8 = .ok (.putfield 200, 3) := by decide +kernel
theorem dX7_does_11 : decode cX7_does 11 = .ok (.aload_n 0, 1) := by decide +kernel
theorem dX7_does_12 : decode cX7_does 12 = .ok (.getfield 203, 3) := by decide +kernel
theorem dX7_does_15 : decode cX7_does 15 = .ok (.aload_n 0, 1) := by decide +kernel
theorem dX7_does_16 : decode cX7_does 16 = .ok (.getfield 206, 3) := by decide +kernel
theorem dX7_does_19 : decode cX7_does 19 = .ok (.if_icmp .ne 37, 3) := by decide +kernel
theorem dX7_does_22 : decode cX7_does 22 = .ok (.aload_n 0, 1) := by decide +kernel
theorem dX7_does_23 : decode cX7_does 23 = .ok (.getfield 56, 3) := by decide +kernel
theorem dX7_does_26 : decode cX7_does 26 = .ok (.iconst 0, 1) := by decide +kernel
theorem dX7_does_27 : decode cX7_does 27 = .ok (.iload_n 1, 1) := by decide +kernel
theorem dX7_does_28 : decode cX7_does 28 = .ok (.iastore, 1) := by decide +kernel
theorem dX7_does_29 : decode cX7_does 29 = .ok (.aload_n 0, 1) := by decide +kernel
theorem dX7_does_30 : decode cX7_does 30 = .ok (.getfield 56, 3) := by decide +kernel
theorem dX7_does_33 : decode cX7_does 33 = .ok (.iconst 1, 1) := by decide +kernel
theorem dX7_does_34 : decode cX7_does 34 = .ok (.aload_n 0, 1) := by decide +kernel
theorem dX7_does_35 : decode cX7_does 35 = .ok (.getfield 209, 3) := by decide +kernel
theorem dX7_does_38 : decode cX7_does 38 = .ok (.iastore, 1) := by decide +kernel
theorem dX7_does_39 : decode cX7_does 39 = .ok (.aload_n 0, 1) := by decide +kernel
theorem dX7_does_40 : decode cX7_does 40 = .ok (.getfield 56, 3) := by decide +kernel
theorem dX7_does_43 : decode cX7_does 43 = .ok (.iconst 2, 1) := by decide +kernel
theorem dX7_does_44 : decode cX7_does 44 = .ok (.iload_n 2, 1) := by decide +kernel
theorem dX7_does_45 : decode cX7_does 45 = .ok (.iastore, 1) := by decide +kernel
theorem dX7_does_46 : decode cX7_does 46 = .ok (.aload_n 0, 1) := by decide +kernel
theorem dX7_does_47 : decode cX7_does 47 = .ok (.getfield 56, 3) := by decide +kernel
theorem dX7_does_50 : decode cX7_does 50 = .ok (.iconst 3, 1) := by decide +kernel
theorem dX7_does_51 : decode cX7_does 51 = .ok (.aload_n 0, 1) := by decide +kernel
theorem dX7_does_52 : decode cX7_does 52 = .ok (.getfield 200, 3) := by decide +kernel
theorem dX7_does_55 : decode cX7_does 55 = .ok (.iastore, 1) := by decide +kernel
theorem dX7_does_56 : decode cX7_does 56 = .ok (.aload_n 0, 1) := by decide +kernel
theorem dX7_does_57 : decode cX7_does 57 = .ok (.dup, 1) := by decide +kernel
theorem dX7_does_58 : decode cX7_does 58 = .ok (.getfield 203, 3) := by decide +kernel
theorem dX7_does_61 : decode cX7_does 61 = .ok (.iconst 1, 1) := by decide +kernel
theorem dX7_does_62 : decode cX7_does 62 = .ok (.iadd, 1) := by decide +kernel
theorem dX7_does_63 : decode cX7_does 63 = .ok (.putfield 203, 3) := by decide +kernel
theorem dX7_does_66 : decode cX7_does 66 = .ok (.aload_n 0, 1) := by decide +kernel
theorem dX7_does_67 : decode cX7_does 67 = .ok (.dup, 1) := by decide +kernel
theorem dX7_does_68 : decode cX7_does 68 = .ok (.getfield 212, 3) := by decide +kernel
theorem dX7_does_71 : decode cX7_does 71 = .ok (.iload_n 3, 1) := by decide +kernel
theorem dX7_does_72 : decode cX7_does 72 = .ok (.iadd, 1) := by decide +kernel
theorem dX7_does_73 : decode cX7_does 73 = .ok (.putfield 212, 3) := by decide +kernel
theorem dX7_does_76 : decode cX7_does 76 = .ok (.aload_n 0, 1) := by decide +kernel
theorem dX7_does_77 : decode cX7_does 77 = .ok (.dup, 1) := by decide +kernel
theorem dX7_does_78 : decode cX7_does 78 = .ok (.getfield 215, 3) := by decide +kernel
theorem dX7_does_81 : decode cX7_does 81 = .ok (.iload_n 1, 1) := by decide +kernel
theorem dX7_does_82 : decode cX7_does 82 = .ok (.iconst 2, 1) := by decide +kernel
theorem dX7_does_83 : decode cX7_does 83 = .ok (.if_icmp .ne 7, 3) := by decide +kernel
theorem dX7_does_86 : decode cX7_does 86 = .ok (.iconst 1, 1) := by decide +kernel
theorem dX7_does_87 : decode cX7_does 87 = .ok (.goto 4, 3) := by decide +kernel
theorem dX7_does_90 : decode cX7_does 90 = .ok (.iconst 0, 1) := by decide +kernel
theorem dX7_does_91 : decode cX7_does 91 = .ok (.iadd, 1) := by decide +kernel
theorem dX7_does_92 : decode cX7_does 92 = .ok (.putfield 215, 3) := by decide +kernel
theorem dX7_does_95 : decode cX7_does 95 = .ok (.aload_n 0, 1) := by decide +kernel
theorem dX7_does_96 : decode cX7_does 96 = .ok (.dup, 1) := by decide +kernel
theorem dX7_does_97 : decode cX7_does 97 = .ok (.getfield 218, 3) := by decide +kernel
theorem dX7_does_100 : decode cX7_does 100 = .ok (.iload_n 1, 1) := by decide +kernel
theorem dX7_does_101 : decode cX7_does 101 = .ok (.iconst 5, 1) := by decide +kernel
theorem dX7_does_102 : decode cX7_does 102 = .ok (.if_icmp .ne 7, 3) := by decide +kernel
theorem dX7_does_105 : decode cX7_does 105 = .ok (.iconst 1, 1) := by decide +kernel
theorem dX7_does_106 : decode cX7_does 106 = .ok (.goto 4, 3) := by decide +kernel
theorem dX7_does_109 : decode cX7_does 109 = .ok (.iconst 0, 1) := by decide +kernel
theorem dX7_does_110 : decode cX7_does 110 = .ok (.iadd, 1) := by decide +kernel
theorem dX7_does_111 : decode cX7_does 111 = .ok (.putfield 218, 3) := by decide +kernel
theorem dX7_does_114 : decode cX7_does 114 = .ok (.aload_n 0, 1) := by decide +kernel
theorem dX7_does_115 : decode cX7_does 115 = .ok (.dup, 1) := by decide +kernel
theorem dX7_does_116 : decode cX7_does 116 = .ok (.getfield 221, 3) := by decide +kernel
theorem dX7_does_119 : decode cX7_does 119 = .ok (.iload_n 1, 1) := by decide +kernel
theorem dX7_does_120 : decode cX7_does 120 = .ok (.iconst 1, 1) := by decide +kernel
theorem dX7_does_121 : decode cX7_does 121 = .ok (.if_icmp .ne 7, 3) := by decide +kernel
theorem dX7_does_124 : decode cX7_does 124 = .ok (.iload_n 3, 1) := by decide +kernel
theorem dX7_does_125 : decode cX7_does 125 = .ok (.goto 4, 3) := by decide +kernel
theorem dX7_does_128 : decode cX7_does 128 = .ok (.iconst 0, 1) := by decide +kernel
theorem dX7_does_129 : decode cX7_does 129 = .ok (.iadd, 1) := by decide +kernel
theorem dX7_does_130 : decode cX7_does 130 = .ok (.putfield 221, 3) := by decide +kernel
theorem dX7_does_133 : decode cX7_does 133 = .ok (.return_, 1) := by decide +kernel
theorem dX7_pushes_0 : decode cX7_pushes 0 = .ok (.aload_n 0, 1) := by decide +kernel
theorem dX7_pushes_1 : decode cX7_pushes 1 = .ok (.getfield 59, 3) := by decide +kernel
theorem dX7_pushes_4 : decode cX7_pushes 4 = .ok (.aload_n 0, 1) := by decide +kernel
theorem dX7_pushes_5 : decode cX7_pushes 5 = .ok (.getfield 224, 3) := by decide +kernel
theorem dX7_pushes_8 : decode cX7_pushes 8 = .ok (.iload_n 1, 1) := by decide +kernel
theorem dX7_pushes_9 : decode cX7_pushes 9 = .ok (.iastore, 1) := by decide +kernel
theorem dX7_pushes_10 : decode cX7_pushes 10 = .ok (.aload_n 0, 1) := by decide +kernel
theorem dX7_pushes_11 : decode cX7_pushes 11 = .ok (.getfield 62, 3) := by decide +kernel
theorem dX7_pushes_14 : decode cX7_pushes 14 = .ok (.aload_n 0, 1) := by decide +kernel
theorem dX7_pushes_15 : decode cX7_pushes 15 = .ok (.getfield 224, 3) := by decide +kernel
theorem dX7_pushes_18 : decode cX7_pushes 18 = .ok (.iload_n 2, 1) := by decide +kernel
theorem dX7_pushes_19 : decode cX7_pushes 19 = .ok (.iastore, 1) := by decide +kernel
theorem dX7_pushes_20 : decode cX7_pushes 20 = .ok (.aload_n 0, 1) := by decide +kernel
theorem dX7_pushes_21 : decode cX7_pushes 21 = .ok (.getfield 65, 3) := by decide +kernel
theorem dX7_pushes_24 : decode cX7_pushes 24 = .ok (.aload_n 0, 1) := by decide +kernel
theorem dX7_pushes_25 : decode cX7_pushes 25 = .ok (.getfield 224, 3) := by decide +kernel
theorem dX7_pushes_28 : decode cX7_pushes 28 = .ok (.iconst 0, 1) := by decide +kernel
theorem dX7_pushes_29 : decode cX7_pushes 29 = .ok (.iastore, 1) := by decide +kernel
theorem dX7_pushes_30 : decode cX7_pushes 30 = .ok (.aload_n 0, 1) := by decide +kernel
theorem dX7_pushes_31 : decode cX7_pushes 31 = .ok (.dup, 1) := by decide +kernel
theorem dX7_pushes_32 : decode cX7_pushes 32 = .ok (.getfield 224, 3) := by decide +kernel
theorem dX7_pushes_35 : decode cX7_pushes 35 = .ok (.iconst 1, 1) := by decide +kernel
theorem dX7_pushes_36 : decode cX7_pushes 36 = .ok (.iadd, 1) := by decide +kernel
theorem dX7_pushes_37 : decode cX7_pushes 37 = .ok (.putfield 224, 3) := by decide +kernel
theorem dX7_pushes_40 : decode cX7_pushes 40 = .ok (.return_, 1) := by decide +kernel
theorem dX7_goesOn_0 : decode cX7_goesOn 0 = .ok (.aload_n 0, 1) := by decide +kernel
theorem dX7_goesOn_1 : decode cX7_goesOn 1 = .ok (.getfield 224, 3) := by decide +kernel
theorem dX7_goesOn_4 : decode cX7_goesOn 4 = .ok (.iconst 1, 1) := by decide +kernel
theorem dX7_goesOn_5 : decode cX7_goesOn 5 = .ok (.isub, 1) := by decide +kernel
theorem dX7_goesOn_6 : decode cX7_goesOn 6 = .ok (.istore_n 1, 1) := by decide +kernel
theorem dX7_goesOn_7 : decode cX7_goesOn 7 = .ok (.aload_n 0, 1) := by decide +kernel
theorem dX7_goesOn_8 : decode cX7_goesOn 8 = .ok (.getfield 59, 3) := by decide +kernel
theorem dX7_goesOn_11 : decode cX7_goesOn 11 = .ok (.iload_n 1, 1) := by decide +kernel
theorem dX7_goesOn_12 : decode cX7_goesOn 12 = .ok (.iaload, 1) := by decide +kernel
theorem dX7_goesOn_13 : decode cX7_goesOn 13 = .ok (.istore_n 2, 1) := by decide +kernel
theorem dX7_goesOn_14 : decode cX7_goesOn 14 = .ok (.bipush 90, 2) := by decide +kernel
theorem dX7_goesOn_16 : decode cX7_goesOn 16 = .ok (.aload_n 0, 1) := by decide +kernel
theorem dX7_goesOn_17 : decode cX7_goesOn 17 = .ok (.getfield 209, 3) := by decide +kernel
theorem dX7_goesOn_20 : decode cX7_goesOn 20 = .ok (.imul, 1) := by decide +kernel
theorem dX7_goesOn_21 : decode cX7_goesOn 21 = .ok (.iload_n 2, 1) := by decide +kernel
theorem dX7_goesOn_22 : decode cX7_goesOn 22 = .ok (.iadd, 1) := by decide +kernel
theorem dX7_goesOn_23 : decode cX7_goesOn 23 = .ok (.istore_n 3, 1) := by decide +kernel
theorem dX7_goesOn_24 : decode cX7_goesOn 24 = .ok (.aload_n 0, 1) := by decide +kernel
theorem dX7_goesOn_25 : decode cX7_goesOn 25 = .ok (.getfield 62, 3) := by decide +kernel
theorem dX7_goesOn_28 : decode cX7_goesOn 28 = .ok (.iload_n 1, 1) := by decide +kernel
theorem dX7_goesOn_29 : decode cX7_goesOn 29 = .ok (.iaload, 1) := by decide +kernel
theorem dX7_goesOn_30 : decode cX7_goesOn 30 = .ok (.istore 4, 2) := by decide +kernel
theorem dX7_goesOn_32 : decode cX7_goesOn 32 = .ok (.aload_n 0, 1) := by decide +kernel
theorem dX7_goesOn_33 : decode cX7_goesOn 33 = .ok (.getfield 31, 3) := by decide +kernel
theorem dX7_goesOn_36 : decode cX7_goesOn 36 = .ok (.iload_n 3, 1) := by decide +kernel
theorem dX7_goesOn_37 : decode cX7_goesOn 37 = .ok (.iaload, 1) := by decide +kernel
theorem dX7_goesOn_38 : decode cX7_goesOn 38 = .ok (.istore 5, 2) := by decide +kernel
theorem dX7_goesOn_40 : decode cX7_goesOn 40 = .ok (.iload 5, 2) := by decide +kernel
theorem dX7_goesOn_42 : decode cX7_goesOn 42 = .ok (.iconst 3, 1) := by decide +kernel
theorem dX7_goesOn_43 : decode cX7_goesOn 43 = .ok (.if_icmp .ge 42, 3) := by decide +kernel
theorem dX7_goesOn_46 : decode cX7_goesOn 46 = .ok (.aload_n 0, 1) := by decide +kernel
theorem dX7_goesOn_47 : decode cX7_goesOn 47 = .ok (.iload 5, 2) := by decide +kernel
theorem dX7_goesOn_49 : decode cX7_goesOn 49 = .ok (.iconst 2, 1) := by decide +kernel
theorem dX7_goesOn_50 : decode cX7_goesOn 50 = .ok (.if_icmp .ne 7, 3) := by decide +kernel
theorem dX7_goesOn_53 : decode cX7_goesOn 53 = .ok (.iconst 5, 1) := by decide +kernel
theorem dX7_goesOn_54 : decode cX7_goesOn 54 = .ok (.goto 4, 3) := by decide +kernel
theorem dX7_goesOn_57 : decode cX7_goesOn 57 = .ok (.iconst 0, 1) := by decide +kernel
theorem dX7_goesOn_58 : decode cX7_goesOn 58 = .ok (.iload_n 2, 1) := by decide +kernel
theorem dX7_goesOn_59 : decode cX7_goesOn 59 = .ok (.iload 5, 2) := by decide +kernel
theorem dX7_goesOn_61 : decode cX7_goesOn 61 = .ok (.iconst 2, 1) := by decide +kernel
theorem dX7_goesOn_62 : decode cX7_goesOn 62 = .ok (.if_icmp .ne 7, 3) := by decide +kernel
theorem dX7_goesOn_65 : decode cX7_goesOn 65 = .ok (.iconst 4, 1) := by decide +kernel
theorem dX7_goesOn_66 : decode cX7_goesOn 66 = .ok (.goto 4, 3) := by decide +kernel
theorem dX7_goesOn_69 : decode cX7_goesOn 69 = .ok (.iconst 1, 1) := by decide +kernel
theorem dX7_goesOn_70 : decode cX7_goesOn 70 = .ok (.iconst 1, 1) := by decide +kernel
theorem dX7_goesOn_71 : decode cX7_goesOn 71 = .ok (.invokevirtual 227, 3) := by decide +kernel
theorem dX7_goesOn_74 : decode cX7_goesOn 74 = .ok (.aload_n 0, 1) := by decide +kernel
theorem dX7_goesOn_75 : decode cX7_goesOn 75 = .ok (.dup, 1) := by decide +kernel
theorem dX7_goesOn_76 : decode cX7_goesOn 76 = .ok (.getfield 224, 3) := by decide +kernel
theorem dX7_goesOn_79 : decode cX7_goesOn 79 = .ok (.iconst 1, 1) := by decide +kernel
theorem dX7_goesOn_80 : decode cX7_goesOn 80 = .ok (.isub, 1) := by decide +kernel
theorem dX7_goesOn_81 : decode cX7_goesOn 81 = .ok (.putfield 224, 3) := by decide +kernel
theorem dX7_goesOn_84 : decode cX7_goesOn 84 = .ok (.return_, 1) := by decide +kernel
theorem dX7_goesOn_85 : decode cX7_goesOn 85 = .ok (.iload 5, 2) := by decide +kernel
theorem dX7_goesOn_87 : decode cX7_goesOn 87 = .ok (.iconst 3, 1) := by decide +kernel
theorem dX7_goesOn_88 : decode cX7_goesOn 88 = .ok (.if_icmp .ne 50, 3) := by decide +kernel
theorem dX7_goesOn_91 : decode cX7_goesOn 91 = .ok (.aload_n 0, 1) := by decide +kernel
theorem dX7_goesOn_92 : decode cX7_goesOn 92 = .ok (.getfield 65, 3) := by decide +kernel
theorem dX7_goesOn_95 : decode cX7_goesOn 95 = .ok (.iload_n 1, 1) := by decide +kernel
theorem dX7_goesOn_96 : decode cX7_goesOn 96 = .ok (.iaload, 1) := by decide +kernel
theorem dX7_goesOn_97 : decode cX7_goesOn 97 = .ok (.ifCond .ne 22, 3) := by decide +kernel
theorem dX7_goesOn_100 : decode cX7_goesOn 100 = .ok (.aload_n 0, 1) := by decide +kernel
theorem dX7_goesOn_101 : decode cX7_goesOn 101 = .ok (.getfield 65, 3) := by decide +kernel
theorem dX7_goesOn_104 : decode cX7_goesOn 104 = .ok (.iload_n 1, 1) := by decide +kernel
theorem dX7_goesOn_105 : decode cX7_goesOn 105 = .ok (.iconst 1, 1) := by decide +kernel
theorem dX7_goesOn_106 : decode cX7_goesOn 106 = .ok (.iastore, 1) := by decide +kernel
theorem dX7_goesOn_107 : decode cX7_goesOn 107 = .ok (.aload_n 0, 1) := by decide +kernel
theorem dX7_goesOn_108 : decode cX7_goesOn 108 = .ok (.iload_n 2, 1) := by decide +kernel
theorem dX7_goesOn_109 : decode cX7_goesOn 109 = .ok (.iconst 1, 1) := by decide +kernel
theorem dX7_goesOn_110 : decode cX7_goesOn 110 = .ok (.iadd, 1) := by decide +kernel
theorem dX7_goesOn_111 : decode cX7_goesOn 111 = .ok (.iload 4, 2) := by decide +kernel
theorem dX7_goesOn_113 : decode cX7_goesOn 113 = .ok (.invokevirtual 231, 3) := by decide +kernel
theorem dX7_goesOn_116 : decode cX7_goesOn 116 = .ok (.goto 21, 3) := by decide +kernel
theorem dX7_goesOn_119 : decode cX7_goesOn 119 = .ok (.aload_n 0, 1) := by decide +kernel
theorem dX7_goesOn_120 : decode cX7_goesOn 120 = .ok (.iconst 1, 1) := by decide +kernel
theorem dX7_goesOn_121 : decode cX7_goesOn 121 = .ok (.iload_n 2, 1) := by decide +kernel
theorem dX7_goesOn_122 : decode cX7_goesOn 122 = .ok (.iconst 1, 1) := by decide +kernel
theorem dX7_goesOn_123 : decode cX7_goesOn 123 = .ok (.iconst 0, 1) := by decide +kernel
theorem dX7_goesOn_124 : decode cX7_goesOn 124 = .ok (.invokevirtual 227, 3) := by decide +kernel
theorem dX7_goesOn_127 : decode cX7_goesOn 127 = .ok (.aload_n 0, 1) := by decide +kernel
theorem dX7_goesOn_128 : decode cX7_goesOn 128 = .ok (.dup, 1) := by decide +kernel
theorem dX7_goesOn_129 : decode cX7_goesOn 129 = .ok (.getfield 224, 3) := by decide +kernel
theorem dX7_goesOn_132 : decode cX7_goesOn 132 = .ok (.iconst 1, 1) := by decide +kernel
theorem dX7_goesOn_133 : decode cX7_goesOn 133 = .ok (.isub, 1) := by decide +kernel
theorem dX7_goesOn_134 : decode cX7_goesOn 134 = .ok (.putfield 224, 3) := by decide +kernel
theorem dX7_goesOn_137 : decode cX7_goesOn 137 = .ok (.return_, 1) := by decide +kernel
theorem dX7_goesOn_138 : decode cX7_goesOn 138 = .ok (.iload_n 2, 1) := by decide +kernel
theorem dX7_goesOn_139 : decode cX7_goesOn 139 = .ok (.iconst 1, 1) := by decide +kernel
theorem dX7_goesOn_140 : decode cX7_goesOn 140 = .ok (.iadd, 1) := by decide +kernel
theorem dX7_goesOn_141 : decode cX7_goesOn 141 = .ok (.istore 6, 2) := by decide +kernel
theorem dX7_goesOn_143 : decode cX7_goesOn 143 = .ok (.iload 6, 2) := by decide +kernel
theorem dX7_goesOn_145 : decode cX7_goesOn 145 = .ok (.aload_n 0, 1) := by decide +kernel
theorem dX7_goesOn_146 : decode cX7_goesOn 146 = .ok (.getfield 37, 3) := by decide +kernel
theorem dX7_goesOn_149 : decode cX7_goesOn 149 = .ok (.iload_n 3, 1) := by decide +kernel
theorem dX7_goesOn_150 : decode cX7_goesOn 150 = .ok (.iconst 1, 1) := by decide +kernel
theorem dX7_goesOn_151 : decode cX7_goesOn 151 = .ok (.iadd, 1) := by decide +kernel
theorem dX7_goesOn_152 : decode cX7_goesOn 152 = .ok (.iaload, 1) := by decide +kernel
theorem dX7_goesOn_153 : decode cX7_goesOn 153 = .ok (.iadd, 1) := by decide +kernel
theorem dX7_goesOn_154 : decode cX7_goesOn 154 = .ok (.istore 7, 2) := by decide +kernel
theorem dX7_goesOn_156 : decode cX7_goesOn 156 = .ok (.aload_n 0, 1) := by decide +kernel
theorem dX7_goesOn_157 : decode cX7_goesOn 157 = .ok (.getfield 40, 3) := by decide +kernel
theorem dX7_goesOn_160 : decode cX7_goesOn 160 = .ok (.bipush 90, 2) := by decide +kernel
theorem dX7_goesOn_162 : decode cX7_goesOn 162 = .ok (.aload_n 0, 1) := by decide +kernel
theorem dX7_goesOn_163 : decode cX7_goesOn 163 = .ok (.getfield 209, 3) := by decide +kernel
theorem dX7_goesOn_166 : decode cX7_goesOn 166 = .ok (.imul, 1) := by decide +kernel
theorem dX7_goesOn_167 : decode cX7_goesOn 167 = .ok (.iload 7, 2) := by decide +kernel
theorem dX7_goesOn_169 : decode cX7_goesOn 169 = .ok (.iadd, 1) := by decide +kernel
theorem dX7_goesOn_170 : decode cX7_goesOn 170 = .ok (.iaload, 1) := by decide +kernel
theorem dX7_goesOn_171 : decode cX7_goesOn 171 = .ok (.aload_n 0, 1) := by decide +kernel
theorem dX7_goesOn_172 : decode cX7_goesOn 172 = .ok (.getfield 40, 3) := by decide +kernel
theorem dX7_goesOn_175 : decode cX7_goesOn 175 = .ok (.bipush 90, 2) := by decide +kernel
theorem dX7_goesOn_177 : decode cX7_goesOn 177 = .ok (.aload_n 0, 1) := by decide +kernel
theorem dX7_goesOn_178 : decode cX7_goesOn 178 = .ok (.getfield 209, 3) := by decide +kernel
theorem dX7_goesOn_181 : decode cX7_goesOn 181 = .ok (.imul, 1) := by decide +kernel
theorem dX7_goesOn_182 : decode cX7_goesOn 182 = .ok (.iload 6, 2) := by decide +kernel
theorem dX7_goesOn_184 : decode cX7_goesOn 184 = .ok (.iadd, 1) := by decide +kernel
theorem dX7_goesOn_185 : decode cX7_goesOn 185 = .ok (.iaload, 1) := by decide +kernel
theorem dX7_goesOn_186 : decode cX7_goesOn 186 = .ok (.if_icmp .le 7, 3) := by decide +kernel
theorem dX7_goesOn_189 : decode cX7_goesOn 189 = .ok (.iconst 1, 1) := by decide +kernel
theorem dX7_goesOn_190 : decode cX7_goesOn 190 = .ok (.goto 4, 3) := by decide +kernel
theorem dX7_goesOn_193 : decode cX7_goesOn 193 = .ok (.iconst 0, 1) := by decide +kernel
theorem dX7_goesOn_194 : decode cX7_goesOn 194 = .ok (.istore 8, 2) := by decide +kernel
theorem dX7_goesOn_196 : decode cX7_goesOn 196 = .ok (.iload 8, 2) := by decide +kernel
theorem dX7_goesOn_198 : decode cX7_goesOn 198 = .ok (.ifCond .eq 8, 3) := by decide +kernel
theorem dX7_goesOn_201 : decode cX7_goesOn 201 = .ok (.iload 7, 2) := by decide +kernel
theorem dX7_goesOn_203 : decode cX7_goesOn 203 = .ok (.goto 5, 3) := by decide +kernel
theorem dX7_goesOn_206 : decode cX7_goesOn 206 = .ok (.iload 6, 2) := by decide +kernel
theorem dX7_goesOn_208 : decode cX7_goesOn 208 = .ok (.istore 9, 2) := by decide +kernel
theorem dX7_goesOn_210 : decode cX7_goesOn 210 = .ok (.iload 8, 2) := by decide +kernel
theorem dX7_goesOn_212 : decode cX7_goesOn 212 = .ok (.ifCond .eq 8, 3) := by decide +kernel
theorem dX7_goesOn_215 : decode cX7_goesOn 215 = .ok (.iload 6, 2) := by decide +kernel
theorem dX7_goesOn_217 : decode cX7_goesOn 217 = .ok (.goto 5, 3) := by decide +kernel
theorem dX7_goesOn_220 : decode cX7_goesOn 220 = .ok (.iload 7, 2) := by decide +kernel
theorem dX7_goesOn_222 : decode cX7_goesOn 222 = .ok (.istore 10, 2) := by decide +kernel
theorem dX7_goesOn_224 : decode cX7_goesOn 224 = .ok (.aload_n 0, 1) := by decide +kernel
theorem dX7_goesOn_225 : decode cX7_goesOn 225 = .ok (.getfield 40, 3) := by decide +kernel
theorem dX7_goesOn_228 : decode cX7_goesOn 228 = .ok (.bipush 90, 2) := by decide +kernel
theorem dX7_goesOn_230 : decode cX7_goesOn 230 = .ok (.aload_n 0, 1) := by decide +kernel
theorem dX7_goesOn_231 : decode cX7_goesOn 231 = .ok (.getfield 209, 3) := by decide +kernel
theorem dX7_goesOn_234 : decode cX7_goesOn 234 = .ok (.imul, 1) := by decide +kernel
theorem dX7_goesOn_235 : decode cX7_goesOn 235 = .ok (.iload 10, 2) := by decide +kernel
theorem dX7_goesOn_237 : decode cX7_goesOn 237 = .ok (.iadd, 1) := by decide +kernel
theorem dX7_goesOn_238 : decode cX7_goesOn 238 = .ok (.iaload, 1) := by decide +kernel
theorem dX7_goesOn_239 : decode cX7_goesOn 239 = .ok (.iload 4, 2) := by decide +kernel
theorem dX7_goesOn_241 : decode cX7_goesOn 241 = .ok (.if_icmp .ge 7, 3) := by decide +kernel
theorem dX7_goesOn_244 : decode cX7_goesOn 244 = .ok (.iconst 1, 1) := by decide +kernel
theorem dX7_goesOn_245 : decode cX7_goesOn 245 = .ok (.goto 4, 3) := by decide +kernel
theorem dX7_goesOn_248 : decode cX7_goesOn 248 = .ok (.iconst 0, 1) := by decide +kernel
theorem dX7_goesOn_249 : decode cX7_goesOn 249 = .ok (.istore 11, 2) := by decide +kernel
theorem dX7_goesOn_251 : decode cX7_goesOn 251 = .ok (.aload_n 0, 1) := by decide +kernel
theorem dX7_goesOn_252 : decode cX7_goesOn 252 = .ok (.getfield 65, 3) := by decide +kernel
theorem dX7_goesOn_255 : decode cX7_goesOn 255 = .ok (.iload_n 1, 1) := by decide +kernel
theorem dX7_goesOn_256 : decode cX7_goesOn 256 = .ok (.dup2, 1) := by decide +kernel
theorem dX7_goesOn_257 : decode cX7_goesOn 257 = .ok (.iaload, 1) := by decide +kernel
theorem dX7_goesOn_258 : decode cX7_goesOn 258 = .ok (.iconst 1, 1) := by decide +kernel
theorem dX7_goesOn_259 : decode cX7_goesOn 259 = .ok (.iadd, 1) := by decide +kernel
theorem dX7_goesOn_260 : decode cX7_goesOn 260 = .ok (.iastore, 1) := by decide +kernel
theorem dX7_goesOn_261 : decode cX7_goesOn 261 = .ok (.aload_n 0, 1) := by decide +kernel
theorem dX7_goesOn_262 : decode cX7_goesOn 262 = .ok (.getfield 65, 3) := by decide +kernel
theorem dX7_goesOn_265 : decode cX7_goesOn 265 = .ok (.iload_n 1, 1) := by decide +kernel
theorem dX7_goesOn_266 : decode cX7_goesOn 266 = .ok (.iaload, 1) := by decide +kernel
theorem dX7_goesOn_267 : decode cX7_goesOn 267 = .ok (.iconst 1, 1) := by decide +kernel
theorem dX7_goesOn_268 : decode cX7_goesOn 268 = .ok (.if_icmp .ne 14, 3) := by decide +kernel
theorem dX7_goesOn_271 : decode cX7_goesOn 271 = .ok (.aload_n 0, 1) := by decide +kernel
theorem dX7_goesOn_272 : decode cX7_goesOn 272 = .ok (.iload 9, 2) := by decide +kernel
theorem dX7_goesOn_274 : decode cX7_goesOn 274 = .ok (.iload 4, 2) := by decide +kernel
theorem dX7_goesOn_276 : decode cX7_goesOn 276 = .ok (.invokevirtual 231, 3) := by decide +kernel
theorem dX7_goesOn_279 : decode cX7_goesOn 279 = .ok (.goto 93, 3) := by decide +kernel
theorem dX7_goesOn_282 : decode cX7_goesOn 282 = .ok (.aload_n 0, 1) := by decide +kernel
theorem dX7_goesOn_283 : decode cX7_goesOn 283 = .ok (.getfield 65, 3) := by decide +kernel
theorem dX7_goesOn_286 : decode cX7_goesOn 286 = .ok (.iload_n 1, 1) := by decide +kernel
theorem dX7_goesOn_287 : decode cX7_goesOn 287 = .ok (.iaload, 1) := by decide +kernel
theorem dX7_goesOn_288 : decode cX7_goesOn 288 = .ok (.iconst 2, 1) := by decide +kernel
theorem dX7_goesOn_289 : decode cX7_goesOn 289 = .ok (.if_icmp .ne 40, 3) := by decide +kernel
theorem dX7_goesOn_292 : decode cX7_goesOn 292 = .ok (.iload 11, 2) := by decide +kernel
theorem dX7_goesOn_294 : decode cX7_goesOn 294 = .ok (.ifCond .ne 12, 3) := by decide +kernel
theorem dX7_goesOn_297 : decode cX7_goesOn 297 = .ok (.aload_n 0, 1) := by decide +kernel
theorem dX7_goesOn_298 : decode cX7_goesOn 298 = .ok (.iconst 2, 1) := by decide +kernel
theorem dX7_goesOn_299 : decode cX7_goesOn 299 = .ok (.iload 9, 2) := by decide +kernel
theorem dX7_goesOn_301 : decode cX7_goesOn 301 = .ok (.iconst 4, 1) := by decide +kernel
theorem dX7_goesOn_302 : decode cX7_goesOn 302 = .ok (.iconst (-1), 1) := by decide +kernel
theorem dX7_goesOn_303 : decode cX7_goesOn 303 = .ok (.invokevirtual 227, 3) := by decide +kernel
theorem dX7_goesOn_306 : decode cX7_goesOn 306 = .ok (.aload_n 0, 1) := by decide +kernel
theorem dX7_goesOn_307 : decode cX7_goesOn 307 = .ok (.iload 10, 2) := by decide +kernel
theorem dX7_goesOn_309 : decode cX7_goesOn 309 = .ok (.iload 11, 2) := by decide +kernel
theorem dX7_goesOn_311 : decode cX7_goesOn 311 = .ok (.ifCond .eq 10, 3) := by decide +kernel
theorem dX7_goesOn_314 : decode cX7_goesOn 314 = .ok (.iload 4, 2) := by decide +kernel
theorem dX7_goesOn_316 : decode cX7_goesOn 316 = .ok (.iconst 1, 1) := by decide +kernel
theorem dX7_goesOn_317 : decode cX7_goesOn 317 = .ok (.isub, 1) := by decide +kernel
theorem dX7_goesOn_318 : decode cX7_goesOn 318 = .ok (.goto 5, 3) := by decide +kernel
theorem dX7_goesOn_321 : decode cX7_goesOn 321 = .ok (.iload 4, 2) := by decide +kernel
theorem dX7_goesOn_323 : decode cX7_goesOn 323 = .ok (.invokevirtual 231, 3) := by decide +kernel
theorem dX7_goesOn_326 : decode cX7_goesOn 326 = .ok (.goto 46, 3) := by decide +kernel
theorem dX7_goesOn_329 : decode cX7_goesOn 329 = .ok (.iload 11, 2) := by decide +kernel
theorem dX7_goesOn_331 : decode cX7_goesOn 331 = .ok (.ifCond .ne 12, 3) := by decide +kernel
theorem dX7_goesOn_334 : decode cX7_goesOn 334 = .ok (.aload_n 0, 1) := by decide +kernel
theorem dX7_goesOn_335 : decode cX7_goesOn 335 = .ok (.iconst 3, 1) := by decide +kernel
theorem dX7_goesOn_336 : decode cX7_goesOn 336 = .ok (.iload 9, 2) := by decide +kernel
theorem dX7_goesOn_338 : decode cX7_goesOn 338 = .ok (.iconst 4, 1) := by decide +kernel
theorem dX7_goesOn_339 : decode cX7_goesOn 339 = .ok (.iconst 1, 1) := by decide +kernel
theorem dX7_goesOn_340 : decode cX7_goesOn 340 = .ok (.invokevirtual 227, 3) := by decide +kernel
theorem dX7_goesOn_343 : decode cX7_goesOn 343 = .ok (.aload_n 0, 1) := by decide +kernel
theorem dX7_goesOn_344 : decode cX7_goesOn 344 = .ok (.iconst 1, 1) := by decide +kernel
theorem dX7_goesOn_345 : decode cX7_goesOn 345 = .ok (.iload_n 2, 1) := by decide +kernel
theorem dX7_goesOn_346 : decode cX7_goesOn 346 = .ok (.iload 5, 2) := by decide +kernel
theorem dX7_goesOn_348 : decode cX7_goesOn 348 = .ok (.bipush 6, 2) := by decide +kernel
theorem dX7_goesOn_350 : decode cX7_goesOn 350 = .ok (.if_icmp .ne 7, 3) := by decide +kernel
theorem dX7_goesOn_353 : decode cX7_goesOn 353 = .ok (.iconst 3, 1) := by decide +kernel
theorem dX7_goesOn_354 : decode cX7_goesOn 354 = .ok (.goto 4, 3) := by decide +kernel
theorem dX7_goesOn_357 : decode cX7_goesOn 357 = .ok (.iconst 1, 1) := by decide +kernel
theorem dX7_goesOn_358 : decode cX7_goesOn 358 = .ok (.iconst (-1), 1) := by decide +kernel
theorem dX7_goesOn_359 : decode cX7_goesOn 359 = .ok (.invokevirtual 227, 3) := by decide +kernel
theorem dX7_goesOn_362 : decode cX7_goesOn 362 = .ok (.aload_n 0, 1) := by decide +kernel
theorem dX7_goesOn_363 : decode cX7_goesOn 363 = .ok (.dup, 1) := by decide +kernel
theorem dX7_goesOn_364 : decode cX7_goesOn 364 = .ok (.getfield 224, 3) := by decide +kernel
theorem dX7_goesOn_367 : decode cX7_goesOn 367 = .ok (.iconst 1, 1) := by decide +kernel
theorem dX7_goesOn_368 : decode cX7_goesOn 368 = .ok (.isub, 1) := by decide +kernel
theorem dX7_goesOn_369 : decode cX7_goesOn 369 = .ok (.putfield 224, 3) := by decide +kernel
theorem dX7_goesOn_372 : decode cX7_goesOn 372 = .ok (.return_, 1) := by decide +kernel
theorem dX7_plans_0 : decode cX7_plans 0 = .ok (.aload_n 0, 1) := by decide +kernel
theorem dX7_plans_1 : decode cX7_plans 1 = .ok (.invokevirtual 164, 3) := by decide +kernel
theorem dX7_plans_4 : decode cX7_plans 4 = .ok (.aload_n 0, 1) := by decide +kernel
theorem dX7_plans_5 : decode cX7_plans 5 = .ok (.iconst 0, 1) := by decide +kernel
theorem dX7_plans_6 : decode cX7_plans 6 = .ok (.putfield 203, 3) := by decide +kernel
theorem dX7_plans_9 : decode cX7_plans 9 = .ok (.aload_n 0, 1) := by decide +kernel
theorem dX7_plans_10 : decode cX7_plans 10 = .ok (.iconst 0, 1) := by decide +kernel
theorem dX7_plans_11 : decode cX7_plans 11 = .ok (.putfield 212, 3) := by decide +kernel
theorem dX7_plans_14 : decode cX7_plans 14 = .ok (.aload_n 0, 1) := by decide +kernel
theorem dX7_plans_15 : decode cX7_plans 15 = .ok (.iconst 0, 1) := by decide +kernel
theorem dX7_plans_16 : decode cX7_plans 16 = .ok (.putfield 215, 3) := by decide +kernel
theorem dX7_plans_19 : decode cX7_plans 19 = .ok (.aload_n 0, 1) := by decide +kernel
theorem dX7_plans_20 : decode cX7_plans 20 = .ok (.iconst 0, 1) := by decide +kernel
theorem dX7_plans_21 : decode cX7_plans 21 = .ok (.putfield 218, 3) := by decide +kernel
theorem dX7_plans_24 : decode cX7_plans 24 = .ok (.aload_n 0, 1) := by decide +kernel
theorem dX7_plans_25 : decode cX7_plans 25 = .ok (.iconst 0, 1) := by decide +kernel
theorem dX7_plans_26 : decode cX7_plans 26 = .ok (.putfield 221, 3) := by decide +kernel
theorem dX7_plans_29 : decode cX7_plans 29 = .ok (.aload_n 0, 1) := by decide +kernel
theorem dX7_plans_30 : decode cX7_plans 30 = .ok (.iconst 0, 1) := by decide +kernel
theorem dX7_plans_31 : decode cX7_plans 31 = .ok (.putfield 200, 3) := by decide +kernel
theorem dX7_plans_34 : decode cX7_plans 34 = .ok (.aload_n 0, 1) := by decide +kernel
theorem dX7_plans_35 : decode cX7_plans 35 = .ok (.iload_n 2, 1) := by decide +kernel
theorem dX7_plans_36 : decode cX7_plans 36 = .ok (.putfield 206, 3) := by decide +kernel
theorem dX7_plans_39 : decode cX7_plans 39 = .ok (.iconst 0, 1) := by decide +kernel
theorem dX7_plans_40 : decode cX7_plans 40 = .ok (.istore_n 3, 1) := by decide +kernel
theorem dX7_plans_41 : decode cX7_plans 41 = .ok (.iload_n 3, 1) := by decide +kernel
theorem dX7_plans_42 : decode cX7_plans 42 = .ok (.aload_n 0, 1) := by decide +kernel
theorem dX7_plans_43 : decode cX7_plans 43 = .ok (.getfield 7, 3) := by decide +kernel
theorem dX7_plans_46 : decode cX7_plans 46 = .ok (.iconst 0, 1) := by decide +kernel
theorem dX7_plans_47 : decode cX7_plans 47 = .ok (.iaload, 1) := by decide +kernel
theorem dX7_plans_48 : decode cX7_plans 48 = .ok (.if_icmp .ge 77, 3) := by decide +kernel
theorem dX7_plans_51 : decode cX7_plans 51 = .ok (.aload_n 0, 1) := by decide +kernel
theorem dX7_plans_52 : decode cX7_plans 52 = .ok (.iload_n 3, 1) := by decide +kernel
theorem dX7_plans_53 : decode cX7_plans 53 = .ok (.putfield 209, 3) := by decide +kernel
theorem dX7_plans_56 : decode cX7_plans 56 = .ok (.aload_n 0, 1) := by decide +kernel
theorem dX7_plans_57 : decode cX7_plans 57 = .ok (.iconst 0, 1) := by decide +kernel
theorem dX7_plans_58 : decode cX7_plans 58 = .ok (.putfield 224, 3) := by decide +kernel
theorem dX7_plans_61 : decode cX7_plans 61 = .ok (.aload_n 0, 1) := by decide +kernel
theorem dX7_plans_62 : decode cX7_plans 62 = .ok (.getfield 52, 3) := by decide +kernel
theorem dX7_plans_65 : decode cX7_plans 65 = .ok (.iload_n 3, 1) := by decide +kernel
theorem dX7_plans_66 : decode cX7_plans 66 = .ok (.baload, 1) := by decide +kernel
theorem dX7_plans_67 : decode cX7_plans 67 = .ok (.ifCond .ne 9, 3) := by decide +kernel
theorem dX7_plans_70 : decode cX7_plans 70 = .ok (.aload_n 0, 1) := by decide +kernel
theorem dX7_plans_71 : decode cX7_plans 71 = .ok (.iconst 0, 1) := by decide +kernel
theorem dX7_plans_72 : decode cX7_plans 72 = .ok (.iload_n 1, 1) := by decide +kernel
theorem dX7_plans_73 : decode cX7_plans 73 = .ok (.invokevirtual 231, 3) := by decide +kernel
theorem dX7_plans_76 : decode cX7_plans 76 = .ok (.aload_n 0, 1) := by decide +kernel
theorem dX7_plans_77 : decode cX7_plans 77 = .ok (.getfield 224, 3) := by decide +kernel
theorem dX7_plans_80 : decode cX7_plans 80 = .ok (.ifCond .le 10, 3) := by decide +kernel
theorem dX7_plans_83 : decode cX7_plans 83 = .ok (.aload_n 0, 1) := by decide +kernel
theorem dX7_plans_84 : decode cX7_plans 84 = .ok (.invokevirtual 234, 3) := by decide +kernel
theorem dX7_plans_87 : decode cX7_plans 87 = .ok (.goto (-11), 3) := by decide +kernel
theorem dX7_plans_90 : decode cX7_plans 90 = .ok (.aload_n 0, 1) := by decide +kernel
theorem dX7_plans_91 : decode cX7_plans 91 = .ok (.getfield 52, 3) := by decide +kernel
theorem dX7_plans_94 : decode cX7_plans 94 = .ok (.iload_n 3, 1) := by decide +kernel
theorem dX7_plans_95 : decode cX7_plans 95 = .ok (.baload, 1) := by decide +kernel
theorem dX7_plans_96 : decode cX7_plans 96 = .ok (.ifCond .ne 23, 3) := by decide +kernel
theorem dX7_plans_99 : decode cX7_plans 99 = .ok (.iload_n 3, 1) := by decide +kernel
theorem dX7_plans_100 : decode cX7_plans 100 = .ok (.aload_n 0, 1) := by decide +kernel
theorem dX7_plans_101 : decode cX7_plans 101 = .ok (.getfield 7, 3) := by decide +kernel
theorem dX7_plans_104 : decode cX7_plans 104 = .ok (.iconst 0, 1) := by decide +kernel
theorem dX7_plans_105 : decode cX7_plans 105 = .ok (.iaload, 1) := by decide +kernel
theorem dX7_plans_106 : decode cX7_plans 106 = .ok (.iconst 1, 1) := by decide +kernel
theorem dX7_plans_107 : decode cX7_plans 107 = .ok (.isub, 1) := by decide +kernel
theorem dX7_plans_108 : decode cX7_plans 108 = .ok (.if_icmp .ge 11, 3) := by decide +kernel
theorem dX7_plans_111 : decode cX7_plans 111 = .ok (.aload_n 0, 1) := by decide +kernel
theorem dX7_plans_112 : decode cX7_plans 112 = .ok (.iconst 4, 1) := by decide +kernel
theorem dX7_plans_113 : decode cX7_plans 113 = .ok (.iconst 0, 1) := by decide +kernel
theorem dX7_plans_114 : decode cX7_plans 114 = .ok (.iconst 4, 1) := by decide +kernel
theorem dX7_plans_115 : decode cX7_plans 115 = .ok (.iconst (-1), 1) := by decide +kernel
theorem dX7_plans_116 : decode cX7_plans 116 = .ok (.invokevirtual 227, 3) := by decide +kernel
theorem dX7_plans_119 : decode cX7_plans 119 = .ok (.iinc 3 1, 3) := by decide +kernel
theorem dX7_plans_122 : decode cX7_plans 122 = .ok (.goto (-81), 3) := by decide +kernel
theorem dX7_plans_125 : decode cX7_plans 125 = .ok (.return_, 1) := by decide +kernel
theorem dX7_plan_0 : decode cX7_plan 0 = .ok (.iload_n 1, 1) := by decide +kernel
theorem dX7_plan_1 : decode cX7_plan 1 = .ok (.iconst 0, 1) := by decide +kernel
theorem dX7_plan_2 : decode cX7_plan 2 = .ok (.iconst 4, 1) := by decide +kernel
theorem dX7_plan_3 : decode cX7_plan 3 = .ok (.invokestatic 75, 3) := by decide +kernel
theorem dX7_plan_6 : decode cX7_plan 6 = .ok (.ifCond .ne 6, 3) := by decide +kernel
theorem dX7_plan_9 : decode cX7_plan 9 = .ok (.ldc 79, 2) := by decide +kernel
theorem dX7_plan_11 : decode cX7_plan 11 = .ok (.ireturn, 1) := by decide +kernel
theorem dX7_plan_12 : decode cX7_plan 12 = .ok (.aload_n 0, 1) := by decide +kernel
theorem dX7_plan_13 : decode cX7_plan 13 = .ok (.aload_n 0, 1) := by decide +kernel
theorem dX7_plan_14 : decode cX7_plan 14 = .ok (.getfield 7, 3) := by decide +kernel
theorem dX7_plan_17 : decode cX7_plan 17 = .ok (.iconst 1, 1) := by decide +kernel
theorem dX7_plan_18 : decode cX7_plan 18 = .ok (.iaload, 1) := by decide +kernel
theorem dX7_plan_19 : decode cX7_plan 19 = .ok (.ldc 87, 2) := by decide +kernel
theorem dX7_plan_21 : decode cX7_plan 21 = .ok (.invokevirtual 237, 3) := by decide +kernel
theorem dX7_plan_24 : decode cX7_plan 24 = .ok (.iload_n 1, 1) := by decide +kernel
theorem dX7_plan_25 : decode cX7_plan 25 = .ok (.ifCond .ne 10, 3) := by decide +kernel
theorem dX7_plan_28 : decode cX7_plan 28 = .ok (.aload_n 0, 1) := by decide +kernel
theorem dX7_plan_29 : decode cX7_plan 29 = .ok (.getfield 203, 3) := by decide +kernel
theorem dX7_plan_32 : decode cX7_plan 32 = .ok (.goto 43, 3) := by decide +kernel
theorem dX7_plan_35 : decode cX7_plan 35 = .ok (.iload_n 1, 1) := by decide +kernel
theorem dX7_plan_36 : decode cX7_plan 36 = .ok (.iconst 1, 1) := by decide +kernel
theorem dX7_plan_37 : decode cX7_plan 37 = .ok (.if_icmp .ne 10, 3) := by decide +kernel
theorem dX7_plan_40 : decode cX7_plan 40 = .ok (.aload_n 0, 1) := by decide +kernel
theorem dX7_plan_41 : decode cX7_plan 41 = .ok (.getfield 212, 3) := by decide +kernel
theorem dX7_plan_44 : decode cX7_plan 44 = .ok (.goto 31, 3) := by decide +kernel
theorem dX7_plan_47 : decode cX7_plan 47 = .ok (.iload_n 1, 1) := by decide +kernel
theorem dX7_plan_48 : decode cX7_plan 48 = .ok (.iconst 2, 1) := by decide +kernel
theorem dX7_plan_49 : decode cX7_plan 49 = .ok (.if_icmp .ne 10, 3) := by decide +kernel
theorem dX7_plan_52 : decode cX7_plan 52 = .ok (.aload_n 0, 1) := by decide +kernel
theorem dX7_plan_53 : decode cX7_plan 53 = .ok (.getfield 215, 3) := by decide +kernel
theorem dX7_plan_56 : decode cX7_plan 56 = .ok (.goto 19, 3) := by decide +kernel
theorem dX7_plan_59 : decode cX7_plan 59 = .ok (.iload_n 1, 1) := by decide +kernel
theorem dX7_plan_60 : decode cX7_plan 60 = .ok (.iconst 3, 1) := by decide +kernel
theorem dX7_plan_61 : decode cX7_plan 61 = .ok (.if_icmp .ne 10, 3) := by decide +kernel
theorem dX7_plan_64 : decode cX7_plan 64 = .ok (.aload_n 0, 1) := by decide +kernel
theorem dX7_plan_65 : decode cX7_plan 65 = .ok (.getfield 218, 3) := by decide +kernel
theorem dX7_plan_68 : decode cX7_plan 68 = .ok (.goto 7, 3) := by decide +kernel
theorem dX7_plan_71 : decode cX7_plan 71 = .ok (.aload_n 0, 1) := by decide +kernel
theorem dX7_plan_72 : decode cX7_plan 72 = .ok (.getfield 221, 3) := by decide +kernel
theorem dX7_plan_75 : decode cX7_plan 75 = .ok (.ireturn, 1) := by decide +kernel
theorem dX7_step_0 : decode cX7_step 0 = .ok (.iload_n 1, 1) := by decide +kernel
theorem dX7_step_1 : decode cX7_step 1 = .ok (.ifCond .lt 12, 3) := by decide +kernel
theorem dX7_step_4 : decode cX7_step 4 = .ok (.iload_n 2, 1) := by decide +kernel
theorem dX7_step_5 : decode cX7_step 5 = .ok (.iconst 0, 1) := by decide +kernel
theorem dX7_step_6 : decode cX7_step 6 = .ok (.iconst 3, 1) := by decide +kernel
theorem dX7_step_7 : decode cX7_step 7 = .ok (.invokestatic 75, 3) := by decide +kernel
theorem dX7_step_10 : decode cX7_step 10 = .ok (.ifCond .ne 6, 3) := by decide +kernel
theorem dX7_step_13 : decode cX7_step 13 = .ok (.ldc 79, 2) := by decide +kernel
theorem dX7_step_15 : decode cX7_step 15 = .ok (.ireturn, 1) := by decide +kernel
theorem dX7_step_16 : decode cX7_step 16 = .ok (.aload_n 0, 1) := by decide +kernel
theorem dX7_step_17 : decode cX7_step 17 = .ok (.aload_n 0, 1) := by decide +kernel
theorem dX7_step_18 : decode cX7_step 18 = .ok (.getfield 7, 3) := by decide +kernel
theorem dX7_step_21 : decode cX7_step 21 = .ok (.iconst 1, 1) := by decide +kernel
theorem dX7_step_22 : decode cX7_step 22 = .ok (.iaload, 1) := by decide +kernel
theorem dX7_step_23 : decode cX7_step 23 = .ok (.iload_n 1, 1) := by decide +kernel
theorem dX7_step_24 : decode cX7_step 24 = .ok (.invokevirtual 237, 3) := by decide +kernel
theorem dX7_step_27 : decode cX7_step 27 = .ok (.iload_n 1, 1) := by decide +kernel
theorem dX7_step_28 : decode cX7_step 28 = .ok (.aload_n 0, 1) := by decide +kernel
theorem dX7_step_29 : decode cX7_step 29 = .ok (.getfield 203, 3) := by decide +kernel
theorem dX7_step_32 : decode cX7_step 32 = .ok (.if_icmp .ge 12, 3) := by decide +kernel
theorem dX7_step_35 : decode cX7_step 35 = .ok (.aload_n 0, 1) := by decide +kernel
theorem dX7_step_36 : decode cX7_step 36 = .ok (.getfield 56, 3) := by decide +kernel
theorem dX7_step_39 : decode cX7_step 39 = .ok (.iload_n 2, 1) := by decide +kernel
theorem dX7_step_40 : decode cX7_step 40 = .ok (.iaload, 1) := by decide +kernel
theorem dX7_step_41 : decode cX7_step 41 = .ok (.goto 5, 3) := by decide +kernel
theorem dX7_step_44 : decode cX7_step 44 = .ok (.ldc 87, 2) := by decide +kernel
theorem dX7_step_46 : decode cX7_step 46 = .ok (.ireturn, 1) := by decide +kernel
theorem dX7_costWith_0 : decode cX7_costWith 0 = .ok (.iload_n 1, 1) := by decide +kernel
theorem dX7_costWith_1 : decode cX7_costWith 1 = .ok (.iconst 2, 1) := by decide +kernel
theorem dX7_costWith_2 : decode cX7_costWith 2 = .ok (.bipush 8, 2) := by decide +kernel
theorem dX7_costWith_4 : decode cX7_costWith 4 = .ok (.invokestatic 75, 3) := by decide +kernel
theorem dX7_costWith_7 : decode cX7_costWith 7 = .ok (.ifCond .ne 6, 3) := by decide +kernel
theorem dX7_costWith_10 : decode cX7_costWith 10 = .ok (.ldc 79, 2) := by decide +kernel
theorem dX7_costWith_12 : decode cX7_costWith 12 = .ok (.ireturn, 1) := by decide +kernel
theorem dX7_costWith_13 : decode cX7_costWith 13 = .ok (.aload_n 0, 1) := by decide +kernel
theorem dX7_costWith_14 : decode cX7_costWith 14 = .ok (.iload_n 1, 1) := by decide +kernel
theorem dX7_costWith_15 : decode cX7_costWith 15 = .ok (.ldc 87, 2) := by decide +kernel
theorem dX7_costWith_17 : decode cX7_costWith 17 = .ok (.invokevirtual 237, 3) := by decide +kernel
theorem dX7_costWith_20 : decode cX7_costWith 20 = .ok (.aload_n 0, 1) := by decide +kernel
theorem dX7_costWith_21 : decode cX7_costWith 21 = .ok (.getfield 212, 3) := by decide +kernel
theorem dX7_costWith_24 : decode cX7_costWith 24 = .ok (.ireturn, 1) := by decide +kernel
theorem dX7_enough_0 : decode cX7_enough 0 = .ok (.iconst 2, 1) := by decide +kernel
theorem dX7_enough_1 : decode cX7_enough 1 = .ok (.istore_n 1, 1) := by decide +kernel
theorem dX7_enough_2 : decode cX7_enough 2 = .ok (.aload_n 0, 1) := by decide +kernel
theorem dX7_enough_3 : decode cX7_enough 3 = .ok (.iload_n 1, 1) := by decide +kernel
theorem dX7_enough_4 : decode cX7_enough 4 = .ok (.ldc 87, 2) := by decide +kernel
theorem dX7_enough_6 : decode cX7_enough 6 = .ok (.invokevirtual 237, 3) := by decide +kernel
theorem dX7_enough_9 : decode cX7_enough 9 = .ok (.aload_n 0, 1) := by decide +kernel
theorem dX7_enough_10 : decode cX7_enough 10 = .ok (.getfield 215, 3) := by decide +kernel
theorem dX7_enough_13 : decode cX7_enough 13 = .ok (.ifCond .le 22, 3) := by decide +kernel
theorem dX7_enough_16 : decode cX7_enough 16 = .ok (.iload_n 1, 1) := by decide +kernel
theorem dX7_enough_17 : decode cX7_enough 17 = .ok (.bipush 8, 2) := by decide +kernel
theorem dX7_enough_19 : decode cX7_enough 19 = .ok (.if_icmp .ge 16, 3) := by decide +kernel
theorem dX7_enough_22 : decode cX7_enough 22 = .ok (.iinc 1 1, 3) := by decide +kernel
theorem dX7_enough_25 : decode cX7_enough 25 = .ok (.aload_n 0, 1) := by decide +kernel
theorem dX7_enough_26 : decode cX7_enough 26 = .ok (.iload_n 1, 1) := by decide +kernel
theorem dX7_enough_27 : decode cX7_enough 27 = .ok (.ldc 87, 2) := by decide +kernel
theorem dX7_enough_29 : decode cX7_enough 29 = .ok (.invokevirtual 237, 3) := by decide +kernel
theorem dX7_enough_32 : decode cX7_enough 32 = .ok (.goto (-23), 3) := by decide +kernel
theorem dX7_enough_35 : decode cX7_enough 35 = .ok (.iload_n 1, 1) := by decide +kernel
theorem dX7_enough_36 : decode cX7_enough 36 = .ok (.ireturn, 1) := by decide +kernel
theorem dX7_tries_0 : decode cX7_tries 0 = .ok (.iconst 0, 1) := by decide +kernel
theorem dX7_tries_1 : decode cX7_tries 1 = .ok (.istore_n 2, 1) := by decide +kernel
theorem dX7_tries_2 : decode cX7_tries 2 = .ok (.iconst 0, 1) := by decide +kernel
theorem dX7_tries_3 : decode cX7_tries 3 = .ok (.istore_n 3, 1) := by decide +kernel
theorem dX7_tries_4 : decode cX7_tries 4 = .ok (.iload_n 3, 1) := by decide +kernel
theorem dX7_tries_5 : decode cX7_tries 5 = .ok (.aload_n 0, 1) := by decide +kernel
theorem dX7_tries_6 : decode cX7_tries 6 = .ok (.getfield 49, 3) := by decide +kernel
theorem dX7_tries_9 : decode cX7_tries 9 = .ok (.iload_n 1, 1) := by decide +kernel
theorem dX7_tries_10 : decode cX7_tries 10 = .ok (.iaload, 1) := by decide +kernel
theorem dX7_tries_11 : decode cX7_tries 11 = .ok (.if_icmp .ge 32, 3) := by decide +kernel
theorem dX7_tries_14 : decode cX7_tries 14 = .ok (.iload_n 2, 1) := by decide +kernel
theorem dX7_tries_15 : decode cX7_tries 15 = .ok (.aload_n 0, 1) := by decide +kernel
theorem dX7_tries_16 : decode cX7_tries 16 = .ok (.getfield 31, 3) := by decide +kernel
theorem dX7_tries_19 : decode cX7_tries 19 = .ok (.bipush 90, 2) := by decide +kernel
theorem dX7_tries_21 : decode cX7_tries 21 = .ok (.iload_n 1, 1) := by decide +kernel
theorem dX7_tries_22 : decode cX7_tries 22 = .ok (.imul, 1) := by decide +kernel
theorem dX7_tries_23 : decode cX7_tries 23 = .ok (.iload_n 3, 1) := by decide +kernel
theorem dX7_tries_24 : decode cX7_tries 24 = .ok (.iadd, 1) := by decide +kernel
theorem dX7_tries_25 : decode cX7_tries 25 = .ok (.iaload, 1) := by decide +kernel
theorem dX7_tries_26 : decode cX7_tries 26 = .ok (.iconst 3, 1) := by decide +kernel
theorem dX7_tries_27 : decode cX7_tries 27 = .ok (.if_icmp .le 7, 3) := by decide +kernel
theorem dX7_tries_30 : decode cX7_tries 30 = .ok (.iconst 1, 1) := by decide +kernel
theorem dX7_tries_31 : decode cX7_tries 31 = .ok (.goto 4, 3) := by decide +kernel
theorem dX7_tries_34 : decode cX7_tries 34 = .ok (.iconst 0, 1) := by decide +kernel
theorem dX7_tries_35 : decode cX7_tries 35 = .ok (.iadd, 1) := by decide +kernel
theorem dX7_tries_36 : decode cX7_tries 36 = .ok (.istore_n 2, 1) := by decide +kernel
theorem dX7_tries_37 : decode cX7_tries 37 = .ok (.iinc 3 1, 3) := by decide +kernel
theorem dX7_tries_40 : decode cX7_tries 40 = .ok (.goto (-36), 3) := by decide +kernel
theorem dX7_tries_43 : decode cX7_tries 43 = .ok (.aload_n 0, 1) := by decide +kernel
theorem dX7_tries_44 : decode cX7_tries 44 = .ok (.getfield 49, 3) := by decide +kernel
theorem dX7_tries_47 : decode cX7_tries 47 = .ok (.iload_n 1, 1) := by decide +kernel
theorem dX7_tries_48 : decode cX7_tries 48 = .ok (.iaload, 1) := by decide +kernel
theorem dX7_tries_49 : decode cX7_tries 49 = .ok (.iconst 1, 1) := by decide +kernel
theorem dX7_tries_50 : decode cX7_tries 50 = .ok (.isub, 1) := by decide +kernel
theorem dX7_tries_51 : decode cX7_tries 51 = .ok (.istore_n 3, 1) := by decide +kernel
theorem dX7_tries_52 : decode cX7_tries 52 = .ok (.iload_n 3, 1) := by decide +kernel
theorem dX7_tries_53 : decode cX7_tries 53 = .ok (.ifCond .lt 268, 3) := by decide +kernel
theorem dX7_tries_56 : decode cX7_tries 56 = .ok (.iload_n 2, 1) := by decide +kernel
theorem dX7_tries_57 : decode cX7_tries 57 = .ok (.bipush 10, 2) := by decide +kernel
theorem dX7_tries_59 : decode cX7_tries 59 = .ok (.if_icmp .gt 262, 3) := by decide +kernel
theorem dX7_tries_62 : decode cX7_tries 62 = .ok (.aload_n 0, 1) := by decide +kernel
theorem dX7_tries_63 : decode cX7_tries 63 = .ok (.getfield 31, 3) := by decide +kernel
theorem dX7_tries_66 : decode cX7_tries 66 = .ok (.bipush 90, 2) := by decide +kernel
theorem dX7_tries_68 : decode cX7_tries 68 = .ok (.iload_n 1, 1) := by decide +kernel
theorem dX7_tries_69 : decode cX7_tries 69 = .ok (.imul, 1) := by decide +kernel
theorem dX7_tries_70 : decode cX7_tries 70 = .ok (.iload_n 3, 1) := by decide +kernel
theorem dX7_tries_71 : decode cX7_tries 71 = .ok (.iadd, 1) := by decide +kernel
theorem dX7_tries_72 : decode cX7_tries 72 = .ok (.iaload, 1) := by decide +kernel
theorem dX7_tries_73 : decode cX7_tries 73 = .ok (.istore 4, 2) := by decide +kernel
theorem dX7_tries_75 : decode cX7_tries 75 = .ok (.iload_n 3, 1) := by decide +kernel
theorem dX7_tries_76 : decode cX7_tries 76 = .ok (.iconst 1, 1) := by decide +kernel
theorem dX7_tries_77 : decode cX7_tries 77 = .ok (.iadd, 1) := by decide +kernel
theorem dX7_tries_78 : decode cX7_tries 78 = .ok (.istore 5, 2) := by decide +kernel
theorem dX7_tries_80 : decode cX7_tries 80 = .ok (.iload 4, 2) := by decide +kernel
theorem dX7_tries_82 : decode cX7_tries 82 = .ok (.iconst 3, 1) := by decide +kernel
theorem dX7_tries_83 : decode cX7_tries 83 = .ok (.if_icmp .le 21, 3) := by decide +kernel
theorem dX7_tries_86 : decode cX7_tries 86 = .ok (.iload 5, 2) := by decide +kernel
theorem dX7_tries_88 : decode cX7_tries 88 = .ok (.aload_n 0, 1) := by decide +kernel
theorem dX7_tries_89 : decode cX7_tries 89 = .ok (.getfield 37, 3) := by decide +kernel
theorem dX7_tries_92 : decode cX7_tries 92 = .ok (.bipush 90, 2) := by decide +kernel
theorem dX7_tries_94 : decode cX7_tries 94 = .ok (.iload_n 1, 1) := by decide +kernel
theorem dX7_tries_95 : decode cX7_tries 95 = .ok (.imul, 1) := by decide +kernel
theorem dX7_tries_96 : decode cX7_tries 96 = .ok (.iload 5, 2) := by decide +kernel
theorem dX7_tries_98 : decode cX7_tries 98 = .ok (.iadd, 1) := by decide +kernel
theorem dX7_tries_99 : decode cX7_tries 99 = .ok (.iaload, 1) := by decide +kernel
theorem dX7_tries_100 : decode cX7_tries 100 = .ok (.iadd, 1) := by decide +kernel
theorem dX7_tries_101 : decode cX7_tries 101 = .ok (.goto 4, 3) := by decide +kernel
theorem dX7_tries_104 : decode cX7_tries 104 = .ok (.iconst 0, 1) := by decide +kernel
theorem dX7_tries_105 : decode cX7_tries 105 = .ok (.istore 6, 2) := by decide +kernel
theorem dX7_tries_107 : decode cX7_tries 107 = .ok (.iconst 0, 1) := by decide +kernel
theorem dX7_tries_108 : decode cX7_tries 108 = .ok (.istore 7, 2) := by decide +kernel
theorem dX7_tries_110 : decode cX7_tries 110 = .ok (.iload 7, 2) := by decide +kernel
theorem dX7_tries_112 : decode cX7_tries 112 = .ok (.bipush 13, 2) := by decide +kernel
theorem dX7_tries_114 : decode cX7_tries 114 = .ok (.if_icmp .ge 64, 3) := by decide +kernel
theorem dX7_tries_117 : decode cX7_tries 117 = .ok (.aload_n 0, 1) := by decide +kernel
theorem dX7_tries_118 : decode cX7_tries 118 = .ok (.getfield 68, 3) := by decide +kernel
theorem dX7_tries_121 : decode cX7_tries 121 = .ok (.bipush 13, 2) := by decide +kernel
theorem dX7_tries_123 : decode cX7_tries 123 = .ok (.iload_n 3, 1) := by decide +kernel
theorem dX7_tries_124 : decode cX7_tries 124 = .ok (.imul, 1) := by decide +kernel
theorem dX7_tries_125 : decode cX7_tries 125 = .ok (.iload 7, 2) := by decide +kernel
theorem dX7_tries_127 : decode cX7_tries 127 = .ok (.iadd, 1) := by decide +kernel
theorem dX7_tries_128 : decode cX7_tries 128 = .ok (.iload 4, 2) := by decide +kernel
theorem dX7_tries_130 : decode cX7_tries 130 = .ok (.iconst 3, 1) := by decide +kernel
theorem dX7_tries_131 : decode cX7_tries 131 = .ok (.if_icmp .ge 17, 3) := by decide +kernel
theorem dX7_tries_134 : decode cX7_tries 134 = .ok (.iload 7, 2) := by decide +kernel
theorem dX7_tries_136 : decode cX7_tries 136 = .ok (.iconst 1, 1) := by decide +kernel
theorem dX7_tries_137 : decode cX7_tries 137 = .ok (.if_icmp .ne 7, 3) := by decide +kernel
theorem dX7_tries_140 : decode cX7_tries 140 = .ok (.iconst 1, 1) := by decide +kernel
theorem dX7_tries_141 : decode cX7_tries 141 = .ok (.goto 30, 3) := by decide +kernel
theorem dX7_tries_144 : decode cX7_tries 144 = .ok (.iconst 0, 1) := by decide +kernel
theorem dX7_tries_145 : decode cX7_tries 145 = .ok (.goto 26, 3) := by decide +kernel
theorem dX7_tries_148 : decode cX7_tries 148 = .ok (.iload 4, 2) := by decide +kernel
theorem dX7_tries_150 : decode cX7_tries 150 = .ok (.iconst 3, 1) := by decide +kernel
theorem dX7_tries_151 : decode cX7_tries 151 = .ok (.if_icmp .ne 19, 3) := by decide +kernel
theorem dX7_tries_154 : decode cX7_tries 154 = .ok (.aload_n 0, 1) := by decide +kernel
theorem dX7_tries_155 : decode cX7_tries 155 = .ok (.getfield 68, 3) := by decide +kernel
theorem dX7_tries_158 : decode cX7_tries 158 = .ok (.bipush 13, 2) := by decide +kernel
theorem dX7_tries_160 : decode cX7_tries 160 = .ok (.iload 5, 2) := by decide +kernel
theorem dX7_tries_162 : decode cX7_tries 162 = .ok (.imul, 1) := by decide +kernel
theorem dX7_tries_163 : decode cX7_tries 163 = .ok (.iload 7, 2) := by decide +kernel
theorem dX7_tries_165 : decode cX7_tries 165 = .ok (.iadd, 1) := by decide +kernel
theorem dX7_tries_166 : decode cX7_tries 166 = .ok (.iaload, 1) := by decide +kernel
theorem dX7_tries_167 : decode cX7_tries 167 = .ok (.goto 4, 3) := by decide +kernel
theorem dX7_tries_170 : decode cX7_tries 170 = .ok (.iconst 0, 1) := by decide +kernel
theorem dX7_tries_171 : decode cX7_tries 171 = .ok (.iastore, 1) := by decide +kernel
theorem dX7_tries_172 : decode cX7_tries 172 = .ok (.iinc 7 1, 3) := by decide +kernel
theorem dX7_tries_175 : decode cX7_tries 175 = .ok (.goto (-65), 3) := by decide +kernel
theorem dX7_tries_178 : decode cX7_tries 178 = .ok (.iconst 0, 1) := by decide +kernel
theorem dX7_tries_179 : decode cX7_tries 179 = .ok (.istore 7, 2) := by decide +kernel
theorem dX7_tries_181 : decode cX7_tries 181 = .ok (.iload 7, 2) := by decide +kernel
theorem dX7_tries_183 : decode cX7_tries 183 = .ok (.sipush 169, 3) := by decide +kernel
theorem dX7_tries_186 : decode cX7_tries 186 = .ok (.if_icmp .ge 129, 3) := by decide +kernel
theorem dX7_tries_189 : decode cX7_tries 189 = .ok (.iload 4, 2) := by decide +kernel
theorem dX7_tries_191 : decode cX7_tries 191 = .ok (.iconst 3, 1) := by decide +kernel
theorem dX7_tries_192 : decode cX7_tries 192 = .ok (.if_icmp .le 123, 3) := by decide +kernel
theorem dX7_tries_195 : decode cX7_tries 195 = .ok (.iload 7, 2) := by decide +kernel
theorem dX7_tries_197 : decode cX7_tries 197 = .ok (.bipush 13, 2) := by decide +kernel
theorem dX7_tries_199 : decode cX7_tries 199 = .ok (.idiv, 1) := by decide +kernel
theorem dX7_tries_200 : decode cX7_tries 200 = .ok (.istore 8, 2) := by decide +kernel
theorem dX7_tries_202 : decode cX7_tries 202 = .ok (.iload 7, 2) := by decide +kernel
theorem dX7_tries_204 : decode cX7_tries 204 = .ok (.bipush 13, 2) := by decide +kernel
theorem dX7_tries_206 : decode cX7_tries 206 = .ok (.irem, 1) := by decide +kernel
theorem dX7_tries_207 : decode cX7_tries 207 = .ok (.istore 9, 2) := by decide +kernel
theorem dX7_tries_209 : decode cX7_tries 209 = .ok (.aload_n 0, 1) := by decide +kernel
theorem dX7_tries_210 : decode cX7_tries 210 = .ok (.getfield 68, 3) := by decide +kernel
theorem dX7_tries_213 : decode cX7_tries 213 = .ok (.bipush 13, 2) := by decide +kernel
theorem dX7_tries_215 : decode cX7_tries 215 = .ok (.iload 5, 2) := by decide +kernel
theorem dX7_tries_217 : decode cX7_tries 217 = .ok (.imul, 1) := by decide +kernel
theorem dX7_tries_218 : decode cX7_tries 218 = .ok (.iload 8, 2) := by decide +kernel
theorem dX7_tries_220 : decode cX7_tries 220 = .ok (.iadd, 1) := by decide +kernel
theorem dX7_tries_221 : decode cX7_tries 221 = .ok (.iaload, 1) := by decide +kernel
theorem dX7_tries_222 : decode cX7_tries 222 = .ok (.aload_n 0, 1) := by decide +kernel
theorem dX7_tries_223 : decode cX7_tries 223 = .ok (.getfield 68, 3) := by decide +kernel
theorem dX7_tries_226 : decode cX7_tries 226 = .ok (.bipush 13, 2) := by decide +kernel
theorem dX7_tries_228 : decode cX7_tries 228 = .ok (.iload 6, 2) := by decide +kernel
theorem dX7_tries_230 : decode cX7_tries 230 = .ok (.imul, 1) := by decide +kernel
theorem dX7_tries_231 : decode cX7_tries 231 = .ok (.iload 9, 2) := by decide +kernel
theorem dX7_tries_233 : decode cX7_tries 233 = .ok (.iadd, 1) := by decide +kernel
theorem dX7_tries_234 : decode cX7_tries 234 = .ok (.iaload, 1) := by decide +kernel
theorem dX7_tries_235 : decode cX7_tries 235 = .ok (.imul, 1) := by decide +kernel
theorem dX7_tries_236 : decode cX7_tries 236 = .ok (.istore 10, 2) := by decide +kernel
theorem dX7_tries_238 : decode cX7_tries 238 = .ok (.iload 10, 2) := by decide +kernel
theorem dX7_tries_240 : decode cX7_tries 240 = .ok (.ifCond .le 69, 3) := by decide +kernel
theorem dX7_tries_243 : decode cX7_tries 243 = .ok (.aload_n 0, 1) := by decide +kernel
theorem dX7_tries_244 : decode cX7_tries 244 = .ok (.getfield 68, 3) := by decide +kernel
theorem dX7_tries_247 : decode cX7_tries 247 = .ok (.bipush 13, 2) := by decide +kernel
theorem dX7_tries_249 : decode cX7_tries 249 = .ok (.iload_n 3, 1) := by decide +kernel
theorem dX7_tries_250 : decode cX7_tries 250 = .ok (.imul, 1) := by decide +kernel
theorem dX7_tries_251 : decode cX7_tries 251 = .ok (.iload 8, 2) := by decide +kernel
theorem dX7_tries_253 : decode cX7_tries 253 = .ok (.iload 9, 2) := by decide +kernel
theorem dX7_tries_255 : decode cX7_tries 255 = .ok (.iconst 1, 1) := by decide +kernel
theorem dX7_tries_256 : decode cX7_tries 256 = .ok (.iadd, 1) := by decide +kernel
theorem dX7_tries_257 : decode cX7_tries 257 = .ok (.if_icmp .le 8, 3) := by decide +kernel
theorem dX7_tries_260 : decode cX7_tries 260 = .ok (.iload 8, 2) := by decide +kernel
theorem dX7_tries_262 : decode cX7_tries 262 = .ok (.goto 7, 3) := by decide +kernel
theorem dX7_tries_265 : decode cX7_tries 265 = .ok (.iload 9, 2) := by decide +kernel
theorem dX7_tries_267 : decode cX7_tries 267 = .ok (.iconst 1, 1) := by decide +kernel
theorem dX7_tries_268 : decode cX7_tries 268 = .ok (.iadd, 1) := by decide +kernel
theorem dX7_tries_269 : decode cX7_tries 269 = .ok (.iadd, 1) := by decide +kernel
theorem dX7_tries_270 : decode cX7_tries 270 = .ok (.dup2, 1) := by decide +kernel
theorem dX7_tries_271 : decode cX7_tries 271 = .ok (.iaload, 1) := by decide +kernel
theorem dX7_tries_272 : decode cX7_tries 272 = .ok (.iload 10, 2) := by decide +kernel
theorem dX7_tries_274 : decode cX7_tries 274 = .ok (.iadd, 1) := by decide +kernel
theorem dX7_tries_275 : decode cX7_tries 275 = .ok (.iastore, 1) := by decide +kernel
theorem dX7_tries_276 : decode cX7_tries 276 = .ok (.aload_n 0, 1) := by decide +kernel
theorem dX7_tries_277 : decode cX7_tries 277 = .ok (.getfield 68, 3) := by decide +kernel
theorem dX7_tries_280 : decode cX7_tries 280 = .ok (.bipush 13, 2) := by decide +kernel
theorem dX7_tries_282 : decode cX7_tries 282 = .ok (.iload_n 3, 1) := by decide +kernel
theorem dX7_tries_283 : decode cX7_tries 283 = .ok (.imul, 1) := by decide +kernel
theorem dX7_tries_284 : decode cX7_tries 284 = .ok (.iload 9, 2) := by decide +kernel
theorem dX7_tries_286 : decode cX7_tries 286 = .ok (.iload 8, 2) := by decide +kernel
theorem dX7_tries_288 : decode cX7_tries 288 = .ok (.iconst 1, 1) := by decide +kernel
theorem dX7_tries_289 : decode cX7_tries 289 = .ok (.iadd, 1) := by decide +kernel
theorem dX7_tries_290 : decode cX7_tries 290 = .ok (.if_icmp .le 8, 3) := by decide +kernel
theorem dX7_tries_293 : decode cX7_tries 293 = .ok (.iload 9, 2) := by decide +kernel
theorem dX7_tries_295 : decode cX7_tries 295 = .ok (.goto 7, 3) := by decide +kernel
theorem dX7_tries_298 : decode cX7_tries 298 = .ok (.iload 8, 2) := by decide +kernel
theorem dX7_tries_300 : decode cX7_tries 300 = .ok (.iconst 1, 1) := by decide +kernel
theorem dX7_tries_301 : decode cX7_tries 301 = .ok (.iadd, 1) := by decide +kernel
theorem dX7_tries_302 : decode cX7_tries 302 = .ok (.iadd, 1) := by decide +kernel
theorem dX7_tries_303 : decode cX7_tries 303 = .ok (.dup2, 1) := by decide +kernel
theorem dX7_tries_304 : decode cX7_tries 304 = .ok (.iaload, 1) := by decide +kernel
theorem dX7_tries_305 : decode cX7_tries 305 = .ok (.iload 10, 2) := by decide +kernel
theorem dX7_tries_307 : decode cX7_tries 307 = .ok (.iadd, 1) := by decide +kernel
theorem dX7_tries_308 : decode cX7_tries 308 = .ok (.iastore, 1) := by decide +kernel
theorem dX7_tries_309 : decode cX7_tries 309 = .ok (.iinc 7 1, 3) := by decide +kernel
theorem dX7_tries_312 : decode cX7_tries 312 = .ok (.goto (-131), 3) := by decide +kernel
theorem dX7_tries_315 : decode cX7_tries 315 = .ok (.iinc 3 (-1), 3) := by decide +kernel
theorem dX7_tries_318 : decode cX7_tries 318 = .ok (.goto (-266), 3) := by decide +kernel
theorem dX7_tries_321 : decode cX7_tries 321 = .ok (.iload_n 2, 1) := by decide +kernel
theorem dX7_tries_322 : decode cX7_tries 322 = .ok (.ireturn, 1) := by decide +kernel
theorem dX7_fewest_0 : decode cX7_fewest 0 = .ok (.iconst 1, 1) := by decide +kernel
theorem dX7_fewest_1 : decode cX7_fewest 1 = .ok (.istore_n 1, 1) := by decide +kernel
theorem dX7_fewest_2 : decode cX7_fewest 2 = .ok (.aload_n 0, 1) := by decide +kernel
theorem dX7_fewest_3 : decode cX7_fewest 3 = .ok (.getfield 68, 3) := by decide +kernel
theorem dX7_fewest_6 : decode cX7_fewest 6 = .ok (.iload_n 1, 1) := by decide +kernel
theorem dX7_fewest_7 : decode cX7_fewest 7 = .ok (.iaload, 1) := by decide +kernel
theorem dX7_fewest_8 : decode cX7_fewest 8 = .ok (.ifCond .ne 9, 3) := by decide +kernel
theorem dX7_fewest_11 : decode cX7_fewest 11 = .ok (.iinc 1 1, 3) := by decide +kernel
theorem dX7_fewest_14 : decode cX7_fewest 14 = .ok (.goto (-12), 3) := by decide +kernel
theorem dX7_fewest_17 : decode cX7_fewest 17 = .ok (.iload_n 1, 1) := by decide +kernel
theorem dX7_fewest_18 : decode cX7_fewest 18 = .ok (.ireturn, 1) := by decide +kernel
theorem dX7_proved_0 : decode cX7_proved 0 = .ok (.aload_n 0, 1) := by decide +kernel
theorem dX7_proved_1 : decode cX7_proved 1 = .ok (.iload_n 1, 1) := by decide +kernel
theorem dX7_proved_2 : decode cX7_proved 2 = .ok (.invokevirtual 156, 3) := by decide +kernel
theorem dX7_proved_5 : decode cX7_proved 5 = .ok (.ifCond .ne 6, 3) := by decide +kernel
theorem dX7_proved_8 : decode cX7_proved 8 = .ok (.ldc 79, 2) := by decide +kernel
theorem dX7_proved_10 : decode cX7_proved 10 = .ok (.ireturn, 1) := by decide +kernel
theorem dX7_proved_11 : decode cX7_proved 11 = .ok (.aload_n 0, 1) := by decide +kernel
theorem dX7_proved_12 : decode cX7_proved 12 = .ok (.invokevirtual 164, 3) := by decide +kernel
theorem dX7_proved_15 : decode cX7_proved 15 = .ok (.aload_n 0, 1) := by decide +kernel
theorem dX7_proved_16 : decode cX7_proved 16 = .ok (.iload_n 1, 1) := by decide +kernel
theorem dX7_proved_17 : decode cX7_proved 17 = .ok (.invokevirtual 240, 3) := by decide +kernel
theorem dX7_proved_20 : decode cX7_proved 20 = .ok (.bipush 10, 2) := by decide +kernel
theorem dX7_proved_22 : decode cX7_proved 22 = .ok (.if_icmp .le 8, 3) := by decide +kernel
theorem dX7_proved_25 : decode cX7_proved 25 = .ok (.ldc 87, 2) := by decide +kernel
theorem dX7_proved_27 : decode cX7_proved 27 = .ok (.goto 7, 3) := by decide +kernel
theorem dX7_proved_30 : decode cX7_proved 30 = .ok (.aload_n 0, 1) := by decide +kernel
theorem dX7_proved_31 : decode cX7_proved 31 = .ok (.invokevirtual 243, 3) := by decide +kernel
theorem dX7_proved_34 : decode cX7_proved 34 = .ok (.ireturn, 1) := by decide +kernel
theorem dX7_ways_0 : decode cX7_ways 0 = .ok (.aload_n 0, 1) := by decide +kernel
theorem dX7_ways_1 : decode cX7_ways 1 = .ok (.iload_n 1, 1) := by decide +kernel
theorem dX7_ways_2 : decode cX7_ways 2 = .ok (.invokevirtual 156, 3) := by decide +kernel
theorem dX7_ways_5 : decode cX7_ways 5 = .ok (.ifCond .ne 6, 3) := by decide +kernel
theorem dX7_ways_8 : decode cX7_ways 8 = .ok (.ldc 79, 2) := by decide +kernel
theorem dX7_ways_10 : decode cX7_ways 10 = .ok (.ireturn, 1) := by decide +kernel
theorem dX7_ways_11 : decode cX7_ways 11 = .ok (.aload_n 0, 1) := by decide +kernel
theorem dX7_ways_12 : decode cX7_ways 12 = .ok (.invokevirtual 164, 3) := by decide +kernel
theorem dX7_ways_15 : decode cX7_ways 15 = .ok (.aload_n 0, 1) := by decide +kernel
theorem dX7_ways_16 : decode cX7_ways 16 = .ok (.iload_n 1, 1) := by decide +kernel
theorem dX7_ways_17 : decode cX7_ways 17 = .ok (.invokevirtual 240, 3) := by decide +kernel
theorem dX7_ways_20 : decode cX7_ways 20 = .ok (.bipush 10, 2) := by decide +kernel
theorem dX7_ways_22 : decode cX7_ways 22 = .ok (.if_icmp .le 8, 3) := by decide +kernel
theorem dX7_ways_25 : decode cX7_ways 25 = .ok (.ldc 87, 2) := by decide +kernel
theorem dX7_ways_27 : decode cX7_ways 27 = .ok (.goto 12, 3) := by decide +kernel
theorem dX7_ways_30 : decode cX7_ways 30 = .ok (.aload_n 0, 1) := by decide +kernel
theorem dX7_ways_31 : decode cX7_ways 31 = .ok (.getfield 68, 3) := by decide +kernel
theorem dX7_ways_34 : decode cX7_ways 34 = .ok (.aload_n 0, 1) := by decide +kernel
theorem dX7_ways_35 : decode cX7_ways 35 = .ok (.invokevirtual 243, 3) := by decide +kernel
theorem dX7_ways_38 : decode cX7_ways 38 = .ok (.iaload, 1) := by decide +kernel
theorem dX7_ways_39 : decode cX7_ways 39 = .ok (.ireturn, 1) := by decide +kernel
end
section
/-! the heap of the law as a memory: its cells' kinds, the references that never change, the numbers that do -/
/-- the numbers (address, place), and the references of the history -/
abbrev Mem : Type := (Nat → Nat → Int32) × (Nat → Nat)
def shT : List (Nat × Nat) := [(6, 7), (3, 4), (10, 100), (4, 4), (12, 6), (10, 8), (1, 3), (10, 30), (10, 30), (1, 3), (10, 30), (10, 30), (1, 3), (10, 30), (10, 30), (1, 3), (10, 30), (10, 30), (1, 3), (10, 30), (10, 30), (1, 3), (10, 30), (10, 30), (4, 4), (12, 6), (10, 8), (1, 3), (10, 30), (10, 30), (1, 3), (10, 30), (10, 30), (1, 3), (10, 30), (10, 30), (1, 3), (10, 30), (10, 30), (1, 3), (10, 30), (10, 30), (1, 3), (10, 30), (10, 30), (13, 5), (14, 6), (2, 10), (10, 726), (10, 726), (10, 726), (10, 726), (5, 3), (10, 60), (10, 60), (4, 4), (12, 6), (10, 8), (1, 3), (10, 30), (10, 30), (1, 3), (10, 30), (10, 30), (1, 3), (10, 30), (10, 30), (1, 3), (10, 30), (10, 30), (1, 3), (10, 30), (10, 30), (1, 3), (10, 30), (10, 30), (4, 4), (12, 6), (10, 8), (1, 3), (10, 30), (10, 30), (1, 3), (10, 30), (10, 30), (1, 3), (10, 30), (10, 30), (1, 3), (10, 30), (10, 30), (1, 3), (10, 30), (10, 30), (1, 3), (10, 30), (10, 30), (4, 4), (12, 6), (10, 8), (1, 3), (10, 30), (10, 30), (1, 3), (10, 30), (10, 30), (1, 3), (10, 30), (10, 30), (1, 3), (10, 30), (10, 30), (1, 3), (10, 30), (10, 30), (1, 3), (10, 30), (10, 30), (4, 4), (12, 6), (10, 8), (1, 3), (10, 30), (10, 30), (1, 3), (10, 30), (10, 30), (1, 3), (10, 30), (10, 30), (1, 3), (10, 30), (10, 30), (1, 3), (10, 30), (10, 30), (1, 3), (10, 30), (10, 30), (4, 4), (12, 6), (10, 8), (1, 3), (10, 30), (10, 30), (1, 3), (10, 30), (10, 30), (1, 3), (10, 30), (10, 30), (1, 3), (10, 30), (10, 30), (1, 3), (10, 30), (10, 30), (1, 3), (10, 30), (10, 30), (0, 7), (1, 3), (10, 60), (10, 60), (10, 60), (10, 60), (10, 60), (10, 60), (0, 7), (1, 3), (10, 60), (10, 60), (10, 60), (10, 60), (10, 60), (10, 60), (0, 7), (1, 3), (10, 60), (10, 60), (10, 60), (10, 60), (10, 60), (10, 60), (0, 7), (1, 3), (10, 60), (10, 60), (10, 60), (10, 60), (10, 60), (10, 60), (0, 7), (1, 3), (10, 60), (10, 60), (10, 60), (10, 60), (10, 60), (10, 60), (0, 7), (1, 3), (10, 60), (10, 60), (10, 60), (10, 60), (10, 60), (10, 60), (7, 39), (10, 376), (10, 1880), (10, 100), (10, 376), (10, 31), (10, 64), (10, 60), (10, 540), (10, 540), (10, 540), (10, 540), (10, 540), (10, 540), (10, 6), (11, 6), (10, 4), (10, 100), (10, 100), (10, 100), (10, 1170)]
def rfT : List (List Nat) := [[1, 24, 45, 0, 46, 47, 52], [2, 0, 0, 3], [], [4, 0, 5, 0], [6, 9, 12, 15, 18, 21], [], [7, 8, 0], [], [], [10, 11, 0], [], [], [13, 14, 0], [], [], [16, 17, 0], [], [], [19, 20, 0], [], [], [22, 23, 0], [], [], [25, 0, 26, 0], [27, 30, 33, 36, 39, 42], [], [28, 29, 0], [], [], [31, 32, 0], [], [], [34, 35, 0], [], [], [37, 38, 0], [], [], [40, 41, 0], [], [], [43, 44, 0], [], [], [0, 0, 0, 0, 0], [160, 168, 176, 184, 192, 200], [48, 49, 50, 51, 0, 0, 0, 0, 0, 0], [], [], [], [], [53, 54, 0], [], [], [56, 0, 57, 0], [58, 61, 64, 67, 70, 73], [], [59, 60, 0], [], [], [62, 63, 0], [], [], [65, 66, 0], [], [], [68, 69, 0], [], [], [71, 72, 0], [], [], [74, 75, 0], [], [], [77, 0, 78, 0], [79, 82, 85, 88, 91, 94], [], [80, 81, 0], [], [], [83, 84, 0], [], [], [86, 87, 0], [], [], [89, 90, 0], [], [], [92, 93, 0], [], [], [95, 96, 0], [], [], [98, 0, 99, 0], [100, 103, 106, 109, 112, 115], [], [101, 102, 0], [], [], [104, 105, 0], [], [], [107, 108, 0], [], [], [110, 111, 0], [], [], [113, 114, 0], [], [], [116, 117, 0], [], [], [119, 0, 120, 0], [121, 124, 127, 130, 133, 136], [], [122, 123, 0], [], [], [125, 126, 0], [], [], [128, 129, 0], [], [], [131, 132, 0], [], [], [134, 135, 0], [], [], [137, 138, 0], [], [], [140, 0, 141, 0], [142, 145, 148, 151, 154, 157], [], [143, 144, 0], [], [], [146, 147, 0], [], [], [149, 150, 0], [], [], [152, 153, 0], [], [], [155, 156, 0], [], [], [158, 159, 0], [], [], [0, 161, 0, 164, 165, 166, 167], [162, 163, 0], [], [], [], [], [], [], [0, 169, 0, 172, 173, 174, 175], [170, 171, 0], [], [], [], [], [], [], [0, 177, 0, 180, 181, 182, 183], [178, 179, 0], [], [], [], [], [], [], [0, 185, 0, 188, 189, 190, 191], [186, 187, 0], [], [], [], [], [], [], [0, 193, 0, 196, 197, 198, 199], [194, 195, 0], [], [], [], [], [], [], [0, 201, 0, 204, 205, 206, 207], [202, 203, 0], [], [], [], [], [], [], [209, 210, 0, 211, 0, 212, 0, 0, 0, 0, 0, 213, 0, 214, 0, 0, 215, 216, 217, 218, 219, 220, 221, 222, 223, 0, 0, 0, 0, 0, 0, 0, 224, 0, 225, 226, 227, 0, 228], [], [], [], [], [], [], [], [], [], [], [], [], [], [], [], [], [], [], [], []]
def refT : List (List Nat) := [[1, 3, 4, 5, 6], [0, 1], [0, 1, 2, 3], [0, 3], [0, 2], [0, 1], [0, 1, 2, 4, 5, 6], [0, 1, 3, 5, 11, 13, 16, 17, 18, 19, 20, 21, 22, 23, 24, 32, 34, 35, 36, 38]]
/-- kind (0 to 7 an object of a class, 10 int[], 11 boolean[], 12 Form[], 13 Sheet[], 14 Expanded[]) and how many places -/
def sh (a : Nat) : Nat × Nat := shT.getD a (99, 0)
def rf (a k : Nat) : Nat := (rfT.getD a []).getD k 0
def isRf (c k : Nat) : Bool := (refT.getD c []).contains k
def ln (a : Nat) : Nat := (sh a).2
abbrev ix (i : Int32) : Nat := i.toNatClampNeg
def inb (i : Int32) (n : Nat) : Bool := !(decide (i < 0) || decide (n ≤ i.toNatClampNeg))
theorem inb_vp {i : Int32} {n : Nat} (h : inb i n = true) : vp_in i n := by
  simp only [inb, Bool.not_eq_true', Bool.or_eq_false_iff, decide_eq_false_iff_not] at h
  rintro (q | q)
  · exact h.1 q
  · exact h.2 q
theorem inb_lt {i : Int32} {n : Nat} (h : inb i n = true) : ix i < n := Nat.not_le.mp fun q => inb_vp h (Or.inr q)
theorem lt_of_sh {a c : Nat} (h : (sh a).1 = c) (hc : c < 50) : a < 229 := by
  rcases Nat.lt_or_ge a 229 with q | q
  · exact q
  · have hl : shT.length = 229 := rfl
    rw [sh, List.getD_eq_getElem?_getD, List.getElem?_eq_none (by rw [hl]; exact q)] at h
    exact absurd h (by show ¬ 99 = c; omega)
abbrev GT : Type := (va_G × (Nat → ClassId)) × Nat
def fv (b c a : Nat) (M : Mem) (k : Nat) : Value := if isRf c k = true then .ref (b + rf a k) else .int (M.1 a k)
def ent (b : Nat) (dA : Nat → ClassId) (M : Mem) (a : Nat) : va_E :=
  if (sh a).1 = 10 then .inl (dA 0, ln a, .inl (M.1 a))
  else if (sh a).1 = 11 then .inl (dA 1, ln a, .inl (M.1 a))
  else if (sh a).1 = 12 then .inl (dA 2, ln a, .inr (.inr (.inr (.inr (fun i => some (b + rf a i))))))
  else if (sh a).1 = 13 then .inl (dA 3, ln a, .inr (.inr (.inr (.inr (fun i => some (b + M.2 i))))))
  else if (sh a).1 = 14 then .inl (dA 4, ln a, .inr (.inr (.inr (.inr (fun i => some (b + rf a i))))))
  else .inr ((sh a).1, (List.range (ln a)).map (fv b (sh a).1 a M))
def cellsOf (G : GT) (M : Mem) : va_W := (List.range 229).map (fun a => (G.2 + a, ent G.2 G.1.2 M a))
def Rep (G : GT) (M : Mem) (H : Heap) : Prop := va_P G.1.1 vwCl (cellsOf G M) H ∧ ∀ i, i < 5 → (sh (M.2 i)).1 = 4
theorem cells_at {G : GT} {M : Mem} {a : Nat} (h : a < 229) : (cellsOf G M)[a]? = some (G.2 + a, ent G.2 G.1.2 M a) := by simp [cellsOf, h]
theorem cells_len {G : GT} {M : Mem} : (cellsOf G M).length = 229 := by simp [cellsOf]
theorem cells_inv {G : GT} {M : Mem} {k : Nat} {q : Nat × va_E} (h : (cellsOf G M)[k]? = some q) : q = (G.2 + k, ent G.2 G.1.2 M k) ∧ k < 229 := by
  have hk : k < 229 := by
    have := (List.getElem?_eq_some_iff.mp h).1
    rwa [cells_len] at this
  rw [cells_at hk] at h
  exact ⟨(Option.some.inj h).symm, hk⟩
theorem cells_D {G : GT} {M : Mem} : va_D (fun q => G.2 ≤ q) (cellsOf G M) := by
  refine ⟨fun i j p q hi hj hpq => ?_, fun k q hk => ?_⟩
  · obtain ⟨rfl, -⟩ := cells_inv hi
    obtain ⟨rfl, -⟩ := cells_inv hj
    have : G.2 + i = G.2 + j := hpq
    omega
  · obtain ⟨rfl, -⟩ := cells_inv hk
    exact Nat.le_add_right _ _
theorem cells_set {G : GT} {M M' : Mem} {a : Nat} {e : va_E} (ha : a < 229) (he : ent G.2 G.1.2 M' a = e) (hne : ∀ b, b ≠ a → ent G.2 G.1.2 M' b = ent G.2 G.1.2 M b) : (cellsOf G M).set a (G.2 + a, e) = cellsOf G M' := by
  apply List.ext_getElem?
  intro k
  by_cases hk : k = a
  · subst hk
    rw [List.getElem?_set_self (by rw [cells_len]; exact ha), cells_at ha, he]
  · rw [List.getElem?_set_ne (Ne.symm hk)]
    by_cases hl : k < 229
    · rw [cells_at hl, cells_at hl, hne k hk]
    · rw [List.getElem?_eq_none (by rw [cells_len]; omega), List.getElem?_eq_none (by rw [cells_len]; omega)]
/-- one number is written -/
def mset (M : Mem) (a k : Nat) (v : Int32) : Mem := (fun b => if b = a then upd (M.1 a) k v else M.1 b, M.2)
/-- an array's stretch is copied -/
def mcpy (M : Mem) (a0 sp a1 dp n : Nat) : Mem := (fun b => if b = a1 then va_cpy (M.1 a0) (M.1 a1) sp dp n else M.1 b, M.2)
/-- a reference of the history is written -/
def hset (M : Mem) (i v : Nat) : Mem := (M.1, fun j => if j = i then v else M.2 j)
theorem ent_row {b : Nat} {dA : Nat → ClassId} {M M' : Mem} {c : Nat} (h1 : M'.1 c = M.1 c) (h2 : M'.2 = M.2) : ent b dA M' c = ent b dA M c := by
  have hf : fv b (sh c).1 c M' = fv b (sh c).1 c M := by funext k; simp only [fv, h1]
  simp only [ent, h1, h2, hf]
theorem mset_ne {M : Mem} {a k c : Nat} {v : Int32} (h : c ≠ a) : (mset M a k v).1 c = M.1 c := if_neg h
theorem mset_eq {M : Mem} {a k : Nat} {v : Int32} : (mset M a k v).1 a = upd (M.1 a) k v := if_pos rfl
theorem mset_2 {M : Mem} {a k : Nat} {v : Int32} : (mset M a k v).2 = M.2 := rfl
theorem ent_i {b : Nat} {dA : Nat → ClassId} {M : Mem} {a : Nat} (h : (sh a).1 = 10) : ent b dA M a = .inl (dA 0, ln a, .inl (M.1 a)) := if_pos h
theorem ent_z {b : Nat} {dA : Nat → ClassId} {M : Mem} {a : Nat} (h : (sh a).1 = 11) : ent b dA M a = .inl (dA 1, ln a, .inl (M.1 a)) := by simp [ent, h]
theorem ent_f {b : Nat} {dA : Nat → ClassId} {M : Mem} {a : Nat} (h : (sh a).1 = 12) : ent b dA M a = .inl (dA 2, ln a, .inr (.inr (.inr (.inr (fun i => some (b + rf a i)))))) := by simp [ent, h]
theorem ent_h {b : Nat} {dA : Nat → ClassId} {M : Mem} {a : Nat} (h : (sh a).1 = 13) : ent b dA M a = .inl (dA 3, ln a, .inr (.inr (.inr (.inr (fun i => some (b + M.2 i)))))) := by simp [ent, h]
theorem ent_e {b : Nat} {dA : Nat → ClassId} {M : Mem} {a : Nat} (h : (sh a).1 = 14) : ent b dA M a = .inl (dA 4, ln a, .inr (.inr (.inr (.inr (fun i => some (b + rf a i)))))) := by simp [ent, h]
theorem ent_o {b : Nat} {dA : Nat → ClassId} {M : Mem} {a c N : Nat} (h : sh a = (c, N)) (hc : c < 10) : ent b dA M a = .inr (c, (List.range N).map (fv b c a M)) := by
  have h1 : (sh a).1 = c := by rw [h]
  have h2 : ln a = N := by rw [ln, h]
  rw [ent, if_neg (by omega), if_neg (by omega), if_neg (by omega), if_neg (by omega), if_neg (by omega), h1, h2]
theorem map_set {N k : Nat} {f g : Nat → Value} {v : Value} (hk : k < N) (h1 : g k = v) (h2 : ∀ j, j ≠ k → g j = f j) : ((List.range N).map f).set k v = (List.range N).map g := by
  apply List.ext_getElem?
  intro j
  by_cases hj : j = k
  · subst hj
    rw [List.getElem?_set_self (by simpa using hk)]
    simp [hk, h1]
  · rw [List.getElem?_set_ne (Ne.symm hj)]
    by_cases hl : j < N
    · simp [hl, h2 j hj]
    · simp [hl]
theorem ent_put {b : Nat} {dA : Nat → ClassId} {M : Mem} {a c N k : Nat} {v : Int32} (h : sh a = (c, N)) (hc : c < 10) (hk : k < N) (hr : isRf c k = false) : ent b dA (mset M a k v) a = .inr (c, ((List.range N).map (fv b c a M)).set k (.int v)) := by
  rw [ent_o h hc, map_set hk (g := fv b c a (mset M a k v))]
  · simp [fv, hr, mset_eq, upd]
  · intro j hj
    simp [fv, mset_eq, upd, hj]
theorem cells_put {G : GT} {M : Mem} {a c N k : Nat} {v : Int32} (h : sh a = (c, N)) (hc : c < 10) (hk : k < N) (hr : isRf c k = false) : (cellsOf G M).set a (G.2 + a, .inr (c, ((List.range N).map (fv G.2 c a M)).set k (.int v))) = cellsOf G (mset M a k v) :=
  cells_set (lt_of_sh (c := c) (by rw [h]) (by omega)) (ent_put h hc hk hr) fun _ hb => ent_row (mset_ne hb) rfl
theorem cells_i {G : GT} {M : Mem} {a k : Nat} {v : Int32} (h : (sh a).1 = 10) : (cellsOf G M).set a (G.2 + a, .inl (G.1.2 0, ln a, .inl (upd (M.1 a) k v))) = cellsOf G (mset M a k v) :=
  cells_set (lt_of_sh h (by omega)) (by rw [ent_i h, mset_eq]) fun _ hb => ent_row (mset_ne hb) rfl
theorem cells_z {G : GT} {M : Mem} {a k : Nat} {v : Int32} (h : (sh a).1 = 11) : (cellsOf G M).set a (G.2 + a, .inl (G.1.2 1, ln a, .inl (upd (M.1 a) k v))) = cellsOf G (mset M a k v) :=
  cells_set (lt_of_sh h (by omega)) (by rw [ent_z h, mset_eq]) fun _ hb => ent_row (mset_ne hb) rfl
theorem cells_c {G : GT} {M : Mem} {a0 a sp dp n : Nat} (h : (sh a).1 = 10) : (cellsOf G M).set a (G.2 + a, .inl (G.1.2 0, ln a, .inl (va_cpy (M.1 a0) (M.1 a) sp dp n))) = cellsOf G (mcpy M a0 sp a dp n) :=
  cells_set (lt_of_sh h (by omega)) (by rw [ent_i h]; simp [mcpy]) fun _ hb => ent_row (if_neg hb) rfl
theorem sh_h : ∀ a, a < 229 → (sh a).1 = 13 → a = 45 := by decide +kernel
theorem cells_h {G : GT} {M : Mem} {i v : Nat} : (cellsOf G M).set 45 (G.2 + 45, .inl (G.1.2 3, ln 45, .inr (.inr (.inr (.inr (va_up (fun i => some (G.2 + M.2 i)) i (some (G.2 + v)))))))) = cellsOf G (hset M i v) := by
  refine cells_set (by omega) ?_ fun b hb => ?_
  · rw [ent_h rfl]
    have hj : (fun j => some (G.2 + (hset M i v).2 j)) = va_up (fun j => some (G.2 + M.2 j)) i (some (G.2 + v)) := by
      funext j
      by_cases hj : j = i <;> simp [hset, va_up, hj]
    rw [hj]
  · by_cases hl : b < 229
    · have h13 : (sh b).1 ≠ 13 := fun q => hb (sh_h b hl q)
      have hf : fv G.2 (sh b).1 b (hset M i v) = fv G.2 (sh b).1 b M := by funext k; rfl
      simp only [ent, if_neg h13, hf]
      rfl
    · have h99 : (sh b).1 ≠ 13 := by
        have hl2 : shT.length = 229 := rfl
        rw [sh, List.getD_eq_getElem?_getD, List.getElem?_eq_none (by rw [hl2]; omega)]
        decide
      have hf : fv G.2 (sh b).1 b (hset M i v) = fv G.2 (sh b).1 b M := by funext k; rfl
      simp only [ent, if_neg h99, hf]
      rfl
end
section
/-! words, room, contracts, and the judgement V of a walk against a function of the memory -/
def isNestW : Cond → Bool
  | .fieldLinkNest .. => true
  | .methodLinkNest .. => true
  | _ => false
def TBLG : List Cond := lw_tbl.filter goodWord
def NWL : List Cond := lw_tbl.filter isNestW
theorem tblg_good {w : Cond} (h : w ∈ TBLG) : (w.onTables && w.keeps) = true ∨ ∃ ty, w = .arrayClass ty := good_of_word (List.mem_filter.mp h).2
theorem tblg_in {w : Cond} (h : w ∈ TBLG) : w ∈ lw_tbl := (List.mem_filter.mp h).1
theorem nwl_warm {w : Cond} (h : w ∈ NWL) {s U : State} (hW : s.WarmedH U.vm) (hZ : va_Nw w s) : va_Nw w U := by
  have h2 : isNestW w = true := (List.mem_filter.mp h).2
  cases w <;> first | exact va_Nw.warmF hW hZ | exact va_Nw.warmM hW hZ | (exact absurd h2 (by decide)) | (simp [isNestW] at h2)
theorem nwl_on {w : Cond} (h : w ∈ NWL) : w.onTables = true := by
  have h2 : isNestW w = true := (List.mem_filter.mp h).2
  cases w <;> first | rfl | (simp [isNestW] at h2)
def WS (y : MethodName) (cc : ByteArray) (maxL : Nat) (ret : Option FieldType) : List Cond := .code y cc maxL ret :: TBLG
theorem ws_in {y : MethodName} {cc : ByteArray} {maxL : Nat} {ret : Option FieldType} (h : Cond.code y cc maxL ret ∈ TBLG) : GoodIn TBLG (WS y cc maxL ret) := by
  intro w hw
  rcases List.mem_cons.mp hw with rfl | hw
  · exact ⟨h, tblg_good h⟩
  · exact ⟨hw, tblg_good hw⟩
theorem ws_app {a b : List Cond} (ha : ∀ w ∈ a, w ∈ TBLG) (hb : GoodIn TBLG b) : GoodIn TBLG (a ++ b) := fun w h => (List.mem_append.mp h).elim (fun h => ⟨ha w h, tblg_good (ha w h)⟩) (hb w)
def rm (h : Nat) : Jvm.Room := { frames := h, cells := 0, slots := 0, locals := 40 * h }
def tysL (dA : Nat → ClassId) : List (ClassId × FieldType) := [(dA 0, .int), (dA 1, .boolean), (dA 2, .object RX1), (dA 3, .object RX4), (dA 4, .object RX0)]
def Kx (G : GT) (U : State) : Prop := va_K G.1.1 vwCl (tysL G.1.2) U ∧ ∀ w ∈ NWL, va_Nw w U
theorem Kx.warm {G : GT} {s U : State} (hW : s.WarmedH U.vm) (h : Kx G s) : Kx G U := ⟨h.1.moved hW.alike, fun w hw => nwl_warm hw hW (h.2 w hw)⟩
theorem Kx.call {G : GT} {U : State} {g : JFrame} {mk : MethodId} {a : Array Value} (h : Kx G U) : Kx G (U.calling g mk a) :=
  ⟨va_K.moved (u := U) (U := U.calling g mk a) (Vm.Alike.refl U.vm) h.1, fun w hw => va_Nw.same (u := U) (U := U.calling g mk a) (nwl_on hw) rfl (h.2 w hw)⟩
/-- the worlds behind a method -/
def QV (G : GT) (v : Option Value) (M' : Mem) : Array Value → State → Outcome → State → Prop := fun _ st oc t => oc = .returned v ∧ Rep G M' t.heap ∧ va_F (fun q => G.2 ≤ q) st t
def PV (G : GT) (av : List Value) (M : Mem) : Array Value → State → Prop := va_Pc av (fun U => Kx G U ∧ Rep G M U.heap)
theorem PV.blind {G : GT} {av : List Value} {M : Mem} : FrameBlind (PV G av M) := fun _ _ _ _ q => ⟨q.1, q.2.1.call, q.2.2⟩
/-- a contract: from the memory M, with these arguments, the method returns v and leaves the memory M' -/
def MC (l : Launch) (G : GT) (y : MethodName) (cc : ByteArray) (maxL : Nat) (ret : Option FieldType) (h : Nat) (av : List Value) (M : Mem) (v : Option Value) (M' : Mem) : Prop :=
  Met l y (WS y cc maxL ret) (rm h) (PV G av M) (QV G v M') 0 0 (fun q => G.2 ≤ q)
abbrev XT : Type := Program × Launch × Env × State × MethodId × Array Value × List Frame × Method × Code
def Cx (X : XT) (G : GT) (cc : ByteArray) (nL : Nat) (own : String) (ret : Option FieldType) : Prop :=
  match X with
  | (p, _, _, s, m, args, _, meth, c) => p.tables.exec = Jvm.exec ∧ c.code = cc ∧ c.maxLocals = nL ∧ s.vm.findClass own = some m.cls ∧ (∀ w ∈ TBLG, w.before args s = true) ∧ Kx G s ∧ meth.sig.returnType = ret ∧ meth.locks = false
def V (X : XT) (G : GT) (h : Nat) {ρ : Type} (val : ρ → Option Value) (nL pc : Nat) (lv : List (Nat × Value)) (st : List Value) (M : Mem) (o : Option (ρ × Mem)) : Prop :=
  match X with
  | (p, l, e, s, m, args, below, meth, c) => ∀ (r : ρ) (M' : Mem), o = some (r, M') → ∀ (H : Heap) (locs : List Loc) (ls : Array Slot), lv_has ls nL lv → Rep G M H → va_S (fun q => G.2 ≤ q) s.heap H locs →
    W p l e (rm h) s m args below meth c H locs 0 0 (MQ below (QV G (val r) M') args s 0 0 (fun q => G.2 ≤ q)) (F0 m pc ls st)
def vI (r : Int32) : Option Value := some (.int r)
def vU (_ : Unit) : Option Value := none
def mxI (x y : Int32) : Int32 := if x < y then y else x
def mnI (x y : Int32) : Int32 := if y < x then y else x
def mxL (x y : Int64) : Int64 := if y < x then x else y
def mnL (x y : Int64) : Int64 := if y < x then y else x
/-- words of the pure functions -/
def gd {α : Type} (b : Bool) (o : Option α) : Option α := if b = true then o else none
def bd {α β : Type} (o : Option (α × Mem)) (k : α → Mem → Option β) : Option β := match o with | some q => k q.1 q.2 | none => none
def bm {α : Type} (M : Mem) (f : Mem → α) : α := f M
def bi {α : Type} (x : Int32) (f : Int32 → α) : α := f x
def bl {α : Type} (x : Int64) (f : Int64 → α) : α := f x
def bn {α : Type} (x : Nat) (f : Nat → α) : α := f x
def isB (x : Int32) : Bool := x == 0 || x == 1
theorem isB_or {x : Int32} (h : isB x = true) : x = 0 ∨ x = 1 := by simpa [isB] using h
theorem MC.ofV {l : Launch} {G : GT} {y : MethodName} {cc : ByteArray} {maxL : Nat} {ret : Option FieldType} {h : Nat} {av : List Value} {M M' : Mem} {ρ : Type} {val : ρ → Option Value} {r : ρ} {o : Option (ρ × Mem)} {lv : List (Nat × Value)} {own : String} (hy : plainName y.cls = true) (hown : y.cls = own) (hlv : lv_args 0 av = lv) (hlen : (lg_sl av).length ≤ maxL) (ho : o = some (r, M'))
    (body : ∀ X : XT, X.2.1 = l → Cx X G cc maxL own ret → V X G h val maxL 0 lv [] M o) : MC l G y cc maxL ret h av M (val r) M' := by
  refine Met.ofW (cc := cc) (maxL := maxL) (ret := ret) (ws' := TBLG) hy rfl ?_
  intro p e s m args below meth c s₁ B hml hv
  obtain ⟨rfl, hK, hR⟩ := hv
  have hx := B.exec
  have hb := B.bytes
  have hr := B.returns
  have hts := atoms_spec (ws := WS y cc maxL ret) B.pre
  have hw : s.vm.findClass own = some m.cls := hown ▸ findClass_of_methodNamed B.named
  have hlocks := B.notSynchronized
  have hl := lv_entry av (n := maxL) hlen
  rw [lg_entry_eq]
  rw [hlv] at hl
  exact body (p, l, e, s, m, av.toArray, below, meth, c) rfl ⟨hx, hb, hml, hw, fun w h => hts w (List.mem_cons_of_mem _ h), hK, hr, hlocks⟩ r M' ho s.heap [] _ hl hR va_S.rf
section VR
variable {X : XT} {G : GT} {h : Nat} {ρ : Type} {val : ρ → Option Value} {nL pc : Nat} {lv : List (Nat × Value)} {st : List Value} {M : Mem} {o o1 o2 : Option (ρ × Mem)} {cc : ByteArray} {own : String} {ret : Option FieldType}
theorem V_none : V X G h val nL pc lv st M none := by
  obtain ⟨p, l, e, s, m, args, below, meth, c⟩ := X
  intro r M' ho
  cases ho
theorem V_sub {lv' : List (Nat × Value)} (ks : List Nat) (hl : lv_pick lv ks = lv') (k : V X G h val nL pc lv' st M o) : V X G h val nL pc lv st M o := by
  obtain ⟨p, l, e, s, m, args, below, meth, c⟩ := X
  intro r M' ho H locs ls hL hP hS
  exact k r M' ho H locs ls (lv_sub hL ks hl) hP hS
theorem V_gd {b : Bool} (k : b = true → V X G h val nL pc lv st M o) : V X G h val nL pc lv st M (gd b o) := by
  cases b with
  | false => exact V_none
  | true => exact k rfl
theorem V_bi {x : Int32} {f : Int32 → Option (ρ × Mem)} (k : ∀ y : Int32, V X G h val nL pc lv (.int y :: st) M (f y)) : V X G h val nL pc lv (.int x :: st) M (bi x f) := k x
theorem V_bl {x : Int64} {f : Int64 → Option (ρ × Mem)} (k : ∀ y : Int64, V X G h val nL pc lv (.long y :: st) M (f y)) : V X G h val nL pc lv (.long x :: st) M (bl x f) := k x
theorem V_bn {x c : Nat} {f : Nat → Option (ρ × Mem)} (hx : (sh x).1 = c) (k : ∀ y : Nat, (sh y).1 = c → V X G h val nL pc lv (.ref (G.2 + y) :: st) M (f y)) : V X G h val nL pc lv (.ref (G.2 + x) :: st) M (bn x f) := k x hx

theorem V_iconst (C0 : Cx X G cc nL own ret) {v : Int32} {n : Int} (hdg : decode cc pc = .ok (.iconst n, 1)) (hv : Int32.ofInt n = v) (k : V X G h val nL (pc + 1) lv (.int v :: st) M o) : V X G h val nL pc lv st M o := by
  obtain ⟨p, l, e, s, m, args, below, meth, c⟩ := X
  intro r M' ho H locs ls hL hP hS
  exact lv_iconst C0.1 C0.2.1 hdg hv (k r M' ho H locs ls hL hP hS)
theorem V_bipush (C0 : Cx X G cc nL own ret) {v : Int32} {n : Int} (hdg : decode cc pc = .ok (.bipush n, 2)) (hv : (Int8.ofInt n).toInt32 = v) (k : V X G h val nL (pc + 2) lv (.int v :: st) M o) : V X G h val nL pc lv st M o := by
  obtain ⟨p, l, e, s, m, args, below, meth, c⟩ := X
  intro r M' ho H locs ls hL hP hS
  exact lv_bipush C0.1 C0.2.1 hdg hv (k r M' ho H locs ls hL hP hS)
theorem V_sipush (C0 : Cx X G cc nL own ret) {v : Int32} {n : Int} (hdg : decode cc pc = .ok (.sipush n, 3)) (hv : (Int16.ofInt n).toInt32 = v) (k : V X G h val nL (pc + 3) lv (.int v :: st) M o) : V X G h val nL pc lv st M o := by
  obtain ⟨p, l, e, s, m, args, below, meth, c⟩ := X
  intro r M' ho H locs ls hL hP hS
  exact lv_sipush C0.1 C0.2.1 hdg hv (k r M' ho H locs ls hL hP hS)
theorem V_ldc (C0 : Cx X G cc nL own ret) {v : Int32} {index : Nat} (hw : Cond.constant own index v ∈ TBLG) (hdg : decode cc pc = .ok (.ldc index, 2)) (k : V X G h val nL (pc + 2) lv (.int v :: st) M o) : V X G h val nL pc lv st M o := by
  obtain ⟨p, l, e, s, m, args, below, meth, c⟩ := X
  intro r M' ho H locs ls hL hP hS
  exact lv_ldc C0.1 C0.2.1 C0.2.2.2.1 (C0.2.2.2.2.1 _ hw) hdg (k r M' ho H locs ls hL hP hS)
theorem V_ldc2 (C0 : Cx X G cc nL own ret) {v : Int64} {index : Nat} (hw : Cond.constantLong own index v ∈ TBLG) (hdg : decode cc pc = .ok (.ldc2_w index, 3)) (k : V X G h val nL (pc + 3) lv (.long v :: st) M o) : V X G h val nL pc lv st M o := by
  obtain ⟨p, l, e, s, m, args, below, meth, c⟩ := X
  intro r M' ho H locs ls hL hP hS
  exact lv_ldc2 C0.1 C0.2.1 C0.2.2.2.1 (C0.2.2.2.2.1 _ hw) hdg (k r M' ho H locs ls hL hP hS)
theorem V_iload_n (C0 : Cx X G cc nL own ret) {kk : Fin 4} {x : Int32} (i : Nat) (hi : (kk : Nat) = i) (q : Nat) (hq : lv[q]? = some (i, .int x)) (hdg : decode cc pc = .ok (.iload_n kk, 1)) (k : V X G h val nL (pc + 1) lv (.int x :: st) M o) : V X G h val nL pc lv st M o := by
  obtain ⟨p, l, e, s, m, args, below, meth, c⟩ := X
  intro r M' ho H locs ls hL hP hS
  exact lv_iload_n C0.1 C0.2.1 hdg hi (lv_at hL q hq) (k r M' ho H locs ls hL hP hS)
theorem V_iload (C0 : Cx X G cc nL own ret) {x : Int32} (i : Nat) (q : Nat) (hq : lv[q]? = some (i, .int x)) (hdg : decode cc pc = .ok (.iload i, 2)) (k : V X G h val nL (pc + 2) lv (.int x :: st) M o) : V X G h val nL pc lv st M o := by
  obtain ⟨p, l, e, s, m, args, below, meth, c⟩ := X
  intro r M' ho H locs ls hL hP hS
  exact lv_iload C0.1 C0.2.1 hdg (lv_at hL q hq) (k r M' ho H locs ls hL hP hS)
theorem V_lload_n (C0 : Cx X G cc nL own ret) {kk : Fin 4} {x : Int64} (i : Nat) (hi : (kk : Nat) = i) (q : Nat) (hq : lv[q]? = some (i, .long x)) (hdg : decode cc pc = .ok (.lload_n kk, 1)) (k : V X G h val nL (pc + 1) lv (.long x :: st) M o) : V X G h val nL pc lv st M o := by
  obtain ⟨p, l, e, s, m, args, below, meth, c⟩ := X
  intro r M' ho H locs ls hL hP hS
  exact lv_lload_n C0.1 C0.2.1 hdg hi (lv_at hL q hq) (k r M' ho H locs ls hL hP hS)
theorem V_lload (C0 : Cx X G cc nL own ret) {x : Int64} (i : Nat) (q : Nat) (hq : lv[q]? = some (i, .long x)) (hdg : decode cc pc = .ok (.lload i, 2)) (k : V X G h val nL (pc + 2) lv (.long x :: st) M o) : V X G h val nL pc lv st M o := by
  obtain ⟨p, l, e, s, m, args, below, meth, c⟩ := X
  intro r M' ho H locs ls hL hP hS
  exact lv_lload C0.1 C0.2.1 hdg (lv_at hL q hq) (k r M' ho H locs ls hL hP hS)
theorem V_aload_n (C0 : Cx X G cc nL own ret) {kk : Fin 4} {x : Nat} (i : Nat) (hi : (kk : Nat) = i) (q : Nat) (hq : lv[q]? = some (i, .ref x)) (hdg : decode cc pc = .ok (.aload_n kk, 1)) (k : V X G h val nL (pc + 1) lv (.ref x :: st) M o) : V X G h val nL pc lv st M o := by
  obtain ⟨p, l, e, s, m, args, below, meth, c⟩ := X
  intro r M' ho H locs ls hL hP hS
  exact lv_aload_n C0.1 C0.2.1 hdg hi (lv_at hL q hq) (k r M' ho H locs ls hL hP hS)
theorem V_aload (C0 : Cx X G cc nL own ret) {x : Nat} (i : Nat) (q : Nat) (hq : lv[q]? = some (i, .ref x)) (hdg : decode cc pc = .ok (.aload i, 2)) (k : V X G h val nL (pc + 2) lv (.ref x :: st) M o) : V X G h val nL pc lv st M o := by
  obtain ⟨p, l, e, s, m, args, below, meth, c⟩ := X
  intro r M' ho H locs ls hL hP hS
  exact lv_aload C0.1 C0.2.1 hdg (lv_at hL q hq) (k r M' ho H locs ls hL hP hS)
theorem V_istore_n (C0 : Cx X G cc nL own ret) {kk : Fin 4} {x : Int32} (i : Nat) (lv' : List (Nat × Value)) (hi : (kk : Nat) = i) (hn : i < nL) (hl : (i, Value.int x) :: lv.filter (fun q => !(q.1 == i) && !(q.1 + 1 == i && q.2.category == 2)) = lv') (hdg : decode cc pc = .ok (.istore_n kk, 1)) (k : V X G h val nL (pc + 1) lv' st M o) : V X G h val nL pc lv (.int x :: st) M o := by
  obtain ⟨p, l, e, s, m, args, below, meth, c⟩ := X
  intro r M' ho H locs ls hL hP hS
  exact lv_istore_n C0.1 C0.2.1 hdg hi hL hn hl (fun ls' hL' => k r M' ho H locs ls' hL' hP hS)
theorem V_istore (C0 : Cx X G cc nL own ret) {x : Int32} (i : Nat) (lv' : List (Nat × Value)) (hn : i < nL) (hl : (i, Value.int x) :: lv.filter (fun q => !(q.1 == i) && !(q.1 + 1 == i && q.2.category == 2)) = lv') (hdg : decode cc pc = .ok (.istore i, 2)) (k : V X G h val nL (pc + 2) lv' st M o) : V X G h val nL pc lv (.int x :: st) M o := by
  obtain ⟨p, l, e, s, m, args, below, meth, c⟩ := X
  intro r M' ho H locs ls hL hP hS
  exact lv_istore C0.1 C0.2.1 hdg hL hn hl (fun ls' hL' => k r M' ho H locs ls' hL' hP hS)
theorem V_lstore_n (C0 : Cx X G cc nL own ret) {kk : Fin 4} {x : Int64} (i : Nat) (lv' : List (Nat × Value)) (hi : (kk : Nat) = i) (hn : i + 1 < nL) (hl : (i, Value.long x) :: lv.filter (fun q => !(q.1 == i) && (!(q.1 == i + 1) && !(q.1 + 1 == i && q.2.category == 2))) = lv') (hdg : decode cc pc = .ok (.lstore_n kk, 1)) (k : V X G h val nL (pc + 1) lv' st M o) : V X G h val nL pc lv (.long x :: st) M o := by
  obtain ⟨p, l, e, s, m, args, below, meth, c⟩ := X
  intro r M' ho H locs ls hL hP hS
  exact lv_lstore_n C0.1 C0.2.1 hdg hi hL hn hl (fun ls' hL' => k r M' ho H locs ls' hL' hP hS)
theorem V_lstore (C0 : Cx X G cc nL own ret) {x : Int64} (i : Nat) (lv' : List (Nat × Value)) (hn : i + 1 < nL) (hl : (i, Value.long x) :: lv.filter (fun q => !(q.1 == i) && (!(q.1 == i + 1) && !(q.1 + 1 == i && q.2.category == 2))) = lv') (hdg : decode cc pc = .ok (.lstore i, 2)) (k : V X G h val nL (pc + 2) lv' st M o) : V X G h val nL pc lv (.long x :: st) M o := by
  obtain ⟨p, l, e, s, m, args, below, meth, c⟩ := X
  intro r M' ho H locs ls hL hP hS
  exact lv_lstore C0.1 C0.2.1 hdg hL hn hl (fun ls' hL' => k r M' ho H locs ls' hL' hP hS)
theorem V_astore_n (C0 : Cx X G cc nL own ret) {kk : Fin 4} {x : Nat} (i : Nat) (lv' : List (Nat × Value)) (hi : (kk : Nat) = i) (hn : i < nL) (hl : (i, Value.ref x) :: lv.filter (fun q => !(q.1 == i) && !(q.1 + 1 == i && q.2.category == 2)) = lv') (hdg : decode cc pc = .ok (.astore_n kk, 1)) (k : V X G h val nL (pc + 1) lv' st M o) : V X G h val nL pc lv (.ref x :: st) M o := by
  obtain ⟨p, l, e, s, m, args, below, meth, c⟩ := X
  intro r M' ho H locs ls hL hP hS
  exact lv_astore_n C0.1 C0.2.1 hdg hi hL hn hl (fun ls' hL' => k r M' ho H locs ls' hL' hP hS)
theorem V_astore (C0 : Cx X G cc nL own ret) {x : Nat} (i : Nat) (lv' : List (Nat × Value)) (hn : i < nL) (hl : (i, Value.ref x) :: lv.filter (fun q => !(q.1 == i) && !(q.1 + 1 == i && q.2.category == 2)) = lv') (hdg : decode cc pc = .ok (.astore i, 2)) (k : V X G h val nL (pc + 2) lv' st M o) : V X G h val nL pc lv (.ref x :: st) M o := by
  obtain ⟨p, l, e, s, m, args, below, meth, c⟩ := X
  intro r M' ho H locs ls hL hP hS
  exact lv_astore C0.1 C0.2.1 hdg hL hn hl (fun ls' hL' => k r M' ho H locs ls' hL' hP hS)
theorem V_iinc (C0 : Cx X G cc nL own ret) {n : Int} {x y : Int32} (i q : Nat) (lv' : List (Nat × Value)) (hq : lv[q]? = some (i, .int x)) (hv : Int32.ofInt n = y) (hn : i < nL) (hl : (i, Value.int (x + y)) :: lv.filter (fun q => !(q.1 == i) && !(q.1 + 1 == i && q.2.category == 2)) = lv') (hdg : decode cc pc = .ok (.iinc i n, 3)) (k : V X G h val nL (pc + 3) lv' st M o) : V X G h val nL pc lv st M o := by
  subst hv
  obtain ⟨p, l, e, s, m, args, below, meth, c⟩ := X
  intro r M' ho H locs ls hL hP hS
  exact lv_iinc C0.1 C0.2.1 hdg hL hq rfl hn hl (fun ls' hL' => k r M' ho H locs ls' hL' hP hS)
theorem V_iincB (C0 : Cx X G cc nL own ret) {n : Int} {x y : Int32} {f : Int32 → Option (ρ × Mem)} (i q : Nat) (lv' : Int32 → List (Nat × Value)) (hq : lv[q]? = some (i, .int x)) (hv : Int32.ofInt n = y) (hn : i < nL) (hl : ∀ z : Int32, (i, Value.int z) :: lv.filter (fun q => !(q.1 == i) && !(q.1 + 1 == i && q.2.category == 2)) = lv' z) (hdg : decode cc pc = .ok (.iinc i n, 3)) (k : ∀ z : Int32, V X G h val nL (pc + 3) (lv' z) st M (f z)) : V X G h val nL pc lv st M (bi (x + y) f) :=
  V_iinc C0 i q (lv' (x + y)) hq hv hn (hl _) hdg (k (x + y))
theorem V_iadd (C0 : Cx X G cc nL own ret) {x y : Int32} (hdg : decode cc pc = .ok (.iadd, 1)) (k : V X G h val nL (pc + 1) lv (.int (x + y) :: st) M o) : V X G h val nL pc lv (.int y :: .int x :: st) M o := by
  obtain ⟨p, l, e, s, m, args, below, meth, c⟩ := X
  intro r M' ho H locs ls hL hP hS
  exact lv_iadd C0.1 C0.2.1 hdg (k r M' ho H locs ls hL hP hS)
theorem V_isub (C0 : Cx X G cc nL own ret) {x y : Int32} (hdg : decode cc pc = .ok (.isub, 1)) (k : V X G h val nL (pc + 1) lv (.int (x - y) :: st) M o) : V X G h val nL pc lv (.int y :: .int x :: st) M o := by
  obtain ⟨p, l, e, s, m, args, below, meth, c⟩ := X
  intro r M' ho H locs ls hL hP hS
  exact lv_isub C0.1 C0.2.1 hdg (k r M' ho H locs ls hL hP hS)
theorem V_imul (C0 : Cx X G cc nL own ret) {x y : Int32} (hdg : decode cc pc = .ok (.imul, 1)) (k : V X G h val nL (pc + 1) lv (.int (x * y) :: st) M o) : V X G h val nL pc lv (.int y :: .int x :: st) M o := by
  obtain ⟨p, l, e, s, m, args, below, meth, c⟩ := X
  intro r M' ho H locs ls hL hP hS
  exact lv_imul C0.1 C0.2.1 hdg (k r M' ho H locs ls hL hP hS)
theorem V_iand (C0 : Cx X G cc nL own ret) {x y : Int32} (hdg : decode cc pc = .ok (.iand, 1)) (k : V X G h val nL (pc + 1) lv (.int (x &&& y) :: st) M o) : V X G h val nL pc lv (.int y :: .int x :: st) M o := by
  obtain ⟨p, l, e, s, m, args, below, meth, c⟩ := X
  intro r M' ho H locs ls hL hP hS
  exact lv_iand C0.1 C0.2.1 hdg (k r M' ho H locs ls hL hP hS)
theorem V_ladd (C0 : Cx X G cc nL own ret) {x y : Int64} (hdg : decode cc pc = .ok (.ladd, 1)) (k : V X G h val nL (pc + 1) lv (.long (x + y) :: st) M o) : V X G h val nL pc lv (.long y :: .long x :: st) M o := by
  obtain ⟨p, l, e, s, m, args, below, meth, c⟩ := X
  intro r M' ho H locs ls hL hP hS
  exact lv_ladd C0.1 C0.2.1 hdg (k r M' ho H locs ls hL hP hS)
theorem V_lsub (C0 : Cx X G cc nL own ret) {x y : Int64} (hdg : decode cc pc = .ok (.lsub, 1)) (k : V X G h val nL (pc + 1) lv (.long (x - y) :: st) M o) : V X G h val nL pc lv (.long y :: .long x :: st) M o := by
  obtain ⟨p, l, e, s, m, args, below, meth, c⟩ := X
  intro r M' ho H locs ls hL hP hS
  exact lv_lsub C0.1 C0.2.1 hdg (k r M' ho H locs ls hL hP hS)
theorem V_lmul (C0 : Cx X G cc nL own ret) {x y : Int64} (hdg : decode cc pc = .ok (.lmul, 1)) (k : V X G h val nL (pc + 1) lv (.long (x * y) :: st) M o) : V X G h val nL pc lv (.long y :: .long x :: st) M o := by
  obtain ⟨p, l, e, s, m, args, below, meth, c⟩ := X
  intro r M' ho H locs ls hL hP hS
  exact lv_lmul C0.1 C0.2.1 hdg (k r M' ho H locs ls hL hP hS)
theorem V_ineg (C0 : Cx X G cc nL own ret) {x : Int32} (hdg : decode cc pc = .ok (.ineg, 1)) (k : V X G h val nL (pc + 1) lv (.int (-x) :: st) M o) : V X G h val nL pc lv (.int x :: st) M o := by
  obtain ⟨p, l, e, s, m, args, below, meth, c⟩ := X
  intro r M' ho H locs ls hL hP hS
  exact lv_ineg C0.1 C0.2.1 hdg (k r M' ho H locs ls hL hP hS)
theorem V_idiv (C0 : Cx X G cc nL own ret) {x y : Int32} (hne : ¬ y = 0) (hdg : decode cc pc = .ok (.idiv, 1)) (k : V X G h val nL (pc + 1) lv (.int (x / y) :: st) M o) : V X G h val nL pc lv (.int y :: .int x :: st) M o := by
  obtain ⟨p, l, e, s, m, args, below, meth, c⟩ := X
  intro r M' ho H locs ls hL hP hS
  exact lv_idiv C0.1 C0.2.1 hdg hne (k r M' ho H locs ls hL hP hS)
theorem V_irem (C0 : Cx X G cc nL own ret) {x y : Int32} (hne : ¬ y = 0) (hdg : decode cc pc = .ok (.irem, 1)) (k : V X G h val nL (pc + 1) lv (.int (x - x / y * y) :: st) M o) : V X G h val nL pc lv (.int y :: .int x :: st) M o := by
  obtain ⟨p, l, e, s, m, args, below, meth, c⟩ := X
  intro r M' ho H locs ls hL hP hS
  exact lv_irem C0.1 C0.2.1 hdg hne (k r M' ho H locs ls hL hP hS)
theorem V_i2l (C0 : Cx X G cc nL own ret) {x : Int32} (hdg : decode cc pc = .ok (.i2l, 1)) (k : V X G h val nL (pc + 1) lv (.long x.toInt64 :: st) M o) : V X G h val nL pc lv (.int x :: st) M o := by
  obtain ⟨p, l, e, s, m, args, below, meth, c⟩ := X
  intro r M' ho H locs ls hL hP hS
  exact lv_i2l C0.1 C0.2.1 hdg rfl (k r M' ho H locs ls hL hP hS)
theorem V_l2i (C0 : Cx X G cc nL own ret) {x : Int64} (hdg : decode cc pc = .ok (.l2i, 1)) (k : V X G h val nL (pc + 1) lv (.int x.toInt32 :: st) M o) : V X G h val nL pc lv (.long x :: st) M o := by
  obtain ⟨p, l, e, s, m, args, below, meth, c⟩ := X
  intro r M' ho H locs ls hL hP hS
  exact lv_l2i C0.1 C0.2.1 hdg rfl (k r M' ho H locs ls hL hP hS)
theorem V_lcmp (C0 : Cx X G cc nL own ret) {x y : Int64} (hdg : decode cc pc = .ok (.lcmp, 1)) (k : V X G h val nL (pc + 1) lv (.int (lg_cmp x y) :: st) M o) : V X G h val nL pc lv (.long y :: .long x :: st) M o := by
  obtain ⟨p, l, e, s, m, args, below, meth, c⟩ := X
  intro r M' ho H locs ls hL hP hS
  exact W.lcmp C0.1 C0.2.1 hdg (k r M' ho H locs ls hL hP hS)
theorem V_dup (C0 : Cx X G cc nL own ret) {va : Value} (hva : va.category = 1) (hdg : decode cc pc = .ok (.dup, 1)) (k : V X G h val nL (pc + 1) lv (va :: va :: st) M o) : V X G h val nL pc lv (va :: st) M o := by
  obtain ⟨p, l, e, s, m, args, below, meth, c⟩ := X
  intro r M' ho H locs ls hL hP hS
  exact lv_dup C0.1 C0.2.1 hdg hva (k r M' ho H locs ls hL hP hS)
theorem V_dup2 (C0 : Cx X G cc nL own ret) {va vb : Value} (hva : va.category = 1) (hvb : vb.category = 1) (hdg : decode cc pc = .ok (.dup2, 1)) (k : V X G h val nL (pc + 1) lv (va :: vb :: va :: vb :: st) M o) : V X G h val nL pc lv (va :: vb :: st) M o := by
  obtain ⟨p, l, e, s, m, args, below, meth, c⟩ := X
  intro r M' ho H locs ls hL hP hS
  exact lv_dup2_11 C0.1 C0.2.1 hdg hva hvb (k r M' ho H locs ls hL hP hS)
theorem V_pop (C0 : Cx X G cc nL own ret) {va : Value} (hva : va.category = 1) (hdg : decode cc pc = .ok (.pop, 1)) (k : V X G h val nL (pc + 1) lv st M o) : V X G h val nL pc lv (va :: st) M o := by
  obtain ⟨p, l, e, s, m, args, below, meth, c⟩ := X
  intro r M' ho H locs ls hL hP hS
  exact lv_pop C0.1 C0.2.1 hdg hva (k r M' ho H locs ls hL hP hS)
theorem V_goto (C0 : Cx X G cc nL own ret) {off : Int} (tgt : Nat) (hdg : decode cc pc = .ok (.goto off, 3)) (ht : (pc : Int) + off = (tgt : Int)) (k : V X G h val nL tgt lv st M o) : V X G h val nL pc lv st M o := by
  obtain ⟨p, l, e, s, m, args, below, meth, c⟩ := X
  intro r M' ho H locs ls hL hP hS
  exact lv_goto C0.1 C0.2.1 hdg ht (k r M' ho H locs ls hL hP hS)
theorem V_ifeq (C0 : Cx X G cc nL own ret) {x : Int32} {off : Int} (tgt : Nat) (hdg : decode cc pc = .ok (.ifCond .eq off, 3)) (ht : (pc : Int) + off = (tgt : Int)) (k1 : x = 0 → V X G h val nL tgt lv st M o1) (k2 : ¬ x = 0 → V X G h val nL (pc + 3) lv st M o2) : V X G h val nL pc lv (.int x :: st) M (if x = 0 then o1 else o2) := by
  obtain ⟨p, l, e, s, m, args, below, meth, c⟩ := X
  intro r M' ho H locs ls hL hP hS
  exact lv_if_eq C0.1 C0.2.1 hdg ht (fun q => k1 q r M' (by rw [if_pos q] at ho; exact ho) H locs ls hL hP hS) (fun q => k2 q r M' (by rw [if_neg q] at ho; exact ho) H locs ls hL hP hS)
theorem V_ifne (C0 : Cx X G cc nL own ret) {x : Int32} {off : Int} (tgt : Nat) (hdg : decode cc pc = .ok (.ifCond .ne off, 3)) (ht : (pc : Int) + off = (tgt : Int)) (k1 : ¬ x = 0 → V X G h val nL tgt lv st M o1) (k2 : x = 0 → V X G h val nL (pc + 3) lv st M o2) : V X G h val nL pc lv (.int x :: st) M (if x = 0 then o2 else o1) := by
  obtain ⟨p, l, e, s, m, args, below, meth, c⟩ := X
  intro r M' ho H locs ls hL hP hS
  exact lv_if_ne C0.1 C0.2.1 hdg ht (fun q => k1 q r M' (by rw [if_neg q] at ho; exact ho) H locs ls hL hP hS) (fun q => k2 q r M' (by rw [if_pos q] at ho; exact ho) H locs ls hL hP hS)
theorem V_iflt (C0 : Cx X G cc nL own ret) {x : Int32} {off : Int} (tgt : Nat) (hdg : decode cc pc = .ok (.ifCond .lt off, 3)) (ht : (pc : Int) + off = (tgt : Int)) (k1 : x < 0 → V X G h val nL tgt lv st M o1) (k2 : ¬ x < 0 → V X G h val nL (pc + 3) lv st M o2) : V X G h val nL pc lv (.int x :: st) M (if x < 0 then o1 else o2) := by
  obtain ⟨p, l, e, s, m, args, below, meth, c⟩ := X
  intro r M' ho H locs ls hL hP hS
  exact lv_if_lt C0.1 C0.2.1 hdg ht (fun q => k1 q r M' (by rw [if_pos q] at ho; exact ho) H locs ls hL hP hS) (fun q => k2 q r M' (by rw [if_neg q] at ho; exact ho) H locs ls hL hP hS)
theorem V_ifge (C0 : Cx X G cc nL own ret) {x : Int32} {off : Int} (tgt : Nat) (hdg : decode cc pc = .ok (.ifCond .ge off, 3)) (ht : (pc : Int) + off = (tgt : Int)) (k1 : 0 ≤ x → V X G h val nL tgt lv st M o1) (k2 : ¬ 0 ≤ x → V X G h val nL (pc + 3) lv st M o2) : V X G h val nL pc lv (.int x :: st) M (if 0 ≤ x then o1 else o2) := by
  obtain ⟨p, l, e, s, m, args, below, meth, c⟩ := X
  intro r M' ho H locs ls hL hP hS
  exact lv_if_ge C0.1 C0.2.1 hdg ht (fun q => k1 q r M' (by rw [if_pos q] at ho; exact ho) H locs ls hL hP hS) (fun q => k2 q r M' (by rw [if_neg q] at ho; exact ho) H locs ls hL hP hS)
theorem V_ifgt (C0 : Cx X G cc nL own ret) {x : Int32} {off : Int} (tgt : Nat) (hdg : decode cc pc = .ok (.ifCond .gt off, 3)) (ht : (pc : Int) + off = (tgt : Int)) (k1 : 0 < x → V X G h val nL tgt lv st M o1) (k2 : ¬ 0 < x → V X G h val nL (pc + 3) lv st M o2) : V X G h val nL pc lv (.int x :: st) M (if 0 < x then o1 else o2) := by
  obtain ⟨p, l, e, s, m, args, below, meth, c⟩ := X
  intro r M' ho H locs ls hL hP hS
  exact lv_if_gt C0.1 C0.2.1 hdg ht (fun q => k1 q r M' (by rw [if_pos q] at ho; exact ho) H locs ls hL hP hS) (fun q => k2 q r M' (by rw [if_neg q] at ho; exact ho) H locs ls hL hP hS)
theorem V_ifle (C0 : Cx X G cc nL own ret) {x : Int32} {off : Int} (tgt : Nat) (hdg : decode cc pc = .ok (.ifCond .le off, 3)) (ht : (pc : Int) + off = (tgt : Int)) (k1 : x ≤ 0 → V X G h val nL tgt lv st M o1) (k2 : ¬ x ≤ 0 → V X G h val nL (pc + 3) lv st M o2) : V X G h val nL pc lv (.int x :: st) M (if x ≤ 0 then o1 else o2) := by
  obtain ⟨p, l, e, s, m, args, below, meth, c⟩ := X
  intro r M' ho H locs ls hL hP hS
  exact lv_if_le C0.1 C0.2.1 hdg ht (fun q => k1 q r M' (by rw [if_pos q] at ho; exact ho) H locs ls hL hP hS) (fun q => k2 q r M' (by rw [if_neg q] at ho; exact ho) H locs ls hL hP hS)
theorem V_icmpeq (C0 : Cx X G cc nL own ret) {x y : Int32} {off : Int} (tgt : Nat) (hdg : decode cc pc = .ok (.if_icmp .eq off, 3)) (ht : (pc : Int) + off = (tgt : Int)) (k1 : x = y → V X G h val nL tgt lv st M o1) (k2 : ¬ x = y → V X G h val nL (pc + 3) lv st M o2) : V X G h val nL pc lv (.int y :: .int x :: st) M (if x = y then o1 else o2) := by
  obtain ⟨p, l, e, s, m, args, below, meth, c⟩ := X
  intro r M' ho H locs ls hL hP hS
  exact lv_icmp_eq C0.1 C0.2.1 hdg ht (fun q => k1 q r M' (by rw [if_pos q] at ho; exact ho) H locs ls hL hP hS) (fun q => k2 q r M' (by rw [if_neg q] at ho; exact ho) H locs ls hL hP hS)
theorem V_icmpne (C0 : Cx X G cc nL own ret) {x y : Int32} {off : Int} (tgt : Nat) (hdg : decode cc pc = .ok (.if_icmp .ne off, 3)) (ht : (pc : Int) + off = (tgt : Int)) (k1 : ¬ x = y → V X G h val nL tgt lv st M o1) (k2 : x = y → V X G h val nL (pc + 3) lv st M o2) : V X G h val nL pc lv (.int y :: .int x :: st) M (if x = y then o2 else o1) := by
  obtain ⟨p, l, e, s, m, args, below, meth, c⟩ := X
  intro r M' ho H locs ls hL hP hS
  exact lv_icmp_ne C0.1 C0.2.1 hdg ht (fun q => k1 q r M' (by rw [if_neg q] at ho; exact ho) H locs ls hL hP hS) (fun q => k2 q r M' (by rw [if_pos q] at ho; exact ho) H locs ls hL hP hS)
theorem V_icmplt (C0 : Cx X G cc nL own ret) {x y : Int32} {off : Int} (tgt : Nat) (hdg : decode cc pc = .ok (.if_icmp .lt off, 3)) (ht : (pc : Int) + off = (tgt : Int)) (k1 : x < y → V X G h val nL tgt lv st M o1) (k2 : ¬ x < y → V X G h val nL (pc + 3) lv st M o2) : V X G h val nL pc lv (.int y :: .int x :: st) M (if x < y then o1 else o2) := by
  obtain ⟨p, l, e, s, m, args, below, meth, c⟩ := X
  intro r M' ho H locs ls hL hP hS
  exact lv_icmp_lt C0.1 C0.2.1 hdg ht (fun q => k1 q r M' (by rw [if_pos q] at ho; exact ho) H locs ls hL hP hS) (fun q => k2 q r M' (by rw [if_neg q] at ho; exact ho) H locs ls hL hP hS)
theorem V_icmpge (C0 : Cx X G cc nL own ret) {x y : Int32} {off : Int} (tgt : Nat) (hdg : decode cc pc = .ok (.if_icmp .ge off, 3)) (ht : (pc : Int) + off = (tgt : Int)) (k1 : y ≤ x → V X G h val nL tgt lv st M o1) (k2 : ¬ y ≤ x → V X G h val nL (pc + 3) lv st M o2) : V X G h val nL pc lv (.int y :: .int x :: st) M (if y ≤ x then o1 else o2) := by
  obtain ⟨p, l, e, s, m, args, below, meth, c⟩ := X
  intro r M' ho H locs ls hL hP hS
  exact lv_icmp_ge C0.1 C0.2.1 hdg ht (fun q => k1 q r M' (by rw [if_pos q] at ho; exact ho) H locs ls hL hP hS) (fun q => k2 q r M' (by rw [if_neg q] at ho; exact ho) H locs ls hL hP hS)
theorem V_icmpgt (C0 : Cx X G cc nL own ret) {x y : Int32} {off : Int} (tgt : Nat) (hdg : decode cc pc = .ok (.if_icmp .gt off, 3)) (ht : (pc : Int) + off = (tgt : Int)) (k1 : y < x → V X G h val nL tgt lv st M o1) (k2 : ¬ y < x → V X G h val nL (pc + 3) lv st M o2) : V X G h val nL pc lv (.int y :: .int x :: st) M (if y < x then o1 else o2) := by
  obtain ⟨p, l, e, s, m, args, below, meth, c⟩ := X
  intro r M' ho H locs ls hL hP hS
  exact lv_icmp_gt C0.1 C0.2.1 hdg ht (fun q => k1 q r M' (by rw [if_pos q] at ho; exact ho) H locs ls hL hP hS) (fun q => k2 q r M' (by rw [if_neg q] at ho; exact ho) H locs ls hL hP hS)
theorem V_icmple (C0 : Cx X G cc nL own ret) {x y : Int32} {off : Int} (tgt : Nat) (hdg : decode cc pc = .ok (.if_icmp .le off, 3)) (ht : (pc : Int) + off = (tgt : Int)) (k1 : x ≤ y → V X G h val nL tgt lv st M o1) (k2 : ¬ x ≤ y → V X G h val nL (pc + 3) lv st M o2) : V X G h val nL pc lv (.int y :: .int x :: st) M (if x ≤ y then o1 else o2) := by
  obtain ⟨p, l, e, s, m, args, below, meth, c⟩ := X
  intro r M' ho H locs ls hL hP hS
  exact lv_icmp_le C0.1 C0.2.1 hdg ht (fun q => k1 q r M' (by rw [if_pos q] at ho; exact ho) H locs ls hL hP hS) (fun q => k2 q r M' (by rw [if_neg q] at ho; exact ho) H locs ls hL hP hS)
/-- a switch: one value, the others behind it -/
theorem V_ts (C0 : Cx X G cc nL own ret) {x : Int32} {dflt lo hi off : Int} {offs : Array Int} {len : Nat} (v : Int32) (tgt : Nat) (hdg : decode cc pc = .ok (.tableswitch dflt lo hi offs, len)) (h1 : ¬ v.toInt < lo) (h2 : ¬ hi < v.toInt) (hof : offs[(v.toInt - lo).toNat]? = some off) (ht : (pc : Int) + off = (tgt : Int)) (k1 : x = v → V X G h val nL tgt lv st M o1) (k2 : ¬ x = v → V X G h val nL pc lv (.int x :: st) M o2) : V X G h val nL pc lv (.int x :: st) M (if x = v then o1 else o2) := by
  by_cases q : x = v
  · rw [if_pos q]
    subst q
    obtain ⟨p, l, e, s, m, args, below, meth, c⟩ := X
    intro r M' ho H locs ls hL hP hS
    exact lv_tableIn C0.1 C0.2.1 hdg h1 h2 hof ht (k1 rfl r M' ho H locs ls hL hP hS)
  · rw [if_neg q]
    exact k2 q
theorem V_tsO (C0 : Cx X G cc nL own ret) {x : Int32} {dflt lo hi : Int} {offs : Array Int} {len : Nat} (tgt : Nat) (hdg : decode cc pc = .ok (.tableswitch dflt lo hi offs, len)) (hx : x.toInt < lo ∨ hi < x.toInt) (ht : (pc : Int) + dflt = (tgt : Int)) (k : V X G h val nL tgt lv st M o) : V X G h val nL pc lv (.int x :: st) M o := by
  obtain ⟨p, l, e, s, m, args, below, meth, c⟩ := X
  intro r M' ho H locs ls hL hP hS
  exact lv_tableOut C0.1 C0.2.1 hdg hx ht (k r M' ho H locs ls hL hP hS)
theorem V_getI (C0 : Cx X G cc nL own ret) {C : String} {T : u_T} {N ci index a : Nat} (kf : Nat) (hin : ∀ w ∈ u_ws C T N, w ∈ TBLG) (hc : vwCl[ci]? = some (C, T, N)) (hci : ci < 10) (hk : kf < N) (hw : Cond.fieldLink own index C (T kf).2.1 (T kf).2.2.1 ∈ TBLG) (hT : (T kf).1 = C) (hsh : sh a = (ci, N)) (hrf : isRf ci kf = false) (hdg : decode cc pc = .ok (.getfield index, 3)) (k : V X G h val nL (pc + 3) lv (.int (M.1 a kf) :: st) M o) : V X G h val nL pc lv (.ref (G.2 + a) :: st) M o := by
  obtain ⟨p, l, e, s, m, args, below, meth, c⟩ := X
  intro r M' ho H locs ls hL hP hS
  exact va_get (C := C) (T := T) (N := N) C0.1 C0.2.1 C0.2.2.2.2.1 hin C0.2.2.2.1 C0.2.2.2.2.2.1.1 hP.1 a (by rw [cells_at (lt_of_sh (by rw [hsh]) (show ci < 50 by omega)), ent_o hsh hci]) hc kf hk (C0.2.2.2.2.1 _ hw) (fun _ hx => by rw [← hT]; exact hx) (by simp [hk, fv, hrf]) hdg (k r M' ho H locs ls hL hP hS)
theorem V_getR (C0 : Cx X G cc nL own ret) {C : String} {T : u_T} {N ci index a : Nat} (kf : Nat) (hin : ∀ w ∈ u_ws C T N, w ∈ TBLG) (hc : vwCl[ci]? = some (C, T, N)) (hci : ci < 10) (hk : kf < N) (hw : Cond.fieldLink own index C (T kf).2.1 (T kf).2.2.1 ∈ TBLG) (hT : (T kf).1 = C) (hsh : sh a = (ci, N)) {b : Nat} (hrf : isRf ci kf = true) (hb : rf a kf = b) (hdg : decode cc pc = .ok (.getfield index, 3)) (k : V X G h val nL (pc + 3) lv (.ref (G.2 + b) :: st) M o) : V X G h val nL pc lv (.ref (G.2 + a) :: st) M o := by
  subst hb
  obtain ⟨p, l, e, s, m, args, below, meth, c⟩ := X
  intro r M' ho H locs ls hL hP hS
  exact va_get (C := C) (T := T) (N := N) C0.1 C0.2.1 C0.2.2.2.2.1 hin C0.2.2.2.1 C0.2.2.2.2.2.1.1 hP.1 a (by rw [cells_at (lt_of_sh (by rw [hsh]) (show ci < 50 by omega)), ent_o hsh hci]) hc kf hk (C0.2.2.2.2.1 _ hw) (fun _ hx => by rw [← hT]; exact hx) (by simp [hk, fv, hrf]) hdg (k r M' ho H locs ls hL hP hS)
theorem V_put (C0 : Cx X G cc nL own ret) {C : String} {T : u_T} {N ci index a : Nat} (kf : Nat) (hin : ∀ w ∈ u_ws C T N, w ∈ TBLG) (hc : vwCl[ci]? = some (C, T, N)) (hci : ci < 10) (hk : kf < N) (hw : Cond.fieldLink own index C (T kf).2.1 (T kf).2.2.1 ∈ TBLG) (hT : (T kf).1 = C) (hsh : sh a = (ci, N)) {v : Int32} {f : Mem → Option (ρ × Mem)} {ty : FieldType} (ty0 : Nat → FieldType) (hty : ∀ k, k < N → parseFieldDescriptor (T k).2.2.1 = some (ty0 k)) (hnm : ∀ a, a < N → ∀ b, b < N → a ≠ b → (T a).2.1 ≠ (T b).2.1) (hrf : isRf ci kf = false) (hfin : (T kf).2.2.2 = false) (hd : parseFieldDescriptor (T kf).2.2.1 = some ty) (hn : narrow ty (.int v) = .int v) (hfit : fits ty (.int v) = true) (hdg : decode cc pc = .ok (.putfield index, 3)) (k : ∀ M1, V X G h val nL (pc + 3) lv st M1 (f M1)) : V X G h val nL pc lv (.int v :: .ref (G.2 + a) :: st) M (bm (mset M a kf v) f) := by
  obtain ⟨p, l, e, s, m, args, below, meth, c⟩ := X
  intro r M' ho H locs ls hL hP hS
  exact va_put (C := C) (T := T) (N := N) C0.1 C0.2.1 C0.2.2.2.2.1 hin ty0 hty hnm C0.2.2.2.1 C0.2.2.2.2.2.1.1 hP.1 cells_D hS a (by rw [cells_at (lt_of_sh (by rw [hsh]) (show ci < 50 by omega)), ent_o hsh hci]) hc kf hk (C0.2.2.2.2.1 _ hw) (fun _ hx => by rw [← hT]; exact hx) hfin hd hn hfit (by simpa using hk) hdg (fun H1 locs1 hP1 _ hS1 => k _ r M' ho H1 locs1 ls hL ⟨by rw [cells_put hsh hci hk hrf] at hP1; exact hP1, hP.2⟩ hS1)
theorem V_getIN (C0 : Cx X G cc nL own ret) {C : String} {T : u_T} {N ci index a : Nat} {host : String} (kf : Nat) (hin : ∀ w ∈ u_ws C T N, w ∈ TBLG) (hc : vwCl[ci]? = some (C, T, N)) (hci : ci < 10) (hk : kf < N) (hw : Cond.fieldLinkNest own index C (T kf).2.1 (T kf).2.2.1 host ∈ NWL) (hT : (T kf).1 = C) (hsh : sh a = (ci, N)) (hrf : isRf ci kf = false) (hdg : decode cc pc = .ok (.getfield index, 3)) (k : V X G h val nL (pc + 3) lv (.int (M.1 a kf) :: st) M o) : V X G h val nL pc lv (.ref (G.2 + a) :: st) M o := by
  obtain ⟨p, l, e, s, m, args, below, meth, c⟩ := X
  intro r M' ho H locs ls hL hP hS
  exact va_getN (C := C) (T := T) (N := N) C0.1 C0.2.1 C0.2.2.2.2.1 hin C0.2.2.2.1 C0.2.2.2.2.2.1.1 hP.1 a (by rw [cells_at (lt_of_sh (by rw [hsh]) (show ci < 50 by omega)), ent_o hsh hci]) hc kf hk (va_Nw.use rfl (C0.2.2.2.2.2.1.2 _ hw)) (fun _ hx => by rw [← hT]; exact hx) (by simp [hk, fv, hrf]) hdg (k r M' ho H locs ls hL hP hS)
theorem V_getRN (C0 : Cx X G cc nL own ret) {C : String} {T : u_T} {N ci index a : Nat} {host : String} (kf : Nat) (hin : ∀ w ∈ u_ws C T N, w ∈ TBLG) (hc : vwCl[ci]? = some (C, T, N)) (hci : ci < 10) (hk : kf < N) (hw : Cond.fieldLinkNest own index C (T kf).2.1 (T kf).2.2.1 host ∈ NWL) (hT : (T kf).1 = C) (hsh : sh a = (ci, N)) {b : Nat} (hrf : isRf ci kf = true) (hb : rf a kf = b) (hdg : decode cc pc = .ok (.getfield index, 3)) (k : V X G h val nL (pc + 3) lv (.ref (G.2 + b) :: st) M o) : V X G h val nL pc lv (.ref (G.2 + a) :: st) M o := by
  subst hb
  obtain ⟨p, l, e, s, m, args, below, meth, c⟩ := X
  intro r M' ho H locs ls hL hP hS
  exact va_getN (C := C) (T := T) (N := N) C0.1 C0.2.1 C0.2.2.2.2.1 hin C0.2.2.2.1 C0.2.2.2.2.2.1.1 hP.1 a (by rw [cells_at (lt_of_sh (by rw [hsh]) (show ci < 50 by omega)), ent_o hsh hci]) hc kf hk (va_Nw.use rfl (C0.2.2.2.2.2.1.2 _ hw)) (fun _ hx => by rw [← hT]; exact hx) (by simp [hk, fv, hrf]) hdg (k r M' ho H locs ls hL hP hS)
theorem V_putN (C0 : Cx X G cc nL own ret) {C : String} {T : u_T} {N ci index a : Nat} {host : String} (kf : Nat) (hin : ∀ w ∈ u_ws C T N, w ∈ TBLG) (hc : vwCl[ci]? = some (C, T, N)) (hci : ci < 10) (hk : kf < N) (hw : Cond.fieldLinkNest own index C (T kf).2.1 (T kf).2.2.1 host ∈ NWL) (hT : (T kf).1 = C) (hsh : sh a = (ci, N)) {v : Int32} {f : Mem → Option (ρ × Mem)} {ty : FieldType} (ty0 : Nat → FieldType) (hty : ∀ k, k < N → parseFieldDescriptor (T k).2.2.1 = some (ty0 k)) (hnm : ∀ a, a < N → ∀ b, b < N → a ≠ b → (T a).2.1 ≠ (T b).2.1) (hrf : isRf ci kf = false) (hfin : (T kf).2.2.2 = false) (hd : parseFieldDescriptor (T kf).2.2.1 = some ty) (hn : narrow ty (.int v) = .int v) (hfit : fits ty (.int v) = true) (hdg : decode cc pc = .ok (.putfield index, 3)) (k : ∀ M1, V X G h val nL (pc + 3) lv st M1 (f M1)) : V X G h val nL pc lv (.int v :: .ref (G.2 + a) :: st) M (bm (mset M a kf v) f) := by
  obtain ⟨p, l, e, s, m, args, below, meth, c⟩ := X
  intro r M' ho H locs ls hL hP hS
  exact va_putN (C := C) (T := T) (N := N) C0.1 C0.2.1 C0.2.2.2.2.1 hin ty0 hty hnm C0.2.2.2.1 C0.2.2.2.2.2.1.1 hP.1 cells_D hS a (by rw [cells_at (lt_of_sh (by rw [hsh]) (show ci < 50 by omega)), ent_o hsh hci]) hc kf hk (va_Nw.use rfl (C0.2.2.2.2.2.1.2 _ hw)) (fun _ hx => by rw [← hT]; exact hx) hfin hd hn hfit (by simpa using hk) hdg (fun H1 locs1 hP1 _ hS1 => k _ r M' ho H1 locs1 ls hL ⟨by rw [cells_put hsh hci hk hrf] at hP1; exact hP1, hP.2⟩ hS1)
theorem V_iald (C0 : Cx X G cc nL own ret) {a : Nat} {i : Int32} (n : Nat) (ha : (sh a).1 = 10) (hn : ln a = n) (hdg : decode cc pc = .ok (.iaload, 1)) (k : V X G h val nL (pc + 1) lv (.int (M.1 a (ix i)) :: st) M o) : V X G h val nL pc lv (.int i :: .ref (G.2 + a) :: st) M (gd (inb i n) o) := by
  refine V_gd fun hi => ?_
  subst hn
  obtain ⟨p, l, e, s, m, args, below, meth, c⟩ := X
  intro r M' ho H locs ls hL hP hS
  exact va_iald C0.1 C0.2.1 C0.2.2.2.2.2.1.1 hP.1 a 0 (by rw [cells_at (lt_of_sh ha (by omega)), ent_i ha]) rfl (inb_vp hi) hdg (k r M' ho H locs ls hL hP hS)
theorem V_zald (C0 : Cx X G cc nL own ret) {a : Nat} {i : Int32} (n : Nat) (ha : (sh a).1 = 11) (hn : ln a = n) (hdg : decode cc pc = .ok (.baload, 1)) (k : V X G h val nL (pc + 1) lv (.int (M.1 a (ix i)) :: st) M o) : V X G h val nL pc lv (.int i :: .ref (G.2 + a) :: st) M (gd (inb i n) o) := by
  refine V_gd fun hi => ?_
  subst hn
  obtain ⟨p, l, e, s, m, args, below, meth, c⟩ := X
  intro r M' ho H locs ls hL hP hS
  exact va_zald C0.1 C0.2.1 C0.2.2.2.2.2.1.1 hP.1 a 1 (by rw [cells_at (lt_of_sh ha (by omega)), ent_z ha]) rfl (inb_vp hi) hdg (k r M' ho H locs ls hL hP hS)
theorem V_iast (C0 : Cx X G cc nL own ret) {a : Nat} {i x : Int32} {f : Mem → Option (ρ × Mem)} (n : Nat) (ha : (sh a).1 = 10) (hn : ln a = n) (hdg : decode cc pc = .ok (.iastore, 1)) (k : ∀ M1, V X G h val nL (pc + 1) lv st M1 (f M1)) : V X G h val nL pc lv (.int x :: .int i :: .ref (G.2 + a) :: st) M (gd (inb i n) (bm (mset M a (ix i) x) f)) := by
  refine V_gd fun hi => ?_
  subst hn
  obtain ⟨p, l, e, s, m, args, below, meth, c⟩ := X
  intro r M' ho H locs ls hL hP hS
  exact va_iast C0.1 C0.2.1 C0.2.2.2.2.2.1.1 hP.1 cells_D hS a 0 (by rw [cells_at (lt_of_sh ha (by omega)), ent_i ha]) rfl (inb_vp hi) hdg (fun H1 locs1 hP1 _ hS1 => k _ r M' ho H1 locs1 ls hL ⟨by rw [cells_i ha] at hP1; exact hP1, hP.2⟩ hS1)
theorem V_zast (C0 : Cx X G cc nL own ret) {a : Nat} {i x : Int32} {f : Mem → Option (ρ × Mem)} (n : Nat) (ha : (sh a).1 = 11) (hn : ln a = n) (hdg : decode cc pc = .ok (.bastore, 1)) (k : ∀ M1, V X G h val nL (pc + 1) lv st M1 (f M1)) : V X G h val nL pc lv (.int x :: .int i :: .ref (G.2 + a) :: st) M (gd (inb i n) (bm (mset M a (ix i) (vp_nar .boolean x)) f)) := by
  refine V_gd fun hi => ?_
  subst hn
  obtain ⟨p, l, e, s, m, args, below, meth, c⟩ := X
  intro r M' ho H locs ls hL hP hS
  exact va_zast C0.1 C0.2.1 C0.2.2.2.2.2.1.1 hP.1 cells_D hS a 1 (by rw [cells_at (lt_of_sh ha (by omega)), ent_z ha]) rfl (inb_vp hi) hdg (fun H1 locs1 hP1 _ hS1 => k _ r M' ho H1 locs1 ls hL ⟨by rw [cells_z ha] at hP1; exact hP1, hP.2⟩ hS1)
theorem V_alenI (C0 : Cx X G cc nL own ret) {a : Nat} (v : Int32) (ha : (sh a).1 = 10) (hv : Int32.ofNat (ln a) = v) (hdg : decode cc pc = .ok (.arraylength, 1)) (k : V X G h val nL (pc + 1) lv (.int v :: st) M o) : V X G h val nL pc lv (.ref (G.2 + a) :: st) M o := by
  obtain ⟨p, l, e, s, m, args, below, meth, c⟩ := X
  intro r M' ho H locs ls hL hP hS
  exact va_alen C0.1 C0.2.1 C0.2.2.2.2.2.1.1 hP.1 a 0 (by rw [cells_at (lt_of_sh ha (by omega)), ent_i ha]) (ty := .int) rfl hv hdg (k r M' ho H locs ls hL hP hS)
theorem V_alenF (C0 : Cx X G cc nL own ret) {a : Nat} (v : Int32) (ha : (sh a).1 = 12) (hv : Int32.ofNat (ln a) = v) (hdg : decode cc pc = .ok (.arraylength, 1)) (k : V X G h val nL (pc + 1) lv (.int v :: st) M o) : V X G h val nL pc lv (.ref (G.2 + a) :: st) M o := by
  obtain ⟨p, l, e, s, m, args, below, meth, c⟩ := X
  intro r M' ho H locs ls hL hP hS
  exact va_alen C0.1 C0.2.1 C0.2.2.2.2.2.1.1 hP.1 a 2 (by rw [cells_at (lt_of_sh ha (by omega)), ent_f ha]) (ty := .object RX1) rfl hv hdg (k r M' ho H locs ls hL hP hS)
theorem V_alenH (C0 : Cx X G cc nL own ret) {a : Nat} (v : Int32) (ha : (sh a).1 = 13) (hv : Int32.ofNat (ln a) = v) (hdg : decode cc pc = .ok (.arraylength, 1)) (k : V X G h val nL (pc + 1) lv (.int v :: st) M o) : V X G h val nL pc lv (.ref (G.2 + a) :: st) M o := by
  obtain ⟨p, l, e, s, m, args, below, meth, c⟩ := X
  intro r M' ho H locs ls hL hP hS
  exact va_alen C0.1 C0.2.1 C0.2.2.2.2.2.1.1 hP.1 a 3 (by rw [cells_at (lt_of_sh ha (by omega)), ent_h ha]) (ty := .object RX4) rfl hv hdg (k r M' ho H locs ls hL hP hS)
theorem V_alenE (C0 : Cx X G cc nL own ret) {a : Nat} (v : Int32) (ha : (sh a).1 = 14) (hv : Int32.ofNat (ln a) = v) (hdg : decode cc pc = .ok (.arraylength, 1)) (k : V X G h val nL (pc + 1) lv (.int v :: st) M o) : V X G h val nL pc lv (.ref (G.2 + a) :: st) M o := by
  obtain ⟨p, l, e, s, m, args, below, meth, c⟩ := X
  intro r M' ho H locs ls hL hP hS
  exact va_alen C0.1 C0.2.1 C0.2.2.2.2.2.1.1 hP.1 a 4 (by rw [cells_at (lt_of_sh ha (by omega)), ent_e ha]) (ty := .object RX0) rfl hv hdg (k r M' ho H locs ls hL hP hS)
theorem sh_F : ∀ a, a < 229 → (sh a).1 = 12 → ln a = 6 ∧ ∀ i, i < 6 → rf a i = a + 2 + 3 * i ∧ (sh (a + 2 + 3 * i)).1 = 1 := by decide +kernel
theorem sh_E : ln 46 = 6 ∧ ∀ i, i < 6 → rf 46 i = 160 + 8 * i ∧ (sh (160 + 8 * i)).1 = 0 := by decide +kernel
theorem V_aaldF (C0 : Cx X G cc nL own ret) {a : Nat} {i : Int32} (a2 : Nat) (ha : (sh a).1 = 12) (ha2 : a + 2 = a2) (hdg : decode cc pc = .ok (.aaload, 1)) (k : (sh (a2 + 3 * ix i)).1 = 1 → V X G h val nL (pc + 1) lv (.ref (G.2 + (a2 + 3 * ix i)) :: st) M o) : V X G h val nL pc lv (.int i :: .ref (G.2 + a) :: st) M (gd (inb i 6) o) := by
  refine V_gd fun hi => ?_
  subst ha2
  obtain ⟨hn, hf⟩ := sh_F a (lt_of_sh ha (by omega)) ha
  obtain ⟨hf1, hf2⟩ := hf (ix i) (inb_lt hi)
  obtain ⟨p, l, e, s, m, args, below, meth, c⟩ := X
  intro r M' ho H locs ls hL hP hS
  refine va_aldq C0.1 C0.2.1 C0.2.2.2.2.2.1.1 hP.1 a 2 (by rw [cells_at (lt_of_sh ha (by omega)), ent_f ha]) rfl (by rw [hn]; exact inb_vp hi) hdg ?_
  show W _ _ _ _ _ _ _ _ _ _ _ _ _ _ _ (F0 m (pc + 1) ls (.ref (G.2 + rf a (ix i)) :: st))
  rw [hf1]
  exact k hf2 r M' ho H locs ls hL hP hS
theorem V_aaldE (C0 : Cx X G cc nL own ret) {i : Int32} (hdg : decode cc pc = .ok (.aaload, 1)) (k : (sh (160 + 8 * ix i)).1 = 0 → V X G h val nL (pc + 1) lv (.ref (G.2 + (160 + 8 * ix i)) :: st) M o) : V X G h val nL pc lv (.int i :: .ref (G.2 + 46) :: st) M (gd (inb i 6) o) := by
  refine V_gd fun hi => ?_
  obtain ⟨hn, hf⟩ := sh_E
  obtain ⟨hf1, hf2⟩ := hf (ix i) (inb_lt hi)
  obtain ⟨p, l, e, s, m, args, below, meth, c⟩ := X
  intro r M' ho H locs ls hL hP hS
  refine va_aldq C0.1 C0.2.1 C0.2.2.2.2.2.1.1 hP.1 46 4 (by rw [cells_at (by omega), ent_e rfl]) rfl (by rw [hn]; exact inb_vp hi) hdg ?_
  show W _ _ _ _ _ _ _ _ _ _ _ _ _ _ _ (F0 m (pc + 1) ls (.ref (G.2 + rf 46 (ix i)) :: st))
  rw [hf1]
  exact k hf2 r M' ho H locs ls hL hP hS
theorem V_aaldH (C0 : Cx X G cc nL own ret) {i : Int32} (hdg : decode cc pc = .ok (.aaload, 1)) (k : (sh (M.2 (ix i))).1 = 4 → V X G h val nL (pc + 1) lv (.ref (G.2 + M.2 (ix i)) :: st) M o) : V X G h val nL pc lv (.int i :: .ref (G.2 + 45) :: st) M (gd (inb i 5) o) := by
  refine V_gd fun hi => ?_
  obtain ⟨p, l, e, s, m, args, below, meth, c⟩ := X
  intro r M' ho H locs ls hL hP hS
  refine va_aldq C0.1 C0.2.1 C0.2.2.2.2.2.1.1 hP.1 45 3 (by rw [cells_at (by omega), ent_h rfl]) rfl (by rw [show ln 45 = 5 from rfl]; exact inb_vp hi) hdg ?_
  exact k (hP.2 _ (inb_lt hi)) r M' ho H locs ls hL hP hS
theorem sh_4 : ∀ a, a < 229 → (sh a).1 = 4 → sh a = (4, 4) := by decide +kernel
theorem V_aastH (C0 : Cx X G cc nL own ret) {i : Int32} {v : Nat} {f : Mem → Option (ρ × Mem)} (hv : (sh v).1 = 4) (hdg : decode cc pc = .ok (.aastore, 1)) (k : ∀ M1, V X G h val nL (pc + 1) lv st M1 (f M1)) : V X G h val nL pc lv (.ref (G.2 + v) :: .int i :: .ref (G.2 + 45) :: st) M (gd (inb i 5) (bm (hset M (ix i) v) f)) := by
  refine V_gd fun hi => ?_
  have hv2 : v < 229 := lt_of_sh hv (by omega)
  obtain ⟨p, l, e, s, m, args, below, meth, c⟩ := X
  intro r M' ho H locs ls hL hP hS
  refine va_astq (r := (RX4, TX4, 4)) C0.1 C0.2.1 C0.2.2.2.2.2.1.1 hP.1 cells_D hS 45 3 v 4 (by rw [cells_at (by omega), ent_h rfl]) rfl (by rw [cells_at hv2, ent_o (sh_4 v hv2 hv) (by omega)]) rfl (by rw [show ln 45 = 5 from rfl]; exact inb_vp hi) hdg (fun H1 locs1 hP1 _ hS1 => k _ r M' ho H1 locs1 ls hL ⟨by rw [cells_h] at hP1; exact hP1, fun j hj => ?_⟩ hS1)
  by_cases hji : j = ix i
  · simp [hset, hji, hv]
  · simp [hset, hji, hP.2 j hj]
theorem cp_words {h x : Nat} (hx : x ≤ 8) (hh : 1 ≤ h) : x + (nativeFrameWords "java/lang/System" "arraycopy" 5 + 11) ≤ 40 * h := by
  have h9 : nativeFrameWords "java/lang/System" "arraycopy" 5 + 11 ≤ 32 := by decide
  omega
/-- System.arraycopy between rows of ints -/
theorem V_copy (C0 : Cx X G cc nL own ret) {a0 a index : Nat} {sp dp n : Int32} {f : Mem → Option (ρ × Mem)} (n0 n1 : Nat) (hw : Cond.methodLink own index arraycopyName ∈ TBLG) (hnat : Cond.native arraycopyName ∈ TBLG) (hstat : Cond.static arraycopyName ∈ TBLG) (hini : Cond.initialized "java/lang/System" ∈ TBLG) (ha0 : (sh a0).1 = 10) (ha : (sh a).1 = 10) (h0 : ln a0 = n0) (h1 : ln a = n1) (hh : 1 ≤ h) (hst : (st.map fun v => v.category).sum ≤ 8) (hdg : decode cc pc = .ok (.invokestatic index, 3)) (k : ∀ M1, V X G h val nL (pc + 3) lv st M1 (f M1)) : V X G h val nL pc lv (.int n :: .int dp :: .ref (G.2 + a) :: .int sp :: .ref (G.2 + a0) :: st) M (gd (!(decide (sp < 0)) && !(decide (dp < 0)) && !(decide (n < 0)) && decide (ix sp + ix n ≤ n0) && decide (ix dp + ix n ≤ n1)) (bm (mcpy M a0 (ix sp) a (ix dp) (ix n)) f)) := by
  refine V_gd fun hi => ?_
  simp only [Bool.and_eq_true, Bool.not_eq_true', decide_eq_false_iff_not, decide_eq_true_eq] at hi
  subst h0; subst h1
  obtain ⟨p, l, e, s, m, args, below, meth, c⟩ := X
  intro r M' ho H locs ls hL hP hS
  exact va_copyi C0.1 C0.2.1 (by rw [C0.2.2.1]; exact hL.1.symm) C0.2.2.2.1 (C0.2.2.2.2.1 _ hw) (C0.2.2.2.2.1 _ hnat) (C0.2.2.2.2.1 _ hstat) (C0.2.2.2.2.1 _ hini) C0.2.2.2.2.2.1.1 hP.1 cells_D hS a0 a 0 0 (by rw [cells_at (lt_of_sh ha0 (by omega)), ent_i ha0]) (by rw [cells_at (lt_of_sh ha (by omega)), ent_i ha]) rfl rfl rfl hi.1.1.1.1 hi.1.1.1.2 hi.1.1.2 hi.1.2 hi.2 (fun _ _ => rfl) hh (show (st.map fun v => v.category).sum + (nativeFrameWords "java/lang/System" "arraycopy" 5 + 11) ≤ 40 * h from cp_words hst hh) hdg (fun H1 locs1 hP1 _ hS1 => k _ r M' ho H1 locs1 ls hL ⟨by rw [cells_c ha] at hP1; exact hP1, hP.2⟩ hS1)
theorem V_mmax (C0 : Cx X G cc nL own ret) {index : Nat} {x y : Int32} (hw : Cond.methodLink own index Lib.Math.max.name ∈ TBLG) (hstat : Cond.static Lib.Math.max.name ∈ TBLG) (hini : Cond.initialized "java/lang/Math" ∈ TBLG) (hcode : Cond.code Lib.Math.max.name Lib.Math.max.code 2 (some .int) ∈ TBLG) (hh : 1 ≤ h) (hst : (st.map fun v => v.category).sum ≤ 8) (hdg : decode cc pc = .ok (.invokestatic index, 3)) (k : V X G h val nL (pc + 3) lv (.int (mxI x y) :: st) M o) : V X G h val nL pc lv (.int y :: .int x :: st) M o := by
  obtain ⟨p, l, e, s, m, args, below, meth, c⟩ := X
  intro r M' ho H locs ls hL hP hS
  exact va_mmax C0.1 C0.2.1 (by rw [C0.2.2.1]; exact hL.1.symm) C0.2.2.2.1 (C0.2.2.2.2.1 _ hw) (C0.2.2.2.2.1 _ hstat) (C0.2.2.2.2.1 _ hini) (C0.2.2.2.2.1 _ hcode) hh (by show _ + 13 ≤ 40 * h; omega) (Nat.zero_le _) (Nat.zero_le _) hdg (k r M' ho H locs ls hL hP hS)
theorem V_mmin (C0 : Cx X G cc nL own ret) {index : Nat} {x y : Int32} (hw : Cond.methodLink own index Lib.Math.min.name ∈ TBLG) (hstat : Cond.static Lib.Math.min.name ∈ TBLG) (hini : Cond.initialized "java/lang/Math" ∈ TBLG) (hcode : Cond.code Lib.Math.min.name Lib.Math.min.code 2 (some .int) ∈ TBLG) (hh : 1 ≤ h) (hst : (st.map fun v => v.category).sum ≤ 8) (hdg : decode cc pc = .ok (.invokestatic index, 3)) (k : V X G h val nL (pc + 3) lv (.int (mnI x y) :: st) M o) : V X G h val nL pc lv (.int y :: .int x :: st) M o := by
  obtain ⟨p, l, e, s, m, args, below, meth, c⟩ := X
  intro r M' ho H locs ls hL hP hS
  exact va_mmin C0.1 C0.2.1 (by rw [C0.2.2.1]; exact hL.1.symm) C0.2.2.2.1 (C0.2.2.2.2.1 _ hw) (C0.2.2.2.2.1 _ hstat) (C0.2.2.2.2.1 _ hini) (C0.2.2.2.2.1 _ hcode) hh (by show _ + 13 ≤ 40 * h; omega) (Nat.zero_le _) (Nat.zero_le _) hdg (k r M' ho H locs ls hL hP hS)
theorem V_mmax_long (C0 : Cx X G cc nL own ret) {index : Nat} {x y : Int64} (hw : Cond.methodLink own index Lib.MathLoose.max_long.x ∈ TBLG) (hstat : Cond.static Lib.MathLoose.max_long.x ∈ TBLG) (hini : Cond.initialized "java/lang/Math" ∈ TBLG) (hcode : Cond.code Lib.MathLoose.max_long.x Lib.MathLoose.max_long.code 4 (some .long) ∈ TBLG) (hh : 1 ≤ h) (hst : (st.map fun v => v.category).sum ≤ 8) (hdg : decode cc pc = .ok (.invokestatic index, 3)) (k : V X G h val nL (pc + 3) lv (.long (mxL x y) :: st) M o) : V X G h val nL pc lv (.long y :: .long x :: st) M o := by
  obtain ⟨p, l, e, s, m, args, below, meth, c⟩ := X
  intro r M' ho H locs ls hL hP hS
  exact va_mmax_long C0.1 C0.2.1 (by rw [C0.2.2.1]; exact hL.1.symm) C0.2.2.2.1 (C0.2.2.2.2.1 _ hw) (C0.2.2.2.2.1 _ hstat) (C0.2.2.2.2.1 _ hini) (C0.2.2.2.2.1 _ hcode) hh (by show _ + 15 ≤ 40 * h; omega) (Nat.zero_le _) (Nat.zero_le _) hdg (k r M' ho H locs ls hL hP hS)
theorem V_mmin_long (C0 : Cx X G cc nL own ret) {index : Nat} {x y : Int64} (hw : Cond.methodLink own index Lib.MathLoose.min_long.x ∈ TBLG) (hstat : Cond.static Lib.MathLoose.min_long.x ∈ TBLG) (hini : Cond.initialized "java/lang/Math" ∈ TBLG) (hcode : Cond.code Lib.MathLoose.min_long.x Lib.MathLoose.min_long.code 4 (some .long) ∈ TBLG) (hh : 1 ≤ h) (hst : (st.map fun v => v.category).sum ≤ 8) (hdg : decode cc pc = .ok (.invokestatic index, 3)) (k : V X G h val nL (pc + 3) lv (.long (mnL x y) :: st) M o) : V X G h val nL pc lv (.long y :: .long x :: st) M o := by
  obtain ⟨p, l, e, s, m, args, below, meth, c⟩ := X
  intro r M' ho H locs ls hL hP hS
  exact va_mmin_long C0.1 C0.2.1 (by rw [C0.2.2.1]; exact hL.1.symm) C0.2.2.2.1 (C0.2.2.2.2.1 _ hw) (C0.2.2.2.2.1 _ hstat) (C0.2.2.2.2.1 _ hini) (C0.2.2.2.2.1 _ hcode) hh (by show _ + 15 ≤ 40 * h; omega) (Nat.zero_le _) (Nat.zero_le _) hdg (k r M' ho H locs ls hL hP hS)
theorem V_iret {v : Int32} (C0 : Cx X G cc nL own (some .int)) (hdg : decode cc pc = .ok (.ireturn, 1)) : V X G h vI nL pc lv [.int v] M (some (v, M)) := by
  obtain ⟨p, l, e, s, m, args, below, meth, c⟩ := X
  intro r M' ho H locs ls hL hP hS
  cases ho
  exact W.iret C0.1 C0.2.1 C0.2.2.2.2.2.2.1 (fun t ht hW => ⟨rfl, by rw [ht]; exact hP, hS.F ht⟩) hS.2.2 hdg (hlocks := C0.2.2.2.2.2.2.2)
theorem V_zret {v : Int32} (C0 : Cx X G cc nL own (some .boolean)) (hdg : decode cc pc = .ok (.ireturn, 1)) : V X G h vI nL pc lv [.int v] M (gd (isB v) (some (v, M))) := by
  refine V_gd fun hi => ?_
  obtain ⟨p, l, e, s, m, args, below, meth, c⟩ := X
  intro r M' ho H locs ls hL hP hS
  cases ho
  exact W.zret C0.1 C0.2.1 C0.2.2.2.2.2.2.1 (by rcases isB_or hi with q | q <;> subst q <;> rfl) (fun t ht hW => ⟨rfl, by rw [ht]; exact hP, hS.F ht⟩) hS.2.2 hdg (hlocks := C0.2.2.2.2.2.2.2)
theorem V_vret (C0 : Cx X G cc nL own none) (hdg : decode cc pc = .ok (.return_, 1)) : V X G h vU nL pc lv [] M (some ((), M)) := by
  obtain ⟨p, l, e, s, m, args, below, meth, c⟩ := X
  intro r M' ho H locs ls hL hP hS
  cases ho
  exact W.vret C0.1 C0.2.1 C0.2.2.2.2.2.2.1 (fun t ht hW => ⟨rfl, by rw [ht]; exact hP, hS.F ht⟩) hS.2.2 hdg (hlocks := C0.2.2.2.2.2.2.2)
end VR
section VRUN
variable {p : Program} {l : Launch} {e : Env} {R : Jvm.Room} {s : State} {m : MethodId} {args : Array Value} {below : List Frame} {meth : Method} {c : Code} {H : Heap} {locs : List Loc} {cells slots : Nat} {Q : State → Prop} {G : GT} {pc : Nat} {ls : Array Slot} {st0 rest : List Value} {a : Array Value} {v : Option Value} {M1 : Mem}
theorem V_run (hr : va_Run p l e R s m args below meth c H locs cells slots 0 0 (F0 m pc ls st0) rest (QV G v M1 a) (fun q => G.2 ≤ q)) (hS : va_S (fun q => G.2 ≤ q) s.heap H locs)
    (kk : ∀ (H1 : Heap) (locs1 : List Loc), Rep G M1 H1 → va_S (fun q => G.2 ≤ q) s.heap H1 locs1 → W p l e R s m args below meth c H1 locs1 cells slots Q (F0 m (pc + 3) ls (v.toList ++ rest))) : W p l e R s m args below meth c H locs cells slots Q (F0 m pc ls st0) := by
  intro T hT X
  obtain ⟨v', st₀, t, T', L, h0, X', hL, e1, e2, ⟨hv, hR, hz, hk⟩, st⟩ := hr T hT X
  cases hv
  rw [h0] at hz hk
  obtain ⟨t2, a1, b1⟩ := kk T'.heap (locs ++ L) (by rw [e1]; exact hR) ⟨Nat.le_trans hS.1 (by rw [e1]; exact hz), fun q h1 h2 => by rw [e1, hk q (Nat.lt_of_lt_of_le h1 hS.1) h2]; exact hS.2.1 q h1 h2, fun q hq => by
      rcases List.mem_append.mp hq with hq | hq
      · exact hS.2.2 q hq
      · exact hL q hq⟩ T' rfl X'
  exact ⟨t2, st t2 a1, b1⟩
end VRUN
section VC
variable {X : XT} {G : GT} {h : Nat} {ρ : Type} {val : ρ → Option Value} {nL pc : Nat} {lv : List (Nat × Value)} {st : List Value} {M : Mem} {o o1 o2 : Option (ρ × Mem)} {cc : ByteArray} {own : String} {ret : Option FieldType}
theorem PV.pre {s : State} {H : Heap} {av : List Value} (hK : Kx G s) (hR : Rep G M H) : PreS s H (PV G av M) av := ⟨PV.blind, fun U hU hW => ⟨rfl, hK.warm hW, by rw [hU]; exact hR⟩⟩
theorem PV.preV {s : State} {H : Heap} {av : List Value} {ci a N : Nat} {C : String} {T : u_T} (hc : vwCl[ci]? = some (C, T, N)) (hci : ci < 10) (hsh : sh a = (ci, N)) (hK : Kx G s) (hR : Rep G M H) : PreV s H C (G.2 + a) (PV G (.ref (G.2 + a) :: av) M) av :=
  ⟨PV.blind, va_recv hK.1 hR.1 hc (q0 := a) (by rw [cells_at (lt_of_sh (by rw [hsh]) (show ci < 50 by omega)), ent_o hsh hci]), fun U hU hW => ⟨rfl, hK.warm hW, by rw [hU]; exact hR⟩⟩
theorem V_callVi (C0 : Cx X G cc nL own ret) {y : MethodName} {bytes : ByteArray} {maxL n index h2 : Nat} {ret2 : Option FieldType} {av : List Value} {oc : Option (Int32 × Mem)} {kf : Int32 → Mem → Option (ρ × Mem)} {C : String} {T : u_T} {N ci a : Nat} (hM : ∀ l r M1, oc = some (r, M1) → MC l G y bytes maxL ret2 h2 (.ref (G.2 + a) :: av) M (vI r) M1) (hc : vwCl[ci]? = some (C, T, N)) (hci : ci < 10) (hsh : sh a = (ci, N)) (hw : ∀ w ∈ ([.methodLink own index y, .instanceMethod y, .selects C y y, .initialized C] : List Cond), w ∈ TBLG) (hd : y.cls = C ∧ y.cls ≠ "java/lang/invoke/MethodHandle" ∧ y.cls ≠ "java/lang/invoke/VarHandle" ∧ (parseMethodDescriptor y.desc).map (fun d => d.parameters.length) = some n) (hcode : Cond.code y bytes maxL ret2 ∈ TBLG) (hn : av.length = n) (hh : h2 < h) (hm : maxL ≤ 21) (hst : (st.map fun v => v.category).sum ≤ 8) (hdg : decode cc pc = .ok (.invokevirtual index, 3)) (k : ∀ r M1, V X G h val nL (pc + 3) lv (.int r :: st) M1 (kf r M1)) : V X G h val nL pc lv (av.reverse ++ .ref (G.2 + a) :: st) M (bd oc kf) := by
  cases hoc : oc with
  | none => exact V_none
  | some q =>
    obtain ⟨r1, M1⟩ := q
    obtain ⟨p, l, e, s, m, args, below, meth, c⟩ := X
    intro r M' ho H locs ls hL hP hS
    exact V_run (va_runV (As := av) (rest := st) (C := C) ⟨C0.1, C0.2.1, C0.2.2.1, C0.2.2.2.1, C0.2.2.2.2.1⟩ (hM l r1 M1 hoc) (cwV (R := rm h) n C0.2.2.2.2.1 (ws_app hw (ws_in hcode)) rfl rfl rfl hd ⟨hh, by show 8 + (maxL + 11) + 40 * h2 ≤ 40 * h; omega⟩) (PV.preV hc hci hsh C0.2.2.2.2.2.1 hP) rfl hn hL.1 rfl (lv_room hst) hdg ⟨Nat.le_refl _, Nat.le_refl _⟩) hS (fun H1 locs1 hR hS1 => k r1 M1 r M' ho H1 locs1 ls hL hR hS1)
theorem V_callNi (C0 : Cx X G cc nL own ret) {y : MethodName} {bytes : ByteArray} {maxL n index h2 : Nat} {ret2 : Option FieldType} {av : List Value} {oc : Option (Int32 × Mem)} {kf : Int32 → Mem → Option (ρ × Mem)} {C host : String} {T : u_T} {N ci a : Nat} (hM : ∀ l r M1, oc = some (r, M1) → MC l G y bytes maxL ret2 h2 (.ref (G.2 + a) :: av) M (vI r) M1) (hc : vwCl[ci]? = some (C, T, N)) (hci : ci < 10) (hsh : sh a = (ci, N)) (hw : Cond.methodLinkNest own index y host ∈ NWL) (hi : Cond.instanceMethod y ∈ TBLG) (hs : Cond.selects C y y ∈ TBLG) (hini : Cond.initialized y.cls ∈ TBLG) (hd : y.cls ≠ "java/lang/invoke/MethodHandle" ∧ y.cls ≠ "java/lang/invoke/VarHandle" ∧ (parseMethodDescriptor y.desc).map (fun d => d.parameters.length) = some n) (hcode : Cond.code y bytes maxL ret2 ∈ TBLG) (hn : av.length = n) (hh : h2 < h) (hm : maxL ≤ 21) (hst : (st.map fun v => v.category).sum ≤ 8) (hdg : decode cc pc = .ok (.invokevirtual index, 3)) (k : ∀ r M1, V X G h val nL (pc + 3) lv (.int r :: st) M1 (kf r M1)) : V X G h val nL pc lv (av.reverse ++ .ref (G.2 + a) :: st) M (bd oc kf) := by
  cases hoc : oc with
  | none => exact V_none
  | some q =>
    obtain ⟨r1, M1⟩ := q
    obtain ⟨p, l, e, s, m, args, below, meth, c⟩ := X
    intro r M' ho H locs ls hL hP hS
    exact V_run (va_runVN (As := av) (rest := st) (C := C) ⟨C0.1, C0.2.1, C0.2.2.1, C0.2.2.2.1, C0.2.2.2.2.1⟩ (hM l r1 M1 hoc) ⟨va_cnB (R := rm h) n C0.2.2.2.2.1 (ws_in hcode) rfl rfl rfl (C0.2.2.2.2.2.1.2 _ hw) (C0.2.2.2.2.1 _ hini) hd ⟨hh, by show 8 + (maxL + 11) + 40 * h2 ≤ 40 * h; omega⟩, C0.2.2.2.2.1 _ hi, C0.2.2.2.2.1 _ hs⟩ (PV.preV hc hci hsh C0.2.2.2.2.2.1 hP) rfl hn hL.1 rfl (lv_room hst) hdg ⟨Nat.le_refl _, Nat.le_refl _⟩) hS (fun H1 locs1 hR hS1 => k r1 M1 r M' ho H1 locs1 ls hL hR hS1)
theorem V_callSi (C0 : Cx X G cc nL own ret) {y : MethodName} {bytes : ByteArray} {maxL n index h2 : Nat} {ret2 : Option FieldType} {av : List Value} {oc : Option (Int32 × Mem)} {kf : Int32 → Mem → Option (ρ × Mem)} (hM : ∀ l r M1, oc = some (r, M1) → MC l G y bytes maxL ret2 h2 av M (vI r) M1) (hw : ∀ w ∈ ([.methodLink own index y, .static y, .initialized own] : List Cond), w ∈ TBLG) (hd : y.cls = own ∧ y.cls ≠ "java/lang/invoke/MethodHandle" ∧ y.cls ≠ "java/lang/invoke/VarHandle" ∧ (parseMethodDescriptor y.desc).map (fun d => d.parameters.length) = some n) (hcode : Cond.code y bytes maxL ret2 ∈ TBLG) (hn : av.length = n) (hh : h2 < h) (hm : maxL ≤ 21) (hst : (st.map fun v => v.category).sum ≤ 8) (hdg : decode cc pc = .ok (.invokestatic index, 3)) (k : ∀ r M1, V X G h val nL (pc + 3) lv (.int r :: st) M1 (kf r M1)) : V X G h val nL pc lv (av.reverse ++ st) M (bd oc kf) := by
  cases hoc : oc with
  | none => exact V_none
  | some q =>
    obtain ⟨r1, M1⟩ := q
    obtain ⟨p, l, e, s, m, args, below, meth, c⟩ := X
    intro r M' ho H locs ls hL hP hS
    exact V_run (va_runS (As := av) (rest := st) ⟨C0.1, C0.2.1, C0.2.2.1, C0.2.2.2.1, C0.2.2.2.2.1⟩ (hM l r1 M1 hoc) (cwS (R := rm h) n C0.2.2.2.2.1 (ws_app hw (ws_in hcode)) rfl rfl rfl hd ⟨hh, by show 8 + (maxL + 11) + 40 * h2 ≤ 40 * h; omega⟩) (PV.pre C0.2.2.2.2.2.1 hP) rfl hn hL.1 rfl (lv_room hst) hdg ⟨Nat.le_refl _, Nat.le_refl _⟩) hS (fun H1 locs1 hR hS1 => k r1 M1 r M' ho H1 locs1 ls hL hR hS1)
theorem V_callTi (C0 : Cx X G cc nL own ret) {y : MethodName} {bytes : ByteArray} {maxL n index h2 : Nat} {ret2 : Option FieldType} {av : List Value} {oc : Option (Int32 × Mem)} {kf : Int32 → Mem → Option (ρ × Mem)} {host : String} (hM : ∀ l r M1, oc = some (r, M1) → MC l G y bytes maxL ret2 h2 av M (vI r) M1) (hw : Cond.methodLinkNest own index y host ∈ NWL) (hs : Cond.static y ∈ TBLG) (hini : Cond.initialized y.cls ∈ TBLG) (hd : y.cls ≠ "java/lang/invoke/MethodHandle" ∧ y.cls ≠ "java/lang/invoke/VarHandle" ∧ (parseMethodDescriptor y.desc).map (fun d => d.parameters.length) = some n) (hcode : Cond.code y bytes maxL ret2 ∈ TBLG) (hn : av.length = n) (hh : h2 < h) (hm : maxL ≤ 21) (hst : (st.map fun v => v.category).sum ≤ 8) (hdg : decode cc pc = .ok (.invokestatic index, 3)) (k : ∀ r M1, V X G h val nL (pc + 3) lv (.int r :: st) M1 (kf r M1)) : V X G h val nL pc lv (av.reverse ++ st) M (bd oc kf) := by
  cases hoc : oc with
  | none => exact V_none
  | some q =>
    obtain ⟨r1, M1⟩ := q
    obtain ⟨p, l, e, s, m, args, below, meth, c⟩ := X
    intro r M' ho H locs ls hL hP hS
    exact V_run (va_runSN (As := av) (rest := st) ⟨C0.1, C0.2.1, C0.2.2.1, C0.2.2.2.1, C0.2.2.2.2.1⟩ (hM l r1 M1 hoc) ⟨va_cnB (R := rm h) n C0.2.2.2.2.1 (ws_in hcode) rfl rfl rfl (C0.2.2.2.2.2.1.2 _ hw) (C0.2.2.2.2.1 _ hini) hd ⟨hh, by show 8 + (maxL + 11) + 40 * h2 ≤ 40 * h; omega⟩, C0.2.2.2.2.1 _ hs, trivial⟩ (PV.pre C0.2.2.2.2.2.1 hP) rfl hn hL.1 rfl (lv_room hst) hdg ⟨Nat.le_refl _, Nat.le_refl _⟩) hS (fun H1 locs1 hR hS1 => k r1 M1 r M' ho H1 locs1 ls hL hR hS1)
theorem V_callVv (C0 : Cx X G cc nL own ret) {y : MethodName} {bytes : ByteArray} {maxL n index h2 : Nat} {ret2 : Option FieldType} {av : List Value} {oc : Option (Unit × Mem)} {kf : Unit → Mem → Option (ρ × Mem)} {C : String} {T : u_T} {N ci a : Nat} (hM : ∀ l r M1, oc = some (r, M1) → MC l G y bytes maxL ret2 h2 (.ref (G.2 + a) :: av) M (vU r) M1) (hc : vwCl[ci]? = some (C, T, N)) (hci : ci < 10) (hsh : sh a = (ci, N)) (hw : ∀ w ∈ ([.methodLink own index y, .instanceMethod y, .selects C y y, .initialized C] : List Cond), w ∈ TBLG) (hd : y.cls = C ∧ y.cls ≠ "java/lang/invoke/MethodHandle" ∧ y.cls ≠ "java/lang/invoke/VarHandle" ∧ (parseMethodDescriptor y.desc).map (fun d => d.parameters.length) = some n) (hcode : Cond.code y bytes maxL ret2 ∈ TBLG) (hn : av.length = n) (hh : h2 < h) (hm : maxL ≤ 21) (hst : (st.map fun v => v.category).sum ≤ 8) (hdg : decode cc pc = .ok (.invokevirtual index, 3)) (k : ∀ r M1, V X G h val nL (pc + 3) lv st M1 (kf r M1)) : V X G h val nL pc lv (av.reverse ++ .ref (G.2 + a) :: st) M (bd oc kf) := by
  cases hoc : oc with
  | none => exact V_none
  | some q =>
    obtain ⟨r1, M1⟩ := q
    obtain ⟨p, l, e, s, m, args, below, meth, c⟩ := X
    intro r M' ho H locs ls hL hP hS
    exact V_run (va_runV (As := av) (rest := st) (C := C) ⟨C0.1, C0.2.1, C0.2.2.1, C0.2.2.2.1, C0.2.2.2.2.1⟩ (hM l r1 M1 hoc) (cwV (R := rm h) n C0.2.2.2.2.1 (ws_app hw (ws_in hcode)) rfl rfl rfl hd ⟨hh, by show 8 + (maxL + 11) + 40 * h2 ≤ 40 * h; omega⟩) (PV.preV hc hci hsh C0.2.2.2.2.2.1 hP) rfl hn hL.1 rfl (lv_room hst) hdg ⟨Nat.le_refl _, Nat.le_refl _⟩) hS (fun H1 locs1 hR hS1 => k r1 M1 r M' ho H1 locs1 ls hL hR hS1)
theorem V_callNv (C0 : Cx X G cc nL own ret) {y : MethodName} {bytes : ByteArray} {maxL n index h2 : Nat} {ret2 : Option FieldType} {av : List Value} {oc : Option (Unit × Mem)} {kf : Unit → Mem → Option (ρ × Mem)} {C host : String} {T : u_T} {N ci a : Nat} (hM : ∀ l r M1, oc = some (r, M1) → MC l G y bytes maxL ret2 h2 (.ref (G.2 + a) :: av) M (vU r) M1) (hc : vwCl[ci]? = some (C, T, N)) (hci : ci < 10) (hsh : sh a = (ci, N)) (hw : Cond.methodLinkNest own index y host ∈ NWL) (hi : Cond.instanceMethod y ∈ TBLG) (hs : Cond.selects C y y ∈ TBLG) (hini : Cond.initialized y.cls ∈ TBLG) (hd : y.cls ≠ "java/lang/invoke/MethodHandle" ∧ y.cls ≠ "java/lang/invoke/VarHandle" ∧ (parseMethodDescriptor y.desc).map (fun d => d.parameters.length) = some n) (hcode : Cond.code y bytes maxL ret2 ∈ TBLG) (hn : av.length = n) (hh : h2 < h) (hm : maxL ≤ 21) (hst : (st.map fun v => v.category).sum ≤ 8) (hdg : decode cc pc = .ok (.invokevirtual index, 3)) (k : ∀ r M1, V X G h val nL (pc + 3) lv st M1 (kf r M1)) : V X G h val nL pc lv (av.reverse ++ .ref (G.2 + a) :: st) M (bd oc kf) := by
  cases hoc : oc with
  | none => exact V_none
  | some q =>
    obtain ⟨r1, M1⟩ := q
    obtain ⟨p, l, e, s, m, args, below, meth, c⟩ := X
    intro r M' ho H locs ls hL hP hS
    exact V_run (va_runVN (As := av) (rest := st) (C := C) ⟨C0.1, C0.2.1, C0.2.2.1, C0.2.2.2.1, C0.2.2.2.2.1⟩ (hM l r1 M1 hoc) ⟨va_cnB (R := rm h) n C0.2.2.2.2.1 (ws_in hcode) rfl rfl rfl (C0.2.2.2.2.2.1.2 _ hw) (C0.2.2.2.2.1 _ hini) hd ⟨hh, by show 8 + (maxL + 11) + 40 * h2 ≤ 40 * h; omega⟩, C0.2.2.2.2.1 _ hi, C0.2.2.2.2.1 _ hs⟩ (PV.preV hc hci hsh C0.2.2.2.2.2.1 hP) rfl hn hL.1 rfl (lv_room hst) hdg ⟨Nat.le_refl _, Nat.le_refl _⟩) hS (fun H1 locs1 hR hS1 => k r1 M1 r M' ho H1 locs1 ls hL hR hS1)
theorem V_callSv (C0 : Cx X G cc nL own ret) {y : MethodName} {bytes : ByteArray} {maxL n index h2 : Nat} {ret2 : Option FieldType} {av : List Value} {oc : Option (Unit × Mem)} {kf : Unit → Mem → Option (ρ × Mem)} (hM : ∀ l r M1, oc = some (r, M1) → MC l G y bytes maxL ret2 h2 av M (vU r) M1) (hw : ∀ w ∈ ([.methodLink own index y, .static y, .initialized own] : List Cond), w ∈ TBLG) (hd : y.cls = own ∧ y.cls ≠ "java/lang/invoke/MethodHandle" ∧ y.cls ≠ "java/lang/invoke/VarHandle" ∧ (parseMethodDescriptor y.desc).map (fun d => d.parameters.length) = some n) (hcode : Cond.code y bytes maxL ret2 ∈ TBLG) (hn : av.length = n) (hh : h2 < h) (hm : maxL ≤ 21) (hst : (st.map fun v => v.category).sum ≤ 8) (hdg : decode cc pc = .ok (.invokestatic index, 3)) (k : ∀ r M1, V X G h val nL (pc + 3) lv st M1 (kf r M1)) : V X G h val nL pc lv (av.reverse ++ st) M (bd oc kf) := by
  cases hoc : oc with
  | none => exact V_none
  | some q =>
    obtain ⟨r1, M1⟩ := q
    obtain ⟨p, l, e, s, m, args, below, meth, c⟩ := X
    intro r M' ho H locs ls hL hP hS
    exact V_run (va_runS (As := av) (rest := st) ⟨C0.1, C0.2.1, C0.2.2.1, C0.2.2.2.1, C0.2.2.2.2.1⟩ (hM l r1 M1 hoc) (cwS (R := rm h) n C0.2.2.2.2.1 (ws_app hw (ws_in hcode)) rfl rfl rfl hd ⟨hh, by show 8 + (maxL + 11) + 40 * h2 ≤ 40 * h; omega⟩) (PV.pre C0.2.2.2.2.2.1 hP) rfl hn hL.1 rfl (lv_room hst) hdg ⟨Nat.le_refl _, Nat.le_refl _⟩) hS (fun H1 locs1 hR hS1 => k r1 M1 r M' ho H1 locs1 ls hL hR hS1)
theorem V_callTv (C0 : Cx X G cc nL own ret) {y : MethodName} {bytes : ByteArray} {maxL n index h2 : Nat} {ret2 : Option FieldType} {av : List Value} {oc : Option (Unit × Mem)} {kf : Unit → Mem → Option (ρ × Mem)} {host : String} (hM : ∀ l r M1, oc = some (r, M1) → MC l G y bytes maxL ret2 h2 av M (vU r) M1) (hw : Cond.methodLinkNest own index y host ∈ NWL) (hs : Cond.static y ∈ TBLG) (hini : Cond.initialized y.cls ∈ TBLG) (hd : y.cls ≠ "java/lang/invoke/MethodHandle" ∧ y.cls ≠ "java/lang/invoke/VarHandle" ∧ (parseMethodDescriptor y.desc).map (fun d => d.parameters.length) = some n) (hcode : Cond.code y bytes maxL ret2 ∈ TBLG) (hn : av.length = n) (hh : h2 < h) (hm : maxL ≤ 21) (hst : (st.map fun v => v.category).sum ≤ 8) (hdg : decode cc pc = .ok (.invokestatic index, 3)) (k : ∀ r M1, V X G h val nL (pc + 3) lv st M1 (kf r M1)) : V X G h val nL pc lv (av.reverse ++ st) M (bd oc kf) := by
  cases hoc : oc with
  | none => exact V_none
  | some q =>
    obtain ⟨r1, M1⟩ := q
    obtain ⟨p, l, e, s, m, args, below, meth, c⟩ := X
    intro r M' ho H locs ls hL hP hS
    exact V_run (va_runSN (As := av) (rest := st) ⟨C0.1, C0.2.1, C0.2.2.1, C0.2.2.2.1, C0.2.2.2.2.1⟩ (hM l r1 M1 hoc) ⟨va_cnB (R := rm h) n C0.2.2.2.2.1 (ws_in hcode) rfl rfl rfl (C0.2.2.2.2.2.1.2 _ hw) (C0.2.2.2.2.1 _ hini) hd ⟨hh, by show 8 + (maxL + 11) + 40 * h2 ≤ 40 * h; omega⟩, C0.2.2.2.2.1 _ hs, trivial⟩ (PV.pre C0.2.2.2.2.2.1 hP) rfl hn hL.1 rfl (lv_room hst) hdg ⟨Nat.le_refl _, Nat.le_refl _⟩) hS (fun H1 locs1 hR hS1 => k r1 M1 r M' ho H1 locs1 ls hL hR hS1)
end VC
end
section
/-! words of the tables, by their places -/
theorem wf6_12 : (.fieldLink RX6 12 RX6 (TX6 0).2.1 (TX6 0).2.2.1 : Cond) ∈ TBLG := List.mem_filter.mpr ⟨List.mem_of_getElem? (i := 274) (by decide +kernel), by decide +kernel⟩
theorem wf6_19 : (.fieldLink RX6 19 RX6 (TX6 1).2.1 (TX6 1).2.2.1 : Cond) ∈ TBLG := List.mem_filter.mpr ⟨List.mem_of_getElem? (i := 275) (by decide +kernel), by decide +kernel⟩
theorem wf6_23 : (.fieldLink RX6 23 RX6 (TX6 2).2.1 (TX6 2).2.2.1 : Cond) ∈ TBLG := List.mem_filter.mpr ⟨List.mem_of_getElem? (i := 276) (by decide +kernel), by decide +kernel⟩
theorem wf6_29 : (.fieldLink RX6 29 RX6 (TX6 4).2.1 (TX6 4).2.2.1 : Cond) ∈ TBLG := List.mem_filter.mpr ⟨List.mem_of_getElem? (i := 278) (by decide +kernel), by decide +kernel⟩
theorem wf6_36 : (.fieldLink RX6 36 RX6 (TX6 5).2.1 (TX6 5).2.2.1 : Cond) ∈ TBLG := List.mem_filter.mpr ⟨List.mem_of_getElem? (i := 279) (by decide +kernel), by decide +kernel⟩
theorem wf6_43 : (.fieldLink RX6 43 RX6 (TX6 6).2.1 (TX6 6).2.2.1 : Cond) ∈ TBLG := List.mem_filter.mpr ⟨List.mem_of_getElem? (i := 280) (by decide +kernel), by decide +kernel⟩
theorem wf6_55 : (.fieldLinkNest RX6 55 RX3 (TX3 1).2.1 (TX3 1).2.2.1 RX6 : Cond) ∈ NWL := List.mem_filter.mpr ⟨List.mem_of_getElem? (i := 156) (by decide +kernel), by decide +kernel⟩
theorem wf6_64 : (.fieldLinkNest RX6 64 RX3 (TX3 2).2.1 (TX3 2).2.2.1 RX6 : Cond) ∈ NWL := List.mem_filter.mpr ⟨List.mem_of_getElem? (i := 158) (by decide +kernel), by decide +kernel⟩
theorem wf6_70 : (.fieldLinkNest RX6 70 RX3 (TX3 3).2.1 (TX3 3).2.2.1 RX6 : Cond) ∈ NWL := List.mem_filter.mpr ⟨List.mem_of_getElem? (i := 160) (by decide +kernel), by decide +kernel⟩
theorem wf6_80 : (.fieldLinkNest RX6 80 RX4 (TX4 1).2.1 (TX4 1).2.2.1 RX6 : Cond) ∈ NWL := List.mem_filter.mpr ⟨List.mem_of_getElem? (i := 139) (by decide +kernel), by decide +kernel⟩
theorem wf6_86 : (.fieldLinkNest RX6 86 RX4 (TX4 0).2.1 (TX4 0).2.2.1 RX6 : Cond) ∈ NWL := List.mem_filter.mpr ⟨List.mem_of_getElem? (i := 136) (by decide +kernel), by decide +kernel⟩
theorem wf6_109 : (.fieldLinkNest RX6 109 RX4 (TX4 2).2.1 (TX4 2).2.2.1 RX6 : Cond) ∈ NWL := List.mem_filter.mpr ⟨List.mem_of_getElem? (i := 142) (by decide +kernel), by decide +kernel⟩
theorem wf6_116 : (.fieldLinkNest RX6 116 RX4 (TX4 3).2.1 (TX4 3).2.2.1 RX6 : Cond) ∈ NWL := List.mem_filter.mpr ⟨List.mem_of_getElem? (i := 144) (by decide +kernel), by decide +kernel⟩
theorem wf6_119 : (.fieldLink RX6 119 RX6 (TX6 3).2.1 (TX6 3).2.2.1 : Cond) ∈ TBLG := List.mem_filter.mpr ⟨List.mem_of_getElem? (i := 277) (by decide +kernel), by decide +kernel⟩
theorem wf6_135 : (.fieldLinkNest RX6 135 RX1 (TX1 2).2.1 (TX1 2).2.2.1 RX6 : Cond) ∈ NWL := List.mem_filter.mpr ⟨List.mem_of_getElem? (i := 126) (by decide +kernel), by decide +kernel⟩
theorem wf6_138 : (.fieldLinkNest RX6 138 RX0 (TX0 1).2.1 (TX0 1).2.2.1 RX6 : Cond) ∈ NWL := List.mem_filter.mpr ⟨List.mem_of_getElem? (i := 251) (by decide +kernel), by decide +kernel⟩
theorem wf6_142 : (.fieldLinkNest RX6 142 RX0 (TX0 2).2.1 (TX0 2).2.2.1 RX6 : Cond) ∈ NWL := List.mem_filter.mpr ⟨List.mem_of_getElem? (i := 254) (by decide +kernel), by decide +kernel⟩
theorem wf6_172 : (.fieldLinkNest RX6 172 RX2 (TX2 4).2.1 (TX2 4).2.2.1 RX6 : Cond) ∈ NWL := List.mem_filter.mpr ⟨List.mem_of_getElem? (i := 190) (by decide +kernel), by decide +kernel⟩
theorem wf6_173 : (.fieldLinkNest RX6 173 RX2 (TX2 5).2.1 (TX2 5).2.2.1 RX6 : Cond) ∈ NWL := List.mem_filter.mpr ⟨List.mem_of_getElem? (i := 192) (by decide +kernel), by decide +kernel⟩
theorem wf6_176 : (.fieldLinkNest RX6 176 RX2 (TX2 6).2.1 (TX2 6).2.2.1 RX6 : Cond) ∈ NWL := List.mem_filter.mpr ⟨List.mem_of_getElem? (i := 194) (by decide +kernel), by decide +kernel⟩
theorem wf6_179 : (.fieldLinkNest RX6 179 RX2 (TX2 7).2.1 (TX2 7).2.2.1 RX6 : Cond) ∈ NWL := List.mem_filter.mpr ⟨List.mem_of_getElem? (i := 196) (by decide +kernel), by decide +kernel⟩
theorem wf6_182 : (.fieldLinkNest RX6 182 RX2 (TX2 8).2.1 (TX2 8).2.2.1 RX6 : Cond) ∈ NWL := List.mem_filter.mpr ⟨List.mem_of_getElem? (i := 198) (by decide +kernel), by decide +kernel⟩
theorem wf6_186 : (.fieldLinkNest RX6 186 RX2 (TX2 0).2.1 (TX2 0).2.2.1 RX6 : Cond) ∈ NWL := List.mem_filter.mpr ⟨List.mem_of_getElem? (i := 182) (by decide +kernel), by decide +kernel⟩
theorem wf6_189 : (.fieldLinkNest RX6 189 RX2 (TX2 1).2.1 (TX2 1).2.2.1 RX6 : Cond) ∈ NWL := List.mem_filter.mpr ⟨List.mem_of_getElem? (i := 184) (by decide +kernel), by decide +kernel⟩
theorem wf6_191 : (.fieldLinkNest RX6 191 RX2 (TX2 2).2.1 (TX2 2).2.2.1 RX6 : Cond) ∈ NWL := List.mem_filter.mpr ⟨List.mem_of_getElem? (i := 186) (by decide +kernel), by decide +kernel⟩
theorem wf6_193 : (.fieldLinkNest RX6 193 RX2 (TX2 3).2.1 (TX2 3).2.2.1 RX6 : Cond) ∈ NWL := List.mem_filter.mpr ⟨List.mem_of_getElem? (i := 188) (by decide +kernel), by decide +kernel⟩
theorem wf6_203 : (.fieldLinkNest RX6 203 RX5 (TX5 2).2.1 (TX5 2).2.2.1 RX6 : Cond) ∈ NWL := List.mem_filter.mpr ⟨List.mem_of_getElem? (i := 231) (by decide +kernel), by decide +kernel⟩
theorem wf6_204 : (.fieldLinkNest RX6 204 RX5 (TX5 0).2.1 (TX5 0).2.2.1 RX6 : Cond) ∈ NWL := List.mem_filter.mpr ⟨List.mem_of_getElem? (i := 228) (by decide +kernel), by decide +kernel⟩
theorem wf0_14 : (.fieldLink RX0 14 RX0 (TX0 1).2.1 (TX0 1).2.2.1 : Cond) ∈ TBLG := List.mem_filter.mpr ⟨List.mem_of_getElem? (i := 248) (by decide +kernel), by decide +kernel⟩
theorem wf0_20 : (.fieldLink RX0 20 RX0 (TX0 3).2.1 (TX0 3).2.2.1 : Cond) ∈ TBLG := List.mem_filter.mpr ⟨List.mem_of_getElem? (i := 255) (by decide +kernel), by decide +kernel⟩
theorem wf0_24 : (.fieldLink RX0 24 RX0 (TX0 4).2.1 (TX0 4).2.2.1 : Cond) ∈ TBLG := List.mem_filter.mpr ⟨List.mem_of_getElem? (i := 256) (by decide +kernel), by decide +kernel⟩
theorem wf0_27 : (.fieldLink RX0 27 RX0 (TX0 5).2.1 (TX0 5).2.2.1 : Cond) ∈ TBLG := List.mem_filter.mpr ⟨List.mem_of_getElem? (i := 257) (by decide +kernel), by decide +kernel⟩
theorem wf0_30 : (.fieldLink RX0 30 RX0 (TX0 6).2.1 (TX0 6).2.2.1 : Cond) ∈ TBLG := List.mem_filter.mpr ⟨List.mem_of_getElem? (i := 258) (by decide +kernel), by decide +kernel⟩
theorem wf0_33 : (.fieldLink RX0 33 RX0 (TX0 0).2.1 (TX0 0).2.2.1 : Cond) ∈ TBLG := List.mem_filter.mpr ⟨List.mem_of_getElem? (i := 246) (by decide +kernel), by decide +kernel⟩
theorem wf0_45 : (.fieldLinkNest RX0 45 RX1 (TX1 2).2.1 (TX1 2).2.2.1 RX6 : Cond) ∈ NWL := List.mem_filter.mpr ⟨List.mem_of_getElem? (i := 125) (by decide +kernel), by decide +kernel⟩
theorem wf0_57 : (.fieldLink RX0 57 RX0 (TX0 2).2.1 (TX0 2).2.2.1 : Cond) ∈ TBLG := List.mem_filter.mpr ⟨List.mem_of_getElem? (i := 253) (by decide +kernel), by decide +kernel⟩
theorem wf1_9 : (.fieldLink RX1 9 RX1 (TX1 2).2.1 (TX1 2).2.2.1 : Cond) ∈ TBLG := List.mem_filter.mpr ⟨List.mem_of_getElem? (i := 122) (by decide +kernel), by decide +kernel⟩
theorem wf1_21 : (.fieldLink RX1 21 RX1 (TX1 0).2.1 (TX1 0).2.2.1 : Cond) ∈ TBLG := List.mem_filter.mpr ⟨List.mem_of_getElem? (i := 120) (by decide +kernel), by decide +kernel⟩
theorem wf1_25 : (.fieldLink RX1 25 RX1 (TX1 1).2.1 (TX1 1).2.2.1 : Cond) ∈ TBLG := List.mem_filter.mpr ⟨List.mem_of_getElem? (i := 121) (by decide +kernel), by decide +kernel⟩
theorem wf2_11 : (.fieldLink RX2 11 RX2 (TX2 0).2.1 (TX2 0).2.2.1 : Cond) ∈ TBLG := List.mem_filter.mpr ⟨List.mem_of_getElem? (i := 181) (by decide +kernel), by decide +kernel⟩
theorem wf2_15 : (.fieldLink RX2 15 RX2 (TX2 1).2.1 (TX2 1).2.2.1 : Cond) ∈ TBLG := List.mem_filter.mpr ⟨List.mem_of_getElem? (i := 183) (by decide +kernel), by decide +kernel⟩
theorem wf2_18 : (.fieldLink RX2 18 RX2 (TX2 2).2.1 (TX2 2).2.2.1 : Cond) ∈ TBLG := List.mem_filter.mpr ⟨List.mem_of_getElem? (i := 185) (by decide +kernel), by decide +kernel⟩
theorem wf2_21 : (.fieldLink RX2 21 RX2 (TX2 3).2.1 (TX2 3).2.2.1 : Cond) ∈ TBLG := List.mem_filter.mpr ⟨List.mem_of_getElem? (i := 187) (by decide +kernel), by decide +kernel⟩
theorem wf2_24 : (.fieldLink RX2 24 RX2 (TX2 4).2.1 (TX2 4).2.2.1 : Cond) ∈ TBLG := List.mem_filter.mpr ⟨List.mem_of_getElem? (i := 189) (by decide +kernel), by decide +kernel⟩
theorem wf2_28 : (.fieldLink RX2 28 RX2 (TX2 5).2.1 (TX2 5).2.2.1 : Cond) ∈ TBLG := List.mem_filter.mpr ⟨List.mem_of_getElem? (i := 191) (by decide +kernel), by decide +kernel⟩
theorem wf2_31 : (.fieldLink RX2 31 RX2 (TX2 6).2.1 (TX2 6).2.2.1 : Cond) ∈ TBLG := List.mem_filter.mpr ⟨List.mem_of_getElem? (i := 193) (by decide +kernel), by decide +kernel⟩
theorem wf2_34 : (.fieldLink RX2 34 RX2 (TX2 7).2.1 (TX2 7).2.2.1 : Cond) ∈ TBLG := List.mem_filter.mpr ⟨List.mem_of_getElem? (i := 195) (by decide +kernel), by decide +kernel⟩
theorem wf2_37 : (.fieldLink RX2 37 RX2 (TX2 8).2.1 (TX2 8).2.2.1 : Cond) ∈ TBLG := List.mem_filter.mpr ⟨List.mem_of_getElem? (i := 197) (by decide +kernel), by decide +kernel⟩
theorem wf2_40 : (.fieldLink RX2 40 RX2 (TX2 9).2.1 (TX2 9).2.2.1 : Cond) ∈ TBLG := List.mem_filter.mpr ⟨List.mem_of_getElem? (i := 199) (by decide +kernel), by decide +kernel⟩
theorem wf2_43 : (.fieldLinkNest RX2 43 RX0 (TX0 2).2.1 (TX0 2).2.2.1 RX6 : Cond) ∈ NWL := List.mem_filter.mpr ⟨List.mem_of_getElem? (i := 252) (by decide +kernel), by decide +kernel⟩
theorem wf2_57 : (.fieldLinkNest RX2 57 RX0 (TX0 1).2.1 (TX0 1).2.2.1 RX6 : Cond) ∈ NWL := List.mem_filter.mpr ⟨List.mem_of_getElem? (i := 250) (by decide +kernel), by decide +kernel⟩
theorem wf2_78 : (.fieldLinkNest RX2 78 RX0 (TX0 0).2.1 (TX0 0).2.2.1 RX6 : Cond) ∈ NWL := List.mem_filter.mpr ⟨List.mem_of_getElem? (i := 247) (by decide +kernel), by decide +kernel⟩
theorem wf3_9 : (.fieldLink RX3 9 RX3 (TX3 0).2.1 (TX3 0).2.2.1 : Cond) ∈ TBLG := List.mem_filter.mpr ⟨List.mem_of_getElem? (i := 154) (by decide +kernel), by decide +kernel⟩
theorem wf3_18 : (.fieldLink RX3 18 RX3 (TX3 3).2.1 (TX3 3).2.2.1 : Cond) ∈ TBLG := List.mem_filter.mpr ⟨List.mem_of_getElem? (i := 159) (by decide +kernel), by decide +kernel⟩
theorem wf3_22 : (.fieldLink RX3 22 RX3 (TX3 1).2.1 (TX3 1).2.2.1 : Cond) ∈ TBLG := List.mem_filter.mpr ⟨List.mem_of_getElem? (i := 155) (by decide +kernel), by decide +kernel⟩
theorem wf3_26 : (.fieldLink RX3 26 RX3 (TX3 2).2.1 (TX3 2).2.2.1 : Cond) ∈ TBLG := List.mem_filter.mpr ⟨List.mem_of_getElem? (i := 157) (by decide +kernel), by decide +kernel⟩
theorem wf3_33 : (.fieldLinkNest RX3 33 RX4 (TX4 0).2.1 (TX4 0).2.2.1 RX6 : Cond) ∈ NWL := List.mem_filter.mpr ⟨List.mem_of_getElem? (i := 137) (by decide +kernel), by decide +kernel⟩
theorem wf3_37 : (.fieldLinkNest RX3 37 RX1 (TX1 2).2.1 (TX1 2).2.2.1 RX6 : Cond) ∈ NWL := List.mem_filter.mpr ⟨List.mem_of_getElem? (i := 124) (by decide +kernel), by decide +kernel⟩
theorem wf3_50 : (.fieldLinkNest RX3 50 RX4 (TX4 1).2.1 (TX4 1).2.2.1 RX6 : Cond) ∈ NWL := List.mem_filter.mpr ⟨List.mem_of_getElem? (i := 140) (by decide +kernel), by decide +kernel⟩
theorem wf4_11 : (.fieldLink RX4 11 RX4 (TX4 0).2.1 (TX4 0).2.2.1 : Cond) ∈ TBLG := List.mem_filter.mpr ⟨List.mem_of_getElem? (i := 135) (by decide +kernel), by decide +kernel⟩
theorem wf4_17 : (.fieldLink RX4 17 RX4 (TX4 1).2.1 (TX4 1).2.2.1 : Cond) ∈ TBLG := List.mem_filter.mpr ⟨List.mem_of_getElem? (i := 138) (by decide +kernel), by decide +kernel⟩
theorem wf4_21 : (.fieldLink RX4 21 RX4 (TX4 2).2.1 (TX4 2).2.2.1 : Cond) ∈ TBLG := List.mem_filter.mpr ⟨List.mem_of_getElem? (i := 141) (by decide +kernel), by decide +kernel⟩
theorem wf4_25 : (.fieldLink RX4 25 RX4 (TX4 3).2.1 (TX4 3).2.2.1 : Cond) ∈ TBLG := List.mem_filter.mpr ⟨List.mem_of_getElem? (i := 143) (by decide +kernel), by decide +kernel⟩
theorem wf5_9 : (.fieldLink RX5 9 RX5 (TX5 0).2.1 (TX5 0).2.2.1 : Cond) ∈ TBLG := List.mem_filter.mpr ⟨List.mem_of_getElem? (i := 227) (by decide +kernel), by decide +kernel⟩
theorem wf5_15 : (.fieldLink RX5 15 RX5 (TX5 1).2.1 (TX5 1).2.2.1 : Cond) ∈ TBLG := List.mem_filter.mpr ⟨List.mem_of_getElem? (i := 229) (by decide +kernel), by decide +kernel⟩
theorem wf5_18 : (.fieldLink RX5 18 RX5 (TX5 2).2.1 (TX5 2).2.2.1 : Cond) ∈ TBLG := List.mem_filter.mpr ⟨List.mem_of_getElem? (i := 230) (by decide +kernel), by decide +kernel⟩
theorem wf5_28 : (.fieldLinkNest RX5 28 RX0 (TX0 1).2.1 (TX0 1).2.2.1 RX6 : Cond) ∈ NWL := List.mem_filter.mpr ⟨List.mem_of_getElem? (i := 249) (by decide +kernel), by decide +kernel⟩
theorem wf5_34 : (.fieldLinkNest RX5 34 RX1 (TX1 2).2.1 (TX1 2).2.2.1 RX6 : Cond) ∈ NWL := List.mem_filter.mpr ⟨List.mem_of_getElem? (i := 123) (by decide +kernel), by decide +kernel⟩
theorem wf7_7 : (.fieldLink RX7 7 RX7 (TX7 0).2.1 (TX7 0).2.2.1 : Cond) ∈ TBLG := List.mem_filter.mpr ⟨List.mem_of_getElem? (i := 643) (by decide +kernel), by decide +kernel⟩
theorem wf7_13 : (.fieldLink RX7 13 RX7 (TX7 1).2.1 (TX7 1).2.2.1 : Cond) ∈ TBLG := List.mem_filter.mpr ⟨List.mem_of_getElem? (i := 644) (by decide +kernel), by decide +kernel⟩
theorem wf7_16 : (.fieldLink RX7 16 RX7 (TX7 3).2.1 (TX7 3).2.2.1 : Cond) ∈ TBLG := List.mem_filter.mpr ⟨List.mem_of_getElem? (i := 646) (by decide +kernel), by decide +kernel⟩
theorem wf7_19 : (.fieldLink RX7 19 RX7 (TX7 5).2.1 (TX7 5).2.2.1 : Cond) ∈ TBLG := List.mem_filter.mpr ⟨List.mem_of_getElem? (i := 648) (by decide +kernel), by decide +kernel⟩
theorem wf7_22 : (.fieldLink RX7 22 RX7 (TX7 11).2.1 (TX7 11).2.2.1 : Cond) ∈ TBLG := List.mem_filter.mpr ⟨List.mem_of_getElem? (i := 654) (by decide +kernel), by decide +kernel⟩
theorem wf7_25 : (.fieldLink RX7 25 RX7 (TX7 13).2.1 (TX7 13).2.2.1 : Cond) ∈ TBLG := List.mem_filter.mpr ⟨List.mem_of_getElem? (i := 656) (by decide +kernel), by decide +kernel⟩
theorem wf7_28 : (.fieldLink RX7 28 RX7 (TX7 16).2.1 (TX7 16).2.2.1 : Cond) ∈ TBLG := List.mem_filter.mpr ⟨List.mem_of_getElem? (i := 659) (by decide +kernel), by decide +kernel⟩
theorem wf7_31 : (.fieldLink RX7 31 RX7 (TX7 17).2.1 (TX7 17).2.2.1 : Cond) ∈ TBLG := List.mem_filter.mpr ⟨List.mem_of_getElem? (i := 660) (by decide +kernel), by decide +kernel⟩
theorem wf7_34 : (.fieldLink RX7 34 RX7 (TX7 18).2.1 (TX7 18).2.2.1 : Cond) ∈ TBLG := List.mem_filter.mpr ⟨List.mem_of_getElem? (i := 661) (by decide +kernel), by decide +kernel⟩
theorem wf7_37 : (.fieldLink RX7 37 RX7 (TX7 19).2.1 (TX7 19).2.2.1 : Cond) ∈ TBLG := List.mem_filter.mpr ⟨List.mem_of_getElem? (i := 662) (by decide +kernel), by decide +kernel⟩
theorem wf7_40 : (.fieldLink RX7 40 RX7 (TX7 20).2.1 (TX7 20).2.2.1 : Cond) ∈ TBLG := List.mem_filter.mpr ⟨List.mem_of_getElem? (i := 663) (by decide +kernel), by decide +kernel⟩
theorem wf7_43 : (.fieldLink RX7 43 RX7 (TX7 21).2.1 (TX7 21).2.2.1 : Cond) ∈ TBLG := List.mem_filter.mpr ⟨List.mem_of_getElem? (i := 664) (by decide +kernel), by decide +kernel⟩
theorem wf7_46 : (.fieldLink RX7 46 RX7 (TX7 22).2.1 (TX7 22).2.2.1 : Cond) ∈ TBLG := List.mem_filter.mpr ⟨List.mem_of_getElem? (i := 665) (by decide +kernel), by decide +kernel⟩
theorem wf7_49 : (.fieldLink RX7 49 RX7 (TX7 23).2.1 (TX7 23).2.2.1 : Cond) ∈ TBLG := List.mem_filter.mpr ⟨List.mem_of_getElem? (i := 666) (by decide +kernel), by decide +kernel⟩
theorem wf7_52 : (.fieldLink RX7 52 RX7 (TX7 24).2.1 (TX7 24).2.2.1 : Cond) ∈ TBLG := List.mem_filter.mpr ⟨List.mem_of_getElem? (i := 667) (by decide +kernel), by decide +kernel⟩
theorem wf7_56 : (.fieldLink RX7 56 RX7 (TX7 32).2.1 (TX7 32).2.2.1 : Cond) ∈ TBLG := List.mem_filter.mpr ⟨List.mem_of_getElem? (i := 675) (by decide +kernel), by decide +kernel⟩
theorem wf7_59 : (.fieldLink RX7 59 RX7 (TX7 34).2.1 (TX7 34).2.2.1 : Cond) ∈ TBLG := List.mem_filter.mpr ⟨List.mem_of_getElem? (i := 677) (by decide +kernel), by decide +kernel⟩
theorem wf7_62 : (.fieldLink RX7 62 RX7 (TX7 35).2.1 (TX7 35).2.2.1 : Cond) ∈ TBLG := List.mem_filter.mpr ⟨List.mem_of_getElem? (i := 678) (by decide +kernel), by decide +kernel⟩
theorem wf7_65 : (.fieldLink RX7 65 RX7 (TX7 36).2.1 (TX7 36).2.2.1 : Cond) ∈ TBLG := List.mem_filter.mpr ⟨List.mem_of_getElem? (i := 679) (by decide +kernel), by decide +kernel⟩
theorem wf7_68 : (.fieldLink RX7 68 RX7 (TX7 38).2.1 (TX7 38).2.2.1 : Cond) ∈ TBLG := List.mem_filter.mpr ⟨List.mem_of_getElem? (i := 681) (by decide +kernel), by decide +kernel⟩
theorem wf7_71 : (.fieldLink RX7 71 RX7 (TX7 2).2.1 (TX7 2).2.2.1 : Cond) ∈ TBLG := List.mem_filter.mpr ⟨List.mem_of_getElem? (i := 645) (by decide +kernel), by decide +kernel⟩
theorem wf7_80 : (.fieldLink RX7 80 RX7 (TX7 4).2.1 (TX7 4).2.2.1 : Cond) ∈ TBLG := List.mem_filter.mpr ⟨List.mem_of_getElem? (i := 647) (by decide +kernel), by decide +kernel⟩
theorem wf7_84 : (.fieldLink RX7 84 RX7 (TX7 6).2.1 (TX7 6).2.2.1 : Cond) ∈ TBLG := List.mem_filter.mpr ⟨List.mem_of_getElem? (i := 649) (by decide +kernel), by decide +kernel⟩
theorem wf7_88 : (.fieldLink RX7 88 RX7 (TX7 7).2.1 (TX7 7).2.2.1 : Cond) ∈ TBLG := List.mem_filter.mpr ⟨List.mem_of_getElem? (i := 650) (by decide +kernel), by decide +kernel⟩
theorem wf7_91 : (.fieldLink RX7 91 RX7 (TX7 8).2.1 (TX7 8).2.2.1 : Cond) ∈ TBLG := List.mem_filter.mpr ⟨List.mem_of_getElem? (i := 651) (by decide +kernel), by decide +kernel⟩
theorem wf7_94 : (.fieldLink RX7 94 RX7 (TX7 12).2.1 (TX7 12).2.2.1 : Cond) ∈ TBLG := List.mem_filter.mpr ⟨List.mem_of_getElem? (i := 655) (by decide +kernel), by decide +kernel⟩
theorem wf7_101 : (.fieldLink RX7 101 RX7 (TX7 9).2.1 (TX7 9).2.2.1 : Cond) ∈ TBLG := List.mem_filter.mpr ⟨List.mem_of_getElem? (i := 652) (by decide +kernel), by decide +kernel⟩
theorem wf7_108 : (.fieldLink RX7 108 RX7 (TX7 14).2.1 (TX7 14).2.2.1 : Cond) ∈ TBLG := List.mem_filter.mpr ⟨List.mem_of_getElem? (i := 657) (by decide +kernel), by decide +kernel⟩
theorem wf7_115 : (.fieldLink RX7 115 RX7 (TX7 10).2.1 (TX7 10).2.2.1 : Cond) ∈ TBLG := List.mem_filter.mpr ⟨List.mem_of_getElem? (i := 653) (by decide +kernel), by decide +kernel⟩
theorem wf7_126 : (.fieldLink RX7 126 RX7 (TX7 15).2.1 (TX7 15).2.2.1 : Cond) ∈ TBLG := List.mem_filter.mpr ⟨List.mem_of_getElem? (i := 658) (by decide +kernel), by decide +kernel⟩
theorem wf7_200 : (.fieldLink RX7 200 RX7 (TX7 30).2.1 (TX7 30).2.2.1 : Cond) ∈ TBLG := List.mem_filter.mpr ⟨List.mem_of_getElem? (i := 673) (by decide +kernel), by decide +kernel⟩
theorem wf7_203 : (.fieldLink RX7 203 RX7 (TX7 25).2.1 (TX7 25).2.2.1 : Cond) ∈ TBLG := List.mem_filter.mpr ⟨List.mem_of_getElem? (i := 668) (by decide +kernel), by decide +kernel⟩
theorem wf7_206 : (.fieldLink RX7 206 RX7 (TX7 31).2.1 (TX7 31).2.2.1 : Cond) ∈ TBLG := List.mem_filter.mpr ⟨List.mem_of_getElem? (i := 674) (by decide +kernel), by decide +kernel⟩
theorem wf7_209 : (.fieldLink RX7 209 RX7 (TX7 33).2.1 (TX7 33).2.2.1 : Cond) ∈ TBLG := List.mem_filter.mpr ⟨List.mem_of_getElem? (i := 676) (by decide +kernel), by decide +kernel⟩
theorem wf7_212 : (.fieldLink RX7 212 RX7 (TX7 26).2.1 (TX7 26).2.2.1 : Cond) ∈ TBLG := List.mem_filter.mpr ⟨List.mem_of_getElem? (i := 669) (by decide +kernel), by decide +kernel⟩
theorem wf7_215 : (.fieldLink RX7 215 RX7 (TX7 27).2.1 (TX7 27).2.2.1 : Cond) ∈ TBLG := List.mem_filter.mpr ⟨List.mem_of_getElem? (i := 670) (by decide +kernel), by decide +kernel⟩
theorem wf7_218 : (.fieldLink RX7 218 RX7 (TX7 28).2.1 (TX7 28).2.2.1 : Cond) ∈ TBLG := List.mem_filter.mpr ⟨List.mem_of_getElem? (i := 671) (by decide +kernel), by decide +kernel⟩
theorem wf7_221 : (.fieldLink RX7 221 RX7 (TX7 29).2.1 (TX7 29).2.2.1 : Cond) ∈ TBLG := List.mem_filter.mpr ⟨List.mem_of_getElem? (i := 672) (by decide +kernel), by decide +kernel⟩
theorem wf7_224 : (.fieldLink RX7 224 RX7 (TX7 37).2.1 (TX7 37).2.2.1 : Cond) ∈ TBLG := List.mem_filter.mpr ⟨List.mem_of_getElem? (i := 680) (by decide +kernel), by decide +kernel⟩
theorem wk6_50 : (.constant RX6 50 (-1000001) : Cond) ∈ TBLG := List.mem_filter.mpr ⟨List.mem_of_getElem? (i := 300) (by decide +kernel), by decide +kernel⟩
theorem wk6_59 : (.constant RX6 59 (-1000003) : Cond) ∈ TBLG := List.mem_filter.mpr ⟨List.mem_of_getElem? (i := 305) (by decide +kernel), by decide +kernel⟩
theorem wk6_99 : (.constant RX6 99 (-1000002) : Cond) ∈ TBLG := List.mem_filter.mpr ⟨List.mem_of_getElem? (i := 494) (by decide +kernel), by decide +kernel⟩
theorem wk6_161 : (.constant RX6 161 (-1000009) : Cond) ∈ TBLG := List.mem_filter.mpr ⟨List.mem_of_getElem? (i := 560) (by decide +kernel), by decide +kernel⟩
theorem wk0_109 : (.constantLong RX0 109 (-99999) : Cond) ∈ TBLG := List.mem_filter.mpr ⟨List.mem_of_getElem? (i := 476) (by decide +kernel), by decide +kernel⟩
theorem wk0_111 : (.constantLong RX0 111 (99999) : Cond) ∈ TBLG := List.mem_filter.mpr ⟨List.mem_of_getElem? (i := 477) (by decide +kernel), by decide +kernel⟩
theorem wk7_79 : (.constant RX7 79 (-1000001) : Cond) ∈ TBLG := List.mem_filter.mpr ⟨List.mem_of_getElem? (i := 769) (by decide +kernel), by decide +kernel⟩
theorem wk7_83 : (.constant RX7 83 (-1000003) : Cond) ∈ TBLG := List.mem_filter.mpr ⟨List.mem_of_getElem? (i := 770) (by decide +kernel), by decide +kernel⟩
theorem wk7_87 : (.constant RX7 87 (-1000009) : Cond) ∈ TBLG := List.mem_filter.mpr ⟨List.mem_of_getElem? (i := 787) (by decide +kernel), by decide +kernel⟩
theorem wk7_160 : (.constant RX7 160 (-1000002) : Cond) ∈ TBLG := List.mem_filter.mpr ⟨List.mem_of_getElem? (i := 839) (by decide +kernel), by decide +kernel⟩
theorem wk7_170 : (.constantLong RX7 170 (99999) : Cond) ∈ TBLG := List.mem_filter.mpr ⟨List.mem_of_getElem? (i := 867) (by decide +kernel), by decide +kernel⟩
theorem wk7_172 : (.constantLong RX7 172 (-99999) : Cond) ∈ TBLG := List.mem_filter.mpr ⟨List.mem_of_getElem? (i := 868) (by decide +kernel), by decide +kernel⟩
theorem wm6_51 : (.methodLinkNest RX6 51 yX3_take RX6 : Cond) ∈ NWL := List.mem_filter.mpr ⟨List.mem_of_getElem? (i := 301) (by decide +kernel), by decide +kernel⟩
theorem wm6_60 : (.methodLinkNest RX6 60 yX3_readSheet RX6 : Cond) ∈ NWL := List.mem_filter.mpr ⟨List.mem_of_getElem? (i := 314) (by decide +kernel), by decide +kernel⟩
theorem wm6_67 : (.methodLink RX6 67 yX6_recordState : Cond) ∈ TBLG := List.mem_filter.mpr ⟨List.mem_of_getElem? (i := 373) (by decide +kernel), by decide +kernel⟩
theorem wm6_73 : (.methodLinkNest RX6 73 yX4_copyFormulas RX6 : Cond) ∈ NWL := List.mem_filter.mpr ⟨List.mem_of_getElem? (i := 411) (by decide +kernel), by decide +kernel⟩
theorem wm6_77 : (.methodLink RX6 77 yX6_workAnew : Cond) ∈ TBLG := List.mem_filter.mpr ⟨List.mem_of_getElem? (i := 412) (by decide +kernel), by decide +kernel⟩
theorem wm6_83 : (.methodLink RX6 83 yX6_isFormula : Cond) ∈ TBLG := List.mem_filter.mpr ⟨List.mem_of_getElem? (i := 488) (by decide +kernel), by decide +kernel⟩
theorem wm6_90 : (.methodLinkNest RX6 90 yX1_has RX6 : Cond) ∈ NWL := List.mem_filter.mpr ⟨List.mem_of_getElem? (i := 492) (by decide +kernel), by decide +kernel⟩
theorem wm6_95 : (.methodLinkNest RX6 95 yX1_kindOf RX6 : Cond) ∈ NWL := List.mem_filter.mpr ⟨List.mem_of_getElem? (i := 493) (by decide +kernel), by decide +kernel⟩
theorem wm6_100 : (.methodLinkNest RX6 100 yX1_exchange RX6 : Cond) ∈ NWL := List.mem_filter.mpr ⟨List.mem_of_getElem? (i := 495) (by decide +kernel), by decide +kernel⟩
theorem wm6_103 : (.methodLinkNest RX6 103 yX0_needOf RX6 : Cond) ∈ NWL := List.mem_filter.mpr ⟨List.mem_of_getElem? (i := 508) (by decide +kernel), by decide +kernel⟩
theorem wm6_106 : (.methodLink RX6 106 yX6_isCell : Cond) ∈ TBLG := List.mem_filter.mpr ⟨List.mem_of_getElem? (i := 513) (by decide +kernel), by decide +kernel⟩
theorem wm6_113 : (.methodLink RX6 113 yX6_arePlaces : Cond) ∈ TBLG := List.mem_filter.mpr ⟨List.mem_of_getElem? (i := 520) (by decide +kernel), by decide +kernel⟩
theorem wm6_122 : (.methodLinkNest RX6 122 yX4_copyState RX6 : Cond) ∈ NWL := List.mem_filter.mpr ⟨List.mem_of_getElem? (i := 381) (by decide +kernel), by decide +kernel⟩
theorem wm6_125 : (.methodLink RX6 125 yX6_cheapDefinitions : Cond) ∈ TBLG := List.mem_filter.mpr ⟨List.mem_of_getElem? (i := 531) (by decide +kernel), by decide +kernel⟩
theorem wm6_129 : (.methodLink RX6 129 yX6_nodesAsRead : Cond) ∈ TBLG := List.mem_filter.mpr ⟨List.mem_of_getElem? (i := 535) (by decide +kernel), by decide +kernel⟩
theorem wm6_132 : (.methodLink RX6 132 yX6_greatestNeed : Cond) ∈ TBLG := List.mem_filter.mpr ⟨List.mem_of_getElem? (i := 539) (by decide +kernel), by decide +kernel⟩
theorem wm6_146 : (.methodLinkNest RX6 146 yX0_valueOf RX6 : Cond) ∈ NWL := List.mem_filter.mpr ⟨List.mem_of_getElem? (i := 548) (by decide +kernel), by decide +kernel⟩
theorem wm6_149 : (.methodLinkNest RX6 149 yX0_depthOf RX6 : Cond) ∈ NWL := List.mem_filter.mpr ⟨List.mem_of_getElem? (i := 549) (by decide +kernel), by decide +kernel⟩
theorem wm6_152 : (.methodLink RX6 152 yX6_usesOf : Cond) ∈ TBLG := List.mem_filter.mpr ⟨List.mem_of_getElem? (i := 550) (by decide +kernel), by decide +kernel⟩
theorem wm6_155 : (.methodLink RX6 155 yX6_partsOf : Cond) ∈ TBLG := List.mem_filter.mpr ⟨List.mem_of_getElem? (i := 559) (by decide +kernel), by decide +kernel⟩
theorem wm6_158 : (.methodLinkNest RX6 158 yX1_contentOf RX6 : Cond) ∈ NWL := List.mem_filter.mpr ⟨List.mem_of_getElem? (i := 554) (by decide +kernel), by decide +kernel⟩
theorem wm6_162 : (.methodLinkNest RX6 162 yX0_rightOf RX6 : Cond) ∈ NWL := List.mem_filter.mpr ⟨List.mem_of_getElem? (i := 561) (by decide +kernel), by decide +kernel⟩
theorem wm6_165 : (.methodLinkNest RX6 165 yX0_sizeOf RX6 : Cond) ∈ NWL := List.mem_filter.mpr ⟨List.mem_of_getElem? (i := 562) (by decide +kernel), by decide +kernel⟩
theorem wm6_168 : (.methodLinkNest RX6 168 yX2_make RX6 : Cond) ∈ NWL := List.mem_filter.mpr ⟨List.mem_of_getElem? (i := 571) (by decide +kernel), by decide +kernel⟩
theorem wm6_185 : (.methodLinkNest RX6 185 yX2_has RX6 : Cond) ∈ NWL := List.mem_filter.mpr ⟨List.mem_of_getElem? (i := 595) (by decide +kernel), by decide +kernel⟩
theorem wm6_196 : (.methodLink RX6 196 yX6_refusalToTry : Cond) ∈ TBLG := List.mem_filter.mpr ⟨List.mem_of_getElem? (i := 611) (by decide +kernel), by decide +kernel⟩
theorem wm6_199 : (.methodLinkNest RX6 199 yX5_tryOrders RX6 : Cond) ∈ NWL := List.mem_filter.mpr ⟨List.mem_of_getElem? (i := 619) (by decide +kernel), by decide +kernel⟩
theorem wm6_207 : (.methodLinkNest RX6 207 yX0_pairs RX6 : Cond) ∈ NWL := List.mem_filter.mpr ⟨List.mem_of_getElem? (i := 615) (by decide +kernel), by decide +kernel⟩
theorem wm6_210 : (.methodLink RX6 210 yX6_dropOldestState : Cond) ∈ TBLG := List.mem_filter.mpr ⟨List.mem_of_getElem? (i := 377) (by decide +kernel), by decide +kernel⟩
theorem wm6_213 : (.methodLinkNest RX6 213 yX0_make RX6 : Cond) ∈ NWL := List.mem_filter.mpr ⟨List.mem_of_getElem? (i := 416) (by decide +kernel), by decide +kernel⟩
theorem wm6_216 : (.methodLinkNest RX6 216 yX0_measure RX6 : Cond) ∈ NWL := List.mem_filter.mpr ⟨List.mem_of_getElem? (i := 428) (by decide +kernel), by decide +kernel⟩
theorem wm6_220 : (.methodLink RX6 220 Lib.Math.max.name : Cond) ∈ TBLG := List.mem_filter.mpr ⟨List.mem_of_getElem? (i := 543) (by decide +kernel), by decide +kernel⟩
theorem wm0_37 : (.methodLink RX0 37 yX0_entry : Cond) ∈ TBLG := List.mem_filter.mpr ⟨List.mem_of_getElem? (i := 446) (by decide +kernel), by decide +kernel⟩
theorem wm0_41 : (.methodLink RX0 41 yX0_sizeOf : Cond) ∈ TBLG := List.mem_filter.mpr ⟨List.mem_of_getElem? (i := 453) (by decide +kernel), by decide +kernel⟩
theorem wm0_48 : (.methodLinkNest RX0 48 yX1_kindOf RX6 : Cond) ∈ NWL := List.mem_filter.mpr ⟨List.mem_of_getElem? (i := 421) (by decide +kernel), by decide +kernel⟩
theorem wm0_51 : (.methodLinkNest RX0 51 yX6_partsOf RX6 : Cond) ∈ NWL := List.mem_filter.mpr ⟨List.mem_of_getElem? (i := 435) (by decide +kernel), by decide +kernel⟩
theorem wm0_54 : (.methodLinkNest RX0 54 yX1_contentOf RX6 : Cond) ∈ NWL := List.mem_filter.mpr ⟨List.mem_of_getElem? (i := 420) (by decide +kernel), by decide +kernel⟩
theorem wm0_61 : (.methodLinkNest RX0 61 yX1_addAll RX6 : Cond) ∈ NWL := List.mem_filter.mpr ⟨List.mem_of_getElem? (i := 422) (by decide +kernel), by decide +kernel⟩
theorem wm0_65 : (.methodLinkNest RX0 65 yX1_add RX6 : Cond) ∈ NWL := List.mem_filter.mpr ⟨List.mem_of_getElem? (i := 423) (by decide +kernel), by decide +kernel⟩
theorem wm0_69 : (.methodLinkNest RX0 69 yX1_hasKind RX6 : Cond) ∈ NWL := List.mem_filter.mpr ⟨List.mem_of_getElem? (i := 424) (by decide +kernel), by decide +kernel⟩
theorem wm0_73 : (.methodLink RX0 73 Lib.Math.min.name : Cond) ∈ TBLG := List.mem_filter.mpr ⟨List.mem_of_getElem? (i := 432) (by decide +kernel), by decide +kernel⟩
theorem wm0_79 : (.methodLink RX0 79 yX0_put : Cond) ∈ TBLG := List.mem_filter.mpr ⟨List.mem_of_getElem? (i := 438) (by decide +kernel), by decide +kernel⟩
theorem wm0_83 : (.methodLink RX0 83 yX0_leafValue : Cond) ∈ TBLG := List.mem_filter.mpr ⟨List.mem_of_getElem? (i := 442) (by decide +kernel), by decide +kernel⟩
theorem wm0_87 : (.methodLink RX0 87 yX0_needOf : Cond) ∈ TBLG := List.mem_filter.mpr ⟨List.mem_of_getElem? (i := 457) (by decide +kernel), by decide +kernel⟩
theorem wm0_90 : (.methodLink RX0 90 yX0_depthOf : Cond) ∈ TBLG := List.mem_filter.mpr ⟨List.mem_of_getElem? (i := 461) (by decide +kernel), by decide +kernel⟩
theorem wm0_93 : (.methodLink RX0 93 yX0_valueOf : Cond) ∈ TBLG := List.mem_filter.mpr ⟨List.mem_of_getElem? (i := 449) (by decide +kernel), by decide +kernel⟩
theorem wm0_96 : (.methodLink RX0 96 yX0_rightOf : Cond) ∈ TBLG := List.mem_filter.mpr ⟨List.mem_of_getElem? (i := 465) (by decide +kernel), by decide +kernel⟩
theorem wm0_99 : (.methodLink RX0 99 Lib.Math.max.name : Cond) ∈ TBLG := List.mem_filter.mpr ⟨List.mem_of_getElem? (i := 469) (by decide +kernel), by decide +kernel⟩
theorem wm0_102 : (.methodLink RX0 102 yX0_needOfPair : Cond) ∈ TBLG := List.mem_filter.mpr ⟨List.mem_of_getElem? (i := 470) (by decide +kernel), by decide +kernel⟩
theorem wm0_105 : (.methodLink RX0 105 yX0_operate : Cond) ∈ TBLG := List.mem_filter.mpr ⟨List.mem_of_getElem? (i := 473) (by decide +kernel), by decide +kernel⟩
theorem wm0_113 : (.methodLink RX0 113 Lib.MathLoose.min_long.x : Cond) ∈ TBLG := List.mem_filter.mpr ⟨List.mem_of_getElem? (i := 478) (by decide +kernel), by decide +kernel⟩
theorem wm0_116 : (.methodLink RX0 116 Lib.MathLoose.max_long.x : Cond) ∈ TBLG := List.mem_filter.mpr ⟨List.mem_of_getElem? (i := 481) (by decide +kernel), by decide +kernel⟩
theorem wm1_15 : (.methodLink RX1 15 Lib.Math.max.name : Cond) ∈ TBLG := List.mem_filter.mpr ⟨List.mem_of_getElem? (i := 117) (by decide +kernel), by decide +kernel⟩
theorem wm1_28 : (.methodLink RX1 28 yX1_has : Cond) ∈ TBLG := List.mem_filter.mpr ⟨List.mem_of_getElem? (i := 401) (by decide +kernel), by decide +kernel⟩
theorem wm1_32 : (.methodLink RX1 32 yX1_kindOf : Cond) ∈ TBLG := List.mem_filter.mpr ⟨List.mem_of_getElem? (i := 397) (by decide +kernel), by decide +kernel⟩
theorem wm1_36 : (.methodLink RX1 36 yX1_isFull : Cond) ∈ TBLG := List.mem_filter.mpr ⟨List.mem_of_getElem? (i := 350) (by decide +kernel), by decide +kernel⟩
theorem wm1_40 : (.methodLink RX1 40 arraycopyName : Cond) ∈ TBLG := List.mem_filter.mpr ⟨List.mem_of_getElem? (i := 370) (by decide +kernel), by decide +kernel⟩
theorem wm1_46 : (.methodLink RX1 46 yX1_contentOf : Cond) ∈ TBLG := List.mem_filter.mpr ⟨List.mem_of_getElem? (i := 405) (by decide +kernel), by decide +kernel⟩
theorem wm1_49 : (.methodLink RX1 49 yX1_add : Cond) ∈ TBLG := List.mem_filter.mpr ⟨List.mem_of_getElem? (i := 409) (by decide +kernel), by decide +kernel⟩
theorem wm1_53 : (.methodLink RX1 53 yX1_addAll : Cond) ∈ TBLG := List.mem_filter.mpr ⟨List.mem_of_getElem? (i := 393) (by decide +kernel), by decide +kernel⟩
theorem wm1_57 : (.methodLinkNest RX1 57 yX6_partsOf RX6 : Cond) ∈ NWL := List.mem_filter.mpr ⟨List.mem_of_getElem? (i := 503) (by decide +kernel), by decide +kernel⟩
theorem wm1_60 : (.methodLink RX1 60 yX1_behind : Cond) ∈ TBLG := List.mem_filter.mpr ⟨List.mem_of_getElem? (i := 499) (by decide +kernel), by decide +kernel⟩
theorem wm1_63 : (.methodLink RX1 63 yX1_turnAround : Cond) ∈ TBLG := List.mem_filter.mpr ⟨List.mem_of_getElem? (i := 504) (by decide +kernel), by decide +kernel⟩
theorem wm2_49 : (.methodLink RX2 49 yX2_workOut : Cond) ∈ TBLG := List.mem_filter.mpr ⟨List.mem_of_getElem? (i := 575) (by decide +kernel), by decide +kernel⟩
theorem wm2_53 : (.methodLink RX2 53 yX2_addStep : Cond) ∈ TBLG := List.mem_filter.mpr ⟨List.mem_of_getElem? (i := 581) (by decide +kernel), by decide +kernel⟩
theorem wm2_60 : (.methodLinkNest RX2 60 yX1_kindOf RX6 : Cond) ∈ NWL := List.mem_filter.mpr ⟨List.mem_of_getElem? (i := 579) (by decide +kernel), by decide +kernel⟩
theorem wm2_66 : (.methodLinkNest RX2 66 yX6_partsOf RX6 : Cond) ∈ NWL := List.mem_filter.mpr ⟨List.mem_of_getElem? (i := 580) (by decide +kernel), by decide +kernel⟩
theorem wm2_69 : (.methodLink RX2 69 yX2_workOutParts : Cond) ∈ TBLG := List.mem_filter.mpr ⟨List.mem_of_getElem? (i := 585) (by decide +kernel), by decide +kernel⟩
theorem wm2_72 : (.methodLinkNest RX2 72 yX0_rightOf RX6 : Cond) ∈ NWL := List.mem_filter.mpr ⟨List.mem_of_getElem? (i := 589) (by decide +kernel), by decide +kernel⟩
theorem wm2_75 : (.methodLinkNest RX2 75 yX0_needOf RX6 : Cond) ∈ NWL := List.mem_filter.mpr ⟨List.mem_of_getElem? (i := 590) (by decide +kernel), by decide +kernel⟩
theorem wm3_29 : (.methodLink RX3 29 yX3_sign : Cond) ∈ TBLG := List.mem_filter.mpr ⟨List.mem_of_getElem? (i := 322) (by decide +kernel), by decide +kernel⟩
theorem wm3_42 : (.methodLink RX3 42 yX3_pass : Cond) ∈ TBLG := List.mem_filter.mpr ⟨List.mem_of_getElem? (i := 318) (by decide +kernel), by decide +kernel⟩
theorem wm3_46 : (.methodLink RX3 46 yX3_readSum : Cond) ∈ TBLG := List.mem_filter.mpr ⟨List.mem_of_getElem? (i := 326) (by decide +kernel), by decide +kernel⟩
theorem wm3_53 : (.methodLink RX3 53 yX3_readProduct : Cond) ∈ TBLG := List.mem_filter.mpr ⟨List.mem_of_getElem? (i := 330) (by decide +kernel), by decide +kernel⟩
theorem wm3_56 : (.methodLink RX3 56 yX3_readOperation : Cond) ∈ TBLG := List.mem_filter.mpr ⟨List.mem_of_getElem? (i := 362) (by decide +kernel), by decide +kernel⟩
theorem wm3_59 : (.methodLink RX3 59 yX3_readFactor : Cond) ∈ TBLG := List.mem_filter.mpr ⟨List.mem_of_getElem? (i := 334) (by decide +kernel), by decide +kernel⟩
theorem wm3_62 : (.methodLinkNest RX3 62 yX1_insert RX6 : Cond) ∈ NWL := List.mem_filter.mpr ⟨List.mem_of_getElem? (i := 366) (by decide +kernel), by decide +kernel⟩
theorem wm3_66 : (.methodLink RX3 66 yX3_readNested : Cond) ∈ TBLG := List.mem_filter.mpr ⟨List.mem_of_getElem? (i := 338) (by decide +kernel), by decide +kernel⟩
theorem wm3_69 : (.methodLink RX3 69 yX3_readLeaf : Cond) ∈ TBLG := List.mem_filter.mpr ⟨List.mem_of_getElem? (i := 351) (by decide +kernel), by decide +kernel⟩
theorem wm3_73 : (.methodLinkNest RX3 73 yX1_isFull RX6 : Cond) ∈ NWL := List.mem_filter.mpr ⟨List.mem_of_getElem? (i := 342) (by decide +kernel), by decide +kernel⟩
theorem wm3_77 : (.methodLinkNest RX3 77 yX1_add RX6 : Cond) ∈ NWL := List.mem_filter.mpr ⟨List.mem_of_getElem? (i := 346) (by decide +kernel), by decide +kernel⟩
theorem wm3_81 : (.methodLink RX3 81 yX3_isDigit : Cond) ∈ TBLG := List.mem_filter.mpr ⟨List.mem_of_getElem? (i := 355) (by decide +kernel), by decide +kernel⟩
theorem wm3_84 : (.methodLink RX3 84 yX3_readNumber : Cond) ∈ TBLG := List.mem_filter.mpr ⟨List.mem_of_getElem? (i := 358) (by decide +kernel), by decide +kernel⟩
theorem wm4_31 : (.methodLinkNest RX4 31 yX1_copy RX6 : Cond) ∈ NWL := List.mem_filter.mpr ⟨List.mem_of_getElem? (i := 389) (by decide +kernel), by decide +kernel⟩
theorem wm4_35 : (.methodLink RX4 35 yX4_copyFormulas : Cond) ∈ TBLG := List.mem_filter.mpr ⟨List.mem_of_getElem? (i := 385) (by decide +kernel), by decide +kernel⟩
theorem wm4_39 : (.methodLink RX4 39 arraycopyName : Cond) ∈ TBLG := List.mem_filter.mpr ⟨List.mem_of_getElem? (i := 410) (by decide +kernel), by decide +kernel⟩
theorem wm5_22 : (.methodLink RX5 22 arraycopyName : Cond) ∈ TBLG := List.mem_filter.mpr ⟨List.mem_of_getElem? (i := 623) (by decide +kernel), by decide +kernel⟩
theorem wm5_39 : (.methodLink RX5 39 Lib.Math.min.name : Cond) ∈ TBLG := List.mem_filter.mpr ⟨List.mem_of_getElem? (i := 624) (by decide +kernel), by decide +kernel⟩
theorem wm5_45 : (.methodLink RX5 45 yX5_waysFor : Cond) ∈ TBLG := List.mem_filter.mpr ⟨List.mem_of_getElem? (i := 625) (by decide +kernel), by decide +kernel⟩
theorem wm5_49 : (.methodLinkNest RX5 49 yX1_kindOf RX6 : Cond) ∈ NWL := List.mem_filter.mpr ⟨List.mem_of_getElem? (i := 629) (by decide +kernel), by decide +kernel⟩
theorem wm5_53 : (.methodLinkNest RX5 53 yX6_partsOf RX6 : Cond) ∈ NWL := List.mem_filter.mpr ⟨List.mem_of_getElem? (i := 630) (by decide +kernel), by decide +kernel⟩
theorem wm5_56 : (.methodLinkNest RX5 56 yX0_entry RX6 : Cond) ∈ NWL := List.mem_filter.mpr ⟨List.mem_of_getElem? (i := 631) (by decide +kernel), by decide +kernel⟩
theorem wm5_60 : (.methodLinkNest RX5 60 yX0_rightOf RX6 : Cond) ∈ NWL := List.mem_filter.mpr ⟨List.mem_of_getElem? (i := 632) (by decide +kernel), by decide +kernel⟩
theorem wmL_9 : (.methodLink RL 9 yX6_init : Cond) ∈ TBLG := List.mem_filter.mpr ⟨List.mem_of_getElem? (i := 92) (by decide +kernel), by decide +kernel⟩
theorem wmL_12 : (.methodLink RL 12 yX7_init : Cond) ∈ TBLG := List.mem_filter.mpr ⟨List.mem_of_getElem? (i := 639) (by decide +kernel), by decide +kernel⟩
theorem wmL_13 : (.methodLink RL 13 yX6_append : Cond) ∈ TBLG := List.mem_filter.mpr ⟨List.mem_of_getElem? (i := 296) (by decide +kernel), by decide +kernel⟩
theorem wmL_17 : (.methodLink RL 17 yX7_append : Cond) ∈ TBLG := List.mem_filter.mpr ⟨List.mem_of_getElem? (i := 762) (by decide +kernel), by decide +kernel⟩
theorem wmL_18 : (.methodLink RL 18 yX6_clearText : Cond) ∈ TBLG := List.mem_filter.mpr ⟨List.mem_of_getElem? (i := 306) (by decide +kernel), by decide +kernel⟩
theorem wmL_22 : (.methodLink RL 22 yX7_clearText : Cond) ∈ TBLG := List.mem_filter.mpr ⟨List.mem_of_getElem? (i := 771) (by decide +kernel), by decide +kernel⟩
theorem wmL_23 : (.methodLink RL 23 yX6_read : Cond) ∈ TBLG := List.mem_filter.mpr ⟨List.mem_of_getElem? (i := 310) (by decide +kernel), by decide +kernel⟩
theorem wmL_26 : (.methodLink RL 26 yX7_read : Cond) ∈ TBLG := List.mem_filter.mpr ⟨List.mem_of_getElem? (i := 775) (by decide +kernel), by decide +kernel⟩
theorem wmL_27 : (.methodLink RL 27 yX6_turn : Cond) ∈ TBLG := List.mem_filter.mpr ⟨List.mem_of_getElem? (i := 484) (by decide +kernel), by decide +kernel⟩
theorem wmL_31 : (.methodLink RL 31 yX7_turn : Cond) ∈ TBLG := List.mem_filter.mpr ⟨List.mem_of_getElem? (i := 827) (by decide +kernel), by decide +kernel⟩
theorem wmL_32 : (.methodLink RL 32 yX6_setCell : Cond) ∈ TBLG := List.mem_filter.mpr ⟨List.mem_of_getElem? (i := 509) (by decide +kernel), by decide +kernel⟩
theorem wmL_35 : (.methodLink RL 35 yX7_setCell : Cond) ∈ TBLG := List.mem_filter.mpr ⟨List.mem_of_getElem? (i := 869) (by decide +kernel), by decide +kernel⟩
theorem wmL_36 : (.methodLink RL 36 yX6_setPlaces : Cond) ∈ TBLG := List.mem_filter.mpr ⟨List.mem_of_getElem? (i := 516) (by decide +kernel), by decide +kernel⟩
theorem wmL_39 : (.methodLink RL 39 yX7_setPlaces : Cond) ∈ TBLG := List.mem_filter.mpr ⟨List.mem_of_getElem? (i := 876) (by decide +kernel), by decide +kernel⟩
theorem wmL_40 : (.methodLink RL 40 yX6_undo : Cond) ∈ TBLG := List.mem_filter.mpr ⟨List.mem_of_getElem? (i := 523) (by decide +kernel), by decide +kernel⟩
theorem wmL_43 : (.methodLink RL 43 yX7_undo : Cond) ∈ TBLG := List.mem_filter.mpr ⟨List.mem_of_getElem? (i := 880) (by decide +kernel), by decide +kernel⟩
theorem wmL_44 : (.methodLink RL 44 yX6_count : Cond) ∈ TBLG := List.mem_filter.mpr ⟨List.mem_of_getElem? (i := 527) (by decide +kernel), by decide +kernel⟩
theorem wmL_47 : (.methodLink RL 47 yX7_count : Cond) ∈ TBLG := List.mem_filter.mpr ⟨List.mem_of_getElem? (i := 884) (by decide +kernel), by decide +kernel⟩
theorem wmL_48 : (.methodLink RL 48 yX6_formula : Cond) ∈ TBLG := List.mem_filter.mpr ⟨List.mem_of_getElem? (i := 544) (by decide +kernel), by decide +kernel⟩
theorem wmL_51 : (.methodLink RL 51 yX7_formula : Cond) ∈ TBLG := List.mem_filter.mpr ⟨List.mem_of_getElem? (i := 896) (by decide +kernel), by decide +kernel⟩
theorem wmL_52 : (.methodLink RL 52 yX6_node : Cond) ∈ TBLG := List.mem_filter.mpr ⟨List.mem_of_getElem? (i := 555) (by decide +kernel), by decide +kernel⟩
theorem wmL_56 : (.methodLink RL 56 yX7_node : Cond) ∈ TBLG := List.mem_filter.mpr ⟨List.mem_of_getElem? (i := 904) (by decide +kernel), by decide +kernel⟩
theorem wmL_57 : (.methodLink RL 57 yX6_cell : Cond) ∈ TBLG := List.mem_filter.mpr ⟨List.mem_of_getElem? (i := 563) (by decide +kernel), by decide +kernel⟩
theorem wmL_60 : (.methodLink RL 60 yX7_cell : Cond) ∈ TBLG := List.mem_filter.mpr ⟨List.mem_of_getElem? (i := 908) (by decide +kernel), by decide +kernel⟩
theorem wmL_61 : (.methodLink RL 61 yX6_plan : Cond) ∈ TBLG := List.mem_filter.mpr ⟨List.mem_of_getElem? (i := 567) (by decide +kernel), by decide +kernel⟩
theorem wmL_64 : (.methodLink RL 64 yX7_plan : Cond) ∈ TBLG := List.mem_filter.mpr ⟨List.mem_of_getElem? (i := 912) (by decide +kernel), by decide +kernel⟩
theorem wmL_65 : (.methodLink RL 65 yX6_step : Cond) ∈ TBLG := List.mem_filter.mpr ⟨List.mem_of_getElem? (i := 591) (by decide +kernel), by decide +kernel⟩
theorem wmL_68 : (.methodLink RL 68 yX7_step : Cond) ∈ TBLG := List.mem_filter.mpr ⟨List.mem_of_getElem? (i := 932) (by decide +kernel), by decide +kernel⟩
theorem wmL_69 : (.methodLink RL 69 yX6_costWith : Cond) ∈ TBLG := List.mem_filter.mpr ⟨List.mem_of_getElem? (i := 599) (by decide +kernel), by decide +kernel⟩
theorem wmL_72 : (.methodLink RL 72 yX7_costWith : Cond) ∈ TBLG := List.mem_filter.mpr ⟨List.mem_of_getElem? (i := 936) (by decide +kernel), by decide +kernel⟩
theorem wmL_73 : (.methodLink RL 73 yX6_enough : Cond) ∈ TBLG := List.mem_filter.mpr ⟨List.mem_of_getElem? (i := 603) (by decide +kernel), by decide +kernel⟩
theorem wmL_76 : (.methodLink RL 76 yX7_enough : Cond) ∈ TBLG := List.mem_filter.mpr ⟨List.mem_of_getElem? (i := 940) (by decide +kernel), by decide +kernel⟩
theorem wmL_77 : (.methodLink RL 77 yX6_proved : Cond) ∈ TBLG := List.mem_filter.mpr ⟨List.mem_of_getElem? (i := 607) (by decide +kernel), by decide +kernel⟩
theorem wmL_80 : (.methodLink RL 80 yX7_proved : Cond) ∈ TBLG := List.mem_filter.mpr ⟨List.mem_of_getElem? (i := 944) (by decide +kernel), by decide +kernel⟩
theorem wmL_81 : (.methodLink RL 81 yX6_ways : Cond) ∈ TBLG := List.mem_filter.mpr ⟨List.mem_of_getElem? (i := 633) (by decide +kernel), by decide +kernel⟩
theorem wmL_84 : (.methodLink RL 84 yX7_ways : Cond) ∈ TBLG := List.mem_filter.mpr ⟨List.mem_of_getElem? (i := 956) (by decide +kernel), by decide +kernel⟩
theorem wm7_75 : (.methodLink RX7 75 yX7_in : Cond) ∈ TBLG := List.mem_filter.mpr ⟨List.mem_of_getElem? (i := 766) (by decide +kernel), by decide +kernel⟩
theorem wm7_97 : (.methodLink RX7 97 yX7_puts : Cond) ∈ TBLG := List.mem_filter.mpr ⟨List.mem_of_getElem? (i := 804) (by decide +kernel), by decide +kernel⟩
theorem wm7_104 : (.methodLink RX7 104 yX7_kindOf : Cond) ∈ TBLG := List.mem_filter.mpr ⟨List.mem_of_getElem? (i := 816) (by decide +kernel), by decide +kernel⟩
theorem wm7_111 : (.methodLink RX7 111 yX7_makes : Cond) ∈ TBLG := List.mem_filter.mpr ⟨List.mem_of_getElem? (i := 812) (by decide +kernel), by decide +kernel⟩
theorem wm7_118 : (.methodLink RX7 118 yX7_here : Cond) ∈ TBLG := List.mem_filter.mpr ⟨List.mem_of_getElem? (i := 783) (by decide +kernel), by decide +kernel⟩
theorem wm7_122 : (.methodLink RX7 122 yX7_leaf : Cond) ∈ TBLG := List.mem_filter.mpr ⟨List.mem_of_getElem? (i := 800) (by decide +kernel), by decide +kernel⟩
theorem wm7_130 : (.methodLink RX7 130 yX7_number : Cond) ∈ TBLG := List.mem_filter.mpr ⟨List.mem_of_getElem? (i := 796) (by decide +kernel), by decide +kernel⟩
theorem wm7_134 : (.methodLink RX7 134 yX7_factor : Cond) ∈ TBLG := List.mem_filter.mpr ⟨List.mem_of_getElem? (i := 792) (by decide +kernel), by decide +kernel⟩
theorem wm7_137 : (.methodLink RX7 137 yX7_settles : Cond) ∈ TBLG := List.mem_filter.mpr ⟨List.mem_of_getElem? (i := 808) (by decide +kernel), by decide +kernel⟩
theorem wm7_140 : (.methodLink RX7 140 yX7_isOpen : Cond) ∈ TBLG := List.mem_filter.mpr ⟨List.mem_of_getElem? (i := 819) (by decide +kernel), by decide +kernel⟩
theorem wm7_143 : (.methodLink RX7 143 yX7_formulaRead : Cond) ∈ TBLG := List.mem_filter.mpr ⟨List.mem_of_getElem? (i := 788) (by decide +kernel), by decide +kernel⟩
theorem wm7_146 : (.methodLink RX7 146 yX7_reads : Cond) ∈ TBLG := List.mem_filter.mpr ⟨List.mem_of_getElem? (i := 779) (by decide +kernel), by decide +kernel⟩
theorem wm7_149 : (.methodLink RX7 149 yX7_acts : Cond) ∈ TBLG := List.mem_filter.mpr ⟨List.mem_of_getElem? (i := 823) (by decide +kernel), by decide +kernel⟩
theorem wm7_152 : (.methodLink RX7 152 yX7_kindAt : Cond) ∈ TBLG := List.mem_filter.mpr ⟨List.mem_of_getElem? (i := 835) (by decide +kernel), by decide +kernel⟩
theorem wm7_156 : (.methodLink RX7 156 yX7_isFormula : Cond) ∈ TBLG := List.mem_filter.mpr ⟨List.mem_of_getElem? (i := 831) (by decide +kernel), by decide +kernel⟩
theorem wm7_161 : (.methodLink RX7 161 yX7_sizeAt : Cond) ∈ TBLG := List.mem_filter.mpr ⟨List.mem_of_getElem? (i := 840) (by decide +kernel), by decide +kernel⟩
theorem wm7_164 : (.methodLink RX7 164 yX7_lays : Cond) ∈ TBLG := List.mem_filter.mpr ⟨List.mem_of_getElem? (i := 844) (by decide +kernel), by decide +kernel⟩
theorem wm7_167 : (.methodLink RX7 167 yX7_isCell : Cond) ∈ TBLG := List.mem_filter.mpr ⟨List.mem_of_getElem? (i := 873) (by decide +kernel), by decide +kernel⟩
theorem wm7_174 : (.methodLink RX7 174 yX7_copies : Cond) ∈ TBLG := List.mem_filter.mpr ⟨List.mem_of_getElem? (i := 852) (by decide +kernel), by decide +kernel⟩
theorem wm7_177 : (.methodLink RX7 177 yX7_joins : Cond) ∈ TBLG := List.mem_filter.mpr ⟨List.mem_of_getElem? (i := 860) (by decide +kernel), by decide +kernel⟩
theorem wm7_180 : (.methodLink RX7 180 yX7_cut : Cond) ∈ TBLG := List.mem_filter.mpr ⟨List.mem_of_getElem? (i := 864) (by decide +kernel), by decide +kernel⟩
theorem wm7_184 : (.methodLink RX7 184 yX7_expands : Cond) ∈ TBLG := List.mem_filter.mpr ⟨List.mem_of_getElem? (i := 848) (by decide +kernel), by decide +kernel⟩
theorem wm7_187 : (.methodLink RX7 187 yX7_tells : Cond) ∈ TBLG := List.mem_filter.mpr ⟨List.mem_of_getElem? (i := 856) (by decide +kernel), by decide +kernel⟩
theorem wm7_191 : (.methodLink RX7 191 yX7_cheapOnes : Cond) ∈ TBLG := List.mem_filter.mpr ⟨List.mem_of_getElem? (i := 888) (by decide +kernel), by decide +kernel⟩
theorem wm7_194 : (.methodLink RX7 194 yX7_greatestNeed : Cond) ∈ TBLG := List.mem_filter.mpr ⟨List.mem_of_getElem? (i := 892) (by decide +kernel), by decide +kernel⟩
theorem wm7_197 : (.methodLink RX7 197 yX7_uses : Cond) ∈ TBLG := List.mem_filter.mpr ⟨List.mem_of_getElem? (i := 900) (by decide +kernel), by decide +kernel⟩
theorem wm7_227 : (.methodLink RX7 227 yX7_does : Cond) ∈ TBLG := List.mem_filter.mpr ⟨List.mem_of_getElem? (i := 928) (by decide +kernel), by decide +kernel⟩
theorem wm7_231 : (.methodLink RX7 231 yX7_pushes : Cond) ∈ TBLG := List.mem_filter.mpr ⟨List.mem_of_getElem? (i := 920) (by decide +kernel), by decide +kernel⟩
theorem wm7_234 : (.methodLink RX7 234 yX7_goesOn : Cond) ∈ TBLG := List.mem_filter.mpr ⟨List.mem_of_getElem? (i := 924) (by decide +kernel), by decide +kernel⟩
theorem wm7_237 : (.methodLink RX7 237 yX7_plans : Cond) ∈ TBLG := List.mem_filter.mpr ⟨List.mem_of_getElem? (i := 916) (by decide +kernel), by decide +kernel⟩
theorem wm7_240 : (.methodLink RX7 240 yX7_tries : Cond) ∈ TBLG := List.mem_filter.mpr ⟨List.mem_of_getElem? (i := 948) (by decide +kernel), by decide +kernel⟩
theorem wm7_243 : (.methodLink RX7 243 yX7_fewest : Cond) ∈ TBLG := List.mem_filter.mpr ⟨List.mem_of_getElem? (i := 952) (by decide +kernel), by decide +kernel⟩
theorem wiX6_init : (.instanceMethod yX6_init : Cond) ∈ TBLG := List.mem_filter.mpr ⟨List.mem_of_getElem? (i := 93) (by decide +kernel), by decide +kernel⟩
theorem wcX6_init : (.code yX6_init cX6_init 2 none : Cond) ∈ TBLG := List.mem_filter.mpr ⟨List.mem_of_getElem? (i := 94) (by decide +kernel), by decide +kernel⟩
theorem wiX6_append : (.instanceMethod yX6_append : Cond) ∈ TBLG := List.mem_filter.mpr ⟨List.mem_of_getElem? (i := 297) (by decide +kernel), by decide +kernel⟩
theorem wvX6_append : (.selects RX6 yX6_append yX6_append : Cond) ∈ TBLG := List.mem_filter.mpr ⟨List.mem_of_getElem? (i := 298) (by decide +kernel), by decide +kernel⟩
theorem wcX6_append : (.code yX6_append cX6_append 2 (some .int) : Cond) ∈ TBLG := List.mem_filter.mpr ⟨List.mem_of_getElem? (i := 299) (by decide +kernel), by decide +kernel⟩
theorem wsX6_arePlaces : (.static yX6_arePlaces : Cond) ∈ TBLG := List.mem_filter.mpr ⟨List.mem_of_getElem? (i := 521) (by decide +kernel), by decide +kernel⟩
theorem wcX6_arePlaces : (.code yX6_arePlaces cX6_arePlaces 1 (some .boolean) : Cond) ∈ TBLG := List.mem_filter.mpr ⟨List.mem_of_getElem? (i := 522) (by decide +kernel), by decide +kernel⟩
theorem wiX6_cell : (.instanceMethod yX6_cell : Cond) ∈ TBLG := List.mem_filter.mpr ⟨List.mem_of_getElem? (i := 564) (by decide +kernel), by decide +kernel⟩
theorem wvX6_cell : (.selects RX6 yX6_cell yX6_cell : Cond) ∈ TBLG := List.mem_filter.mpr ⟨List.mem_of_getElem? (i := 565) (by decide +kernel), by decide +kernel⟩
theorem wcX6_cell : (.code yX6_cell cX6_cell 2 (some .int) : Cond) ∈ TBLG := List.mem_filter.mpr ⟨List.mem_of_getElem? (i := 566) (by decide +kernel), by decide +kernel⟩
theorem wiX6_cheapDefinitions : (.instanceMethod yX6_cheapDefinitions : Cond) ∈ TBLG := List.mem_filter.mpr ⟨List.mem_of_getElem? (i := 533) (by decide +kernel), by decide +kernel⟩
theorem wvX6_cheapDefinitions : (.selects RX6 yX6_cheapDefinitions yX6_cheapDefinitions : Cond) ∈ TBLG := List.mem_filter.mpr ⟨List.mem_of_getElem? (i := 38) (by decide +kernel), by decide +kernel⟩
theorem wcX6_cheapDefinitions : (.code yX6_cheapDefinitions cX6_cheapDefinitions 3 (some .int) : Cond) ∈ TBLG := List.mem_filter.mpr ⟨List.mem_of_getElem? (i := 534) (by decide +kernel), by decide +kernel⟩
theorem wiX6_clearText : (.instanceMethod yX6_clearText : Cond) ∈ TBLG := List.mem_filter.mpr ⟨List.mem_of_getElem? (i := 307) (by decide +kernel), by decide +kernel⟩
theorem wvX6_clearText : (.selects RX6 yX6_clearText yX6_clearText : Cond) ∈ TBLG := List.mem_filter.mpr ⟨List.mem_of_getElem? (i := 308) (by decide +kernel), by decide +kernel⟩
theorem wcX6_clearText : (.code yX6_clearText cX6_clearText 2 (some .int) : Cond) ∈ TBLG := List.mem_filter.mpr ⟨List.mem_of_getElem? (i := 309) (by decide +kernel), by decide +kernel⟩
theorem wiX6_costWith : (.instanceMethod yX6_costWith : Cond) ∈ TBLG := List.mem_filter.mpr ⟨List.mem_of_getElem? (i := 600) (by decide +kernel), by decide +kernel⟩
theorem wvX6_costWith : (.selects RX6 yX6_costWith yX6_costWith : Cond) ∈ TBLG := List.mem_filter.mpr ⟨List.mem_of_getElem? (i := 601) (by decide +kernel), by decide +kernel⟩
theorem wcX6_costWith : (.code yX6_costWith cX6_costWith 2 (some .int) : Cond) ∈ TBLG := List.mem_filter.mpr ⟨List.mem_of_getElem? (i := 602) (by decide +kernel), by decide +kernel⟩
theorem wiX6_count : (.instanceMethod yX6_count : Cond) ∈ TBLG := List.mem_filter.mpr ⟨List.mem_of_getElem? (i := 528) (by decide +kernel), by decide +kernel⟩
theorem wvX6_count : (.selects RX6 yX6_count yX6_count : Cond) ∈ TBLG := List.mem_filter.mpr ⟨List.mem_of_getElem? (i := 529) (by decide +kernel), by decide +kernel⟩
theorem wcX6_count : (.code yX6_count cX6_count 2 (some .int) : Cond) ∈ TBLG := List.mem_filter.mpr ⟨List.mem_of_getElem? (i := 530) (by decide +kernel), by decide +kernel⟩
theorem wiX6_dropOldestState : (.instanceMethod yX6_dropOldestState : Cond) ∈ TBLG := List.mem_filter.mpr ⟨List.mem_of_getElem? (i := 379) (by decide +kernel), by decide +kernel⟩
theorem wvX6_dropOldestState : (.selects RX6 yX6_dropOldestState yX6_dropOldestState : Cond) ∈ TBLG := List.mem_filter.mpr ⟨List.mem_of_getElem? (i := 15) (by decide +kernel), by decide +kernel⟩
theorem wcX6_dropOldestState : (.code yX6_dropOldestState cX6_dropOldestState 3 none : Cond) ∈ TBLG := List.mem_filter.mpr ⟨List.mem_of_getElem? (i := 380) (by decide +kernel), by decide +kernel⟩
theorem wiX6_enough : (.instanceMethod yX6_enough : Cond) ∈ TBLG := List.mem_filter.mpr ⟨List.mem_of_getElem? (i := 604) (by decide +kernel), by decide +kernel⟩
theorem wvX6_enough : (.selects RX6 yX6_enough yX6_enough : Cond) ∈ TBLG := List.mem_filter.mpr ⟨List.mem_of_getElem? (i := 605) (by decide +kernel), by decide +kernel⟩
theorem wcX6_enough : (.code yX6_enough cX6_enough 2 (some .int) : Cond) ∈ TBLG := List.mem_filter.mpr ⟨List.mem_of_getElem? (i := 606) (by decide +kernel), by decide +kernel⟩
theorem wiX6_formula : (.instanceMethod yX6_formula : Cond) ∈ TBLG := List.mem_filter.mpr ⟨List.mem_of_getElem? (i := 545) (by decide +kernel), by decide +kernel⟩
theorem wvX6_formula : (.selects RX6 yX6_formula yX6_formula : Cond) ∈ TBLG := List.mem_filter.mpr ⟨List.mem_of_getElem? (i := 546) (by decide +kernel), by decide +kernel⟩
theorem wcX6_formula : (.code yX6_formula cX6_formula 4 (some .int) : Cond) ∈ TBLG := List.mem_filter.mpr ⟨List.mem_of_getElem? (i := 547) (by decide +kernel), by decide +kernel⟩
theorem wiX6_greatestNeed : (.instanceMethod yX6_greatestNeed : Cond) ∈ TBLG := List.mem_filter.mpr ⟨List.mem_of_getElem? (i := 541) (by decide +kernel), by decide +kernel⟩
theorem wvX6_greatestNeed : (.selects RX6 yX6_greatestNeed yX6_greatestNeed : Cond) ∈ TBLG := List.mem_filter.mpr ⟨List.mem_of_getElem? (i := 40) (by decide +kernel), by decide +kernel⟩
theorem wcX6_greatestNeed : (.code yX6_greatestNeed cX6_greatestNeed 3 (some .int) : Cond) ∈ TBLG := List.mem_filter.mpr ⟨List.mem_of_getElem? (i := 542) (by decide +kernel), by decide +kernel⟩
theorem wsX6_isCell : (.static yX6_isCell : Cond) ∈ TBLG := List.mem_filter.mpr ⟨List.mem_of_getElem? (i := 514) (by decide +kernel), by decide +kernel⟩
theorem wcX6_isCell : (.code yX6_isCell cX6_isCell 1 (some .boolean) : Cond) ∈ TBLG := List.mem_filter.mpr ⟨List.mem_of_getElem? (i := 515) (by decide +kernel), by decide +kernel⟩
theorem wiX6_isFormula : (.instanceMethod yX6_isFormula : Cond) ∈ TBLG := List.mem_filter.mpr ⟨List.mem_of_getElem? (i := 490) (by decide +kernel), by decide +kernel⟩
theorem wvX6_isFormula : (.selects RX6 yX6_isFormula yX6_isFormula : Cond) ∈ TBLG := List.mem_filter.mpr ⟨List.mem_of_getElem? (i := 34) (by decide +kernel), by decide +kernel⟩
theorem wcX6_isFormula : (.code yX6_isFormula cX6_isFormula 2 (some .boolean) : Cond) ∈ TBLG := List.mem_filter.mpr ⟨List.mem_of_getElem? (i := 491) (by decide +kernel), by decide +kernel⟩
theorem wiX6_node : (.instanceMethod yX6_node : Cond) ∈ TBLG := List.mem_filter.mpr ⟨List.mem_of_getElem? (i := 556) (by decide +kernel), by decide +kernel⟩
theorem wvX6_node : (.selects RX6 yX6_node yX6_node : Cond) ∈ TBLG := List.mem_filter.mpr ⟨List.mem_of_getElem? (i := 557) (by decide +kernel), by decide +kernel⟩
theorem wcX6_node : (.code yX6_node cX6_node 6 (some .int) : Cond) ∈ TBLG := List.mem_filter.mpr ⟨List.mem_of_getElem? (i := 558) (by decide +kernel), by decide +kernel⟩
theorem wiX6_nodesAsRead : (.instanceMethod yX6_nodesAsRead : Cond) ∈ TBLG := List.mem_filter.mpr ⟨List.mem_of_getElem? (i := 537) (by decide +kernel), by decide +kernel⟩
theorem wvX6_nodesAsRead : (.selects RX6 yX6_nodesAsRead yX6_nodesAsRead : Cond) ∈ TBLG := List.mem_filter.mpr ⟨List.mem_of_getElem? (i := 39) (by decide +kernel), by decide +kernel⟩
theorem wcX6_nodesAsRead : (.code yX6_nodesAsRead cX6_nodesAsRead 3 (some .int) : Cond) ∈ TBLG := List.mem_filter.mpr ⟨List.mem_of_getElem? (i := 538) (by decide +kernel), by decide +kernel⟩
theorem wsX6_partsOf : (.static yX6_partsOf : Cond) ∈ TBLG := List.mem_filter.mpr ⟨List.mem_of_getElem? (i := 436) (by decide +kernel), by decide +kernel⟩
theorem wcX6_partsOf : (.code yX6_partsOf cX6_partsOf 1 (some .int) : Cond) ∈ TBLG := List.mem_filter.mpr ⟨List.mem_of_getElem? (i := 437) (by decide +kernel), by decide +kernel⟩
theorem wiX6_plan : (.instanceMethod yX6_plan : Cond) ∈ TBLG := List.mem_filter.mpr ⟨List.mem_of_getElem? (i := 568) (by decide +kernel), by decide +kernel⟩
theorem wvX6_plan : (.selects RX6 yX6_plan yX6_plan : Cond) ∈ TBLG := List.mem_filter.mpr ⟨List.mem_of_getElem? (i := 569) (by decide +kernel), by decide +kernel⟩
theorem wcX6_plan : (.code yX6_plan cX6_plan 2 (some .int) : Cond) ∈ TBLG := List.mem_filter.mpr ⟨List.mem_of_getElem? (i := 570) (by decide +kernel), by decide +kernel⟩
theorem wiX6_proved : (.instanceMethod yX6_proved : Cond) ∈ TBLG := List.mem_filter.mpr ⟨List.mem_of_getElem? (i := 608) (by decide +kernel), by decide +kernel⟩
theorem wvX6_proved : (.selects RX6 yX6_proved yX6_proved : Cond) ∈ TBLG := List.mem_filter.mpr ⟨List.mem_of_getElem? (i := 609) (by decide +kernel), by decide +kernel⟩
theorem wcX6_proved : (.code yX6_proved cX6_proved 3 (some .int) : Cond) ∈ TBLG := List.mem_filter.mpr ⟨List.mem_of_getElem? (i := 610) (by decide +kernel), by decide +kernel⟩
theorem wiX6_read : (.instanceMethod yX6_read : Cond) ∈ TBLG := List.mem_filter.mpr ⟨List.mem_of_getElem? (i := 311) (by decide +kernel), by decide +kernel⟩
theorem wvX6_read : (.selects RX6 yX6_read yX6_read : Cond) ∈ TBLG := List.mem_filter.mpr ⟨List.mem_of_getElem? (i := 312) (by decide +kernel), by decide +kernel⟩
theorem wcX6_read : (.code yX6_read cX6_read 1 (some .int) : Cond) ∈ TBLG := List.mem_filter.mpr ⟨List.mem_of_getElem? (i := 313) (by decide +kernel), by decide +kernel⟩
theorem wiX6_recordState : (.instanceMethod yX6_recordState : Cond) ∈ TBLG := List.mem_filter.mpr ⟨List.mem_of_getElem? (i := 375) (by decide +kernel), by decide +kernel⟩
theorem wvX6_recordState : (.selects RX6 yX6_recordState yX6_recordState : Cond) ∈ TBLG := List.mem_filter.mpr ⟨List.mem_of_getElem? (i := 14) (by decide +kernel), by decide +kernel⟩
theorem wcX6_recordState : (.code yX6_recordState cX6_recordState 1 none : Cond) ∈ TBLG := List.mem_filter.mpr ⟨List.mem_of_getElem? (i := 376) (by decide +kernel), by decide +kernel⟩
theorem wiX6_refusalToTry : (.instanceMethod yX6_refusalToTry : Cond) ∈ TBLG := List.mem_filter.mpr ⟨List.mem_of_getElem? (i := 613) (by decide +kernel), by decide +kernel⟩
theorem wvX6_refusalToTry : (.selects RX6 yX6_refusalToTry yX6_refusalToTry : Cond) ∈ TBLG := List.mem_filter.mpr ⟨List.mem_of_getElem? (i := 47) (by decide +kernel), by decide +kernel⟩
theorem wcX6_refusalToTry : (.code yX6_refusalToTry cX6_refusalToTry 2 (some .int) : Cond) ∈ TBLG := List.mem_filter.mpr ⟨List.mem_of_getElem? (i := 614) (by decide +kernel), by decide +kernel⟩
theorem wiX6_setCell : (.instanceMethod yX6_setCell : Cond) ∈ TBLG := List.mem_filter.mpr ⟨List.mem_of_getElem? (i := 510) (by decide +kernel), by decide +kernel⟩
theorem wvX6_setCell : (.selects RX6 yX6_setCell yX6_setCell : Cond) ∈ TBLG := List.mem_filter.mpr ⟨List.mem_of_getElem? (i := 511) (by decide +kernel), by decide +kernel⟩
theorem wcX6_setCell : (.code yX6_setCell cX6_setCell 4 (some .int) : Cond) ∈ TBLG := List.mem_filter.mpr ⟨List.mem_of_getElem? (i := 512) (by decide +kernel), by decide +kernel⟩
theorem wiX6_setPlaces : (.instanceMethod yX6_setPlaces : Cond) ∈ TBLG := List.mem_filter.mpr ⟨List.mem_of_getElem? (i := 517) (by decide +kernel), by decide +kernel⟩
theorem wvX6_setPlaces : (.selects RX6 yX6_setPlaces yX6_setPlaces : Cond) ∈ TBLG := List.mem_filter.mpr ⟨List.mem_of_getElem? (i := 518) (by decide +kernel), by decide +kernel⟩
theorem wcX6_setPlaces : (.code yX6_setPlaces cX6_setPlaces 3 (some .int) : Cond) ∈ TBLG := List.mem_filter.mpr ⟨List.mem_of_getElem? (i := 519) (by decide +kernel), by decide +kernel⟩
theorem wiX6_step : (.instanceMethod yX6_step : Cond) ∈ TBLG := List.mem_filter.mpr ⟨List.mem_of_getElem? (i := 592) (by decide +kernel), by decide +kernel⟩
theorem wvX6_step : (.selects RX6 yX6_step yX6_step : Cond) ∈ TBLG := List.mem_filter.mpr ⟨List.mem_of_getElem? (i := 593) (by decide +kernel), by decide +kernel⟩
theorem wcX6_step : (.code yX6_step cX6_step 3 (some .int) : Cond) ∈ TBLG := List.mem_filter.mpr ⟨List.mem_of_getElem? (i := 594) (by decide +kernel), by decide +kernel⟩
theorem wiX6_turn : (.instanceMethod yX6_turn : Cond) ∈ TBLG := List.mem_filter.mpr ⟨List.mem_of_getElem? (i := 485) (by decide +kernel), by decide +kernel⟩
theorem wvX6_turn : (.selects RX6 yX6_turn yX6_turn : Cond) ∈ TBLG := List.mem_filter.mpr ⟨List.mem_of_getElem? (i := 486) (by decide +kernel), by decide +kernel⟩
theorem wcX6_turn : (.code yX6_turn cX6_turn 4 (some .int) : Cond) ∈ TBLG := List.mem_filter.mpr ⟨List.mem_of_getElem? (i := 487) (by decide +kernel), by decide +kernel⟩
theorem wiX6_undo : (.instanceMethod yX6_undo : Cond) ∈ TBLG := List.mem_filter.mpr ⟨List.mem_of_getElem? (i := 524) (by decide +kernel), by decide +kernel⟩
theorem wvX6_undo : (.selects RX6 yX6_undo yX6_undo : Cond) ∈ TBLG := List.mem_filter.mpr ⟨List.mem_of_getElem? (i := 525) (by decide +kernel), by decide +kernel⟩
theorem wcX6_undo : (.code yX6_undo cX6_undo 1 (some .int) : Cond) ∈ TBLG := List.mem_filter.mpr ⟨List.mem_of_getElem? (i := 526) (by decide +kernel), by decide +kernel⟩
theorem wiX6_usesOf : (.instanceMethod yX6_usesOf : Cond) ∈ TBLG := List.mem_filter.mpr ⟨List.mem_of_getElem? (i := 552) (by decide +kernel), by decide +kernel⟩
theorem wvX6_usesOf : (.selects RX6 yX6_usesOf yX6_usesOf : Cond) ∈ TBLG := List.mem_filter.mpr ⟨List.mem_of_getElem? (i := 41) (by decide +kernel), by decide +kernel⟩
theorem wcX6_usesOf : (.code yX6_usesOf cX6_usesOf 7 (some .int) : Cond) ∈ TBLG := List.mem_filter.mpr ⟨List.mem_of_getElem? (i := 553) (by decide +kernel), by decide +kernel⟩
theorem wiX6_ways : (.instanceMethod yX6_ways : Cond) ∈ TBLG := List.mem_filter.mpr ⟨List.mem_of_getElem? (i := 634) (by decide +kernel), by decide +kernel⟩
theorem wvX6_ways : (.selects RX6 yX6_ways yX6_ways : Cond) ∈ TBLG := List.mem_filter.mpr ⟨List.mem_of_getElem? (i := 635) (by decide +kernel), by decide +kernel⟩
theorem wcX6_ways : (.code yX6_ways cX6_ways 3 (some .int) : Cond) ∈ TBLG := List.mem_filter.mpr ⟨List.mem_of_getElem? (i := 636) (by decide +kernel), by decide +kernel⟩
theorem wiX6_workAnew : (.instanceMethod yX6_workAnew : Cond) ∈ TBLG := List.mem_filter.mpr ⟨List.mem_of_getElem? (i := 414) (by decide +kernel), by decide +kernel⟩
theorem wvX6_workAnew : (.selects RX6 yX6_workAnew yX6_workAnew : Cond) ∈ TBLG := List.mem_filter.mpr ⟨List.mem_of_getElem? (i := 23) (by decide +kernel), by decide +kernel⟩
theorem wcX6_workAnew : (.code yX6_workAnew cX6_workAnew 3 none : Cond) ∈ TBLG := List.mem_filter.mpr ⟨List.mem_of_getElem? (i := 415) (by decide +kernel), by decide +kernel⟩
theorem wiX0_depthOf : (.instanceMethod yX0_depthOf : Cond) ∈ TBLG := List.mem_filter.mpr ⟨List.mem_of_getElem? (i := 463) (by decide +kernel), by decide +kernel⟩
theorem wvX0_depthOf : (.selects RX0 yX0_depthOf yX0_depthOf : Cond) ∈ TBLG := List.mem_filter.mpr ⟨List.mem_of_getElem? (i := 32) (by decide +kernel), by decide +kernel⟩
theorem wcX0_depthOf : (.code yX0_depthOf cX0_depthOf 2 (some .int) : Cond) ∈ TBLG := List.mem_filter.mpr ⟨List.mem_of_getElem? (i := 464) (by decide +kernel), by decide +kernel⟩
theorem wsX0_entry : (.static yX0_entry : Cond) ∈ TBLG := List.mem_filter.mpr ⟨List.mem_of_getElem? (i := 447) (by decide +kernel), by decide +kernel⟩
theorem wcX0_entry : (.code yX0_entry cX0_entry 2 (some .int) : Cond) ∈ TBLG := List.mem_filter.mpr ⟨List.mem_of_getElem? (i := 448) (by decide +kernel), by decide +kernel⟩
theorem wiX0_leafValue : (.instanceMethod yX0_leafValue : Cond) ∈ TBLG := List.mem_filter.mpr ⟨List.mem_of_getElem? (i := 444) (by decide +kernel), by decide +kernel⟩
theorem wvX0_leafValue : (.selects RX0 yX0_leafValue yX0_leafValue : Cond) ∈ TBLG := List.mem_filter.mpr ⟨List.mem_of_getElem? (i := 28) (by decide +kernel), by decide +kernel⟩
theorem wcX0_leafValue : (.code yX0_leafValue cX0_leafValue 6 (some .int) : Cond) ∈ TBLG := List.mem_filter.mpr ⟨List.mem_of_getElem? (i := 445) (by decide +kernel), by decide +kernel⟩
theorem wiX0_make : (.instanceMethod yX0_make : Cond) ∈ TBLG := List.mem_filter.mpr ⟨List.mem_of_getElem? (i := 418) (by decide +kernel), by decide +kernel⟩
theorem wvX0_make : (.selects RX0 yX0_make yX0_make : Cond) ∈ TBLG := List.mem_filter.mpr ⟨List.mem_of_getElem? (i := 24) (by decide +kernel), by decide +kernel⟩
theorem wcX0_make : (.code yX0_make cX0_make 7 none : Cond) ∈ TBLG := List.mem_filter.mpr ⟨List.mem_of_getElem? (i := 419) (by decide +kernel), by decide +kernel⟩
theorem wiX0_measure : (.instanceMethod yX0_measure : Cond) ∈ TBLG := List.mem_filter.mpr ⟨List.mem_of_getElem? (i := 430) (by decide +kernel), by decide +kernel⟩
theorem wvX0_measure : (.selects RX0 yX0_measure yX0_measure : Cond) ∈ TBLG := List.mem_filter.mpr ⟨List.mem_of_getElem? (i := 26) (by decide +kernel), by decide +kernel⟩
theorem wcX0_measure : (.code yX0_measure cX0_measure 8 none : Cond) ∈ TBLG := List.mem_filter.mpr ⟨List.mem_of_getElem? (i := 431) (by decide +kernel), by decide +kernel⟩
theorem wiX0_needOf : (.instanceMethod yX0_needOf : Cond) ∈ TBLG := List.mem_filter.mpr ⟨List.mem_of_getElem? (i := 459) (by decide +kernel), by decide +kernel⟩
theorem wvX0_needOf : (.selects RX0 yX0_needOf yX0_needOf : Cond) ∈ TBLG := List.mem_filter.mpr ⟨List.mem_of_getElem? (i := 31) (by decide +kernel), by decide +kernel⟩
theorem wcX0_needOf : (.code yX0_needOf cX0_needOf 2 (some .int) : Cond) ∈ TBLG := List.mem_filter.mpr ⟨List.mem_of_getElem? (i := 460) (by decide +kernel), by decide +kernel⟩
theorem wsX0_needOfPair : (.static yX0_needOfPair : Cond) ∈ TBLG := List.mem_filter.mpr ⟨List.mem_of_getElem? (i := 471) (by decide +kernel), by decide +kernel⟩
theorem wcX0_needOfPair : (.code yX0_needOfPair cX0_needOfPair 2 (some .int) : Cond) ∈ TBLG := List.mem_filter.mpr ⟨List.mem_of_getElem? (i := 472) (by decide +kernel), by decide +kernel⟩
theorem wsX0_operate : (.static yX0_operate : Cond) ∈ TBLG := List.mem_filter.mpr ⟨List.mem_of_getElem? (i := 474) (by decide +kernel), by decide +kernel⟩
theorem wcX0_operate : (.code yX0_operate cX0_operate 7 (some .int) : Cond) ∈ TBLG := List.mem_filter.mpr ⟨List.mem_of_getElem? (i := 475) (by decide +kernel), by decide +kernel⟩
theorem wiX0_pairs : (.instanceMethod yX0_pairs : Cond) ∈ TBLG := List.mem_filter.mpr ⟨List.mem_of_getElem? (i := 617) (by decide +kernel), by decide +kernel⟩
theorem wvX0_pairs : (.selects RX0 yX0_pairs yX0_pairs : Cond) ∈ TBLG := List.mem_filter.mpr ⟨List.mem_of_getElem? (i := 48) (by decide +kernel), by decide +kernel⟩
theorem wcX0_pairs : (.code yX0_pairs cX0_pairs 3 (some .int) : Cond) ∈ TBLG := List.mem_filter.mpr ⟨List.mem_of_getElem? (i := 618) (by decide +kernel), by decide +kernel⟩
theorem wiX0_put : (.instanceMethod yX0_put : Cond) ∈ TBLG := List.mem_filter.mpr ⟨List.mem_of_getElem? (i := 440) (by decide +kernel), by decide +kernel⟩
theorem wvX0_put : (.selects RX0 yX0_put yX0_put : Cond) ∈ TBLG := List.mem_filter.mpr ⟨List.mem_of_getElem? (i := 27) (by decide +kernel), by decide +kernel⟩
theorem wcX0_put : (.code yX0_put cX0_put 5 none : Cond) ∈ TBLG := List.mem_filter.mpr ⟨List.mem_of_getElem? (i := 441) (by decide +kernel), by decide +kernel⟩
theorem wiX0_rightOf : (.instanceMethod yX0_rightOf : Cond) ∈ TBLG := List.mem_filter.mpr ⟨List.mem_of_getElem? (i := 467) (by decide +kernel), by decide +kernel⟩
theorem wvX0_rightOf : (.selects RX0 yX0_rightOf yX0_rightOf : Cond) ∈ TBLG := List.mem_filter.mpr ⟨List.mem_of_getElem? (i := 33) (by decide +kernel), by decide +kernel⟩
theorem wcX0_rightOf : (.code yX0_rightOf cX0_rightOf 2 (some .int) : Cond) ∈ TBLG := List.mem_filter.mpr ⟨List.mem_of_getElem? (i := 468) (by decide +kernel), by decide +kernel⟩
theorem wiX0_sizeOf : (.instanceMethod yX0_sizeOf : Cond) ∈ TBLG := List.mem_filter.mpr ⟨List.mem_of_getElem? (i := 455) (by decide +kernel), by decide +kernel⟩
theorem wvX0_sizeOf : (.selects RX0 yX0_sizeOf yX0_sizeOf : Cond) ∈ TBLG := List.mem_filter.mpr ⟨List.mem_of_getElem? (i := 30) (by decide +kernel), by decide +kernel⟩
theorem wcX0_sizeOf : (.code yX0_sizeOf cX0_sizeOf 2 (some .int) : Cond) ∈ TBLG := List.mem_filter.mpr ⟨List.mem_of_getElem? (i := 456) (by decide +kernel), by decide +kernel⟩
theorem wiX0_valueOf : (.instanceMethod yX0_valueOf : Cond) ∈ TBLG := List.mem_filter.mpr ⟨List.mem_of_getElem? (i := 451) (by decide +kernel), by decide +kernel⟩
theorem wvX0_valueOf : (.selects RX0 yX0_valueOf yX0_valueOf : Cond) ∈ TBLG := List.mem_filter.mpr ⟨List.mem_of_getElem? (i := 29) (by decide +kernel), by decide +kernel⟩
theorem wcX0_valueOf : (.code yX0_valueOf cX0_valueOf 2 (some .int) : Cond) ∈ TBLG := List.mem_filter.mpr ⟨List.mem_of_getElem? (i := 452) (by decide +kernel), by decide +kernel⟩
theorem wiX1_add : (.instanceMethod yX1_add : Cond) ∈ TBLG := List.mem_filter.mpr ⟨List.mem_of_getElem? (i := 348) (by decide +kernel), by decide +kernel⟩
theorem wvX1_add : (.selects RX1 yX1_add yX1_add : Cond) ∈ TBLG := List.mem_filter.mpr ⟨List.mem_of_getElem? (i := 9) (by decide +kernel), by decide +kernel⟩
theorem wcX1_add : (.code yX1_add cX1_add 3 (some .boolean) : Cond) ∈ TBLG := List.mem_filter.mpr ⟨List.mem_of_getElem? (i := 349) (by decide +kernel), by decide +kernel⟩
theorem wiX1_addAll : (.instanceMethod yX1_addAll : Cond) ∈ TBLG := List.mem_filter.mpr ⟨List.mem_of_getElem? (i := 395) (by decide +kernel), by decide +kernel⟩
theorem wvX1_addAll : (.selects RX1 yX1_addAll yX1_addAll : Cond) ∈ TBLG := List.mem_filter.mpr ⟨List.mem_of_getElem? (i := 19) (by decide +kernel), by decide +kernel⟩
theorem wcX1_addAll : (.code yX1_addAll cX1_addAll 4 none : Cond) ∈ TBLG := List.mem_filter.mpr ⟨List.mem_of_getElem? (i := 396) (by decide +kernel), by decide +kernel⟩
theorem wiX1_behind : (.instanceMethod yX1_behind : Cond) ∈ TBLG := List.mem_filter.mpr ⟨List.mem_of_getElem? (i := 501) (by decide +kernel), by decide +kernel⟩
theorem wvX1_behind : (.selects RX1 yX1_behind yX1_behind : Cond) ∈ TBLG := List.mem_filter.mpr ⟨List.mem_of_getElem? (i := 36) (by decide +kernel), by decide +kernel⟩
theorem wcX1_behind : (.code yX1_behind cX1_behind 4 (some .int) : Cond) ∈ TBLG := List.mem_filter.mpr ⟨List.mem_of_getElem? (i := 502) (by decide +kernel), by decide +kernel⟩
theorem wiX1_contentOf : (.instanceMethod yX1_contentOf : Cond) ∈ TBLG := List.mem_filter.mpr ⟨List.mem_of_getElem? (i := 407) (by decide +kernel), by decide +kernel⟩
theorem wvX1_contentOf : (.selects RX1 yX1_contentOf yX1_contentOf : Cond) ∈ TBLG := List.mem_filter.mpr ⟨List.mem_of_getElem? (i := 22) (by decide +kernel), by decide +kernel⟩
theorem wcX1_contentOf : (.code yX1_contentOf cX1_contentOf 2 (some .int) : Cond) ∈ TBLG := List.mem_filter.mpr ⟨List.mem_of_getElem? (i := 408) (by decide +kernel), by decide +kernel⟩
theorem wiX1_copy : (.instanceMethod yX1_copy : Cond) ∈ TBLG := List.mem_filter.mpr ⟨List.mem_of_getElem? (i := 391) (by decide +kernel), by decide +kernel⟩
theorem wvX1_copy : (.selects RX1 yX1_copy yX1_copy : Cond) ∈ TBLG := List.mem_filter.mpr ⟨List.mem_of_getElem? (i := 18) (by decide +kernel), by decide +kernel⟩
theorem wcX1_copy : (.code yX1_copy cX1_copy 2 none : Cond) ∈ TBLG := List.mem_filter.mpr ⟨List.mem_of_getElem? (i := 392) (by decide +kernel), by decide +kernel⟩
theorem wiX1_exchange : (.instanceMethod yX1_exchange : Cond) ∈ TBLG := List.mem_filter.mpr ⟨List.mem_of_getElem? (i := 497) (by decide +kernel), by decide +kernel⟩
theorem wvX1_exchange : (.selects RX1 yX1_exchange yX1_exchange : Cond) ∈ TBLG := List.mem_filter.mpr ⟨List.mem_of_getElem? (i := 35) (by decide +kernel), by decide +kernel⟩
theorem wcX1_exchange : (.code yX1_exchange cX1_exchange 4 none : Cond) ∈ TBLG := List.mem_filter.mpr ⟨List.mem_of_getElem? (i := 498) (by decide +kernel), by decide +kernel⟩
theorem wiX1_has : (.instanceMethod yX1_has : Cond) ∈ TBLG := List.mem_filter.mpr ⟨List.mem_of_getElem? (i := 403) (by decide +kernel), by decide +kernel⟩
theorem wvX1_has : (.selects RX1 yX1_has yX1_has : Cond) ∈ TBLG := List.mem_filter.mpr ⟨List.mem_of_getElem? (i := 21) (by decide +kernel), by decide +kernel⟩
theorem wcX1_has : (.code yX1_has cX1_has 2 (some .boolean) : Cond) ∈ TBLG := List.mem_filter.mpr ⟨List.mem_of_getElem? (i := 404) (by decide +kernel), by decide +kernel⟩
theorem wiX1_hasKind : (.instanceMethod yX1_hasKind : Cond) ∈ TBLG := List.mem_filter.mpr ⟨List.mem_of_getElem? (i := 426) (by decide +kernel), by decide +kernel⟩
theorem wvX1_hasKind : (.selects RX1 yX1_hasKind yX1_hasKind : Cond) ∈ TBLG := List.mem_filter.mpr ⟨List.mem_of_getElem? (i := 25) (by decide +kernel), by decide +kernel⟩
theorem wcX1_hasKind : (.code yX1_hasKind cX1_hasKind 3 (some .boolean) : Cond) ∈ TBLG := List.mem_filter.mpr ⟨List.mem_of_getElem? (i := 427) (by decide +kernel), by decide +kernel⟩
theorem wiX1_insert : (.instanceMethod yX1_insert : Cond) ∈ TBLG := List.mem_filter.mpr ⟨List.mem_of_getElem? (i := 368) (by decide +kernel), by decide +kernel⟩
theorem wvX1_insert : (.selects RX1 yX1_insert yX1_insert : Cond) ∈ TBLG := List.mem_filter.mpr ⟨List.mem_of_getElem? (i := 13) (by decide +kernel), by decide +kernel⟩
theorem wcX1_insert : (.code yX1_insert cX1_insert 4 (some .boolean) : Cond) ∈ TBLG := List.mem_filter.mpr ⟨List.mem_of_getElem? (i := 369) (by decide +kernel), by decide +kernel⟩
theorem wiX1_isFull : (.instanceMethod yX1_isFull : Cond) ∈ TBLG := List.mem_filter.mpr ⟨List.mem_of_getElem? (i := 344) (by decide +kernel), by decide +kernel⟩
theorem wvX1_isFull : (.selects RX1 yX1_isFull yX1_isFull : Cond) ∈ TBLG := List.mem_filter.mpr ⟨List.mem_of_getElem? (i := 8) (by decide +kernel), by decide +kernel⟩
theorem wcX1_isFull : (.code yX1_isFull cX1_isFull 1 (some .boolean) : Cond) ∈ TBLG := List.mem_filter.mpr ⟨List.mem_of_getElem? (i := 345) (by decide +kernel), by decide +kernel⟩
theorem wiX1_kindOf : (.instanceMethod yX1_kindOf : Cond) ∈ TBLG := List.mem_filter.mpr ⟨List.mem_of_getElem? (i := 399) (by decide +kernel), by decide +kernel⟩
theorem wvX1_kindOf : (.selects RX1 yX1_kindOf yX1_kindOf : Cond) ∈ TBLG := List.mem_filter.mpr ⟨List.mem_of_getElem? (i := 20) (by decide +kernel), by decide +kernel⟩
theorem wcX1_kindOf : (.code yX1_kindOf cX1_kindOf 2 (some .int) : Cond) ∈ TBLG := List.mem_filter.mpr ⟨List.mem_of_getElem? (i := 400) (by decide +kernel), by decide +kernel⟩
theorem wiX1_turnAround : (.instanceMethod yX1_turnAround : Cond) ∈ TBLG := List.mem_filter.mpr ⟨List.mem_of_getElem? (i := 506) (by decide +kernel), by decide +kernel⟩
theorem wvX1_turnAround : (.selects RX1 yX1_turnAround yX1_turnAround : Cond) ∈ TBLG := List.mem_filter.mpr ⟨List.mem_of_getElem? (i := 37) (by decide +kernel), by decide +kernel⟩
theorem wcX1_turnAround : (.code yX1_turnAround cX1_turnAround 7 none : Cond) ∈ TBLG := List.mem_filter.mpr ⟨List.mem_of_getElem? (i := 507) (by decide +kernel), by decide +kernel⟩
theorem wiX2_addStep : (.instanceMethod yX2_addStep : Cond) ∈ TBLG := List.mem_filter.mpr ⟨List.mem_of_getElem? (i := 583) (by decide +kernel), by decide +kernel⟩
theorem wvX2_addStep : (.selects RX2 yX2_addStep yX2_addStep : Cond) ∈ TBLG := List.mem_filter.mpr ⟨List.mem_of_getElem? (i := 44) (by decide +kernel), by decide +kernel⟩
theorem wcX2_addStep : (.code yX2_addStep cX2_addStep 6 none : Cond) ∈ TBLG := List.mem_filter.mpr ⟨List.mem_of_getElem? (i := 584) (by decide +kernel), by decide +kernel⟩
theorem wiX2_has : (.instanceMethod yX2_has : Cond) ∈ TBLG := List.mem_filter.mpr ⟨List.mem_of_getElem? (i := 597) (by decide +kernel), by decide +kernel⟩
theorem wvX2_has : (.selects RX2 yX2_has yX2_has : Cond) ∈ TBLG := List.mem_filter.mpr ⟨List.mem_of_getElem? (i := 46) (by decide +kernel), by decide +kernel⟩
theorem wcX2_has : (.code yX2_has cX2_has 2 (some .boolean) : Cond) ∈ TBLG := List.mem_filter.mpr ⟨List.mem_of_getElem? (i := 598) (by decide +kernel), by decide +kernel⟩
theorem wiX2_make : (.instanceMethod yX2_make : Cond) ∈ TBLG := List.mem_filter.mpr ⟨List.mem_of_getElem? (i := 573) (by decide +kernel), by decide +kernel⟩
theorem wvX2_make : (.selects RX2 yX2_make yX2_make : Cond) ∈ TBLG := List.mem_filter.mpr ⟨List.mem_of_getElem? (i := 42) (by decide +kernel), by decide +kernel⟩
theorem wcX2_make : (.code yX2_make cX2_make 5 none : Cond) ∈ TBLG := List.mem_filter.mpr ⟨List.mem_of_getElem? (i := 574) (by decide +kernel), by decide +kernel⟩
theorem wiX2_workOut : (.instanceMethod yX2_workOut : Cond) ∈ TBLG := List.mem_filter.mpr ⟨List.mem_of_getElem? (i := 577) (by decide +kernel), by decide +kernel⟩
theorem wvX2_workOut : (.selects RX2 yX2_workOut yX2_workOut : Cond) ∈ TBLG := List.mem_filter.mpr ⟨List.mem_of_getElem? (i := 43) (by decide +kernel), by decide +kernel⟩
theorem wcX2_workOut : (.code yX2_workOut cX2_workOut 7 none : Cond) ∈ TBLG := List.mem_filter.mpr ⟨List.mem_of_getElem? (i := 578) (by decide +kernel), by decide +kernel⟩
theorem wiX2_workOutParts : (.instanceMethod yX2_workOutParts : Cond) ∈ TBLG := List.mem_filter.mpr ⟨List.mem_of_getElem? (i := 587) (by decide +kernel), by decide +kernel⟩
theorem wvX2_workOutParts : (.selects RX2 yX2_workOutParts yX2_workOutParts : Cond) ∈ TBLG := List.mem_filter.mpr ⟨List.mem_of_getElem? (i := 45) (by decide +kernel), by decide +kernel⟩
theorem wcX2_workOutParts : (.code yX2_workOutParts cX2_workOutParts 10 none : Cond) ∈ TBLG := List.mem_filter.mpr ⟨List.mem_of_getElem? (i := 588) (by decide +kernel), by decide +kernel⟩
theorem wsX3_isDigit : (.static yX3_isDigit : Cond) ∈ TBLG := List.mem_filter.mpr ⟨List.mem_of_getElem? (i := 356) (by decide +kernel), by decide +kernel⟩
theorem wcX3_isDigit : (.code yX3_isDigit cX3_isDigit 1 (some .boolean) : Cond) ∈ TBLG := List.mem_filter.mpr ⟨List.mem_of_getElem? (i := 357) (by decide +kernel), by decide +kernel⟩
theorem wiX3_pass : (.instanceMethod yX3_pass : Cond) ∈ TBLG := List.mem_filter.mpr ⟨List.mem_of_getElem? (i := 320) (by decide +kernel), by decide +kernel⟩
theorem wvX3_pass : (.selects RX3 yX3_pass yX3_pass : Cond) ∈ TBLG := List.mem_filter.mpr ⟨List.mem_of_getElem? (i := 2) (by decide +kernel), by decide +kernel⟩
theorem wcX3_pass : (.code yX3_pass cX3_pass 3 (some .boolean) : Cond) ∈ TBLG := List.mem_filter.mpr ⟨List.mem_of_getElem? (i := 321) (by decide +kernel), by decide +kernel⟩
theorem wiX3_readFactor : (.instanceMethod yX3_readFactor : Cond) ∈ TBLG := List.mem_filter.mpr ⟨List.mem_of_getElem? (i := 336) (by decide +kernel), by decide +kernel⟩
theorem wvX3_readFactor : (.selects RX3 yX3_readFactor yX3_readFactor : Cond) ∈ TBLG := List.mem_filter.mpr ⟨List.mem_of_getElem? (i := 6) (by decide +kernel), by decide +kernel⟩
theorem wcX3_readFactor : (.code yX3_readFactor cX3_readFactor 4 (some .boolean) : Cond) ∈ TBLG := List.mem_filter.mpr ⟨List.mem_of_getElem? (i := 337) (by decide +kernel), by decide +kernel⟩
theorem wiX3_readLeaf : (.instanceMethod yX3_readLeaf : Cond) ∈ TBLG := List.mem_filter.mpr ⟨List.mem_of_getElem? (i := 353) (by decide +kernel), by decide +kernel⟩
theorem wvX3_readLeaf : (.selects RX3 yX3_readLeaf yX3_readLeaf : Cond) ∈ TBLG := List.mem_filter.mpr ⟨List.mem_of_getElem? (i := 10) (by decide +kernel), by decide +kernel⟩
theorem wcX3_readLeaf : (.code yX3_readLeaf cX3_readLeaf 4 (some .boolean) : Cond) ∈ TBLG := List.mem_filter.mpr ⟨List.mem_of_getElem? (i := 354) (by decide +kernel), by decide +kernel⟩
theorem wiX3_readNested : (.instanceMethod yX3_readNested : Cond) ∈ TBLG := List.mem_filter.mpr ⟨List.mem_of_getElem? (i := 340) (by decide +kernel), by decide +kernel⟩
theorem wvX3_readNested : (.selects RX3 yX3_readNested yX3_readNested : Cond) ∈ TBLG := List.mem_filter.mpr ⟨List.mem_of_getElem? (i := 7) (by decide +kernel), by decide +kernel⟩
theorem wcX3_readNested : (.code yX3_readNested cX3_readNested 4 (some .boolean) : Cond) ∈ TBLG := List.mem_filter.mpr ⟨List.mem_of_getElem? (i := 341) (by decide +kernel), by decide +kernel⟩
theorem wiX3_readNumber : (.instanceMethod yX3_readNumber : Cond) ∈ TBLG := List.mem_filter.mpr ⟨List.mem_of_getElem? (i := 360) (by decide +kernel), by decide +kernel⟩
theorem wvX3_readNumber : (.selects RX3 yX3_readNumber yX3_readNumber : Cond) ∈ TBLG := List.mem_filter.mpr ⟨List.mem_of_getElem? (i := 11) (by decide +kernel), by decide +kernel⟩
theorem wcX3_readNumber : (.code yX3_readNumber cX3_readNumber 3 (some .int) : Cond) ∈ TBLG := List.mem_filter.mpr ⟨List.mem_of_getElem? (i := 361) (by decide +kernel), by decide +kernel⟩
theorem wiX3_readOperation : (.instanceMethod yX3_readOperation : Cond) ∈ TBLG := List.mem_filter.mpr ⟨List.mem_of_getElem? (i := 364) (by decide +kernel), by decide +kernel⟩
theorem wvX3_readOperation : (.selects RX3 yX3_readOperation yX3_readOperation : Cond) ∈ TBLG := List.mem_filter.mpr ⟨List.mem_of_getElem? (i := 12) (by decide +kernel), by decide +kernel⟩
theorem wcX3_readOperation : (.code yX3_readOperation cX3_readOperation 5 (some .boolean) : Cond) ∈ TBLG := List.mem_filter.mpr ⟨List.mem_of_getElem? (i := 365) (by decide +kernel), by decide +kernel⟩
theorem wiX3_readProduct : (.instanceMethod yX3_readProduct : Cond) ∈ TBLG := List.mem_filter.mpr ⟨List.mem_of_getElem? (i := 332) (by decide +kernel), by decide +kernel⟩
theorem wvX3_readProduct : (.selects RX3 yX3_readProduct yX3_readProduct : Cond) ∈ TBLG := List.mem_filter.mpr ⟨List.mem_of_getElem? (i := 5) (by decide +kernel), by decide +kernel⟩
theorem wcX3_readProduct : (.code yX3_readProduct cX3_readProduct 7 (some .boolean) : Cond) ∈ TBLG := List.mem_filter.mpr ⟨List.mem_of_getElem? (i := 333) (by decide +kernel), by decide +kernel⟩
theorem wiX3_readSheet : (.instanceMethod yX3_readSheet : Cond) ∈ TBLG := List.mem_filter.mpr ⟨List.mem_of_getElem? (i := 316) (by decide +kernel), by decide +kernel⟩
theorem wvX3_readSheet : (.selects RX3 yX3_readSheet yX3_readSheet : Cond) ∈ TBLG := List.mem_filter.mpr ⟨List.mem_of_getElem? (i := 1) (by decide +kernel), by decide +kernel⟩
theorem wcX3_readSheet : (.code yX3_readSheet cX3_readSheet 2 (some .boolean) : Cond) ∈ TBLG := List.mem_filter.mpr ⟨List.mem_of_getElem? (i := 317) (by decide +kernel), by decide +kernel⟩
theorem wiX3_readSum : (.instanceMethod yX3_readSum : Cond) ∈ TBLG := List.mem_filter.mpr ⟨List.mem_of_getElem? (i := 328) (by decide +kernel), by decide +kernel⟩
theorem wvX3_readSum : (.selects RX3 yX3_readSum yX3_readSum : Cond) ∈ TBLG := List.mem_filter.mpr ⟨List.mem_of_getElem? (i := 4) (by decide +kernel), by decide +kernel⟩
theorem wcX3_readSum : (.code yX3_readSum cX3_readSum 8 (some .boolean) : Cond) ∈ TBLG := List.mem_filter.mpr ⟨List.mem_of_getElem? (i := 329) (by decide +kernel), by decide +kernel⟩
theorem wiX3_sign : (.instanceMethod yX3_sign : Cond) ∈ TBLG := List.mem_filter.mpr ⟨List.mem_of_getElem? (i := 324) (by decide +kernel), by decide +kernel⟩
theorem wvX3_sign : (.selects RX3 yX3_sign yX3_sign : Cond) ∈ TBLG := List.mem_filter.mpr ⟨List.mem_of_getElem? (i := 3) (by decide +kernel), by decide +kernel⟩
theorem wcX3_sign : (.code yX3_sign cX3_sign 1 (some .int) : Cond) ∈ TBLG := List.mem_filter.mpr ⟨List.mem_of_getElem? (i := 325) (by decide +kernel), by decide +kernel⟩
theorem wiX3_take : (.instanceMethod yX3_take : Cond) ∈ TBLG := List.mem_filter.mpr ⟨List.mem_of_getElem? (i := 303) (by decide +kernel), by decide +kernel⟩
theorem wvX3_take : (.selects RX3 yX3_take yX3_take : Cond) ∈ TBLG := List.mem_filter.mpr ⟨List.mem_of_getElem? (i := 0) (by decide +kernel), by decide +kernel⟩
theorem wcX3_take : (.code yX3_take cX3_take 2 (some .boolean) : Cond) ∈ TBLG := List.mem_filter.mpr ⟨List.mem_of_getElem? (i := 304) (by decide +kernel), by decide +kernel⟩
theorem wiX4_copyFormulas : (.instanceMethod yX4_copyFormulas : Cond) ∈ TBLG := List.mem_filter.mpr ⟨List.mem_of_getElem? (i := 387) (by decide +kernel), by decide +kernel⟩
theorem wvX4_copyFormulas : (.selects RX4 yX4_copyFormulas yX4_copyFormulas : Cond) ∈ TBLG := List.mem_filter.mpr ⟨List.mem_of_getElem? (i := 17) (by decide +kernel), by decide +kernel⟩
theorem wcX4_copyFormulas : (.code yX4_copyFormulas cX4_copyFormulas 3 none : Cond) ∈ TBLG := List.mem_filter.mpr ⟨List.mem_of_getElem? (i := 388) (by decide +kernel), by decide +kernel⟩
theorem wiX4_copyState : (.instanceMethod yX4_copyState : Cond) ∈ TBLG := List.mem_filter.mpr ⟨List.mem_of_getElem? (i := 383) (by decide +kernel), by decide +kernel⟩
theorem wvX4_copyState : (.selects RX4 yX4_copyState yX4_copyState : Cond) ∈ TBLG := List.mem_filter.mpr ⟨List.mem_of_getElem? (i := 16) (by decide +kernel), by decide +kernel⟩
theorem wcX4_copyState : (.code yX4_copyState cX4_copyState 2 none : Cond) ∈ TBLG := List.mem_filter.mpr ⟨List.mem_of_getElem? (i := 384) (by decide +kernel), by decide +kernel⟩
theorem wiX5_tryOrders : (.instanceMethod yX5_tryOrders : Cond) ∈ TBLG := List.mem_filter.mpr ⟨List.mem_of_getElem? (i := 621) (by decide +kernel), by decide +kernel⟩
theorem wvX5_tryOrders : (.selects RX5 yX5_tryOrders yX5_tryOrders : Cond) ∈ TBLG := List.mem_filter.mpr ⟨List.mem_of_getElem? (i := 49) (by decide +kernel), by decide +kernel⟩
theorem wcX5_tryOrders : (.code yX5_tryOrders cX5_tryOrders 3 none : Cond) ∈ TBLG := List.mem_filter.mpr ⟨List.mem_of_getElem? (i := 622) (by decide +kernel), by decide +kernel⟩
theorem wiX5_waysFor : (.instanceMethod yX5_waysFor : Cond) ∈ TBLG := List.mem_filter.mpr ⟨List.mem_of_getElem? (i := 627) (by decide +kernel), by decide +kernel⟩
theorem wvX5_waysFor : (.selects RX5 yX5_waysFor yX5_waysFor : Cond) ∈ TBLG := List.mem_filter.mpr ⟨List.mem_of_getElem? (i := 50) (by decide +kernel), by decide +kernel⟩
theorem wcX5_waysFor : (.code yX5_waysFor cX5_waysFor 8 (some .int) : Cond) ∈ TBLG := List.mem_filter.mpr ⟨List.mem_of_getElem? (i := 628) (by decide +kernel), by decide +kernel⟩
theorem wiX7_init : (.instanceMethod yX7_init : Cond) ∈ TBLG := List.mem_filter.mpr ⟨List.mem_of_getElem? (i := 640) (by decide +kernel), by decide +kernel⟩
theorem wcX7_init : (.code yX7_init cX7_init 1 none : Cond) ∈ TBLG := List.mem_filter.mpr ⟨List.mem_of_getElem? (i := 641) (by decide +kernel), by decide +kernel⟩
theorem wiX7_acts : (.instanceMethod yX7_acts : Cond) ∈ TBLG := List.mem_filter.mpr ⟨List.mem_of_getElem? (i := 825) (by decide +kernel), by decide +kernel⟩
theorem wvX7_acts : (.selects RX7 yX7_acts yX7_acts : Cond) ∈ TBLG := List.mem_filter.mpr ⟨List.mem_of_getElem? (i := 61) (by decide +kernel), by decide +kernel⟩
theorem wcX7_acts : (.code yX7_acts cX7_acts 2 none : Cond) ∈ TBLG := List.mem_filter.mpr ⟨List.mem_of_getElem? (i := 826) (by decide +kernel), by decide +kernel⟩
theorem wiX7_append : (.instanceMethod yX7_append : Cond) ∈ TBLG := List.mem_filter.mpr ⟨List.mem_of_getElem? (i := 763) (by decide +kernel), by decide +kernel⟩
theorem wvX7_append : (.selects RX7 yX7_append yX7_append : Cond) ∈ TBLG := List.mem_filter.mpr ⟨List.mem_of_getElem? (i := 764) (by decide +kernel), by decide +kernel⟩
theorem wcX7_append : (.code yX7_append cX7_append 2 (some .int) : Cond) ∈ TBLG := List.mem_filter.mpr ⟨List.mem_of_getElem? (i := 765) (by decide +kernel), by decide +kernel⟩
theorem wiX7_cell : (.instanceMethod yX7_cell : Cond) ∈ TBLG := List.mem_filter.mpr ⟨List.mem_of_getElem? (i := 909) (by decide +kernel), by decide +kernel⟩
theorem wvX7_cell : (.selects RX7 yX7_cell yX7_cell : Cond) ∈ TBLG := List.mem_filter.mpr ⟨List.mem_of_getElem? (i := 910) (by decide +kernel), by decide +kernel⟩
theorem wcX7_cell : (.code yX7_cell cX7_cell 2 (some .int) : Cond) ∈ TBLG := List.mem_filter.mpr ⟨List.mem_of_getElem? (i := 911) (by decide +kernel), by decide +kernel⟩
theorem wiX7_cheapOnes : (.instanceMethod yX7_cheapOnes : Cond) ∈ TBLG := List.mem_filter.mpr ⟨List.mem_of_getElem? (i := 890) (by decide +kernel), by decide +kernel⟩
theorem wvX7_cheapOnes : (.selects RX7 yX7_cheapOnes yX7_cheapOnes : Cond) ∈ TBLG := List.mem_filter.mpr ⟨List.mem_of_getElem? (i := 70) (by decide +kernel), by decide +kernel⟩
theorem wcX7_cheapOnes : (.code yX7_cheapOnes cX7_cheapOnes 3 (some .int) : Cond) ∈ TBLG := List.mem_filter.mpr ⟨List.mem_of_getElem? (i := 891) (by decide +kernel), by decide +kernel⟩
theorem wiX7_clearText : (.instanceMethod yX7_clearText : Cond) ∈ TBLG := List.mem_filter.mpr ⟨List.mem_of_getElem? (i := 772) (by decide +kernel), by decide +kernel⟩
theorem wvX7_clearText : (.selects RX7 yX7_clearText yX7_clearText : Cond) ∈ TBLG := List.mem_filter.mpr ⟨List.mem_of_getElem? (i := 773) (by decide +kernel), by decide +kernel⟩
theorem wcX7_clearText : (.code yX7_clearText cX7_clearText 2 (some .int) : Cond) ∈ TBLG := List.mem_filter.mpr ⟨List.mem_of_getElem? (i := 774) (by decide +kernel), by decide +kernel⟩
theorem wiX7_copies : (.instanceMethod yX7_copies : Cond) ∈ TBLG := List.mem_filter.mpr ⟨List.mem_of_getElem? (i := 854) (by decide +kernel), by decide +kernel⟩
theorem wvX7_copies : (.selects RX7 yX7_copies yX7_copies : Cond) ∈ TBLG := List.mem_filter.mpr ⟨List.mem_of_getElem? (i := 67) (by decide +kernel), by decide +kernel⟩
theorem wcX7_copies : (.code yX7_copies cX7_copies 4 none : Cond) ∈ TBLG := List.mem_filter.mpr ⟨List.mem_of_getElem? (i := 855) (by decide +kernel), by decide +kernel⟩
theorem wiX7_costWith : (.instanceMethod yX7_costWith : Cond) ∈ TBLG := List.mem_filter.mpr ⟨List.mem_of_getElem? (i := 937) (by decide +kernel), by decide +kernel⟩
theorem wvX7_costWith : (.selects RX7 yX7_costWith yX7_costWith : Cond) ∈ TBLG := List.mem_filter.mpr ⟨List.mem_of_getElem? (i := 938) (by decide +kernel), by decide +kernel⟩
theorem wcX7_costWith : (.code yX7_costWith cX7_costWith 2 (some .int) : Cond) ∈ TBLG := List.mem_filter.mpr ⟨List.mem_of_getElem? (i := 939) (by decide +kernel), by decide +kernel⟩
theorem wiX7_count : (.instanceMethod yX7_count : Cond) ∈ TBLG := List.mem_filter.mpr ⟨List.mem_of_getElem? (i := 885) (by decide +kernel), by decide +kernel⟩
theorem wvX7_count : (.selects RX7 yX7_count yX7_count : Cond) ∈ TBLG := List.mem_filter.mpr ⟨List.mem_of_getElem? (i := 886) (by decide +kernel), by decide +kernel⟩
theorem wcX7_count : (.code yX7_count cX7_count 4 (some .int) : Cond) ∈ TBLG := List.mem_filter.mpr ⟨List.mem_of_getElem? (i := 887) (by decide +kernel), by decide +kernel⟩
theorem wsX7_cut : (.static yX7_cut : Cond) ∈ TBLG := List.mem_filter.mpr ⟨List.mem_of_getElem? (i := 865) (by decide +kernel), by decide +kernel⟩
theorem wcX7_cut : (.code yX7_cut cX7_cut 2 (some .int) : Cond) ∈ TBLG := List.mem_filter.mpr ⟨List.mem_of_getElem? (i := 866) (by decide +kernel), by decide +kernel⟩
theorem wiX7_does : (.instanceMethod yX7_does : Cond) ∈ TBLG := List.mem_filter.mpr ⟨List.mem_of_getElem? (i := 930) (by decide +kernel), by decide +kernel⟩
theorem wvX7_does : (.selects RX7 yX7_does yX7_does : Cond) ∈ TBLG := List.mem_filter.mpr ⟨List.mem_of_getElem? (i := 76) (by decide +kernel), by decide +kernel⟩
theorem wcX7_does : (.code yX7_does cX7_does 5 none : Cond) ∈ TBLG := List.mem_filter.mpr ⟨List.mem_of_getElem? (i := 931) (by decide +kernel), by decide +kernel⟩
theorem wiX7_enough : (.instanceMethod yX7_enough : Cond) ∈ TBLG := List.mem_filter.mpr ⟨List.mem_of_getElem? (i := 941) (by decide +kernel), by decide +kernel⟩
theorem wvX7_enough : (.selects RX7 yX7_enough yX7_enough : Cond) ∈ TBLG := List.mem_filter.mpr ⟨List.mem_of_getElem? (i := 942) (by decide +kernel), by decide +kernel⟩
theorem wcX7_enough : (.code yX7_enough cX7_enough 2 (some .int) : Cond) ∈ TBLG := List.mem_filter.mpr ⟨List.mem_of_getElem? (i := 943) (by decide +kernel), by decide +kernel⟩
theorem wiX7_expands : (.instanceMethod yX7_expands : Cond) ∈ TBLG := List.mem_filter.mpr ⟨List.mem_of_getElem? (i := 850) (by decide +kernel), by decide +kernel⟩
theorem wvX7_expands : (.selects RX7 yX7_expands yX7_expands : Cond) ∈ TBLG := List.mem_filter.mpr ⟨List.mem_of_getElem? (i := 66) (by decide +kernel), by decide +kernel⟩
theorem wcX7_expands : (.code yX7_expands cX7_expands 5 none : Cond) ∈ TBLG := List.mem_filter.mpr ⟨List.mem_of_getElem? (i := 851) (by decide +kernel), by decide +kernel⟩
theorem wiX7_factor : (.instanceMethod yX7_factor : Cond) ∈ TBLG := List.mem_filter.mpr ⟨List.mem_of_getElem? (i := 794) (by decide +kernel), by decide +kernel⟩
theorem wvX7_factor : (.selects RX7 yX7_factor yX7_factor : Cond) ∈ TBLG := List.mem_filter.mpr ⟨List.mem_of_getElem? (i := 54) (by decide +kernel), by decide +kernel⟩
theorem wcX7_factor : (.code yX7_factor cX7_factor 4 (some .boolean) : Cond) ∈ TBLG := List.mem_filter.mpr ⟨List.mem_of_getElem? (i := 795) (by decide +kernel), by decide +kernel⟩
theorem wiX7_fewest : (.instanceMethod yX7_fewest : Cond) ∈ TBLG := List.mem_filter.mpr ⟨List.mem_of_getElem? (i := 954) (by decide +kernel), by decide +kernel⟩
theorem wvX7_fewest : (.selects RX7 yX7_fewest yX7_fewest : Cond) ∈ TBLG := List.mem_filter.mpr ⟨List.mem_of_getElem? (i := 78) (by decide +kernel), by decide +kernel⟩
theorem wcX7_fewest : (.code yX7_fewest cX7_fewest 2 (some .int) : Cond) ∈ TBLG := List.mem_filter.mpr ⟨List.mem_of_getElem? (i := 955) (by decide +kernel), by decide +kernel⟩
theorem wiX7_formula : (.instanceMethod yX7_formula : Cond) ∈ TBLG := List.mem_filter.mpr ⟨List.mem_of_getElem? (i := 897) (by decide +kernel), by decide +kernel⟩
theorem wvX7_formula : (.selects RX7 yX7_formula yX7_formula : Cond) ∈ TBLG := List.mem_filter.mpr ⟨List.mem_of_getElem? (i := 898) (by decide +kernel), by decide +kernel⟩
theorem wcX7_formula : (.code yX7_formula cX7_formula 3 (some .int) : Cond) ∈ TBLG := List.mem_filter.mpr ⟨List.mem_of_getElem? (i := 899) (by decide +kernel), by decide +kernel⟩
theorem wiX7_formulaRead : (.instanceMethod yX7_formulaRead : Cond) ∈ TBLG := List.mem_filter.mpr ⟨List.mem_of_getElem? (i := 790) (by decide +kernel), by decide +kernel⟩
theorem wvX7_formulaRead : (.selects RX7 yX7_formulaRead yX7_formulaRead : Cond) ∈ TBLG := List.mem_filter.mpr ⟨List.mem_of_getElem? (i := 53) (by decide +kernel), by decide +kernel⟩
theorem wcX7_formulaRead : (.code yX7_formulaRead cX7_formulaRead 4 (some .boolean) : Cond) ∈ TBLG := List.mem_filter.mpr ⟨List.mem_of_getElem? (i := 791) (by decide +kernel), by decide +kernel⟩
theorem wiX7_goesOn : (.instanceMethod yX7_goesOn : Cond) ∈ TBLG := List.mem_filter.mpr ⟨List.mem_of_getElem? (i := 926) (by decide +kernel), by decide +kernel⟩
theorem wvX7_goesOn : (.selects RX7 yX7_goesOn yX7_goesOn : Cond) ∈ TBLG := List.mem_filter.mpr ⟨List.mem_of_getElem? (i := 75) (by decide +kernel), by decide +kernel⟩
theorem wcX7_goesOn : (.code yX7_goesOn cX7_goesOn 12 none : Cond) ∈ TBLG := List.mem_filter.mpr ⟨List.mem_of_getElem? (i := 927) (by decide +kernel), by decide +kernel⟩
theorem wiX7_greatestNeed : (.instanceMethod yX7_greatestNeed : Cond) ∈ TBLG := List.mem_filter.mpr ⟨List.mem_of_getElem? (i := 894) (by decide +kernel), by decide +kernel⟩
theorem wvX7_greatestNeed : (.selects RX7 yX7_greatestNeed yX7_greatestNeed : Cond) ∈ TBLG := List.mem_filter.mpr ⟨List.mem_of_getElem? (i := 71) (by decide +kernel), by decide +kernel⟩
theorem wcX7_greatestNeed : (.code yX7_greatestNeed cX7_greatestNeed 3 (some .int) : Cond) ∈ TBLG := List.mem_filter.mpr ⟨List.mem_of_getElem? (i := 895) (by decide +kernel), by decide +kernel⟩
theorem wiX7_here : (.instanceMethod yX7_here : Cond) ∈ TBLG := List.mem_filter.mpr ⟨List.mem_of_getElem? (i := 785) (by decide +kernel), by decide +kernel⟩
theorem wvX7_here : (.selects RX7 yX7_here yX7_here : Cond) ∈ TBLG := List.mem_filter.mpr ⟨List.mem_of_getElem? (i := 52) (by decide +kernel), by decide +kernel⟩
theorem wcX7_here : (.code yX7_here cX7_here 1 (some .int) : Cond) ∈ TBLG := List.mem_filter.mpr ⟨List.mem_of_getElem? (i := 786) (by decide +kernel), by decide +kernel⟩
theorem wsX7_in : (.static yX7_in : Cond) ∈ TBLG := List.mem_filter.mpr ⟨List.mem_of_getElem? (i := 767) (by decide +kernel), by decide +kernel⟩
theorem wcX7_in : (.code yX7_in cX7_in 3 (some .boolean) : Cond) ∈ TBLG := List.mem_filter.mpr ⟨List.mem_of_getElem? (i := 768) (by decide +kernel), by decide +kernel⟩
theorem wsX7_isCell : (.static yX7_isCell : Cond) ∈ TBLG := List.mem_filter.mpr ⟨List.mem_of_getElem? (i := 874) (by decide +kernel), by decide +kernel⟩
theorem wcX7_isCell : (.code yX7_isCell cX7_isCell 1 (some .boolean) : Cond) ∈ TBLG := List.mem_filter.mpr ⟨List.mem_of_getElem? (i := 875) (by decide +kernel), by decide +kernel⟩
theorem wiX7_isFormula : (.instanceMethod yX7_isFormula : Cond) ∈ TBLG := List.mem_filter.mpr ⟨List.mem_of_getElem? (i := 833) (by decide +kernel), by decide +kernel⟩
theorem wvX7_isFormula : (.selects RX7 yX7_isFormula yX7_isFormula : Cond) ∈ TBLG := List.mem_filter.mpr ⟨List.mem_of_getElem? (i := 62) (by decide +kernel), by decide +kernel⟩
theorem wcX7_isFormula : (.code yX7_isFormula cX7_isFormula 2 (some .boolean) : Cond) ∈ TBLG := List.mem_filter.mpr ⟨List.mem_of_getElem? (i := 834) (by decide +kernel), by decide +kernel⟩
theorem wiX7_isOpen : (.instanceMethod yX7_isOpen : Cond) ∈ TBLG := List.mem_filter.mpr ⟨List.mem_of_getElem? (i := 821) (by decide +kernel), by decide +kernel⟩
theorem wvX7_isOpen : (.selects RX7 yX7_isOpen yX7_isOpen : Cond) ∈ TBLG := List.mem_filter.mpr ⟨List.mem_of_getElem? (i := 60) (by decide +kernel), by decide +kernel⟩
theorem wcX7_isOpen : (.code yX7_isOpen cX7_isOpen 3 (some .boolean) : Cond) ∈ TBLG := List.mem_filter.mpr ⟨List.mem_of_getElem? (i := 822) (by decide +kernel), by decide +kernel⟩
theorem wiX7_joins : (.instanceMethod yX7_joins : Cond) ∈ TBLG := List.mem_filter.mpr ⟨List.mem_of_getElem? (i := 862) (by decide +kernel), by decide +kernel⟩
theorem wvX7_joins : (.selects RX7 yX7_joins yX7_joins : Cond) ∈ TBLG := List.mem_filter.mpr ⟨List.mem_of_getElem? (i := 69) (by decide +kernel), by decide +kernel⟩
theorem wcX7_joins : (.code yX7_joins cX7_joins 8 none : Cond) ∈ TBLG := List.mem_filter.mpr ⟨List.mem_of_getElem? (i := 863) (by decide +kernel), by decide +kernel⟩
theorem wiX7_kindAt : (.instanceMethod yX7_kindAt : Cond) ∈ TBLG := List.mem_filter.mpr ⟨List.mem_of_getElem? (i := 837) (by decide +kernel), by decide +kernel⟩
theorem wvX7_kindAt : (.selects RX7 yX7_kindAt yX7_kindAt : Cond) ∈ TBLG := List.mem_filter.mpr ⟨List.mem_of_getElem? (i := 63) (by decide +kernel), by decide +kernel⟩
theorem wcX7_kindAt : (.code yX7_kindAt cX7_kindAt 3 (some .int) : Cond) ∈ TBLG := List.mem_filter.mpr ⟨List.mem_of_getElem? (i := 838) (by decide +kernel), by decide +kernel⟩
theorem wsX7_kindOf : (.static yX7_kindOf : Cond) ∈ TBLG := List.mem_filter.mpr ⟨List.mem_of_getElem? (i := 817) (by decide +kernel), by decide +kernel⟩
theorem wcX7_kindOf : (.code yX7_kindOf cX7_kindOf 1 (some .int) : Cond) ∈ TBLG := List.mem_filter.mpr ⟨List.mem_of_getElem? (i := 818) (by decide +kernel), by decide +kernel⟩
theorem wiX7_lays : (.instanceMethod yX7_lays : Cond) ∈ TBLG := List.mem_filter.mpr ⟨List.mem_of_getElem? (i := 846) (by decide +kernel), by decide +kernel⟩
theorem wvX7_lays : (.selects RX7 yX7_lays yX7_lays : Cond) ∈ TBLG := List.mem_filter.mpr ⟨List.mem_of_getElem? (i := 65) (by decide +kernel), by decide +kernel⟩
theorem wcX7_lays : (.code yX7_lays cX7_lays 3 none : Cond) ∈ TBLG := List.mem_filter.mpr ⟨List.mem_of_getElem? (i := 847) (by decide +kernel), by decide +kernel⟩
theorem wiX7_leaf : (.instanceMethod yX7_leaf : Cond) ∈ TBLG := List.mem_filter.mpr ⟨List.mem_of_getElem? (i := 802) (by decide +kernel), by decide +kernel⟩
theorem wvX7_leaf : (.selects RX7 yX7_leaf yX7_leaf : Cond) ∈ TBLG := List.mem_filter.mpr ⟨List.mem_of_getElem? (i := 56) (by decide +kernel), by decide +kernel⟩
theorem wcX7_leaf : (.code yX7_leaf cX7_leaf 3 (some .boolean) : Cond) ∈ TBLG := List.mem_filter.mpr ⟨List.mem_of_getElem? (i := 803) (by decide +kernel), by decide +kernel⟩
theorem wiX7_makes : (.instanceMethod yX7_makes : Cond) ∈ TBLG := List.mem_filter.mpr ⟨List.mem_of_getElem? (i := 814) (by decide +kernel), by decide +kernel⟩
theorem wvX7_makes : (.selects RX7 yX7_makes yX7_makes : Cond) ∈ TBLG := List.mem_filter.mpr ⟨List.mem_of_getElem? (i := 59) (by decide +kernel), by decide +kernel⟩
theorem wcX7_makes : (.code yX7_makes cX7_makes 2 none : Cond) ∈ TBLG := List.mem_filter.mpr ⟨List.mem_of_getElem? (i := 815) (by decide +kernel), by decide +kernel⟩
theorem wiX7_node : (.instanceMethod yX7_node : Cond) ∈ TBLG := List.mem_filter.mpr ⟨List.mem_of_getElem? (i := 905) (by decide +kernel), by decide +kernel⟩
theorem wvX7_node : (.selects RX7 yX7_node yX7_node : Cond) ∈ TBLG := List.mem_filter.mpr ⟨List.mem_of_getElem? (i := 906) (by decide +kernel), by decide +kernel⟩
theorem wcX7_node : (.code yX7_node cX7_node 5 (some .int) : Cond) ∈ TBLG := List.mem_filter.mpr ⟨List.mem_of_getElem? (i := 907) (by decide +kernel), by decide +kernel⟩
theorem wiX7_number : (.instanceMethod yX7_number : Cond) ∈ TBLG := List.mem_filter.mpr ⟨List.mem_of_getElem? (i := 798) (by decide +kernel), by decide +kernel⟩
theorem wvX7_number : (.selects RX7 yX7_number yX7_number : Cond) ∈ TBLG := List.mem_filter.mpr ⟨List.mem_of_getElem? (i := 55) (by decide +kernel), by decide +kernel⟩
theorem wcX7_number : (.code yX7_number cX7_number 3 (some .boolean) : Cond) ∈ TBLG := List.mem_filter.mpr ⟨List.mem_of_getElem? (i := 799) (by decide +kernel), by decide +kernel⟩
theorem wiX7_plan : (.instanceMethod yX7_plan : Cond) ∈ TBLG := List.mem_filter.mpr ⟨List.mem_of_getElem? (i := 913) (by decide +kernel), by decide +kernel⟩
theorem wvX7_plan : (.selects RX7 yX7_plan yX7_plan : Cond) ∈ TBLG := List.mem_filter.mpr ⟨List.mem_of_getElem? (i := 914) (by decide +kernel), by decide +kernel⟩
theorem wcX7_plan : (.code yX7_plan cX7_plan 2 (some .int) : Cond) ∈ TBLG := List.mem_filter.mpr ⟨List.mem_of_getElem? (i := 915) (by decide +kernel), by decide +kernel⟩
theorem wiX7_plans : (.instanceMethod yX7_plans : Cond) ∈ TBLG := List.mem_filter.mpr ⟨List.mem_of_getElem? (i := 918) (by decide +kernel), by decide +kernel⟩
theorem wvX7_plans : (.selects RX7 yX7_plans yX7_plans : Cond) ∈ TBLG := List.mem_filter.mpr ⟨List.mem_of_getElem? (i := 73) (by decide +kernel), by decide +kernel⟩
theorem wcX7_plans : (.code yX7_plans cX7_plans 4 none : Cond) ∈ TBLG := List.mem_filter.mpr ⟨List.mem_of_getElem? (i := 919) (by decide +kernel), by decide +kernel⟩
theorem wiX7_proved : (.instanceMethod yX7_proved : Cond) ∈ TBLG := List.mem_filter.mpr ⟨List.mem_of_getElem? (i := 945) (by decide +kernel), by decide +kernel⟩
theorem wvX7_proved : (.selects RX7 yX7_proved yX7_proved : Cond) ∈ TBLG := List.mem_filter.mpr ⟨List.mem_of_getElem? (i := 946) (by decide +kernel), by decide +kernel⟩
theorem wcX7_proved : (.code yX7_proved cX7_proved 2 (some .int) : Cond) ∈ TBLG := List.mem_filter.mpr ⟨List.mem_of_getElem? (i := 947) (by decide +kernel), by decide +kernel⟩
theorem wiX7_pushes : (.instanceMethod yX7_pushes : Cond) ∈ TBLG := List.mem_filter.mpr ⟨List.mem_of_getElem? (i := 922) (by decide +kernel), by decide +kernel⟩
theorem wvX7_pushes : (.selects RX7 yX7_pushes yX7_pushes : Cond) ∈ TBLG := List.mem_filter.mpr ⟨List.mem_of_getElem? (i := 74) (by decide +kernel), by decide +kernel⟩
theorem wcX7_pushes : (.code yX7_pushes cX7_pushes 3 none : Cond) ∈ TBLG := List.mem_filter.mpr ⟨List.mem_of_getElem? (i := 923) (by decide +kernel), by decide +kernel⟩
theorem wiX7_puts : (.instanceMethod yX7_puts : Cond) ∈ TBLG := List.mem_filter.mpr ⟨List.mem_of_getElem? (i := 806) (by decide +kernel), by decide +kernel⟩
theorem wvX7_puts : (.selects RX7 yX7_puts yX7_puts : Cond) ∈ TBLG := List.mem_filter.mpr ⟨List.mem_of_getElem? (i := 57) (by decide +kernel), by decide +kernel⟩
theorem wcX7_puts : (.code yX7_puts cX7_puts 6 none : Cond) ∈ TBLG := List.mem_filter.mpr ⟨List.mem_of_getElem? (i := 807) (by decide +kernel), by decide +kernel⟩
theorem wiX7_read : (.instanceMethod yX7_read : Cond) ∈ TBLG := List.mem_filter.mpr ⟨List.mem_of_getElem? (i := 776) (by decide +kernel), by decide +kernel⟩
theorem wvX7_read : (.selects RX7 yX7_read yX7_read : Cond) ∈ TBLG := List.mem_filter.mpr ⟨List.mem_of_getElem? (i := 777) (by decide +kernel), by decide +kernel⟩
theorem wcX7_read : (.code yX7_read cX7_read 2 (some .int) : Cond) ∈ TBLG := List.mem_filter.mpr ⟨List.mem_of_getElem? (i := 778) (by decide +kernel), by decide +kernel⟩
theorem wiX7_reads : (.instanceMethod yX7_reads : Cond) ∈ TBLG := List.mem_filter.mpr ⟨List.mem_of_getElem? (i := 781) (by decide +kernel), by decide +kernel⟩
theorem wvX7_reads : (.selects RX7 yX7_reads yX7_reads : Cond) ∈ TBLG := List.mem_filter.mpr ⟨List.mem_of_getElem? (i := 51) (by decide +kernel), by decide +kernel⟩
theorem wcX7_reads : (.code yX7_reads cX7_reads 2 (some .boolean) : Cond) ∈ TBLG := List.mem_filter.mpr ⟨List.mem_of_getElem? (i := 782) (by decide +kernel), by decide +kernel⟩
theorem wiX7_setCell : (.instanceMethod yX7_setCell : Cond) ∈ TBLG := List.mem_filter.mpr ⟨List.mem_of_getElem? (i := 870) (by decide +kernel), by decide +kernel⟩
theorem wvX7_setCell : (.selects RX7 yX7_setCell yX7_setCell : Cond) ∈ TBLG := List.mem_filter.mpr ⟨List.mem_of_getElem? (i := 871) (by decide +kernel), by decide +kernel⟩
theorem wcX7_setCell : (.code yX7_setCell cX7_setCell 4 (some .int) : Cond) ∈ TBLG := List.mem_filter.mpr ⟨List.mem_of_getElem? (i := 872) (by decide +kernel), by decide +kernel⟩
theorem wiX7_setPlaces : (.instanceMethod yX7_setPlaces : Cond) ∈ TBLG := List.mem_filter.mpr ⟨List.mem_of_getElem? (i := 877) (by decide +kernel), by decide +kernel⟩
theorem wvX7_setPlaces : (.selects RX7 yX7_setPlaces yX7_setPlaces : Cond) ∈ TBLG := List.mem_filter.mpr ⟨List.mem_of_getElem? (i := 878) (by decide +kernel), by decide +kernel⟩
theorem wcX7_setPlaces : (.code yX7_setPlaces cX7_setPlaces 3 (some .int) : Cond) ∈ TBLG := List.mem_filter.mpr ⟨List.mem_of_getElem? (i := 879) (by decide +kernel), by decide +kernel⟩
theorem wiX7_settles : (.instanceMethod yX7_settles : Cond) ∈ TBLG := List.mem_filter.mpr ⟨List.mem_of_getElem? (i := 810) (by decide +kernel), by decide +kernel⟩
theorem wvX7_settles : (.selects RX7 yX7_settles yX7_settles : Cond) ∈ TBLG := List.mem_filter.mpr ⟨List.mem_of_getElem? (i := 58) (by decide +kernel), by decide +kernel⟩
theorem wcX7_settles : (.code yX7_settles cX7_settles 5 none : Cond) ∈ TBLG := List.mem_filter.mpr ⟨List.mem_of_getElem? (i := 811) (by decide +kernel), by decide +kernel⟩
theorem wiX7_sizeAt : (.instanceMethod yX7_sizeAt : Cond) ∈ TBLG := List.mem_filter.mpr ⟨List.mem_of_getElem? (i := 842) (by decide +kernel), by decide +kernel⟩
theorem wvX7_sizeAt : (.selects RX7 yX7_sizeAt yX7_sizeAt : Cond) ∈ TBLG := List.mem_filter.mpr ⟨List.mem_of_getElem? (i := 64) (by decide +kernel), by decide +kernel⟩
theorem wcX7_sizeAt : (.code yX7_sizeAt cX7_sizeAt 6 (some .int) : Cond) ∈ TBLG := List.mem_filter.mpr ⟨List.mem_of_getElem? (i := 843) (by decide +kernel), by decide +kernel⟩
theorem wiX7_step : (.instanceMethod yX7_step : Cond) ∈ TBLG := List.mem_filter.mpr ⟨List.mem_of_getElem? (i := 933) (by decide +kernel), by decide +kernel⟩
theorem wvX7_step : (.selects RX7 yX7_step yX7_step : Cond) ∈ TBLG := List.mem_filter.mpr ⟨List.mem_of_getElem? (i := 934) (by decide +kernel), by decide +kernel⟩
theorem wcX7_step : (.code yX7_step cX7_step 3 (some .int) : Cond) ∈ TBLG := List.mem_filter.mpr ⟨List.mem_of_getElem? (i := 935) (by decide +kernel), by decide +kernel⟩
theorem wiX7_tells : (.instanceMethod yX7_tells : Cond) ∈ TBLG := List.mem_filter.mpr ⟨List.mem_of_getElem? (i := 858) (by decide +kernel), by decide +kernel⟩
theorem wvX7_tells : (.selects RX7 yX7_tells yX7_tells : Cond) ∈ TBLG := List.mem_filter.mpr ⟨List.mem_of_getElem? (i := 68) (by decide +kernel), by decide +kernel⟩
theorem wcX7_tells : (.code yX7_tells cX7_tells 4 none : Cond) ∈ TBLG := List.mem_filter.mpr ⟨List.mem_of_getElem? (i := 859) (by decide +kernel), by decide +kernel⟩
theorem wiX7_tries : (.instanceMethod yX7_tries : Cond) ∈ TBLG := List.mem_filter.mpr ⟨List.mem_of_getElem? (i := 950) (by decide +kernel), by decide +kernel⟩
theorem wvX7_tries : (.selects RX7 yX7_tries yX7_tries : Cond) ∈ TBLG := List.mem_filter.mpr ⟨List.mem_of_getElem? (i := 77) (by decide +kernel), by decide +kernel⟩
theorem wcX7_tries : (.code yX7_tries cX7_tries 11 (some .int) : Cond) ∈ TBLG := List.mem_filter.mpr ⟨List.mem_of_getElem? (i := 951) (by decide +kernel), by decide +kernel⟩
theorem wiX7_turn : (.instanceMethod yX7_turn : Cond) ∈ TBLG := List.mem_filter.mpr ⟨List.mem_of_getElem? (i := 828) (by decide +kernel), by decide +kernel⟩
theorem wvX7_turn : (.selects RX7 yX7_turn yX7_turn : Cond) ∈ TBLG := List.mem_filter.mpr ⟨List.mem_of_getElem? (i := 829) (by decide +kernel), by decide +kernel⟩
theorem wcX7_turn : (.code yX7_turn cX7_turn 8 (some .int) : Cond) ∈ TBLG := List.mem_filter.mpr ⟨List.mem_of_getElem? (i := 830) (by decide +kernel), by decide +kernel⟩
theorem wiX7_undo : (.instanceMethod yX7_undo : Cond) ∈ TBLG := List.mem_filter.mpr ⟨List.mem_of_getElem? (i := 881) (by decide +kernel), by decide +kernel⟩
theorem wvX7_undo : (.selects RX7 yX7_undo yX7_undo : Cond) ∈ TBLG := List.mem_filter.mpr ⟨List.mem_of_getElem? (i := 882) (by decide +kernel), by decide +kernel⟩
theorem wcX7_undo : (.code yX7_undo cX7_undo 2 (some .int) : Cond) ∈ TBLG := List.mem_filter.mpr ⟨List.mem_of_getElem? (i := 883) (by decide +kernel), by decide +kernel⟩
theorem wiX7_uses : (.instanceMethod yX7_uses : Cond) ∈ TBLG := List.mem_filter.mpr ⟨List.mem_of_getElem? (i := 902) (by decide +kernel), by decide +kernel⟩
theorem wvX7_uses : (.selects RX7 yX7_uses yX7_uses : Cond) ∈ TBLG := List.mem_filter.mpr ⟨List.mem_of_getElem? (i := 72) (by decide +kernel), by decide +kernel⟩
theorem wcX7_uses : (.code yX7_uses cX7_uses 5 (some .int) : Cond) ∈ TBLG := List.mem_filter.mpr ⟨List.mem_of_getElem? (i := 903) (by decide +kernel), by decide +kernel⟩
theorem wiX7_ways : (.instanceMethod yX7_ways : Cond) ∈ TBLG := List.mem_filter.mpr ⟨List.mem_of_getElem? (i := 957) (by decide +kernel), by decide +kernel⟩
theorem wvX7_ways : (.selects RX7 yX7_ways yX7_ways : Cond) ∈ TBLG := List.mem_filter.mpr ⟨List.mem_of_getElem? (i := 958) (by decide +kernel), by decide +kernel⟩
theorem wcX7_ways : (.code yX7_ways cX7_ways 2 (some .int) : Cond) ∈ TBLG := List.mem_filter.mpr ⟨List.mem_of_getElem? (i := 959) (by decide +kernel), by decide +kernel⟩
theorem w0X0 : (.initialized RX0 : Cond) ∈ TBLG := List.mem_filter.mpr ⟨List.mem_of_getElem? (i := 87) (by decide +kernel), by decide +kernel⟩
theorem w0X1 : (.initialized RX1 : Cond) ∈ TBLG := List.mem_filter.mpr ⟨List.mem_of_getElem? (i := 83) (by decide +kernel), by decide +kernel⟩
theorem w0X2 : (.initialized RX2 : Cond) ∈ TBLG := List.mem_filter.mpr ⟨List.mem_of_getElem? (i := 85) (by decide +kernel), by decide +kernel⟩
theorem w0X3 : (.initialized RX3 : Cond) ∈ TBLG := List.mem_filter.mpr ⟨List.mem_of_getElem? (i := 81) (by decide +kernel), by decide +kernel⟩
theorem w0X4 : (.initialized RX4 : Cond) ∈ TBLG := List.mem_filter.mpr ⟨List.mem_of_getElem? (i := 82) (by decide +kernel), by decide +kernel⟩
theorem w0X5 : (.initialized RX5 : Cond) ∈ TBLG := List.mem_filter.mpr ⟨List.mem_of_getElem? (i := 86) (by decide +kernel), by decide +kernel⟩
theorem w0X6 : (.initialized RX6 : Cond) ∈ TBLG := List.mem_filter.mpr ⟨List.mem_of_getElem? (i := 80) (by decide +kernel), by decide +kernel⟩
theorem w0X7 : (.initialized RX7 : Cond) ∈ TBLG := List.mem_filter.mpr ⟨List.mem_of_getElem? (i := 88) (by decide +kernel), by decide +kernel⟩
theorem w0Math : (.initialized "java/lang/Math" : Cond) ∈ TBLG := List.mem_filter.mpr ⟨List.mem_of_getElem? (i := 84) (by decide +kernel), by decide +kernel⟩
theorem w0System : (.initialized "java/lang/System" : Cond) ∈ TBLG := List.mem_filter.mpr ⟨List.mem_of_getElem? (i := 89) (by decide +kernel), by decide +kernel⟩
theorem wsM_max : (.static Lib.Math.max.name : Cond) ∈ TBLG := List.mem_filter.mpr ⟨List.mem_of_getElem? (i := 118) (by decide +kernel), by decide +kernel⟩
theorem wcM_max : (.code Lib.Math.max.name Lib.Math.max.code 2 (some .int) : Cond) ∈ TBLG := List.mem_filter.mpr ⟨List.mem_of_getElem? (i := 119) (by decide +kernel), by decide +kernel⟩
theorem wsM_min : (.static Lib.Math.min.name : Cond) ∈ TBLG := List.mem_filter.mpr ⟨List.mem_of_getElem? (i := 433) (by decide +kernel), by decide +kernel⟩
theorem wcM_min : (.code Lib.Math.min.name Lib.Math.min.code 2 (some .int) : Cond) ∈ TBLG := List.mem_filter.mpr ⟨List.mem_of_getElem? (i := 434) (by decide +kernel), by decide +kernel⟩
theorem wsM_max_long : (.static Lib.MathLoose.max_long.x : Cond) ∈ TBLG := List.mem_filter.mpr ⟨List.mem_of_getElem? (i := 482) (by decide +kernel), by decide +kernel⟩
theorem wcM_max_long : (.code Lib.MathLoose.max_long.x Lib.MathLoose.max_long.code 4 (some .long) : Cond) ∈ TBLG := List.mem_filter.mpr ⟨List.mem_of_getElem? (i := 483) (by decide +kernel), by decide +kernel⟩
theorem wsM_min_long : (.static Lib.MathLoose.min_long.x : Cond) ∈ TBLG := List.mem_filter.mpr ⟨List.mem_of_getElem? (i := 479) (by decide +kernel), by decide +kernel⟩
theorem wcM_min_long : (.code Lib.MathLoose.min_long.x Lib.MathLoose.min_long.code 4 (some .long) : Cond) ∈ TBLG := List.mem_filter.mpr ⟨List.mem_of_getElem? (i := 480) (by decide +kernel), by decide +kernel⟩
theorem wsM_copy : (.static arraycopyName : Cond) ∈ TBLG := List.mem_filter.mpr ⟨List.mem_of_getElem? (i := 371) (by decide +kernel), by decide +kernel⟩
theorem wnM_copy : (.native arraycopyName : Cond) ∈ TBLG := List.mem_filter.mpr ⟨List.mem_of_getElem? (i := 372) (by decide +kernel), by decide +kernel⟩
theorem inG_X0 : ∀ w ∈ u_ws RX0 TX0 7, w ∈ TBLG := by
  have h : u_ws RX0 TX0 7 = ([259, 261, 263, 265, 267, 269, 271] : List Nat).filterMap (fun i => lw_tbl[i]?) := by decide +kernel
  have h2 : (u_ws RX0 TX0 7).all goodWord = true := by decide +kernel
  intro w hw
  refine List.mem_filter.mpr ⟨?_, List.all_eq_true.mp h2 w hw⟩
  rw [h] at hw
  obtain ⟨i, -, hi⟩ := List.mem_filterMap.mp hw
  exact List.mem_of_getElem? hi
theorem inG_X1 : ∀ w ∈ u_ws RX1 TX1 3, w ∈ TBLG := by
  have h : u_ws RX1 TX1 3 = ([127, 129, 131] : List Nat).filterMap (fun i => lw_tbl[i]?) := by decide +kernel
  have h2 : (u_ws RX1 TX1 3).all goodWord = true := by decide +kernel
  intro w hw
  refine List.mem_filter.mpr ⟨?_, List.all_eq_true.mp h2 w hw⟩
  rw [h] at hw
  obtain ⟨i, -, hi⟩ := List.mem_filterMap.mp hw
  exact List.mem_of_getElem? hi
theorem inG_X2 : ∀ w ∈ u_ws RX2 TX2 10, w ∈ TBLG := by
  have h : u_ws RX2 TX2 10 = ([200, 202, 204, 206, 208, 210, 212, 214, 216, 218] : List Nat).filterMap (fun i => lw_tbl[i]?) := by decide +kernel
  have h2 : (u_ws RX2 TX2 10).all goodWord = true := by decide +kernel
  intro w hw
  refine List.mem_filter.mpr ⟨?_, List.all_eq_true.mp h2 w hw⟩
  rw [h] at hw
  obtain ⟨i, -, hi⟩ := List.mem_filterMap.mp hw
  exact List.mem_of_getElem? hi
theorem inG_X3 : ∀ w ∈ u_ws RX3 TX3 4, w ∈ TBLG := by
  have h : u_ws RX3 TX3 4 = ([161, 163, 165, 167] : List Nat).filterMap (fun i => lw_tbl[i]?) := by decide +kernel
  have h2 : (u_ws RX3 TX3 4).all goodWord = true := by decide +kernel
  intro w hw
  refine List.mem_filter.mpr ⟨?_, List.all_eq_true.mp h2 w hw⟩
  rw [h] at hw
  obtain ⟨i, -, hi⟩ := List.mem_filterMap.mp hw
  exact List.mem_of_getElem? hi
theorem inG_X4 : ∀ w ∈ u_ws RX4 TX4 4, w ∈ TBLG := by
  have h : u_ws RX4 TX4 4 = ([145, 147, 149, 151] : List Nat).filterMap (fun i => lw_tbl[i]?) := by decide +kernel
  have h2 : (u_ws RX4 TX4 4).all goodWord = true := by decide +kernel
  intro w hw
  refine List.mem_filter.mpr ⟨?_, List.all_eq_true.mp h2 w hw⟩
  rw [h] at hw
  obtain ⟨i, -, hi⟩ := List.mem_filterMap.mp hw
  exact List.mem_of_getElem? hi
theorem inG_X5 : ∀ w ∈ u_ws RX5 TX5 3, w ∈ TBLG := by
  have h : u_ws RX5 TX5 3 = ([232, 234, 236] : List Nat).filterMap (fun i => lw_tbl[i]?) := by decide +kernel
  have h2 : (u_ws RX5 TX5 3).all goodWord = true := by decide +kernel
  intro w hw
  refine List.mem_filter.mpr ⟨?_, List.all_eq_true.mp h2 w hw⟩
  rw [h] at hw
  obtain ⟨i, -, hi⟩ := List.mem_filterMap.mp hw
  exact List.mem_of_getElem? hi
theorem inG_X6 : ∀ w ∈ u_ws RX6 TX6 7, w ∈ TBLG := by
  have h : u_ws RX6 TX6 7 = ([281, 283, 285, 287, 289, 291, 293] : List Nat).filterMap (fun i => lw_tbl[i]?) := by decide +kernel
  have h2 : (u_ws RX6 TX6 7).all goodWord = true := by decide +kernel
  intro w hw
  refine List.mem_filter.mpr ⟨?_, List.all_eq_true.mp h2 w hw⟩
  rw [h] at hw
  obtain ⟨i, -, hi⟩ := List.mem_filterMap.mp hw
  exact List.mem_of_getElem? hi
theorem inG_X7 : ∀ w ∈ u_ws RX7 TX7 39, w ∈ TBLG := by
  have h : u_ws RX7 TX7 39 = ([682, 684, 686, 688, 690, 692, 694, 696, 698, 700, 702, 704, 706, 708, 710, 712, 714, 716, 718, 720, 722, 724, 726, 728, 730, 732, 734, 736, 738, 740, 742, 744, 746, 748, 750, 752, 754, 756, 758] : List Nat).filterMap (fun i => lw_tbl[i]?) := by decide +kernel
  have h2 : (u_ws RX7 TX7 39).all goodWord = true := by decide +kernel
  intro w hw
  refine List.mem_filter.mpr ⟨?_, List.all_eq_true.mp h2 w hw⟩
  rw [h] at hw
  obtain ⟨i, -, hi⟩ := List.mem_filterMap.mp hw
  exact List.mem_of_getElem? hi
end
section
/-! facts of the cells, and the rows of this program -/
theorem s0 : (sh 0).1 = 6 := by decide +kernel
theorem n0 : ln 0 = 7 := by decide +kernel
theorem m0 : Int32.ofNat (ln 0) = 7 := by decide +kernel
theorem s1 : (sh 1).1 = 3 := by decide +kernel
theorem n1 : ln 1 = 4 := by decide +kernel
theorem m1 : Int32.ofNat (ln 1) = 4 := by decide +kernel
theorem s2 : (sh 2).1 = 10 := by decide +kernel
theorem n2 : ln 2 = 100 := by decide +kernel
theorem m2 : Int32.ofNat (ln 2) = 100 := by decide +kernel
theorem s3 : (sh 3).1 = 4 := by decide +kernel
theorem n3 : ln 3 = 4 := by decide +kernel
theorem m3 : Int32.ofNat (ln 3) = 4 := by decide +kernel
theorem s24 : (sh 24).1 = 4 := by decide +kernel
theorem n24 : ln 24 = 4 := by decide +kernel
theorem m24 : Int32.ofNat (ln 24) = 4 := by decide +kernel
theorem s25 : (sh 25).1 = 12 := by decide +kernel
theorem n25 : ln 25 = 6 := by decide +kernel
theorem m25 : Int32.ofNat (ln 25) = 6 := by decide +kernel
theorem s26 : (sh 26).1 = 10 := by decide +kernel
theorem n26 : ln 26 = 8 := by decide +kernel
theorem m26 : Int32.ofNat (ln 26) = 8 := by decide +kernel
theorem s45 : (sh 45).1 = 13 := by decide +kernel
theorem n45 : ln 45 = 5 := by decide +kernel
theorem m45 : Int32.ofNat (ln 45) = 5 := by decide +kernel
theorem s46 : (sh 46).1 = 14 := by decide +kernel
theorem n46 : ln 46 = 6 := by decide +kernel
theorem m46 : Int32.ofNat (ln 46) = 6 := by decide +kernel
theorem s47 : (sh 47).1 = 2 := by decide +kernel
theorem n47 : ln 47 = 10 := by decide +kernel
theorem m47 : Int32.ofNat (ln 47) = 10 := by decide +kernel
theorem s48 : (sh 48).1 = 10 := by decide +kernel
theorem n48 : ln 48 = 726 := by decide +kernel
theorem m48 : Int32.ofNat (ln 48) = 726 := by decide +kernel
theorem s49 : (sh 49).1 = 10 := by decide +kernel
theorem n49 : ln 49 = 726 := by decide +kernel
theorem m49 : Int32.ofNat (ln 49) = 726 := by decide +kernel
theorem s50 : (sh 50).1 = 10 := by decide +kernel
theorem n50 : ln 50 = 726 := by decide +kernel
theorem m50 : Int32.ofNat (ln 50) = 726 := by decide +kernel
theorem s51 : (sh 51).1 = 10 := by decide +kernel
theorem n51 : ln 51 = 726 := by decide +kernel
theorem m51 : Int32.ofNat (ln 51) = 726 := by decide +kernel
theorem s52 : (sh 52).1 = 5 := by decide +kernel
theorem n52 : ln 52 = 3 := by decide +kernel
theorem m52 : Int32.ofNat (ln 52) = 3 := by decide +kernel
theorem s53 : (sh 53).1 = 10 := by decide +kernel
theorem n53 : ln 53 = 60 := by decide +kernel
theorem m53 : Int32.ofNat (ln 53) = 60 := by decide +kernel
theorem s54 : (sh 54).1 = 10 := by decide +kernel
theorem n54 : ln 54 = 60 := by decide +kernel
theorem m54 : Int32.ofNat (ln 54) = 60 := by decide +kernel
theorem s208 : (sh 208).1 = 7 := by decide +kernel
theorem n208 : ln 208 = 39 := by decide +kernel
theorem m208 : Int32.ofNat (ln 208) = 39 := by decide +kernel
theorem s209 : (sh 209).1 = 10 := by decide +kernel
theorem n209 : ln 209 = 376 := by decide +kernel
theorem m209 : Int32.ofNat (ln 209) = 376 := by decide +kernel
theorem s210 : (sh 210).1 = 10 := by decide +kernel
theorem n210 : ln 210 = 1880 := by decide +kernel
theorem m210 : Int32.ofNat (ln 210) = 1880 := by decide +kernel
theorem s211 : (sh 211).1 = 10 := by decide +kernel
theorem n211 : ln 211 = 100 := by decide +kernel
theorem m211 : Int32.ofNat (ln 211) = 100 := by decide +kernel
theorem s212 : (sh 212).1 = 10 := by decide +kernel
theorem n212 : ln 212 = 376 := by decide +kernel
theorem m212 : Int32.ofNat (ln 212) = 376 := by decide +kernel
theorem s213 : (sh 213).1 = 10 := by decide +kernel
theorem n213 : ln 213 = 31 := by decide +kernel
theorem m213 : Int32.ofNat (ln 213) = 31 := by decide +kernel
theorem s214 : (sh 214).1 = 10 := by decide +kernel
theorem n214 : ln 214 = 64 := by decide +kernel
theorem m214 : Int32.ofNat (ln 214) = 64 := by decide +kernel
theorem s215 : (sh 215).1 = 10 := by decide +kernel
theorem n215 : ln 215 = 60 := by decide +kernel
theorem m215 : Int32.ofNat (ln 215) = 60 := by decide +kernel
theorem s216 : (sh 216).1 = 10 := by decide +kernel
theorem n216 : ln 216 = 540 := by decide +kernel
theorem m216 : Int32.ofNat (ln 216) = 540 := by decide +kernel
theorem s217 : (sh 217).1 = 10 := by decide +kernel
theorem n217 : ln 217 = 540 := by decide +kernel
theorem m217 : Int32.ofNat (ln 217) = 540 := by decide +kernel
theorem s218 : (sh 218).1 = 10 := by decide +kernel
theorem n218 : ln 218 = 540 := by decide +kernel
theorem m218 : Int32.ofNat (ln 218) = 540 := by decide +kernel
theorem s219 : (sh 219).1 = 10 := by decide +kernel
theorem n219 : ln 219 = 540 := by decide +kernel
theorem m219 : Int32.ofNat (ln 219) = 540 := by decide +kernel
theorem s220 : (sh 220).1 = 10 := by decide +kernel
theorem n220 : ln 220 = 540 := by decide +kernel
theorem m220 : Int32.ofNat (ln 220) = 540 := by decide +kernel
theorem s221 : (sh 221).1 = 10 := by decide +kernel
theorem n221 : ln 221 = 540 := by decide +kernel
theorem m221 : Int32.ofNat (ln 221) = 540 := by decide +kernel
theorem s222 : (sh 222).1 = 10 := by decide +kernel
theorem n222 : ln 222 = 6 := by decide +kernel
theorem m222 : Int32.ofNat (ln 222) = 6 := by decide +kernel
theorem s223 : (sh 223).1 = 11 := by decide +kernel
theorem n223 : ln 223 = 6 := by decide +kernel
theorem m223 : Int32.ofNat (ln 223) = 6 := by decide +kernel
theorem s224 : (sh 224).1 = 10 := by decide +kernel
theorem n224 : ln 224 = 4 := by decide +kernel
theorem m224 : Int32.ofNat (ln 224) = 4 := by decide +kernel
theorem s225 : (sh 225).1 = 10 := by decide +kernel
theorem n225 : ln 225 = 100 := by decide +kernel
theorem m225 : Int32.ofNat (ln 225) = 100 := by decide +kernel
theorem s226 : (sh 226).1 = 10 := by decide +kernel
theorem n226 : ln 226 = 100 := by decide +kernel
theorem m226 : Int32.ofNat (ln 226) = 100 := by decide +kernel
theorem s227 : (sh 227).1 = 10 := by decide +kernel
theorem n227 : ln 227 = 100 := by decide +kernel
theorem m227 : Int32.ofNat (ln 227) = 100 := by decide +kernel
theorem s228 : (sh 228).1 = 10 := by decide +kernel
theorem n228 : ln 228 = 1170 := by decide +kernel
theorem m228 : Int32.ofNat (ln 228) = 1170 := by decide +kernel
theorem shD0 : ∀ a, a < 229 → (sh a).1 = 0 → sh a = (0, 7) := by decide +kernel
theorem shN0 {a : Nat} (h : (sh a).1 = 0) : sh a = (0, 7) := shD0 a (lt_of_sh h (by omega)) h
theorem shD1 : ∀ a, a < 229 → (sh a).1 = 1 → sh a = (1, 3) := by decide +kernel
theorem shN1 {a : Nat} (h : (sh a).1 = 1) : sh a = (1, 3) := shD1 a (lt_of_sh h (by omega)) h
theorem shD2 : ∀ a, a < 229 → (sh a).1 = 2 → sh a = (2, 10) := by decide +kernel
theorem shN2 {a : Nat} (h : (sh a).1 = 2) : sh a = (2, 10) := shD2 a (lt_of_sh h (by omega)) h
theorem shD3 : ∀ a, a < 229 → (sh a).1 = 3 → sh a = (3, 4) := by decide +kernel
theorem shN3 {a : Nat} (h : (sh a).1 = 3) : sh a = (3, 4) := shD3 a (lt_of_sh h (by omega)) h
theorem shD4 : ∀ a, a < 229 → (sh a).1 = 4 → sh a = (4, 4) := by decide +kernel
theorem shN4 {a : Nat} (h : (sh a).1 = 4) : sh a = (4, 4) := shD4 a (lt_of_sh h (by omega)) h
theorem shD5 : ∀ a, a < 229 → (sh a).1 = 5 → sh a = (5, 3) := by decide +kernel
theorem shN5 {a : Nat} (h : (sh a).1 = 5) : sh a = (5, 3) := shD5 a (lt_of_sh h (by omega)) h
theorem shD6 : ∀ a, a < 229 → (sh a).1 = 6 → sh a = (6, 7) := by decide +kernel
theorem shN6 {a : Nat} (h : (sh a).1 = 6) : sh a = (6, 7) := shD6 a (lt_of_sh h (by omega)) h
theorem shD7 : ∀ a, a < 229 → (sh a).1 = 7 → sh a = (7, 39) := by decide +kernel
theorem shN7 {a : Nat} (h : (sh a).1 = 7) : sh a = (7, 39) := shD7 a (lt_of_sh h (by omega)) h
theorem tFd : ∀ a, a < 229 → (sh a).1 = 1 → rf a 0 = a + 1 ∧ rf a 1 = a + 2 ∧ (sh (a + 1)).1 = 10 ∧ (sh (a + 2)).1 = 10 ∧ ln (a + 1) = ln (a + 2) ∧ (ln (a + 1) = 30 ∨ ln (a + 1) = 60) := by decide +kernel
theorem tSd : ∀ a, a < 229 → (sh a).1 = 4 → rf a 0 = a + 1 ∧ rf a 2 = a + 2 ∧ (sh (a + 1)).1 = 12 ∧ (sh (a + 2)).1 = 10 ∧ ln (a + 2) = 8 := by decide +kernel
theorem tEd : ∀ a, a < 229 → (sh a).1 = 0 → rf a 1 = a + 1 ∧ (sh (a + 1)).1 = 1 ∧ (rf a 3 = a + 4 ∧ rf a 4 = a + 5 ∧ rf a 5 = a + 6 ∧ rf a 6 = a + 7) ∧ ((sh (a + 4)).1 = 10 ∧ (sh (a + 5)).1 = 10 ∧ (sh (a + 6)).1 = 10 ∧ (sh (a + 7)).1 = 10) ∧ ln (a + 4) = 60 ∧ ln (a + 5) = 60 ∧ ln (a + 6) = 60 ∧ ln (a + 7) = 60 := by decide +kernel
theorem rF0 {a : Nat} (h : (sh a).1 = 1) : rf a 0 = a + 1 := (tFd a (lt_of_sh h (by omega)) h).1
theorem rF1 {a : Nat} (h : (sh a).1 = 1) : rf a 1 = a + 2 := (tFd a (lt_of_sh h (by omega)) h).2.1
theorem tF0 {a : Nat} (h : (sh a).1 = 1) : (sh (a + 1)).1 = 10 := (tFd a (lt_of_sh h (by omega)) h).2.2.1
theorem tF1 {a : Nat} (h : (sh a).1 = 1) : (sh (a + 2)).1 = 10 := (tFd a (lt_of_sh h (by omega)) h).2.2.2.1
theorem rS0 {a : Nat} (h : (sh a).1 = 4) : rf a 0 = a + 1 := (tSd a (lt_of_sh h (by omega)) h).1
theorem rS2 {a : Nat} (h : (sh a).1 = 4) : rf a 2 = a + 2 := (tSd a (lt_of_sh h (by omega)) h).2.1
theorem tS0 {a : Nat} (h : (sh a).1 = 4) : (sh (a + 1)).1 = 12 := (tSd a (lt_of_sh h (by omega)) h).2.2.1
theorem tS2 {a : Nat} (h : (sh a).1 = 4) : (sh (a + 2)).1 = 10 := (tSd a (lt_of_sh h (by omega)) h).2.2.2.1
theorem nS2 {a : Nat} (h : (sh a).1 = 4) : ln (a + 2) = 8 := (tSd a (lt_of_sh h (by omega)) h).2.2.2.2
theorem rE1 {a : Nat} (h : (sh a).1 = 0) : rf a 1 = a + 1 := (tEd a (lt_of_sh h (by omega)) h).1
theorem tE1 {a : Nat} (h : (sh a).1 = 0) : (sh (a + 1)).1 = 1 := (tEd a (lt_of_sh h (by omega)) h).2.1
theorem rE3 {a : Nat} (h : (sh a).1 = 0) : rf a 3 = a + 4 := (tEd a (lt_of_sh h (by omega)) h).2.2.1.1
theorem tE3 {a : Nat} (h : (sh a).1 = 0) : (sh (a + 4)).1 = 10 := (tEd a (lt_of_sh h (by omega)) h).2.2.2.1.1
theorem nE3 {a : Nat} (h : (sh a).1 = 0) : ln (a + 4) = 60 := (tEd a (lt_of_sh h (by omega)) h).2.2.2.2.1
theorem rE4 {a : Nat} (h : (sh a).1 = 0) : rf a 4 = a + 5 := (tEd a (lt_of_sh h (by omega)) h).2.2.1.2.1
theorem tE4 {a : Nat} (h : (sh a).1 = 0) : (sh (a + 5)).1 = 10 := (tEd a (lt_of_sh h (by omega)) h).2.2.2.1.2.1
theorem nE4 {a : Nat} (h : (sh a).1 = 0) : ln (a + 5) = 60 := (tEd a (lt_of_sh h (by omega)) h).2.2.2.2.2.1
theorem rE5 {a : Nat} (h : (sh a).1 = 0) : rf a 5 = a + 6 := (tEd a (lt_of_sh h (by omega)) h).2.2.1.2.2.1
theorem tE5 {a : Nat} (h : (sh a).1 = 0) : (sh (a + 6)).1 = 10 := (tEd a (lt_of_sh h (by omega)) h).2.2.2.1.2.2.1
theorem nE5 {a : Nat} (h : (sh a).1 = 0) : ln (a + 6) = 60 := (tEd a (lt_of_sh h (by omega)) h).2.2.2.2.2.2.1
theorem rE6 {a : Nat} (h : (sh a).1 = 0) : rf a 6 = a + 7 := (tEd a (lt_of_sh h (by omega)) h).2.2.1.2.2.2
theorem tE6 {a : Nat} (h : (sh a).1 = 0) : (sh (a + 7)).1 = 10 := (tEd a (lt_of_sh h (by omega)) h).2.2.2.1.2.2.2
theorem nE6 {a : Nat} (h : (sh a).1 = 0) : ln (a + 7) = 60 := (tEd a (lt_of_sh h (by omega)) h).2.2.2.2.2.2.2
section SP
variable {X : XT} {G : GT} {h : Nat} {ρ : Type} {val : ρ → Option Value} {nL pc : Nat} {lv : List (Nat × Value)} {st : List Value} {M : Mem} {o : Option (ρ × Mem)} {cc : ByteArray} {ret : Option FieldType}
theorem g6_12 (C0 : Cx X G cc nL RX6 ret) (hdg : decode cc pc = .ok (.getfield 12, 3)) (k : V X G h val nL (pc + 3) lv (.ref (G.2 + 1) :: st) M o) : V X G h val nL pc lv (.ref (G.2 + 0) :: st) M o := V_getR C0 0 inG_X6 rfl (by decide) (by decide) wf6_12 rfl (shN6 s0) (by decide +kernel) (by decide +kernel) hdg k
theorem g6_19 (C0 : Cx X G cc nL RX6 ret) (hdg : decode cc pc = .ok (.getfield 19, 3)) (k : V X G h val nL (pc + 3) lv (.ref (G.2 + 24) :: st) M o) : V X G h val nL pc lv (.ref (G.2 + 0) :: st) M o := V_getR C0 1 inG_X6 rfl (by decide) (by decide) wf6_19 rfl (shN6 s0) (by decide +kernel) (by decide +kernel) hdg k
theorem g6_23 (C0 : Cx X G cc nL RX6 ret) (hdg : decode cc pc = .ok (.getfield 23, 3)) (k : V X G h val nL (pc + 3) lv (.ref (G.2 + 45) :: st) M o) : V X G h val nL pc lv (.ref (G.2 + 0) :: st) M o := V_getR C0 2 inG_X6 rfl (by decide) (by decide) wf6_23 rfl (shN6 s0) (by decide +kernel) (by decide +kernel) hdg k
theorem g6_29 (C0 : Cx X G cc nL RX6 ret) (hdg : decode cc pc = .ok (.getfield 29, 3)) (k : V X G h val nL (pc + 3) lv (.ref (G.2 + 46) :: st) M o) : V X G h val nL pc lv (.ref (G.2 + 0) :: st) M o := V_getR C0 4 inG_X6 rfl (by decide) (by decide) wf6_29 rfl (shN6 s0) (by decide +kernel) (by decide +kernel) hdg k
theorem g6_36 (C0 : Cx X G cc nL RX6 ret) (hdg : decode cc pc = .ok (.getfield 36, 3)) (k : V X G h val nL (pc + 3) lv (.ref (G.2 + 47) :: st) M o) : V X G h val nL pc lv (.ref (G.2 + 0) :: st) M o := V_getR C0 5 inG_X6 rfl (by decide) (by decide) wf6_36 rfl (shN6 s0) (by decide +kernel) (by decide +kernel) hdg k
theorem g6_43 (C0 : Cx X G cc nL RX6 ret) (hdg : decode cc pc = .ok (.getfield 43, 3)) (k : V X G h val nL (pc + 3) lv (.ref (G.2 + 52) :: st) M o) : V X G h val nL pc lv (.ref (G.2 + 0) :: st) M o := V_getR C0 6 inG_X6 rfl (by decide) (by decide) wf6_43 rfl (shN6 s0) (by decide +kernel) (by decide +kernel) hdg k
theorem g6_55 (C0 : Cx X G cc nL RX6 ret) (hdg : decode cc pc = .ok (.getfield 55, 3)) (k : V X G h val nL (pc + 3) lv (.int (M.1 1 1) :: st) M o) : V X G h val nL pc lv (.ref (G.2 + 1) :: st) M o := V_getIN C0 1 inG_X3 rfl (by decide) (by decide) wf6_55 rfl (shN3 s1) (by decide +kernel) hdg k
theorem p6_55 (C0 : Cx X G cc nL RX6 ret) {v : Int32} {f : Mem → Option (ρ × Mem)} (hdg : decode cc pc = .ok (.putfield 55, 3)) (k : ∀ M1, V X G h val nL (pc + 3) lv st M1 (f M1)) : V X G h val nL pc lv (.int v :: .ref (G.2 + 1) :: st) M (bm (mset M 1 1 v) f) := V_putN C0 1 inG_X3 rfl (by decide) (by decide) wf6_55 rfl (shN3 s1) tyX3 tyX3_ok nmX3 (by decide +kernel) (by decide +kernel) (ty := .int) (by decide +kernel) rfl rfl hdg k
theorem g6_64 (C0 : Cx X G cc nL RX6 ret) (hdg : decode cc pc = .ok (.getfield 64, 3)) (k : V X G h val nL (pc + 3) lv (.int (M.1 1 2) :: st) M o) : V X G h val nL pc lv (.ref (G.2 + 1) :: st) M o := V_getIN C0 2 inG_X3 rfl (by decide) (by decide) wf6_64 rfl (shN3 s1) (by decide +kernel) hdg k
theorem g6_70 (C0 : Cx X G cc nL RX6 ret) (hdg : decode cc pc = .ok (.getfield 70, 3)) (k : V X G h val nL (pc + 3) lv (.ref (G.2 + 3) :: st) M o) : V X G h val nL pc lv (.ref (G.2 + 1) :: st) M o := V_getRN C0 3 inG_X3 rfl (by decide) (by decide) wf6_70 rfl (shN3 s1) (by decide +kernel) (by decide +kernel) hdg k
theorem g6_80 (C0 : Cx X G cc nL RX6 ret) {a : Nat} (ha : (sh a).1 = 4) (hdg : decode cc pc = .ok (.getfield 80, 3)) (k : V X G h val nL (pc + 3) lv (.int (M.1 a 1) :: st) M o) : V X G h val nL pc lv (.ref (G.2 + a) :: st) M o := V_getIN C0 1 inG_X4 rfl (by decide) (by decide) wf6_80 rfl (shN4 ha) (by decide +kernel) hdg k
theorem g6_86 (C0 : Cx X G cc nL RX6 ret) {a : Nat} (ha : (sh a).1 = 4) (hdg : decode cc pc = .ok (.getfield 86, 3)) (k : V X G h val nL (pc + 3) lv (.ref (G.2 + (a + 1)) :: st) M o) : V X G h val nL pc lv (.ref (G.2 + a) :: st) M o := V_getRN C0 0 inG_X4 rfl (by decide) (by decide) wf6_86 rfl (shN4 ha) (by decide +kernel) (rS0 ha) hdg k
theorem g6_109 (C0 : Cx X G cc nL RX6 ret) {a : Nat} (ha : (sh a).1 = 4) (hdg : decode cc pc = .ok (.getfield 109, 3)) (k : V X G h val nL (pc + 3) lv (.ref (G.2 + (a + 2)) :: st) M o) : V X G h val nL pc lv (.ref (G.2 + a) :: st) M o := V_getRN C0 2 inG_X4 rfl (by decide) (by decide) wf6_109 rfl (shN4 ha) (by decide +kernel) (rS2 ha) hdg k
theorem g6_116 (C0 : Cx X G cc nL RX6 ret) {a : Nat} (ha : (sh a).1 = 4) (hdg : decode cc pc = .ok (.getfield 116, 3)) (k : V X G h val nL (pc + 3) lv (.int (M.1 a 3) :: st) M o) : V X G h val nL pc lv (.ref (G.2 + a) :: st) M o := V_getIN C0 3 inG_X4 rfl (by decide) (by decide) wf6_116 rfl (shN4 ha) (by decide +kernel) hdg k
theorem p6_116 (C0 : Cx X G cc nL RX6 ret) {a : Nat} (ha : (sh a).1 = 4) {v : Int32} {f : Mem → Option (ρ × Mem)} (hdg : decode cc pc = .ok (.putfield 116, 3)) (k : ∀ M1, V X G h val nL (pc + 3) lv st M1 (f M1)) : V X G h val nL pc lv (.int v :: .ref (G.2 + a) :: st) M (bm (mset M a 3 v) f) := V_putN C0 3 inG_X4 rfl (by decide) (by decide) wf6_116 rfl (shN4 ha) tyX4 tyX4_ok nmX4 (by decide +kernel) (by decide +kernel) (ty := .int) (by decide +kernel) rfl rfl hdg k
theorem g6_119 (C0 : Cx X G cc nL RX6 ret) (hdg : decode cc pc = .ok (.getfield 119, 3)) (k : V X G h val nL (pc + 3) lv (.int (M.1 0 3) :: st) M o) : V X G h val nL pc lv (.ref (G.2 + 0) :: st) M o := V_getI C0 3 inG_X6 rfl (by decide) (by decide) wf6_119 rfl (shN6 s0) (by decide +kernel) hdg k
theorem p6_119 (C0 : Cx X G cc nL RX6 ret) {v : Int32} {f : Mem → Option (ρ × Mem)} (hdg : decode cc pc = .ok (.putfield 119, 3)) (k : ∀ M1, V X G h val nL (pc + 3) lv st M1 (f M1)) : V X G h val nL pc lv (.int v :: .ref (G.2 + 0) :: st) M (bm (mset M 0 3 v) f) := V_put C0 3 inG_X6 rfl (by decide) (by decide) wf6_119 rfl (shN6 s0) tyX6 tyX6_ok nmX6 (by decide +kernel) (by decide +kernel) (ty := .int) (by decide +kernel) rfl rfl hdg k
theorem g6_135 (C0 : Cx X G cc nL RX6 ret) {a : Nat} (ha : (sh a).1 = 1) (hdg : decode cc pc = .ok (.getfield 135, 3)) (k : V X G h val nL (pc + 3) lv (.int (M.1 a 2) :: st) M o) : V X G h val nL pc lv (.ref (G.2 + a) :: st) M o := V_getIN C0 2 inG_X1 rfl (by decide) (by decide) wf6_135 rfl (shN1 ha) (by decide +kernel) hdg k
theorem g6_138 (C0 : Cx X G cc nL RX6 ret) {a : Nat} (ha : (sh a).1 = 0) (hdg : decode cc pc = .ok (.getfield 138, 3)) (k : V X G h val nL (pc + 3) lv (.ref (G.2 + (a + 1)) :: st) M o) : V X G h val nL pc lv (.ref (G.2 + a) :: st) M o := V_getRN C0 1 inG_X0 rfl (by decide) (by decide) wf6_138 rfl (shN0 ha) (by decide +kernel) (rE1 ha) hdg k
theorem g6_142 (C0 : Cx X G cc nL RX6 ret) {a : Nat} (ha : (sh a).1 = 0) (hdg : decode cc pc = .ok (.getfield 142, 3)) (k : V X G h val nL (pc + 3) lv (.int (M.1 a 2) :: st) M o) : V X G h val nL pc lv (.ref (G.2 + a) :: st) M o := V_getIN C0 2 inG_X0 rfl (by decide) (by decide) wf6_142 rfl (shN0 ha) (by decide +kernel) hdg k
theorem g6_172 (C0 : Cx X G cc nL RX6 ret) (hdg : decode cc pc = .ok (.getfield 172, 3)) (k : V X G h val nL (pc + 3) lv (.int (M.1 47 4) :: st) M o) : V X G h val nL pc lv (.ref (G.2 + 47) :: st) M o := V_getIN C0 4 inG_X2 rfl (by decide) (by decide) wf6_172 rfl (shN2 s47) (by decide +kernel) hdg k
theorem g6_173 (C0 : Cx X G cc nL RX6 ret) (hdg : decode cc pc = .ok (.getfield 173, 3)) (k : V X G h val nL (pc + 3) lv (.int (M.1 47 5) :: st) M o) : V X G h val nL pc lv (.ref (G.2 + 47) :: st) M o := V_getIN C0 5 inG_X2 rfl (by decide) (by decide) wf6_173 rfl (shN2 s47) (by decide +kernel) hdg k
theorem g6_176 (C0 : Cx X G cc nL RX6 ret) (hdg : decode cc pc = .ok (.getfield 176, 3)) (k : V X G h val nL (pc + 3) lv (.int (M.1 47 6) :: st) M o) : V X G h val nL pc lv (.ref (G.2 + 47) :: st) M o := V_getIN C0 6 inG_X2 rfl (by decide) (by decide) wf6_176 rfl (shN2 s47) (by decide +kernel) hdg k
theorem g6_179 (C0 : Cx X G cc nL RX6 ret) (hdg : decode cc pc = .ok (.getfield 179, 3)) (k : V X G h val nL (pc + 3) lv (.int (M.1 47 7) :: st) M o) : V X G h val nL pc lv (.ref (G.2 + 47) :: st) M o := V_getIN C0 7 inG_X2 rfl (by decide) (by decide) wf6_179 rfl (shN2 s47) (by decide +kernel) hdg k
theorem g6_182 (C0 : Cx X G cc nL RX6 ret) (hdg : decode cc pc = .ok (.getfield 182, 3)) (k : V X G h val nL (pc + 3) lv (.int (M.1 47 8) :: st) M o) : V X G h val nL pc lv (.ref (G.2 + 47) :: st) M o := V_getIN C0 8 inG_X2 rfl (by decide) (by decide) wf6_182 rfl (shN2 s47) (by decide +kernel) hdg k
theorem g6_186 (C0 : Cx X G cc nL RX6 ret) (hdg : decode cc pc = .ok (.getfield 186, 3)) (k : V X G h val nL (pc + 3) lv (.ref (G.2 + 48) :: st) M o) : V X G h val nL pc lv (.ref (G.2 + 47) :: st) M o := V_getRN C0 0 inG_X2 rfl (by decide) (by decide) wf6_186 rfl (shN2 s47) (by decide +kernel) (by decide +kernel) hdg k
theorem g6_189 (C0 : Cx X G cc nL RX6 ret) (hdg : decode cc pc = .ok (.getfield 189, 3)) (k : V X G h val nL (pc + 3) lv (.ref (G.2 + 49) :: st) M o) : V X G h val nL pc lv (.ref (G.2 + 47) :: st) M o := V_getRN C0 1 inG_X2 rfl (by decide) (by decide) wf6_189 rfl (shN2 s47) (by decide +kernel) (by decide +kernel) hdg k
theorem g6_191 (C0 : Cx X G cc nL RX6 ret) (hdg : decode cc pc = .ok (.getfield 191, 3)) (k : V X G h val nL (pc + 3) lv (.ref (G.2 + 50) :: st) M o) : V X G h val nL pc lv (.ref (G.2 + 47) :: st) M o := V_getRN C0 2 inG_X2 rfl (by decide) (by decide) wf6_191 rfl (shN2 s47) (by decide +kernel) (by decide +kernel) hdg k
theorem g6_193 (C0 : Cx X G cc nL RX6 ret) (hdg : decode cc pc = .ok (.getfield 193, 3)) (k : V X G h val nL (pc + 3) lv (.ref (G.2 + 51) :: st) M o) : V X G h val nL pc lv (.ref (G.2 + 47) :: st) M o := V_getRN C0 3 inG_X2 rfl (by decide) (by decide) wf6_193 rfl (shN2 s47) (by decide +kernel) (by decide +kernel) hdg k
theorem g6_203 (C0 : Cx X G cc nL RX6 ret) (hdg : decode cc pc = .ok (.getfield 203, 3)) (k : V X G h val nL (pc + 3) lv (.int (M.1 52 2) :: st) M o) : V X G h val nL pc lv (.ref (G.2 + 52) :: st) M o := V_getIN C0 2 inG_X5 rfl (by decide) (by decide) wf6_203 rfl (shN5 s52) (by decide +kernel) hdg k
theorem g6_204 (C0 : Cx X G cc nL RX6 ret) (hdg : decode cc pc = .ok (.getfield 204, 3)) (k : V X G h val nL (pc + 3) lv (.ref (G.2 + 53) :: st) M o) : V X G h val nL pc lv (.ref (G.2 + 52) :: st) M o := V_getRN C0 0 inG_X5 rfl (by decide) (by decide) wf6_204 rfl (shN5 s52) (by decide +kernel) (by decide +kernel) hdg k
theorem g0_14 (C0 : Cx X G cc nL RX0 ret) {a : Nat} (ha : (sh a).1 = 0) (hdg : decode cc pc = .ok (.getfield 14, 3)) (k : V X G h val nL (pc + 3) lv (.ref (G.2 + (a + 1)) :: st) M o) : V X G h val nL pc lv (.ref (G.2 + a) :: st) M o := V_getR C0 1 inG_X0 rfl (by decide) (by decide) wf0_14 rfl (shN0 ha) (by decide +kernel) (rE1 ha) hdg k
theorem g0_20 (C0 : Cx X G cc nL RX0 ret) {a : Nat} (ha : (sh a).1 = 0) (hdg : decode cc pc = .ok (.getfield 20, 3)) (k : V X G h val nL (pc + 3) lv (.ref (G.2 + (a + 4)) :: st) M o) : V X G h val nL pc lv (.ref (G.2 + a) :: st) M o := V_getR C0 3 inG_X0 rfl (by decide) (by decide) wf0_20 rfl (shN0 ha) (by decide +kernel) (rE3 ha) hdg k
theorem g0_24 (C0 : Cx X G cc nL RX0 ret) {a : Nat} (ha : (sh a).1 = 0) (hdg : decode cc pc = .ok (.getfield 24, 3)) (k : V X G h val nL (pc + 3) lv (.ref (G.2 + (a + 5)) :: st) M o) : V X G h val nL pc lv (.ref (G.2 + a) :: st) M o := V_getR C0 4 inG_X0 rfl (by decide) (by decide) wf0_24 rfl (shN0 ha) (by decide +kernel) (rE4 ha) hdg k
theorem g0_27 (C0 : Cx X G cc nL RX0 ret) {a : Nat} (ha : (sh a).1 = 0) (hdg : decode cc pc = .ok (.getfield 27, 3)) (k : V X G h val nL (pc + 3) lv (.ref (G.2 + (a + 6)) :: st) M o) : V X G h val nL pc lv (.ref (G.2 + a) :: st) M o := V_getR C0 5 inG_X0 rfl (by decide) (by decide) wf0_27 rfl (shN0 ha) (by decide +kernel) (rE5 ha) hdg k
theorem g0_30 (C0 : Cx X G cc nL RX0 ret) {a : Nat} (ha : (sh a).1 = 0) (hdg : decode cc pc = .ok (.getfield 30, 3)) (k : V X G h val nL (pc + 3) lv (.ref (G.2 + (a + 7)) :: st) M o) : V X G h val nL pc lv (.ref (G.2 + a) :: st) M o := V_getR C0 6 inG_X0 rfl (by decide) (by decide) wf0_30 rfl (shN0 ha) (by decide +kernel) (rE6 ha) hdg k
theorem g0_33 (C0 : Cx X G cc nL RX0 ret) {a : Nat} (ha : (sh a).1 = 0) (hdg : decode cc pc = .ok (.getfield 33, 3)) (k : V X G h val nL (pc + 3) lv (.int (M.1 a 0) :: st) M o) : V X G h val nL pc lv (.ref (G.2 + a) :: st) M o := V_getI C0 0 inG_X0 rfl (by decide) (by decide) wf0_33 rfl (shN0 ha) (by decide +kernel) hdg k
theorem g0_45 (C0 : Cx X G cc nL RX0 ret) {a : Nat} (ha : (sh a).1 = 1) (hdg : decode cc pc = .ok (.getfield 45, 3)) (k : V X G h val nL (pc + 3) lv (.int (M.1 a 2) :: st) M o) : V X G h val nL pc lv (.ref (G.2 + a) :: st) M o := V_getIN C0 2 inG_X1 rfl (by decide) (by decide) wf0_45 rfl (shN1 ha) (by decide +kernel) hdg k
theorem p0_45 (C0 : Cx X G cc nL RX0 ret) {a : Nat} (ha : (sh a).1 = 1) {v : Int32} {f : Mem → Option (ρ × Mem)} (hdg : decode cc pc = .ok (.putfield 45, 3)) (k : ∀ M1, V X G h val nL (pc + 3) lv st M1 (f M1)) : V X G h val nL pc lv (.int v :: .ref (G.2 + a) :: st) M (bm (mset M a 2 v) f) := V_putN C0 2 inG_X1 rfl (by decide) (by decide) wf0_45 rfl (shN1 ha) tyX1 tyX1_ok nmX1 (by decide +kernel) (by decide +kernel) (ty := .int) (by decide +kernel) rfl rfl hdg k
theorem g0_57 (C0 : Cx X G cc nL RX0 ret) {a : Nat} (ha : (sh a).1 = 0) (hdg : decode cc pc = .ok (.getfield 57, 3)) (k : V X G h val nL (pc + 3) lv (.int (M.1 a 2) :: st) M o) : V X G h val nL pc lv (.ref (G.2 + a) :: st) M o := V_getI C0 2 inG_X0 rfl (by decide) (by decide) wf0_57 rfl (shN0 ha) (by decide +kernel) hdg k
theorem p0_57 (C0 : Cx X G cc nL RX0 ret) {a : Nat} (ha : (sh a).1 = 0) {v : Int32} {f : Mem → Option (ρ × Mem)} (hdg : decode cc pc = .ok (.putfield 57, 3)) (k : ∀ M1, V X G h val nL (pc + 3) lv st M1 (f M1)) : V X G h val nL pc lv (.int v :: .ref (G.2 + a) :: st) M (gd (isB v) (bm (mset M a 2 v) f)) := V_gd fun hb => V_put C0 2 inG_X0 rfl (by decide) (by decide) wf0_57 rfl (shN0 ha) tyX0 tyX0_ok nmX0 (by decide +kernel) (by decide +kernel) (ty := .boolean) (by decide +kernel) (by rcases isB_or hb with q | q <;> subst q <;> rfl) (by rcases isB_or hb with q | q <;> subst q <;> rfl) hdg k
theorem g1_9 (C0 : Cx X G cc nL RX1 ret) {a : Nat} (ha : (sh a).1 = 1) (hdg : decode cc pc = .ok (.getfield 9, 3)) (k : V X G h val nL (pc + 3) lv (.int (M.1 a 2) :: st) M o) : V X G h val nL pc lv (.ref (G.2 + a) :: st) M o := V_getI C0 2 inG_X1 rfl (by decide) (by decide) wf1_9 rfl (shN1 ha) (by decide +kernel) hdg k
theorem p1_9 (C0 : Cx X G cc nL RX1 ret) {a : Nat} (ha : (sh a).1 = 1) {v : Int32} {f : Mem → Option (ρ × Mem)} (hdg : decode cc pc = .ok (.putfield 9, 3)) (k : ∀ M1, V X G h val nL (pc + 3) lv st M1 (f M1)) : V X G h val nL pc lv (.int v :: .ref (G.2 + a) :: st) M (bm (mset M a 2 v) f) := V_put C0 2 inG_X1 rfl (by decide) (by decide) wf1_9 rfl (shN1 ha) tyX1 tyX1_ok nmX1 (by decide +kernel) (by decide +kernel) (ty := .int) (by decide +kernel) rfl rfl hdg k
theorem g1_21 (C0 : Cx X G cc nL RX1 ret) {a : Nat} (ha : (sh a).1 = 1) (hdg : decode cc pc = .ok (.getfield 21, 3)) (k : V X G h val nL (pc + 3) lv (.ref (G.2 + (a + 1)) :: st) M o) : V X G h val nL pc lv (.ref (G.2 + a) :: st) M o := V_getR C0 0 inG_X1 rfl (by decide) (by decide) wf1_21 rfl (shN1 ha) (by decide +kernel) (rF0 ha) hdg k
theorem g1_25 (C0 : Cx X G cc nL RX1 ret) {a : Nat} (ha : (sh a).1 = 1) (hdg : decode cc pc = .ok (.getfield 25, 3)) (k : V X G h val nL (pc + 3) lv (.ref (G.2 + (a + 2)) :: st) M o) : V X G h val nL pc lv (.ref (G.2 + a) :: st) M o := V_getR C0 1 inG_X1 rfl (by decide) (by decide) wf1_25 rfl (shN1 ha) (by decide +kernel) (rF1 ha) hdg k
theorem g2_11 (C0 : Cx X G cc nL RX2 ret) (hdg : decode cc pc = .ok (.getfield 11, 3)) (k : V X G h val nL (pc + 3) lv (.ref (G.2 + 48) :: st) M o) : V X G h val nL pc lv (.ref (G.2 + 47) :: st) M o := V_getR C0 0 inG_X2 rfl (by decide) (by decide) wf2_11 rfl (shN2 s47) (by decide +kernel) (by decide +kernel) hdg k
theorem g2_15 (C0 : Cx X G cc nL RX2 ret) (hdg : decode cc pc = .ok (.getfield 15, 3)) (k : V X G h val nL (pc + 3) lv (.ref (G.2 + 49) :: st) M o) : V X G h val nL pc lv (.ref (G.2 + 47) :: st) M o := V_getR C0 1 inG_X2 rfl (by decide) (by decide) wf2_15 rfl (shN2 s47) (by decide +kernel) (by decide +kernel) hdg k
theorem g2_18 (C0 : Cx X G cc nL RX2 ret) (hdg : decode cc pc = .ok (.getfield 18, 3)) (k : V X G h val nL (pc + 3) lv (.ref (G.2 + 50) :: st) M o) : V X G h val nL pc lv (.ref (G.2 + 47) :: st) M o := V_getR C0 2 inG_X2 rfl (by decide) (by decide) wf2_18 rfl (shN2 s47) (by decide +kernel) (by decide +kernel) hdg k
theorem g2_21 (C0 : Cx X G cc nL RX2 ret) (hdg : decode cc pc = .ok (.getfield 21, 3)) (k : V X G h val nL (pc + 3) lv (.ref (G.2 + 51) :: st) M o) : V X G h val nL pc lv (.ref (G.2 + 47) :: st) M o := V_getR C0 3 inG_X2 rfl (by decide) (by decide) wf2_21 rfl (shN2 s47) (by decide +kernel) (by decide +kernel) hdg k
theorem g2_24 (C0 : Cx X G cc nL RX2 ret) (hdg : decode cc pc = .ok (.getfield 24, 3)) (k : V X G h val nL (pc + 3) lv (.int (M.1 47 4) :: st) M o) : V X G h val nL pc lv (.ref (G.2 + 47) :: st) M o := V_getI C0 4 inG_X2 rfl (by decide) (by decide) wf2_24 rfl (shN2 s47) (by decide +kernel) hdg k
theorem p2_24 (C0 : Cx X G cc nL RX2 ret) {v : Int32} {f : Mem → Option (ρ × Mem)} (hdg : decode cc pc = .ok (.putfield 24, 3)) (k : ∀ M1, V X G h val nL (pc + 3) lv st M1 (f M1)) : V X G h val nL pc lv (.int v :: .ref (G.2 + 47) :: st) M (bm (mset M 47 4 v) f) := V_put C0 4 inG_X2 rfl (by decide) (by decide) wf2_24 rfl (shN2 s47) tyX2 tyX2_ok nmX2 (by decide +kernel) (by decide +kernel) (ty := .int) (by decide +kernel) rfl rfl hdg k
theorem g2_28 (C0 : Cx X G cc nL RX2 ret) (hdg : decode cc pc = .ok (.getfield 28, 3)) (k : V X G h val nL (pc + 3) lv (.int (M.1 47 5) :: st) M o) : V X G h val nL pc lv (.ref (G.2 + 47) :: st) M o := V_getI C0 5 inG_X2 rfl (by decide) (by decide) wf2_28 rfl (shN2 s47) (by decide +kernel) hdg k
theorem p2_28 (C0 : Cx X G cc nL RX2 ret) {v : Int32} {f : Mem → Option (ρ × Mem)} (hdg : decode cc pc = .ok (.putfield 28, 3)) (k : ∀ M1, V X G h val nL (pc + 3) lv st M1 (f M1)) : V X G h val nL pc lv (.int v :: .ref (G.2 + 47) :: st) M (bm (mset M 47 5 v) f) := V_put C0 5 inG_X2 rfl (by decide) (by decide) wf2_28 rfl (shN2 s47) tyX2 tyX2_ok nmX2 (by decide +kernel) (by decide +kernel) (ty := .int) (by decide +kernel) rfl rfl hdg k
theorem g2_31 (C0 : Cx X G cc nL RX2 ret) (hdg : decode cc pc = .ok (.getfield 31, 3)) (k : V X G h val nL (pc + 3) lv (.int (M.1 47 6) :: st) M o) : V X G h val nL pc lv (.ref (G.2 + 47) :: st) M o := V_getI C0 6 inG_X2 rfl (by decide) (by decide) wf2_31 rfl (shN2 s47) (by decide +kernel) hdg k
theorem p2_31 (C0 : Cx X G cc nL RX2 ret) {v : Int32} {f : Mem → Option (ρ × Mem)} (hdg : decode cc pc = .ok (.putfield 31, 3)) (k : ∀ M1, V X G h val nL (pc + 3) lv st M1 (f M1)) : V X G h val nL pc lv (.int v :: .ref (G.2 + 47) :: st) M (bm (mset M 47 6 v) f) := V_put C0 6 inG_X2 rfl (by decide) (by decide) wf2_31 rfl (shN2 s47) tyX2 tyX2_ok nmX2 (by decide +kernel) (by decide +kernel) (ty := .int) (by decide +kernel) rfl rfl hdg k
theorem g2_34 (C0 : Cx X G cc nL RX2 ret) (hdg : decode cc pc = .ok (.getfield 34, 3)) (k : V X G h val nL (pc + 3) lv (.int (M.1 47 7) :: st) M o) : V X G h val nL pc lv (.ref (G.2 + 47) :: st) M o := V_getI C0 7 inG_X2 rfl (by decide) (by decide) wf2_34 rfl (shN2 s47) (by decide +kernel) hdg k
theorem p2_34 (C0 : Cx X G cc nL RX2 ret) {v : Int32} {f : Mem → Option (ρ × Mem)} (hdg : decode cc pc = .ok (.putfield 34, 3)) (k : ∀ M1, V X G h val nL (pc + 3) lv st M1 (f M1)) : V X G h val nL pc lv (.int v :: .ref (G.2 + 47) :: st) M (bm (mset M 47 7 v) f) := V_put C0 7 inG_X2 rfl (by decide) (by decide) wf2_34 rfl (shN2 s47) tyX2 tyX2_ok nmX2 (by decide +kernel) (by decide +kernel) (ty := .int) (by decide +kernel) rfl rfl hdg k
theorem g2_37 (C0 : Cx X G cc nL RX2 ret) (hdg : decode cc pc = .ok (.getfield 37, 3)) (k : V X G h val nL (pc + 3) lv (.int (M.1 47 8) :: st) M o) : V X G h val nL pc lv (.ref (G.2 + 47) :: st) M o := V_getI C0 8 inG_X2 rfl (by decide) (by decide) wf2_37 rfl (shN2 s47) (by decide +kernel) hdg k
theorem p2_37 (C0 : Cx X G cc nL RX2 ret) {v : Int32} {f : Mem → Option (ρ × Mem)} (hdg : decode cc pc = .ok (.putfield 37, 3)) (k : ∀ M1, V X G h val nL (pc + 3) lv st M1 (f M1)) : V X G h val nL pc lv (.int v :: .ref (G.2 + 47) :: st) M (bm (mset M 47 8 v) f) := V_put C0 8 inG_X2 rfl (by decide) (by decide) wf2_37 rfl (shN2 s47) tyX2 tyX2_ok nmX2 (by decide +kernel) (by decide +kernel) (ty := .int) (by decide +kernel) rfl rfl hdg k
theorem g2_40 (C0 : Cx X G cc nL RX2 ret) (hdg : decode cc pc = .ok (.getfield 40, 3)) (k : V X G h val nL (pc + 3) lv (.int (M.1 47 9) :: st) M o) : V X G h val nL pc lv (.ref (G.2 + 47) :: st) M o := V_getI C0 9 inG_X2 rfl (by decide) (by decide) wf2_40 rfl (shN2 s47) (by decide +kernel) hdg k
theorem p2_40 (C0 : Cx X G cc nL RX2 ret) {v : Int32} {f : Mem → Option (ρ × Mem)} (hdg : decode cc pc = .ok (.putfield 40, 3)) (k : ∀ M1, V X G h val nL (pc + 3) lv st M1 (f M1)) : V X G h val nL pc lv (.int v :: .ref (G.2 + 47) :: st) M (bm (mset M 47 9 v) f) := V_put C0 9 inG_X2 rfl (by decide) (by decide) wf2_40 rfl (shN2 s47) tyX2 tyX2_ok nmX2 (by decide +kernel) (by decide +kernel) (ty := .int) (by decide +kernel) rfl rfl hdg k
theorem g2_43 (C0 : Cx X G cc nL RX2 ret) {a : Nat} (ha : (sh a).1 = 0) (hdg : decode cc pc = .ok (.getfield 43, 3)) (k : V X G h val nL (pc + 3) lv (.int (M.1 a 2) :: st) M o) : V X G h val nL pc lv (.ref (G.2 + a) :: st) M o := V_getIN C0 2 inG_X0 rfl (by decide) (by decide) wf2_43 rfl (shN0 ha) (by decide +kernel) hdg k
theorem g2_57 (C0 : Cx X G cc nL RX2 ret) {a : Nat} (ha : (sh a).1 = 0) (hdg : decode cc pc = .ok (.getfield 57, 3)) (k : V X G h val nL (pc + 3) lv (.ref (G.2 + (a + 1)) :: st) M o) : V X G h val nL pc lv (.ref (G.2 + a) :: st) M o := V_getRN C0 1 inG_X0 rfl (by decide) (by decide) wf2_57 rfl (shN0 ha) (by decide +kernel) (rE1 ha) hdg k
theorem g2_78 (C0 : Cx X G cc nL RX2 ret) {a : Nat} (ha : (sh a).1 = 0) (hdg : decode cc pc = .ok (.getfield 78, 3)) (k : V X G h val nL (pc + 3) lv (.int (M.1 a 0) :: st) M o) : V X G h val nL pc lv (.ref (G.2 + a) :: st) M o := V_getIN C0 0 inG_X0 rfl (by decide) (by decide) wf2_78 rfl (shN0 ha) (by decide +kernel) hdg k
theorem g3_9 (C0 : Cx X G cc nL RX3 ret) (hdg : decode cc pc = .ok (.getfield 9, 3)) (k : V X G h val nL (pc + 3) lv (.ref (G.2 + 2) :: st) M o) : V X G h val nL pc lv (.ref (G.2 + 1) :: st) M o := V_getR C0 0 inG_X3 rfl (by decide) (by decide) wf3_9 rfl (shN3 s1) (by decide +kernel) (by decide +kernel) hdg k
theorem g3_18 (C0 : Cx X G cc nL RX3 ret) (hdg : decode cc pc = .ok (.getfield 18, 3)) (k : V X G h val nL (pc + 3) lv (.ref (G.2 + 3) :: st) M o) : V X G h val nL pc lv (.ref (G.2 + 1) :: st) M o := V_getR C0 3 inG_X3 rfl (by decide) (by decide) wf3_18 rfl (shN3 s1) (by decide +kernel) (by decide +kernel) hdg k
theorem g3_22 (C0 : Cx X G cc nL RX3 ret) (hdg : decode cc pc = .ok (.getfield 22, 3)) (k : V X G h val nL (pc + 3) lv (.int (M.1 1 1) :: st) M o) : V X G h val nL pc lv (.ref (G.2 + 1) :: st) M o := V_getI C0 1 inG_X3 rfl (by decide) (by decide) wf3_22 rfl (shN3 s1) (by decide +kernel) hdg k
theorem p3_22 (C0 : Cx X G cc nL RX3 ret) {v : Int32} {f : Mem → Option (ρ × Mem)} (hdg : decode cc pc = .ok (.putfield 22, 3)) (k : ∀ M1, V X G h val nL (pc + 3) lv st M1 (f M1)) : V X G h val nL pc lv (.int v :: .ref (G.2 + 1) :: st) M (bm (mset M 1 1 v) f) := V_put C0 1 inG_X3 rfl (by decide) (by decide) wf3_22 rfl (shN3 s1) tyX3 tyX3_ok nmX3 (by decide +kernel) (by decide +kernel) (ty := .int) (by decide +kernel) rfl rfl hdg k
theorem g3_26 (C0 : Cx X G cc nL RX3 ret) (hdg : decode cc pc = .ok (.getfield 26, 3)) (k : V X G h val nL (pc + 3) lv (.int (M.1 1 2) :: st) M o) : V X G h val nL pc lv (.ref (G.2 + 1) :: st) M o := V_getI C0 2 inG_X3 rfl (by decide) (by decide) wf3_26 rfl (shN3 s1) (by decide +kernel) hdg k
theorem p3_26 (C0 : Cx X G cc nL RX3 ret) {v : Int32} {f : Mem → Option (ρ × Mem)} (hdg : decode cc pc = .ok (.putfield 26, 3)) (k : ∀ M1, V X G h val nL (pc + 3) lv st M1 (f M1)) : V X G h val nL pc lv (.int v :: .ref (G.2 + 1) :: st) M (bm (mset M 1 2 v) f) := V_put C0 2 inG_X3 rfl (by decide) (by decide) wf3_26 rfl (shN3 s1) tyX3 tyX3_ok nmX3 (by decide +kernel) (by decide +kernel) (ty := .int) (by decide +kernel) rfl rfl hdg k
theorem g3_33 (C0 : Cx X G cc nL RX3 ret) {a : Nat} (ha : (sh a).1 = 4) (hdg : decode cc pc = .ok (.getfield 33, 3)) (k : V X G h val nL (pc + 3) lv (.ref (G.2 + (a + 1)) :: st) M o) : V X G h val nL pc lv (.ref (G.2 + a) :: st) M o := V_getRN C0 0 inG_X4 rfl (by decide) (by decide) wf3_33 rfl (shN4 ha) (by decide +kernel) (rS0 ha) hdg k
theorem g3_37 (C0 : Cx X G cc nL RX3 ret) {a : Nat} (ha : (sh a).1 = 1) (hdg : decode cc pc = .ok (.getfield 37, 3)) (k : V X G h val nL (pc + 3) lv (.int (M.1 a 2) :: st) M o) : V X G h val nL pc lv (.ref (G.2 + a) :: st) M o := V_getIN C0 2 inG_X1 rfl (by decide) (by decide) wf3_37 rfl (shN1 ha) (by decide +kernel) hdg k
theorem p3_37 (C0 : Cx X G cc nL RX3 ret) {a : Nat} (ha : (sh a).1 = 1) {v : Int32} {f : Mem → Option (ρ × Mem)} (hdg : decode cc pc = .ok (.putfield 37, 3)) (k : ∀ M1, V X G h val nL (pc + 3) lv st M1 (f M1)) : V X G h val nL pc lv (.int v :: .ref (G.2 + a) :: st) M (bm (mset M a 2 v) f) := V_putN C0 2 inG_X1 rfl (by decide) (by decide) wf3_37 rfl (shN1 ha) tyX1 tyX1_ok nmX1 (by decide +kernel) (by decide +kernel) (ty := .int) (by decide +kernel) rfl rfl hdg k
theorem p3_50 (C0 : Cx X G cc nL RX3 ret) {a : Nat} (ha : (sh a).1 = 4) {v : Int32} {f : Mem → Option (ρ × Mem)} (hdg : decode cc pc = .ok (.putfield 50, 3)) (k : ∀ M1, V X G h val nL (pc + 3) lv st M1 (f M1)) : V X G h val nL pc lv (.int v :: .ref (G.2 + a) :: st) M (bm (mset M a 1 v) f) := V_putN C0 1 inG_X4 rfl (by decide) (by decide) wf3_50 rfl (shN4 ha) tyX4 tyX4_ok nmX4 (by decide +kernel) (by decide +kernel) (ty := .int) (by decide +kernel) rfl rfl hdg k
theorem g4_11 (C0 : Cx X G cc nL RX4 ret) {a : Nat} (ha : (sh a).1 = 4) (hdg : decode cc pc = .ok (.getfield 11, 3)) (k : V X G h val nL (pc + 3) lv (.ref (G.2 + (a + 1)) :: st) M o) : V X G h val nL pc lv (.ref (G.2 + a) :: st) M o := V_getR C0 0 inG_X4 rfl (by decide) (by decide) wf4_11 rfl (shN4 ha) (by decide +kernel) (rS0 ha) hdg k
theorem g4_17 (C0 : Cx X G cc nL RX4 ret) {a : Nat} (ha : (sh a).1 = 4) (hdg : decode cc pc = .ok (.getfield 17, 3)) (k : V X G h val nL (pc + 3) lv (.int (M.1 a 1) :: st) M o) : V X G h val nL pc lv (.ref (G.2 + a) :: st) M o := V_getI C0 1 inG_X4 rfl (by decide) (by decide) wf4_17 rfl (shN4 ha) (by decide +kernel) hdg k
theorem p4_17 (C0 : Cx X G cc nL RX4 ret) {a : Nat} (ha : (sh a).1 = 4) {v : Int32} {f : Mem → Option (ρ × Mem)} (hdg : decode cc pc = .ok (.putfield 17, 3)) (k : ∀ M1, V X G h val nL (pc + 3) lv st M1 (f M1)) : V X G h val nL pc lv (.int v :: .ref (G.2 + a) :: st) M (bm (mset M a 1 v) f) := V_put C0 1 inG_X4 rfl (by decide) (by decide) wf4_17 rfl (shN4 ha) tyX4 tyX4_ok nmX4 (by decide +kernel) (by decide +kernel) (ty := .int) (by decide +kernel) rfl rfl hdg k
theorem g4_21 (C0 : Cx X G cc nL RX4 ret) {a : Nat} (ha : (sh a).1 = 4) (hdg : decode cc pc = .ok (.getfield 21, 3)) (k : V X G h val nL (pc + 3) lv (.ref (G.2 + (a + 2)) :: st) M o) : V X G h val nL pc lv (.ref (G.2 + a) :: st) M o := V_getR C0 2 inG_X4 rfl (by decide) (by decide) wf4_21 rfl (shN4 ha) (by decide +kernel) (rS2 ha) hdg k
theorem g4_25 (C0 : Cx X G cc nL RX4 ret) {a : Nat} (ha : (sh a).1 = 4) (hdg : decode cc pc = .ok (.getfield 25, 3)) (k : V X G h val nL (pc + 3) lv (.int (M.1 a 3) :: st) M o) : V X G h val nL pc lv (.ref (G.2 + a) :: st) M o := V_getI C0 3 inG_X4 rfl (by decide) (by decide) wf4_25 rfl (shN4 ha) (by decide +kernel) hdg k
theorem p4_25 (C0 : Cx X G cc nL RX4 ret) {a : Nat} (ha : (sh a).1 = 4) {v : Int32} {f : Mem → Option (ρ × Mem)} (hdg : decode cc pc = .ok (.putfield 25, 3)) (k : ∀ M1, V X G h val nL (pc + 3) lv st M1 (f M1)) : V X G h val nL pc lv (.int v :: .ref (G.2 + a) :: st) M (bm (mset M a 3 v) f) := V_put C0 3 inG_X4 rfl (by decide) (by decide) wf4_25 rfl (shN4 ha) tyX4 tyX4_ok nmX4 (by decide +kernel) (by decide +kernel) (ty := .int) (by decide +kernel) rfl rfl hdg k
theorem g5_9 (C0 : Cx X G cc nL RX5 ret) (hdg : decode cc pc = .ok (.getfield 9, 3)) (k : V X G h val nL (pc + 3) lv (.ref (G.2 + 53) :: st) M o) : V X G h val nL pc lv (.ref (G.2 + 52) :: st) M o := V_getR C0 0 inG_X5 rfl (by decide) (by decide) wf5_9 rfl (shN5 s52) (by decide +kernel) (by decide +kernel) hdg k
theorem g5_15 (C0 : Cx X G cc nL RX5 ret) (hdg : decode cc pc = .ok (.getfield 15, 3)) (k : V X G h val nL (pc + 3) lv (.ref (G.2 + 54) :: st) M o) : V X G h val nL pc lv (.ref (G.2 + 52) :: st) M o := V_getR C0 1 inG_X5 rfl (by decide) (by decide) wf5_15 rfl (shN5 s52) (by decide +kernel) (by decide +kernel) hdg k
theorem g5_18 (C0 : Cx X G cc nL RX5 ret) (hdg : decode cc pc = .ok (.getfield 18, 3)) (k : V X G h val nL (pc + 3) lv (.int (M.1 52 2) :: st) M o) : V X G h val nL pc lv (.ref (G.2 + 52) :: st) M o := V_getI C0 2 inG_X5 rfl (by decide) (by decide) wf5_18 rfl (shN5 s52) (by decide +kernel) hdg k
theorem p5_18 (C0 : Cx X G cc nL RX5 ret) {v : Int32} {f : Mem → Option (ρ × Mem)} (hdg : decode cc pc = .ok (.putfield 18, 3)) (k : ∀ M1, V X G h val nL (pc + 3) lv st M1 (f M1)) : V X G h val nL pc lv (.int v :: .ref (G.2 + 52) :: st) M (bm (mset M 52 2 v) f) := V_put C0 2 inG_X5 rfl (by decide) (by decide) wf5_18 rfl (shN5 s52) tyX5 tyX5_ok nmX5 (by decide +kernel) (by decide +kernel) (ty := .int) (by decide +kernel) rfl rfl hdg k
theorem g5_28 (C0 : Cx X G cc nL RX5 ret) {a : Nat} (ha : (sh a).1 = 0) (hdg : decode cc pc = .ok (.getfield 28, 3)) (k : V X G h val nL (pc + 3) lv (.ref (G.2 + (a + 1)) :: st) M o) : V X G h val nL pc lv (.ref (G.2 + a) :: st) M o := V_getRN C0 1 inG_X0 rfl (by decide) (by decide) wf5_28 rfl (shN0 ha) (by decide +kernel) (rE1 ha) hdg k
theorem g5_34 (C0 : Cx X G cc nL RX5 ret) {a : Nat} (ha : (sh a).1 = 1) (hdg : decode cc pc = .ok (.getfield 34, 3)) (k : V X G h val nL (pc + 3) lv (.int (M.1 a 2) :: st) M o) : V X G h val nL pc lv (.ref (G.2 + a) :: st) M o := V_getIN C0 2 inG_X1 rfl (by decide) (by decide) wf5_34 rfl (shN1 ha) (by decide +kernel) hdg k
theorem g7_7 (C0 : Cx X G cc nL RX7 ret) (hdg : decode cc pc = .ok (.getfield 7, 3)) (k : V X G h val nL (pc + 3) lv (.ref (G.2 + 209) :: st) M o) : V X G h val nL pc lv (.ref (G.2 + 208) :: st) M o := V_getR C0 0 inG_X7 rfl (by decide) (by decide) wf7_7 rfl (shN7 s208) (by decide +kernel) (by decide +kernel) hdg k
theorem g7_13 (C0 : Cx X G cc nL RX7 ret) (hdg : decode cc pc = .ok (.getfield 13, 3)) (k : V X G h val nL (pc + 3) lv (.ref (G.2 + 210) :: st) M o) : V X G h val nL pc lv (.ref (G.2 + 208) :: st) M o := V_getR C0 1 inG_X7 rfl (by decide) (by decide) wf7_13 rfl (shN7 s208) (by decide +kernel) (by decide +kernel) hdg k
theorem g7_16 (C0 : Cx X G cc nL RX7 ret) (hdg : decode cc pc = .ok (.getfield 16, 3)) (k : V X G h val nL (pc + 3) lv (.ref (G.2 + 211) :: st) M o) : V X G h val nL pc lv (.ref (G.2 + 208) :: st) M o := V_getR C0 3 inG_X7 rfl (by decide) (by decide) wf7_16 rfl (shN7 s208) (by decide +kernel) (by decide +kernel) hdg k
theorem g7_19 (C0 : Cx X G cc nL RX7 ret) (hdg : decode cc pc = .ok (.getfield 19, 3)) (k : V X G h val nL (pc + 3) lv (.ref (G.2 + 212) :: st) M o) : V X G h val nL pc lv (.ref (G.2 + 208) :: st) M o := V_getR C0 5 inG_X7 rfl (by decide) (by decide) wf7_19 rfl (shN7 s208) (by decide +kernel) (by decide +kernel) hdg k
theorem g7_22 (C0 : Cx X G cc nL RX7 ret) (hdg : decode cc pc = .ok (.getfield 22, 3)) (k : V X G h val nL (pc + 3) lv (.ref (G.2 + 213) :: st) M o) : V X G h val nL pc lv (.ref (G.2 + 208) :: st) M o := V_getR C0 11 inG_X7 rfl (by decide) (by decide) wf7_22 rfl (shN7 s208) (by decide +kernel) (by decide +kernel) hdg k
theorem g7_25 (C0 : Cx X G cc nL RX7 ret) (hdg : decode cc pc = .ok (.getfield 25, 3)) (k : V X G h val nL (pc + 3) lv (.ref (G.2 + 214) :: st) M o) : V X G h val nL pc lv (.ref (G.2 + 208) :: st) M o := V_getR C0 13 inG_X7 rfl (by decide) (by decide) wf7_25 rfl (shN7 s208) (by decide +kernel) (by decide +kernel) hdg k
theorem g7_28 (C0 : Cx X G cc nL RX7 ret) (hdg : decode cc pc = .ok (.getfield 28, 3)) (k : V X G h val nL (pc + 3) lv (.ref (G.2 + 215) :: st) M o) : V X G h val nL pc lv (.ref (G.2 + 208) :: st) M o := V_getR C0 16 inG_X7 rfl (by decide) (by decide) wf7_28 rfl (shN7 s208) (by decide +kernel) (by decide +kernel) hdg k
theorem g7_31 (C0 : Cx X G cc nL RX7 ret) (hdg : decode cc pc = .ok (.getfield 31, 3)) (k : V X G h val nL (pc + 3) lv (.ref (G.2 + 216) :: st) M o) : V X G h val nL pc lv (.ref (G.2 + 208) :: st) M o := V_getR C0 17 inG_X7 rfl (by decide) (by decide) wf7_31 rfl (shN7 s208) (by decide +kernel) (by decide +kernel) hdg k
theorem g7_34 (C0 : Cx X G cc nL RX7 ret) (hdg : decode cc pc = .ok (.getfield 34, 3)) (k : V X G h val nL (pc + 3) lv (.ref (G.2 + 217) :: st) M o) : V X G h val nL pc lv (.ref (G.2 + 208) :: st) M o := V_getR C0 18 inG_X7 rfl (by decide) (by decide) wf7_34 rfl (shN7 s208) (by decide +kernel) (by decide +kernel) hdg k
theorem g7_37 (C0 : Cx X G cc nL RX7 ret) (hdg : decode cc pc = .ok (.getfield 37, 3)) (k : V X G h val nL (pc + 3) lv (.ref (G.2 + 218) :: st) M o) : V X G h val nL pc lv (.ref (G.2 + 208) :: st) M o := V_getR C0 19 inG_X7 rfl (by decide) (by decide) wf7_37 rfl (shN7 s208) (by decide +kernel) (by decide +kernel) hdg k
theorem g7_40 (C0 : Cx X G cc nL RX7 ret) (hdg : decode cc pc = .ok (.getfield 40, 3)) (k : V X G h val nL (pc + 3) lv (.ref (G.2 + 219) :: st) M o) : V X G h val nL pc lv (.ref (G.2 + 208) :: st) M o := V_getR C0 20 inG_X7 rfl (by decide) (by decide) wf7_40 rfl (shN7 s208) (by decide +kernel) (by decide +kernel) hdg k
theorem g7_43 (C0 : Cx X G cc nL RX7 ret) (hdg : decode cc pc = .ok (.getfield 43, 3)) (k : V X G h val nL (pc + 3) lv (.ref (G.2 + 220) :: st) M o) : V X G h val nL pc lv (.ref (G.2 + 208) :: st) M o := V_getR C0 21 inG_X7 rfl (by decide) (by decide) wf7_43 rfl (shN7 s208) (by decide +kernel) (by decide +kernel) hdg k
theorem g7_46 (C0 : Cx X G cc nL RX7 ret) (hdg : decode cc pc = .ok (.getfield 46, 3)) (k : V X G h val nL (pc + 3) lv (.ref (G.2 + 221) :: st) M o) : V X G h val nL pc lv (.ref (G.2 + 208) :: st) M o := V_getR C0 22 inG_X7 rfl (by decide) (by decide) wf7_46 rfl (shN7 s208) (by decide +kernel) (by decide +kernel) hdg k
theorem g7_49 (C0 : Cx X G cc nL RX7 ret) (hdg : decode cc pc = .ok (.getfield 49, 3)) (k : V X G h val nL (pc + 3) lv (.ref (G.2 + 222) :: st) M o) : V X G h val nL pc lv (.ref (G.2 + 208) :: st) M o := V_getR C0 23 inG_X7 rfl (by decide) (by decide) wf7_49 rfl (shN7 s208) (by decide +kernel) (by decide +kernel) hdg k
theorem g7_52 (C0 : Cx X G cc nL RX7 ret) (hdg : decode cc pc = .ok (.getfield 52, 3)) (k : V X G h val nL (pc + 3) lv (.ref (G.2 + 223) :: st) M o) : V X G h val nL pc lv (.ref (G.2 + 208) :: st) M o := V_getR C0 24 inG_X7 rfl (by decide) (by decide) wf7_52 rfl (shN7 s208) (by decide +kernel) (by decide +kernel) hdg k
theorem g7_56 (C0 : Cx X G cc nL RX7 ret) (hdg : decode cc pc = .ok (.getfield 56, 3)) (k : V X G h val nL (pc + 3) lv (.ref (G.2 + 224) :: st) M o) : V X G h val nL pc lv (.ref (G.2 + 208) :: st) M o := V_getR C0 32 inG_X7 rfl (by decide) (by decide) wf7_56 rfl (shN7 s208) (by decide +kernel) (by decide +kernel) hdg k
theorem g7_59 (C0 : Cx X G cc nL RX7 ret) (hdg : decode cc pc = .ok (.getfield 59, 3)) (k : V X G h val nL (pc + 3) lv (.ref (G.2 + 225) :: st) M o) : V X G h val nL pc lv (.ref (G.2 + 208) :: st) M o := V_getR C0 34 inG_X7 rfl (by decide) (by decide) wf7_59 rfl (shN7 s208) (by decide +kernel) (by decide +kernel) hdg k
theorem g7_62 (C0 : Cx X G cc nL RX7 ret) (hdg : decode cc pc = .ok (.getfield 62, 3)) (k : V X G h val nL (pc + 3) lv (.ref (G.2 + 226) :: st) M o) : V X G h val nL pc lv (.ref (G.2 + 208) :: st) M o := V_getR C0 35 inG_X7 rfl (by decide) (by decide) wf7_62 rfl (shN7 s208) (by decide +kernel) (by decide +kernel) hdg k
theorem g7_65 (C0 : Cx X G cc nL RX7 ret) (hdg : decode cc pc = .ok (.getfield 65, 3)) (k : V X G h val nL (pc + 3) lv (.ref (G.2 + 227) :: st) M o) : V X G h val nL pc lv (.ref (G.2 + 208) :: st) M o := V_getR C0 36 inG_X7 rfl (by decide) (by decide) wf7_65 rfl (shN7 s208) (by decide +kernel) (by decide +kernel) hdg k
theorem g7_68 (C0 : Cx X G cc nL RX7 ret) (hdg : decode cc pc = .ok (.getfield 68, 3)) (k : V X G h val nL (pc + 3) lv (.ref (G.2 + 228) :: st) M o) : V X G h val nL pc lv (.ref (G.2 + 208) :: st) M o := V_getR C0 38 inG_X7 rfl (by decide) (by decide) wf7_68 rfl (shN7 s208) (by decide +kernel) (by decide +kernel) hdg k
theorem g7_71 (C0 : Cx X G cc nL RX7 ret) (hdg : decode cc pc = .ok (.getfield 71, 3)) (k : V X G h val nL (pc + 3) lv (.int (M.1 208 2) :: st) M o) : V X G h val nL pc lv (.ref (G.2 + 208) :: st) M o := V_getI C0 2 inG_X7 rfl (by decide) (by decide) wf7_71 rfl (shN7 s208) (by decide +kernel) hdg k
theorem p7_71 (C0 : Cx X G cc nL RX7 ret) {v : Int32} {f : Mem → Option (ρ × Mem)} (hdg : decode cc pc = .ok (.putfield 71, 3)) (k : ∀ M1, V X G h val nL (pc + 3) lv st M1 (f M1)) : V X G h val nL pc lv (.int v :: .ref (G.2 + 208) :: st) M (bm (mset M 208 2 v) f) := V_put C0 2 inG_X7 rfl (by decide) (by decide) wf7_71 rfl (shN7 s208) tyX7 tyX7_ok nmX7 (by decide +kernel) (by decide +kernel) (ty := .int) (by decide +kernel) rfl rfl hdg k
theorem g7_80 (C0 : Cx X G cc nL RX7 ret) (hdg : decode cc pc = .ok (.getfield 80, 3)) (k : V X G h val nL (pc + 3) lv (.int (M.1 208 4) :: st) M o) : V X G h val nL pc lv (.ref (G.2 + 208) :: st) M o := V_getI C0 4 inG_X7 rfl (by decide) (by decide) wf7_80 rfl (shN7 s208) (by decide +kernel) hdg k
theorem p7_80 (C0 : Cx X G cc nL RX7 ret) {v : Int32} {f : Mem → Option (ρ × Mem)} (hdg : decode cc pc = .ok (.putfield 80, 3)) (k : ∀ M1, V X G h val nL (pc + 3) lv st M1 (f M1)) : V X G h val nL pc lv (.int v :: .ref (G.2 + 208) :: st) M (bm (mset M 208 4 v) f) := V_put C0 4 inG_X7 rfl (by decide) (by decide) wf7_80 rfl (shN7 s208) tyX7 tyX7_ok nmX7 (by decide +kernel) (by decide +kernel) (ty := .int) (by decide +kernel) rfl rfl hdg k
theorem g7_84 (C0 : Cx X G cc nL RX7 ret) (hdg : decode cc pc = .ok (.getfield 84, 3)) (k : V X G h val nL (pc + 3) lv (.int (M.1 208 6) :: st) M o) : V X G h val nL pc lv (.ref (G.2 + 208) :: st) M o := V_getI C0 6 inG_X7 rfl (by decide) (by decide) wf7_84 rfl (shN7 s208) (by decide +kernel) hdg k
theorem p7_84 (C0 : Cx X G cc nL RX7 ret) {v : Int32} {f : Mem → Option (ρ × Mem)} (hdg : decode cc pc = .ok (.putfield 84, 3)) (k : ∀ M1, V X G h val nL (pc + 3) lv st M1 (f M1)) : V X G h val nL pc lv (.int v :: .ref (G.2 + 208) :: st) M (bm (mset M 208 6 v) f) := V_put C0 6 inG_X7 rfl (by decide) (by decide) wf7_84 rfl (shN7 s208) tyX7 tyX7_ok nmX7 (by decide +kernel) (by decide +kernel) (ty := .int) (by decide +kernel) rfl rfl hdg k
theorem g7_88 (C0 : Cx X G cc nL RX7 ret) (hdg : decode cc pc = .ok (.getfield 88, 3)) (k : V X G h val nL (pc + 3) lv (.int (M.1 208 7) :: st) M o) : V X G h val nL pc lv (.ref (G.2 + 208) :: st) M o := V_getI C0 7 inG_X7 rfl (by decide) (by decide) wf7_88 rfl (shN7 s208) (by decide +kernel) hdg k
theorem p7_88 (C0 : Cx X G cc nL RX7 ret) {v : Int32} {f : Mem → Option (ρ × Mem)} (hdg : decode cc pc = .ok (.putfield 88, 3)) (k : ∀ M1, V X G h val nL (pc + 3) lv st M1 (f M1)) : V X G h val nL pc lv (.int v :: .ref (G.2 + 208) :: st) M (bm (mset M 208 7 v) f) := V_put C0 7 inG_X7 rfl (by decide) (by decide) wf7_88 rfl (shN7 s208) tyX7 tyX7_ok nmX7 (by decide +kernel) (by decide +kernel) (ty := .int) (by decide +kernel) rfl rfl hdg k
theorem g7_91 (C0 : Cx X G cc nL RX7 ret) (hdg : decode cc pc = .ok (.getfield 91, 3)) (k : V X G h val nL (pc + 3) lv (.int (M.1 208 8) :: st) M o) : V X G h val nL pc lv (.ref (G.2 + 208) :: st) M o := V_getI C0 8 inG_X7 rfl (by decide) (by decide) wf7_91 rfl (shN7 s208) (by decide +kernel) hdg k
theorem p7_91 (C0 : Cx X G cc nL RX7 ret) {v : Int32} {f : Mem → Option (ρ × Mem)} (hdg : decode cc pc = .ok (.putfield 91, 3)) (k : ∀ M1, V X G h val nL (pc + 3) lv st M1 (f M1)) : V X G h val nL pc lv (.int v :: .ref (G.2 + 208) :: st) M (bm (mset M 208 8 v) f) := V_put C0 8 inG_X7 rfl (by decide) (by decide) wf7_91 rfl (shN7 s208) tyX7 tyX7_ok nmX7 (by decide +kernel) (by decide +kernel) (ty := .int) (by decide +kernel) rfl rfl hdg k
theorem g7_94 (C0 : Cx X G cc nL RX7 ret) (hdg : decode cc pc = .ok (.getfield 94, 3)) (k : V X G h val nL (pc + 3) lv (.int (M.1 208 12) :: st) M o) : V X G h val nL pc lv (.ref (G.2 + 208) :: st) M o := V_getI C0 12 inG_X7 rfl (by decide) (by decide) wf7_94 rfl (shN7 s208) (by decide +kernel) hdg k
theorem p7_94 (C0 : Cx X G cc nL RX7 ret) {v : Int32} {f : Mem → Option (ρ × Mem)} (hdg : decode cc pc = .ok (.putfield 94, 3)) (k : ∀ M1, V X G h val nL (pc + 3) lv st M1 (f M1)) : V X G h val nL pc lv (.int v :: .ref (G.2 + 208) :: st) M (bm (mset M 208 12 v) f) := V_put C0 12 inG_X7 rfl (by decide) (by decide) wf7_94 rfl (shN7 s208) tyX7 tyX7_ok nmX7 (by decide +kernel) (by decide +kernel) (ty := .int) (by decide +kernel) rfl rfl hdg k
theorem g7_101 (C0 : Cx X G cc nL RX7 ret) (hdg : decode cc pc = .ok (.getfield 101, 3)) (k : V X G h val nL (pc + 3) lv (.int (M.1 208 9) :: st) M o) : V X G h val nL pc lv (.ref (G.2 + 208) :: st) M o := V_getI C0 9 inG_X7 rfl (by decide) (by decide) wf7_101 rfl (shN7 s208) (by decide +kernel) hdg k
theorem p7_101 (C0 : Cx X G cc nL RX7 ret) {v : Int32} {f : Mem → Option (ρ × Mem)} (hdg : decode cc pc = .ok (.putfield 101, 3)) (k : ∀ M1, V X G h val nL (pc + 3) lv st M1 (f M1)) : V X G h val nL pc lv (.int v :: .ref (G.2 + 208) :: st) M (bm (mset M 208 9 v) f) := V_put C0 9 inG_X7 rfl (by decide) (by decide) wf7_101 rfl (shN7 s208) tyX7 tyX7_ok nmX7 (by decide +kernel) (by decide +kernel) (ty := .int) (by decide +kernel) rfl rfl hdg k
theorem g7_108 (C0 : Cx X G cc nL RX7 ret) (hdg : decode cc pc = .ok (.getfield 108, 3)) (k : V X G h val nL (pc + 3) lv (.int (M.1 208 14) :: st) M o) : V X G h val nL pc lv (.ref (G.2 + 208) :: st) M o := V_getI C0 14 inG_X7 rfl (by decide) (by decide) wf7_108 rfl (shN7 s208) (by decide +kernel) hdg k
theorem p7_108 (C0 : Cx X G cc nL RX7 ret) {v : Int32} {f : Mem → Option (ρ × Mem)} (hdg : decode cc pc = .ok (.putfield 108, 3)) (k : ∀ M1, V X G h val nL (pc + 3) lv st M1 (f M1)) : V X G h val nL pc lv (.int v :: .ref (G.2 + 208) :: st) M (bm (mset M 208 14 v) f) := V_put C0 14 inG_X7 rfl (by decide) (by decide) wf7_108 rfl (shN7 s208) tyX7 tyX7_ok nmX7 (by decide +kernel) (by decide +kernel) (ty := .int) (by decide +kernel) rfl rfl hdg k
theorem g7_115 (C0 : Cx X G cc nL RX7 ret) (hdg : decode cc pc = .ok (.getfield 115, 3)) (k : V X G h val nL (pc + 3) lv (.int (M.1 208 10) :: st) M o) : V X G h val nL pc lv (.ref (G.2 + 208) :: st) M o := V_getI C0 10 inG_X7 rfl (by decide) (by decide) wf7_115 rfl (shN7 s208) (by decide +kernel) hdg k
theorem p7_115 (C0 : Cx X G cc nL RX7 ret) {v : Int32} {f : Mem → Option (ρ × Mem)} (hdg : decode cc pc = .ok (.putfield 115, 3)) (k : ∀ M1, V X G h val nL (pc + 3) lv st M1 (f M1)) : V X G h val nL pc lv (.int v :: .ref (G.2 + 208) :: st) M (bm (mset M 208 10 v) f) := V_put C0 10 inG_X7 rfl (by decide) (by decide) wf7_115 rfl (shN7 s208) tyX7 tyX7_ok nmX7 (by decide +kernel) (by decide +kernel) (ty := .int) (by decide +kernel) rfl rfl hdg k
theorem g7_126 (C0 : Cx X G cc nL RX7 ret) (hdg : decode cc pc = .ok (.getfield 126, 3)) (k : V X G h val nL (pc + 3) lv (.int (M.1 208 15) :: st) M o) : V X G h val nL pc lv (.ref (G.2 + 208) :: st) M o := V_getI C0 15 inG_X7 rfl (by decide) (by decide) wf7_126 rfl (shN7 s208) (by decide +kernel) hdg k
theorem p7_126 (C0 : Cx X G cc nL RX7 ret) {v : Int32} {f : Mem → Option (ρ × Mem)} (hdg : decode cc pc = .ok (.putfield 126, 3)) (k : ∀ M1, V X G h val nL (pc + 3) lv st M1 (f M1)) : V X G h val nL pc lv (.int v :: .ref (G.2 + 208) :: st) M (gd (isB v) (bm (mset M 208 15 v) f)) := V_gd fun hb => V_put C0 15 inG_X7 rfl (by decide) (by decide) wf7_126 rfl (shN7 s208) tyX7 tyX7_ok nmX7 (by decide +kernel) (by decide +kernel) (ty := .boolean) (by decide +kernel) (by rcases isB_or hb with q | q <;> subst q <;> rfl) (by rcases isB_or hb with q | q <;> subst q <;> rfl) hdg k
theorem g7_200 (C0 : Cx X G cc nL RX7 ret) (hdg : decode cc pc = .ok (.getfield 200, 3)) (k : V X G h val nL (pc + 3) lv (.int (M.1 208 30) :: st) M o) : V X G h val nL pc lv (.ref (G.2 + 208) :: st) M o := V_getI C0 30 inG_X7 rfl (by decide) (by decide) wf7_200 rfl (shN7 s208) (by decide +kernel) hdg k
theorem p7_200 (C0 : Cx X G cc nL RX7 ret) {v : Int32} {f : Mem → Option (ρ × Mem)} (hdg : decode cc pc = .ok (.putfield 200, 3)) (k : ∀ M1, V X G h val nL (pc + 3) lv st M1 (f M1)) : V X G h val nL pc lv (.int v :: .ref (G.2 + 208) :: st) M (bm (mset M 208 30 v) f) := V_put C0 30 inG_X7 rfl (by decide) (by decide) wf7_200 rfl (shN7 s208) tyX7 tyX7_ok nmX7 (by decide +kernel) (by decide +kernel) (ty := .int) (by decide +kernel) rfl rfl hdg k
theorem g7_203 (C0 : Cx X G cc nL RX7 ret) (hdg : decode cc pc = .ok (.getfield 203, 3)) (k : V X G h val nL (pc + 3) lv (.int (M.1 208 25) :: st) M o) : V X G h val nL pc lv (.ref (G.2 + 208) :: st) M o := V_getI C0 25 inG_X7 rfl (by decide) (by decide) wf7_203 rfl (shN7 s208) (by decide +kernel) hdg k
theorem p7_203 (C0 : Cx X G cc nL RX7 ret) {v : Int32} {f : Mem → Option (ρ × Mem)} (hdg : decode cc pc = .ok (.putfield 203, 3)) (k : ∀ M1, V X G h val nL (pc + 3) lv st M1 (f M1)) : V X G h val nL pc lv (.int v :: .ref (G.2 + 208) :: st) M (bm (mset M 208 25 v) f) := V_put C0 25 inG_X7 rfl (by decide) (by decide) wf7_203 rfl (shN7 s208) tyX7 tyX7_ok nmX7 (by decide +kernel) (by decide +kernel) (ty := .int) (by decide +kernel) rfl rfl hdg k
theorem g7_206 (C0 : Cx X G cc nL RX7 ret) (hdg : decode cc pc = .ok (.getfield 206, 3)) (k : V X G h val nL (pc + 3) lv (.int (M.1 208 31) :: st) M o) : V X G h val nL pc lv (.ref (G.2 + 208) :: st) M o := V_getI C0 31 inG_X7 rfl (by decide) (by decide) wf7_206 rfl (shN7 s208) (by decide +kernel) hdg k
theorem p7_206 (C0 : Cx X G cc nL RX7 ret) {v : Int32} {f : Mem → Option (ρ × Mem)} (hdg : decode cc pc = .ok (.putfield 206, 3)) (k : ∀ M1, V X G h val nL (pc + 3) lv st M1 (f M1)) : V X G h val nL pc lv (.int v :: .ref (G.2 + 208) :: st) M (bm (mset M 208 31 v) f) := V_put C0 31 inG_X7 rfl (by decide) (by decide) wf7_206 rfl (shN7 s208) tyX7 tyX7_ok nmX7 (by decide +kernel) (by decide +kernel) (ty := .int) (by decide +kernel) rfl rfl hdg k
theorem g7_209 (C0 : Cx X G cc nL RX7 ret) (hdg : decode cc pc = .ok (.getfield 209, 3)) (k : V X G h val nL (pc + 3) lv (.int (M.1 208 33) :: st) M o) : V X G h val nL pc lv (.ref (G.2 + 208) :: st) M o := V_getI C0 33 inG_X7 rfl (by decide) (by decide) wf7_209 rfl (shN7 s208) (by decide +kernel) hdg k
theorem p7_209 (C0 : Cx X G cc nL RX7 ret) {v : Int32} {f : Mem → Option (ρ × Mem)} (hdg : decode cc pc = .ok (.putfield 209, 3)) (k : ∀ M1, V X G h val nL (pc + 3) lv st M1 (f M1)) : V X G h val nL pc lv (.int v :: .ref (G.2 + 208) :: st) M (bm (mset M 208 33 v) f) := V_put C0 33 inG_X7 rfl (by decide) (by decide) wf7_209 rfl (shN7 s208) tyX7 tyX7_ok nmX7 (by decide +kernel) (by decide +kernel) (ty := .int) (by decide +kernel) rfl rfl hdg k
theorem g7_212 (C0 : Cx X G cc nL RX7 ret) (hdg : decode cc pc = .ok (.getfield 212, 3)) (k : V X G h val nL (pc + 3) lv (.int (M.1 208 26) :: st) M o) : V X G h val nL pc lv (.ref (G.2 + 208) :: st) M o := V_getI C0 26 inG_X7 rfl (by decide) (by decide) wf7_212 rfl (shN7 s208) (by decide +kernel) hdg k
theorem p7_212 (C0 : Cx X G cc nL RX7 ret) {v : Int32} {f : Mem → Option (ρ × Mem)} (hdg : decode cc pc = .ok (.putfield 212, 3)) (k : ∀ M1, V X G h val nL (pc + 3) lv st M1 (f M1)) : V X G h val nL pc lv (.int v :: .ref (G.2 + 208) :: st) M (bm (mset M 208 26 v) f) := V_put C0 26 inG_X7 rfl (by decide) (by decide) wf7_212 rfl (shN7 s208) tyX7 tyX7_ok nmX7 (by decide +kernel) (by decide +kernel) (ty := .int) (by decide +kernel) rfl rfl hdg k
theorem g7_215 (C0 : Cx X G cc nL RX7 ret) (hdg : decode cc pc = .ok (.getfield 215, 3)) (k : V X G h val nL (pc + 3) lv (.int (M.1 208 27) :: st) M o) : V X G h val nL pc lv (.ref (G.2 + 208) :: st) M o := V_getI C0 27 inG_X7 rfl (by decide) (by decide) wf7_215 rfl (shN7 s208) (by decide +kernel) hdg k
theorem p7_215 (C0 : Cx X G cc nL RX7 ret) {v : Int32} {f : Mem → Option (ρ × Mem)} (hdg : decode cc pc = .ok (.putfield 215, 3)) (k : ∀ M1, V X G h val nL (pc + 3) lv st M1 (f M1)) : V X G h val nL pc lv (.int v :: .ref (G.2 + 208) :: st) M (bm (mset M 208 27 v) f) := V_put C0 27 inG_X7 rfl (by decide) (by decide) wf7_215 rfl (shN7 s208) tyX7 tyX7_ok nmX7 (by decide +kernel) (by decide +kernel) (ty := .int) (by decide +kernel) rfl rfl hdg k
theorem g7_218 (C0 : Cx X G cc nL RX7 ret) (hdg : decode cc pc = .ok (.getfield 218, 3)) (k : V X G h val nL (pc + 3) lv (.int (M.1 208 28) :: st) M o) : V X G h val nL pc lv (.ref (G.2 + 208) :: st) M o := V_getI C0 28 inG_X7 rfl (by decide) (by decide) wf7_218 rfl (shN7 s208) (by decide +kernel) hdg k
theorem p7_218 (C0 : Cx X G cc nL RX7 ret) {v : Int32} {f : Mem → Option (ρ × Mem)} (hdg : decode cc pc = .ok (.putfield 218, 3)) (k : ∀ M1, V X G h val nL (pc + 3) lv st M1 (f M1)) : V X G h val nL pc lv (.int v :: .ref (G.2 + 208) :: st) M (bm (mset M 208 28 v) f) := V_put C0 28 inG_X7 rfl (by decide) (by decide) wf7_218 rfl (shN7 s208) tyX7 tyX7_ok nmX7 (by decide +kernel) (by decide +kernel) (ty := .int) (by decide +kernel) rfl rfl hdg k
theorem g7_221 (C0 : Cx X G cc nL RX7 ret) (hdg : decode cc pc = .ok (.getfield 221, 3)) (k : V X G h val nL (pc + 3) lv (.int (M.1 208 29) :: st) M o) : V X G h val nL pc lv (.ref (G.2 + 208) :: st) M o := V_getI C0 29 inG_X7 rfl (by decide) (by decide) wf7_221 rfl (shN7 s208) (by decide +kernel) hdg k
theorem p7_221 (C0 : Cx X G cc nL RX7 ret) {v : Int32} {f : Mem → Option (ρ × Mem)} (hdg : decode cc pc = .ok (.putfield 221, 3)) (k : ∀ M1, V X G h val nL (pc + 3) lv st M1 (f M1)) : V X G h val nL pc lv (.int v :: .ref (G.2 + 208) :: st) M (bm (mset M 208 29 v) f) := V_put C0 29 inG_X7 rfl (by decide) (by decide) wf7_221 rfl (shN7 s208) tyX7 tyX7_ok nmX7 (by decide +kernel) (by decide +kernel) (ty := .int) (by decide +kernel) rfl rfl hdg k
theorem g7_224 (C0 : Cx X G cc nL RX7 ret) (hdg : decode cc pc = .ok (.getfield 224, 3)) (k : V X G h val nL (pc + 3) lv (.int (M.1 208 37) :: st) M o) : V X G h val nL pc lv (.ref (G.2 + 208) :: st) M o := V_getI C0 37 inG_X7 rfl (by decide) (by decide) wf7_224 rfl (shN7 s208) (by decide +kernel) hdg k
theorem p7_224 (C0 : Cx X G cc nL RX7 ret) {v : Int32} {f : Mem → Option (ρ × Mem)} (hdg : decode cc pc = .ok (.putfield 224, 3)) (k : ∀ M1, V X G h val nL (pc + 3) lv st M1 (f M1)) : V X G h val nL pc lv (.int v :: .ref (G.2 + 208) :: st) M (bm (mset M 208 37 v) f) := V_put C0 37 inG_X7 rfl (by decide) (by decide) wf7_224 rfl (shN7 s208) tyX7 tyX7_ok nmX7 (by decide +kernel) (by decide +kernel) (ty := .int) (by decide +kernel) rfl rfl hdg k
theorem k6_51 (C0 : Cx X G cc nL RX6 ret) {u0 : Int32} {h2 : Nat} {oc : Option (Int32 × Mem)} {kf : Int32 → Mem → Option (ρ × Mem)} (hh : h2 < h) (hM : ∀ l r M1, oc = some (r, M1) → MC l G yX3_take cX3_take 2 (some .boolean) h2 (.ref (G.2 + 1) :: [.int u0]) M (vI r) M1) (hst : (st.map fun v => v.category).sum ≤ 8) (hdg : decode cc pc = .ok (.invokevirtual 51, 3)) (k : ∀ r M1, V X G h val nL (pc + 3) lv (.int r :: st) M1 (kf r M1)) : V X G h val nL pc lv (.int u0 :: .ref (G.2 + 1) :: st) M (bd oc kf) := V_callNi (av := [.int u0]) (n := 1) C0 hM rfl (by decide) (shN3 s1) wm6_51 wiX3_take wvX3_take w0X3 (by decide +kernel) wcX3_take rfl hh (by decide) hst hdg k
theorem k6_60 (C0 : Cx X G cc nL RX6 ret) {h2 : Nat} {oc : Option (Int32 × Mem)} {kf : Int32 → Mem → Option (ρ × Mem)} (hh : h2 < h) (hM : ∀ l r M1, oc = some (r, M1) → MC l G yX3_readSheet cX3_readSheet 2 (some .boolean) h2 (.ref (G.2 + 1) :: []) M (vI r) M1) (hst : (st.map fun v => v.category).sum ≤ 8) (hdg : decode cc pc = .ok (.invokevirtual 60, 3)) (k : ∀ r M1, V X G h val nL (pc + 3) lv (.int r :: st) M1 (kf r M1)) : V X G h val nL pc lv (.ref (G.2 + 1) :: st) M (bd oc kf) := V_callNi (av := []) (n := 0) C0 hM rfl (by decide) (shN3 s1) wm6_60 wiX3_readSheet wvX3_readSheet w0X3 (by decide +kernel) wcX3_readSheet rfl hh (by decide) hst hdg k
theorem k6_67 (C0 : Cx X G cc nL RX6 ret) {h2 : Nat} {oc : Option (Unit × Mem)} {kf : Unit → Mem → Option (ρ × Mem)} (hh : h2 < h) (hM : ∀ l r M1, oc = some (r, M1) → MC l G yX6_recordState cX6_recordState 1 none h2 (.ref (G.2 + 0) :: []) M (vU r) M1) (hst : (st.map fun v => v.category).sum ≤ 8) (hdg : decode cc pc = .ok (.invokevirtual 67, 3)) (k : ∀ r M1, V X G h val nL (pc + 3) lv st M1 (kf r M1)) : V X G h val nL pc lv (.ref (G.2 + 0) :: st) M (bd oc kf) := V_callVv (av := []) (n := 0) C0 hM rfl (by decide) (shN6 s0) (List.forall_mem_cons.mpr ⟨wm6_67, List.forall_mem_cons.mpr ⟨wiX6_recordState, List.forall_mem_cons.mpr ⟨wvX6_recordState, List.forall_mem_cons.mpr ⟨w0X6, fun _ h => absurd h List.not_mem_nil⟩⟩⟩⟩) (by decide +kernel) wcX6_recordState rfl hh (by decide) hst hdg k
theorem k6_73 (C0 : Cx X G cc nL RX6 ret) {u0 : Nat} {a : Nat} (ha : (sh a).1 = 4) {h2 : Nat} {oc : Option (Unit × Mem)} {kf : Unit → Mem → Option (ρ × Mem)} (hh : h2 < h) (hM : ∀ l r M1, oc = some (r, M1) → MC l G yX4_copyFormulas cX4_copyFormulas 3 none h2 (.ref (G.2 + a) :: [.ref (G.2 + u0)]) M (vU r) M1) (hst : (st.map fun v => v.category).sum ≤ 8) (hdg : decode cc pc = .ok (.invokevirtual 73, 3)) (k : ∀ r M1, V X G h val nL (pc + 3) lv st M1 (kf r M1)) : V X G h val nL pc lv (.ref (G.2 + u0) :: .ref (G.2 + a) :: st) M (bd oc kf) := V_callNv (av := [.ref (G.2 + u0)]) (n := 1) C0 hM rfl (by decide) (shN4 ha) wm6_73 wiX4_copyFormulas wvX4_copyFormulas w0X4 (by decide +kernel) wcX4_copyFormulas rfl hh (by decide) hst hdg k
theorem k6_77 (C0 : Cx X G cc nL RX6 ret) {h2 : Nat} {oc : Option (Unit × Mem)} {kf : Unit → Mem → Option (ρ × Mem)} (hh : h2 < h) (hM : ∀ l r M1, oc = some (r, M1) → MC l G yX6_workAnew cX6_workAnew 3 none h2 (.ref (G.2 + 0) :: []) M (vU r) M1) (hst : (st.map fun v => v.category).sum ≤ 8) (hdg : decode cc pc = .ok (.invokevirtual 77, 3)) (k : ∀ r M1, V X G h val nL (pc + 3) lv st M1 (kf r M1)) : V X G h val nL pc lv (.ref (G.2 + 0) :: st) M (bd oc kf) := V_callVv (av := []) (n := 0) C0 hM rfl (by decide) (shN6 s0) (List.forall_mem_cons.mpr ⟨wm6_77, List.forall_mem_cons.mpr ⟨wiX6_workAnew, List.forall_mem_cons.mpr ⟨wvX6_workAnew, List.forall_mem_cons.mpr ⟨w0X6, fun _ h => absurd h List.not_mem_nil⟩⟩⟩⟩) (by decide +kernel) wcX6_workAnew rfl hh (by decide) hst hdg k
theorem k6_83 (C0 : Cx X G cc nL RX6 ret) {u0 : Int32} {h2 : Nat} {oc : Option (Int32 × Mem)} {kf : Int32 → Mem → Option (ρ × Mem)} (hh : h2 < h) (hM : ∀ l r M1, oc = some (r, M1) → MC l G yX6_isFormula cX6_isFormula 2 (some .boolean) h2 (.ref (G.2 + 0) :: [.int u0]) M (vI r) M1) (hst : (st.map fun v => v.category).sum ≤ 8) (hdg : decode cc pc = .ok (.invokevirtual 83, 3)) (k : ∀ r M1, V X G h val nL (pc + 3) lv (.int r :: st) M1 (kf r M1)) : V X G h val nL pc lv (.int u0 :: .ref (G.2 + 0) :: st) M (bd oc kf) := V_callVi (av := [.int u0]) (n := 1) C0 hM rfl (by decide) (shN6 s0) (List.forall_mem_cons.mpr ⟨wm6_83, List.forall_mem_cons.mpr ⟨wiX6_isFormula, List.forall_mem_cons.mpr ⟨wvX6_isFormula, List.forall_mem_cons.mpr ⟨w0X6, fun _ h => absurd h List.not_mem_nil⟩⟩⟩⟩) (by decide +kernel) wcX6_isFormula rfl hh (by decide) hst hdg k
theorem k6_90 (C0 : Cx X G cc nL RX6 ret) {u0 : Int32} {a : Nat} (ha : (sh a).1 = 1) {h2 : Nat} {oc : Option (Int32 × Mem)} {kf : Int32 → Mem → Option (ρ × Mem)} (hh : h2 < h) (hM : ∀ l r M1, oc = some (r, M1) → MC l G yX1_has cX1_has 2 (some .boolean) h2 (.ref (G.2 + a) :: [.int u0]) M (vI r) M1) (hst : (st.map fun v => v.category).sum ≤ 8) (hdg : decode cc pc = .ok (.invokevirtual 90, 3)) (k : ∀ r M1, V X G h val nL (pc + 3) lv (.int r :: st) M1 (kf r M1)) : V X G h val nL pc lv (.int u0 :: .ref (G.2 + a) :: st) M (bd oc kf) := V_callNi (av := [.int u0]) (n := 1) C0 hM rfl (by decide) (shN1 ha) wm6_90 wiX1_has wvX1_has w0X1 (by decide +kernel) wcX1_has rfl hh (by decide) hst hdg k
theorem k6_95 (C0 : Cx X G cc nL RX6 ret) {u0 : Int32} {a : Nat} (ha : (sh a).1 = 1) {h2 : Nat} {oc : Option (Int32 × Mem)} {kf : Int32 → Mem → Option (ρ × Mem)} (hh : h2 < h) (hM : ∀ l r M1, oc = some (r, M1) → MC l G yX1_kindOf cX1_kindOf 2 (some .int) h2 (.ref (G.2 + a) :: [.int u0]) M (vI r) M1) (hst : (st.map fun v => v.category).sum ≤ 8) (hdg : decode cc pc = .ok (.invokevirtual 95, 3)) (k : ∀ r M1, V X G h val nL (pc + 3) lv (.int r :: st) M1 (kf r M1)) : V X G h val nL pc lv (.int u0 :: .ref (G.2 + a) :: st) M (bd oc kf) := V_callNi (av := [.int u0]) (n := 1) C0 hM rfl (by decide) (shN1 ha) wm6_95 wiX1_kindOf wvX1_kindOf w0X1 (by decide +kernel) wcX1_kindOf rfl hh (by decide) hst hdg k
theorem k6_100 (C0 : Cx X G cc nL RX6 ret) {u0 : Int32} {a : Nat} (ha : (sh a).1 = 1) {h2 : Nat} {oc : Option (Unit × Mem)} {kf : Unit → Mem → Option (ρ × Mem)} (hh : h2 < h) (hM : ∀ l r M1, oc = some (r, M1) → MC l G yX1_exchange cX1_exchange 4 none h2 (.ref (G.2 + a) :: [.int u0]) M (vU r) M1) (hst : (st.map fun v => v.category).sum ≤ 8) (hdg : decode cc pc = .ok (.invokevirtual 100, 3)) (k : ∀ r M1, V X G h val nL (pc + 3) lv st M1 (kf r M1)) : V X G h val nL pc lv (.int u0 :: .ref (G.2 + a) :: st) M (bd oc kf) := V_callNv (av := [.int u0]) (n := 1) C0 hM rfl (by decide) (shN1 ha) wm6_100 wiX1_exchange wvX1_exchange w0X1 (by decide +kernel) wcX1_exchange rfl hh (by decide) hst hdg k
theorem k6_103 (C0 : Cx X G cc nL RX6 ret) {u0 : Int32} {a : Nat} (ha : (sh a).1 = 0) {h2 : Nat} {oc : Option (Int32 × Mem)} {kf : Int32 → Mem → Option (ρ × Mem)} (hh : h2 < h) (hM : ∀ l r M1, oc = some (r, M1) → MC l G yX0_needOf cX0_needOf 2 (some .int) h2 (.ref (G.2 + a) :: [.int u0]) M (vI r) M1) (hst : (st.map fun v => v.category).sum ≤ 8) (hdg : decode cc pc = .ok (.invokevirtual 103, 3)) (k : ∀ r M1, V X G h val nL (pc + 3) lv (.int r :: st) M1 (kf r M1)) : V X G h val nL pc lv (.int u0 :: .ref (G.2 + a) :: st) M (bd oc kf) := V_callNi (av := [.int u0]) (n := 1) C0 hM rfl (by decide) (shN0 ha) wm6_103 wiX0_needOf wvX0_needOf w0X0 (by decide +kernel) wcX0_needOf rfl hh (by decide) hst hdg k
theorem k6_106 (C0 : Cx X G cc nL RX6 ret) {u0 : Int32} {h2 : Nat} {oc : Option (Int32 × Mem)} {kf : Int32 → Mem → Option (ρ × Mem)} (hh : h2 < h) (hM : ∀ l r M1, oc = some (r, M1) → MC l G yX6_isCell cX6_isCell 1 (some .boolean) h2 [.int u0] M (vI r) M1) (hst : (st.map fun v => v.category).sum ≤ 8) (hdg : decode cc pc = .ok (.invokestatic 106, 3)) (k : ∀ r M1, V X G h val nL (pc + 3) lv (.int r :: st) M1 (kf r M1)) : V X G h val nL pc lv (.int u0 :: st) M (bd oc kf) := V_callSi (av := [.int u0]) (n := 1) C0 hM (List.forall_mem_cons.mpr ⟨wm6_106, List.forall_mem_cons.mpr ⟨wsX6_isCell, List.forall_mem_cons.mpr ⟨w0X6, fun _ h => absurd h List.not_mem_nil⟩⟩⟩) (by decide +kernel) wcX6_isCell rfl hh (by decide) hst hdg k
theorem k6_113 (C0 : Cx X G cc nL RX6 ret) {u0 : Int32} {h2 : Nat} {oc : Option (Int32 × Mem)} {kf : Int32 → Mem → Option (ρ × Mem)} (hh : h2 < h) (hM : ∀ l r M1, oc = some (r, M1) → MC l G yX6_arePlaces cX6_arePlaces 1 (some .boolean) h2 [.int u0] M (vI r) M1) (hst : (st.map fun v => v.category).sum ≤ 8) (hdg : decode cc pc = .ok (.invokestatic 113, 3)) (k : ∀ r M1, V X G h val nL (pc + 3) lv (.int r :: st) M1 (kf r M1)) : V X G h val nL pc lv (.int u0 :: st) M (bd oc kf) := V_callSi (av := [.int u0]) (n := 1) C0 hM (List.forall_mem_cons.mpr ⟨wm6_113, List.forall_mem_cons.mpr ⟨wsX6_arePlaces, List.forall_mem_cons.mpr ⟨w0X6, fun _ h => absurd h List.not_mem_nil⟩⟩⟩) (by decide +kernel) wcX6_arePlaces rfl hh (by decide) hst hdg k
theorem k6_122 (C0 : Cx X G cc nL RX6 ret) {u0 : Nat} {a : Nat} (ha : (sh a).1 = 4) {h2 : Nat} {oc : Option (Unit × Mem)} {kf : Unit → Mem → Option (ρ × Mem)} (hh : h2 < h) (hM : ∀ l r M1, oc = some (r, M1) → MC l G yX4_copyState cX4_copyState 2 none h2 (.ref (G.2 + a) :: [.ref (G.2 + u0)]) M (vU r) M1) (hst : (st.map fun v => v.category).sum ≤ 8) (hdg : decode cc pc = .ok (.invokevirtual 122, 3)) (k : ∀ r M1, V X G h val nL (pc + 3) lv st M1 (kf r M1)) : V X G h val nL pc lv (.ref (G.2 + u0) :: .ref (G.2 + a) :: st) M (bd oc kf) := V_callNv (av := [.ref (G.2 + u0)]) (n := 1) C0 hM rfl (by decide) (shN4 ha) wm6_122 wiX4_copyState wvX4_copyState w0X4 (by decide +kernel) wcX4_copyState rfl hh (by decide) hst hdg k
theorem k6_125 (C0 : Cx X G cc nL RX6 ret) {h2 : Nat} {oc : Option (Int32 × Mem)} {kf : Int32 → Mem → Option (ρ × Mem)} (hh : h2 < h) (hM : ∀ l r M1, oc = some (r, M1) → MC l G yX6_cheapDefinitions cX6_cheapDefinitions 3 (some .int) h2 (.ref (G.2 + 0) :: []) M (vI r) M1) (hst : (st.map fun v => v.category).sum ≤ 8) (hdg : decode cc pc = .ok (.invokevirtual 125, 3)) (k : ∀ r M1, V X G h val nL (pc + 3) lv (.int r :: st) M1 (kf r M1)) : V X G h val nL pc lv (.ref (G.2 + 0) :: st) M (bd oc kf) := V_callVi (av := []) (n := 0) C0 hM rfl (by decide) (shN6 s0) (List.forall_mem_cons.mpr ⟨wm6_125, List.forall_mem_cons.mpr ⟨wiX6_cheapDefinitions, List.forall_mem_cons.mpr ⟨wvX6_cheapDefinitions, List.forall_mem_cons.mpr ⟨w0X6, fun _ h => absurd h List.not_mem_nil⟩⟩⟩⟩) (by decide +kernel) wcX6_cheapDefinitions rfl hh (by decide) hst hdg k
theorem k6_129 (C0 : Cx X G cc nL RX6 ret) {h2 : Nat} {oc : Option (Int32 × Mem)} {kf : Int32 → Mem → Option (ρ × Mem)} (hh : h2 < h) (hM : ∀ l r M1, oc = some (r, M1) → MC l G yX6_nodesAsRead cX6_nodesAsRead 3 (some .int) h2 (.ref (G.2 + 0) :: []) M (vI r) M1) (hst : (st.map fun v => v.category).sum ≤ 8) (hdg : decode cc pc = .ok (.invokevirtual 129, 3)) (k : ∀ r M1, V X G h val nL (pc + 3) lv (.int r :: st) M1 (kf r M1)) : V X G h val nL pc lv (.ref (G.2 + 0) :: st) M (bd oc kf) := V_callVi (av := []) (n := 0) C0 hM rfl (by decide) (shN6 s0) (List.forall_mem_cons.mpr ⟨wm6_129, List.forall_mem_cons.mpr ⟨wiX6_nodesAsRead, List.forall_mem_cons.mpr ⟨wvX6_nodesAsRead, List.forall_mem_cons.mpr ⟨w0X6, fun _ h => absurd h List.not_mem_nil⟩⟩⟩⟩) (by decide +kernel) wcX6_nodesAsRead rfl hh (by decide) hst hdg k
theorem k6_132 (C0 : Cx X G cc nL RX6 ret) {h2 : Nat} {oc : Option (Int32 × Mem)} {kf : Int32 → Mem → Option (ρ × Mem)} (hh : h2 < h) (hM : ∀ l r M1, oc = some (r, M1) → MC l G yX6_greatestNeed cX6_greatestNeed 3 (some .int) h2 (.ref (G.2 + 0) :: []) M (vI r) M1) (hst : (st.map fun v => v.category).sum ≤ 8) (hdg : decode cc pc = .ok (.invokevirtual 132, 3)) (k : ∀ r M1, V X G h val nL (pc + 3) lv (.int r :: st) M1 (kf r M1)) : V X G h val nL pc lv (.ref (G.2 + 0) :: st) M (bd oc kf) := V_callVi (av := []) (n := 0) C0 hM rfl (by decide) (shN6 s0) (List.forall_mem_cons.mpr ⟨wm6_132, List.forall_mem_cons.mpr ⟨wiX6_greatestNeed, List.forall_mem_cons.mpr ⟨wvX6_greatestNeed, List.forall_mem_cons.mpr ⟨w0X6, fun _ h => absurd h List.not_mem_nil⟩⟩⟩⟩) (by decide +kernel) wcX6_greatestNeed rfl hh (by decide) hst hdg k
theorem k6_146 (C0 : Cx X G cc nL RX6 ret) {u0 : Int32} {a : Nat} (ha : (sh a).1 = 0) {h2 : Nat} {oc : Option (Int32 × Mem)} {kf : Int32 → Mem → Option (ρ × Mem)} (hh : h2 < h) (hM : ∀ l r M1, oc = some (r, M1) → MC l G yX0_valueOf cX0_valueOf 2 (some .int) h2 (.ref (G.2 + a) :: [.int u0]) M (vI r) M1) (hst : (st.map fun v => v.category).sum ≤ 8) (hdg : decode cc pc = .ok (.invokevirtual 146, 3)) (k : ∀ r M1, V X G h val nL (pc + 3) lv (.int r :: st) M1 (kf r M1)) : V X G h val nL pc lv (.int u0 :: .ref (G.2 + a) :: st) M (bd oc kf) := V_callNi (av := [.int u0]) (n := 1) C0 hM rfl (by decide) (shN0 ha) wm6_146 wiX0_valueOf wvX0_valueOf w0X0 (by decide +kernel) wcX0_valueOf rfl hh (by decide) hst hdg k
theorem k6_149 (C0 : Cx X G cc nL RX6 ret) {u0 : Int32} {a : Nat} (ha : (sh a).1 = 0) {h2 : Nat} {oc : Option (Int32 × Mem)} {kf : Int32 → Mem → Option (ρ × Mem)} (hh : h2 < h) (hM : ∀ l r M1, oc = some (r, M1) → MC l G yX0_depthOf cX0_depthOf 2 (some .int) h2 (.ref (G.2 + a) :: [.int u0]) M (vI r) M1) (hst : (st.map fun v => v.category).sum ≤ 8) (hdg : decode cc pc = .ok (.invokevirtual 149, 3)) (k : ∀ r M1, V X G h val nL (pc + 3) lv (.int r :: st) M1 (kf r M1)) : V X G h val nL pc lv (.int u0 :: .ref (G.2 + a) :: st) M (bd oc kf) := V_callNi (av := [.int u0]) (n := 1) C0 hM rfl (by decide) (shN0 ha) wm6_149 wiX0_depthOf wvX0_depthOf w0X0 (by decide +kernel) wcX0_depthOf rfl hh (by decide) hst hdg k
theorem k6_152 (C0 : Cx X G cc nL RX6 ret) {u0 : Int32} {h2 : Nat} {oc : Option (Int32 × Mem)} {kf : Int32 → Mem → Option (ρ × Mem)} (hh : h2 < h) (hM : ∀ l r M1, oc = some (r, M1) → MC l G yX6_usesOf cX6_usesOf 7 (some .int) h2 (.ref (G.2 + 0) :: [.int u0]) M (vI r) M1) (hst : (st.map fun v => v.category).sum ≤ 8) (hdg : decode cc pc = .ok (.invokevirtual 152, 3)) (k : ∀ r M1, V X G h val nL (pc + 3) lv (.int r :: st) M1 (kf r M1)) : V X G h val nL pc lv (.int u0 :: .ref (G.2 + 0) :: st) M (bd oc kf) := V_callVi (av := [.int u0]) (n := 1) C0 hM rfl (by decide) (shN6 s0) (List.forall_mem_cons.mpr ⟨wm6_152, List.forall_mem_cons.mpr ⟨wiX6_usesOf, List.forall_mem_cons.mpr ⟨wvX6_usesOf, List.forall_mem_cons.mpr ⟨w0X6, fun _ h => absurd h List.not_mem_nil⟩⟩⟩⟩) (by decide +kernel) wcX6_usesOf rfl hh (by decide) hst hdg k
theorem k6_155 (C0 : Cx X G cc nL RX6 ret) {u0 : Int32} {h2 : Nat} {oc : Option (Int32 × Mem)} {kf : Int32 → Mem → Option (ρ × Mem)} (hh : h2 < h) (hM : ∀ l r M1, oc = some (r, M1) → MC l G yX6_partsOf cX6_partsOf 1 (some .int) h2 [.int u0] M (vI r) M1) (hst : (st.map fun v => v.category).sum ≤ 8) (hdg : decode cc pc = .ok (.invokestatic 155, 3)) (k : ∀ r M1, V X G h val nL (pc + 3) lv (.int r :: st) M1 (kf r M1)) : V X G h val nL pc lv (.int u0 :: st) M (bd oc kf) := V_callSi (av := [.int u0]) (n := 1) C0 hM (List.forall_mem_cons.mpr ⟨wm6_155, List.forall_mem_cons.mpr ⟨wsX6_partsOf, List.forall_mem_cons.mpr ⟨w0X6, fun _ h => absurd h List.not_mem_nil⟩⟩⟩) (by decide +kernel) wcX6_partsOf rfl hh (by decide) hst hdg k
theorem k6_158 (C0 : Cx X G cc nL RX6 ret) {u0 : Int32} {a : Nat} (ha : (sh a).1 = 1) {h2 : Nat} {oc : Option (Int32 × Mem)} {kf : Int32 → Mem → Option (ρ × Mem)} (hh : h2 < h) (hM : ∀ l r M1, oc = some (r, M1) → MC l G yX1_contentOf cX1_contentOf 2 (some .int) h2 (.ref (G.2 + a) :: [.int u0]) M (vI r) M1) (hst : (st.map fun v => v.category).sum ≤ 8) (hdg : decode cc pc = .ok (.invokevirtual 158, 3)) (k : ∀ r M1, V X G h val nL (pc + 3) lv (.int r :: st) M1 (kf r M1)) : V X G h val nL pc lv (.int u0 :: .ref (G.2 + a) :: st) M (bd oc kf) := V_callNi (av := [.int u0]) (n := 1) C0 hM rfl (by decide) (shN1 ha) wm6_158 wiX1_contentOf wvX1_contentOf w0X1 (by decide +kernel) wcX1_contentOf rfl hh (by decide) hst hdg k
theorem k6_162 (C0 : Cx X G cc nL RX6 ret) {u0 : Int32} {a : Nat} (ha : (sh a).1 = 0) {h2 : Nat} {oc : Option (Int32 × Mem)} {kf : Int32 → Mem → Option (ρ × Mem)} (hh : h2 < h) (hM : ∀ l r M1, oc = some (r, M1) → MC l G yX0_rightOf cX0_rightOf 2 (some .int) h2 (.ref (G.2 + a) :: [.int u0]) M (vI r) M1) (hst : (st.map fun v => v.category).sum ≤ 8) (hdg : decode cc pc = .ok (.invokevirtual 162, 3)) (k : ∀ r M1, V X G h val nL (pc + 3) lv (.int r :: st) M1 (kf r M1)) : V X G h val nL pc lv (.int u0 :: .ref (G.2 + a) :: st) M (bd oc kf) := V_callNi (av := [.int u0]) (n := 1) C0 hM rfl (by decide) (shN0 ha) wm6_162 wiX0_rightOf wvX0_rightOf w0X0 (by decide +kernel) wcX0_rightOf rfl hh (by decide) hst hdg k
theorem k6_165 (C0 : Cx X G cc nL RX6 ret) {u0 : Int32} {a : Nat} (ha : (sh a).1 = 0) {h2 : Nat} {oc : Option (Int32 × Mem)} {kf : Int32 → Mem → Option (ρ × Mem)} (hh : h2 < h) (hM : ∀ l r M1, oc = some (r, M1) → MC l G yX0_sizeOf cX0_sizeOf 2 (some .int) h2 (.ref (G.2 + a) :: [.int u0]) M (vI r) M1) (hst : (st.map fun v => v.category).sum ≤ 8) (hdg : decode cc pc = .ok (.invokevirtual 165, 3)) (k : ∀ r M1, V X G h val nL (pc + 3) lv (.int r :: st) M1 (kf r M1)) : V X G h val nL pc lv (.int u0 :: .ref (G.2 + a) :: st) M (bd oc kf) := V_callNi (av := [.int u0]) (n := 1) C0 hM rfl (by decide) (shN0 ha) wm6_165 wiX0_sizeOf wvX0_sizeOf w0X0 (by decide +kernel) wcX0_sizeOf rfl hh (by decide) hst hdg k
theorem k6_168 (C0 : Cx X G cc nL RX6 ret) {u0 : Nat} {u1 : Int32} {u2 : Int32} {h2 : Nat} {oc : Option (Unit × Mem)} {kf : Unit → Mem → Option (ρ × Mem)} (hh : h2 < h) (hM : ∀ l r M1, oc = some (r, M1) → MC l G yX2_make cX2_make 5 none h2 (.ref (G.2 + 47) :: [.ref (G.2 + u0), .int u1, .int u2]) M (vU r) M1) (hst : (st.map fun v => v.category).sum ≤ 8) (hdg : decode cc pc = .ok (.invokevirtual 168, 3)) (k : ∀ r M1, V X G h val nL (pc + 3) lv st M1 (kf r M1)) : V X G h val nL pc lv (.int u2 :: .int u1 :: .ref (G.2 + u0) :: .ref (G.2 + 47) :: st) M (bd oc kf) := V_callNv (av := [.ref (G.2 + u0), .int u1, .int u2]) (n := 3) C0 hM rfl (by decide) (shN2 s47) wm6_168 wiX2_make wvX2_make w0X2 (by decide +kernel) wcX2_make rfl hh (by decide) hst hdg k
theorem k6_185 (C0 : Cx X G cc nL RX6 ret) {u0 : Int32} {h2 : Nat} {oc : Option (Int32 × Mem)} {kf : Int32 → Mem → Option (ρ × Mem)} (hh : h2 < h) (hM : ∀ l r M1, oc = some (r, M1) → MC l G yX2_has cX2_has 2 (some .boolean) h2 (.ref (G.2 + 47) :: [.int u0]) M (vI r) M1) (hst : (st.map fun v => v.category).sum ≤ 8) (hdg : decode cc pc = .ok (.invokevirtual 185, 3)) (k : ∀ r M1, V X G h val nL (pc + 3) lv (.int r :: st) M1 (kf r M1)) : V X G h val nL pc lv (.int u0 :: .ref (G.2 + 47) :: st) M (bd oc kf) := V_callNi (av := [.int u0]) (n := 1) C0 hM rfl (by decide) (shN2 s47) wm6_185 wiX2_has wvX2_has w0X2 (by decide +kernel) wcX2_has rfl hh (by decide) hst hdg k
theorem k6_196 (C0 : Cx X G cc nL RX6 ret) {u0 : Int32} {h2 : Nat} {oc : Option (Int32 × Mem)} {kf : Int32 → Mem → Option (ρ × Mem)} (hh : h2 < h) (hM : ∀ l r M1, oc = some (r, M1) → MC l G yX6_refusalToTry cX6_refusalToTry 2 (some .int) h2 (.ref (G.2 + 0) :: [.int u0]) M (vI r) M1) (hst : (st.map fun v => v.category).sum ≤ 8) (hdg : decode cc pc = .ok (.invokevirtual 196, 3)) (k : ∀ r M1, V X G h val nL (pc + 3) lv (.int r :: st) M1 (kf r M1)) : V X G h val nL pc lv (.int u0 :: .ref (G.2 + 0) :: st) M (bd oc kf) := V_callVi (av := [.int u0]) (n := 1) C0 hM rfl (by decide) (shN6 s0) (List.forall_mem_cons.mpr ⟨wm6_196, List.forall_mem_cons.mpr ⟨wiX6_refusalToTry, List.forall_mem_cons.mpr ⟨wvX6_refusalToTry, List.forall_mem_cons.mpr ⟨w0X6, fun _ h => absurd h List.not_mem_nil⟩⟩⟩⟩) (by decide +kernel) wcX6_refusalToTry rfl hh (by decide) hst hdg k
theorem k6_199 (C0 : Cx X G cc nL RX6 ret) {u0 : Nat} {h2 : Nat} {oc : Option (Unit × Mem)} {kf : Unit → Mem → Option (ρ × Mem)} (hh : h2 < h) (hM : ∀ l r M1, oc = some (r, M1) → MC l G yX5_tryOrders cX5_tryOrders 3 none h2 (.ref (G.2 + 52) :: [.ref (G.2 + u0)]) M (vU r) M1) (hst : (st.map fun v => v.category).sum ≤ 8) (hdg : decode cc pc = .ok (.invokevirtual 199, 3)) (k : ∀ r M1, V X G h val nL (pc + 3) lv st M1 (kf r M1)) : V X G h val nL pc lv (.ref (G.2 + u0) :: .ref (G.2 + 52) :: st) M (bd oc kf) := V_callNv (av := [.ref (G.2 + u0)]) (n := 1) C0 hM rfl (by decide) (shN5 s52) wm6_199 wiX5_tryOrders wvX5_tryOrders w0X5 (by decide +kernel) wcX5_tryOrders rfl hh (by decide) hst hdg k
theorem k6_207 (C0 : Cx X G cc nL RX6 ret) {a : Nat} (ha : (sh a).1 = 0) {h2 : Nat} {oc : Option (Int32 × Mem)} {kf : Int32 → Mem → Option (ρ × Mem)} (hh : h2 < h) (hM : ∀ l r M1, oc = some (r, M1) → MC l G yX0_pairs cX0_pairs 3 (some .int) h2 (.ref (G.2 + a) :: []) M (vI r) M1) (hst : (st.map fun v => v.category).sum ≤ 8) (hdg : decode cc pc = .ok (.invokevirtual 207, 3)) (k : ∀ r M1, V X G h val nL (pc + 3) lv (.int r :: st) M1 (kf r M1)) : V X G h val nL pc lv (.ref (G.2 + a) :: st) M (bd oc kf) := V_callNi (av := []) (n := 0) C0 hM rfl (by decide) (shN0 ha) wm6_207 wiX0_pairs wvX0_pairs w0X0 (by decide +kernel) wcX0_pairs rfl hh (by decide) hst hdg k
theorem k6_210 (C0 : Cx X G cc nL RX6 ret) {h2 : Nat} {oc : Option (Unit × Mem)} {kf : Unit → Mem → Option (ρ × Mem)} (hh : h2 < h) (hM : ∀ l r M1, oc = some (r, M1) → MC l G yX6_dropOldestState cX6_dropOldestState 3 none h2 (.ref (G.2 + 0) :: []) M (vU r) M1) (hst : (st.map fun v => v.category).sum ≤ 8) (hdg : decode cc pc = .ok (.invokevirtual 210, 3)) (k : ∀ r M1, V X G h val nL (pc + 3) lv st M1 (kf r M1)) : V X G h val nL pc lv (.ref (G.2 + 0) :: st) M (bd oc kf) := V_callVv (av := []) (n := 0) C0 hM rfl (by decide) (shN6 s0) (List.forall_mem_cons.mpr ⟨wm6_210, List.forall_mem_cons.mpr ⟨wiX6_dropOldestState, List.forall_mem_cons.mpr ⟨wvX6_dropOldestState, List.forall_mem_cons.mpr ⟨w0X6, fun _ h => absurd h List.not_mem_nil⟩⟩⟩⟩) (by decide +kernel) wcX6_dropOldestState rfl hh (by decide) hst hdg k
theorem k6_213 (C0 : Cx X G cc nL RX6 ret) {u0 : Nat} {u1 : Int32} {u2 : Nat} {a : Nat} (ha : (sh a).1 = 0) {h2 : Nat} {oc : Option (Unit × Mem)} {kf : Unit → Mem → Option (ρ × Mem)} (hh : h2 < h) (hM : ∀ l r M1, oc = some (r, M1) → MC l G yX0_make cX0_make 7 none h2 (.ref (G.2 + a) :: [.ref (G.2 + u0), .int u1, .ref (G.2 + u2)]) M (vU r) M1) (hst : (st.map fun v => v.category).sum ≤ 8) (hdg : decode cc pc = .ok (.invokevirtual 213, 3)) (k : ∀ r M1, V X G h val nL (pc + 3) lv st M1 (kf r M1)) : V X G h val nL pc lv (.ref (G.2 + u2) :: .int u1 :: .ref (G.2 + u0) :: .ref (G.2 + a) :: st) M (bd oc kf) := V_callNv (av := [.ref (G.2 + u0), .int u1, .ref (G.2 + u2)]) (n := 3) C0 hM rfl (by decide) (shN0 ha) wm6_213 wiX0_make wvX0_make w0X0 (by decide +kernel) wcX0_make rfl hh (by decide) hst hdg k
theorem k6_216 (C0 : Cx X G cc nL RX6 ret) {u0 : Nat} {u1 : Nat} {a : Nat} (ha : (sh a).1 = 0) {h2 : Nat} {oc : Option (Unit × Mem)} {kf : Unit → Mem → Option (ρ × Mem)} (hh : h2 < h) (hM : ∀ l r M1, oc = some (r, M1) → MC l G yX0_measure cX0_measure 8 none h2 (.ref (G.2 + a) :: [.ref (G.2 + u0), .ref (G.2 + u1)]) M (vU r) M1) (hst : (st.map fun v => v.category).sum ≤ 8) (hdg : decode cc pc = .ok (.invokevirtual 216, 3)) (k : ∀ r M1, V X G h val nL (pc + 3) lv st M1 (kf r M1)) : V X G h val nL pc lv (.ref (G.2 + u1) :: .ref (G.2 + u0) :: .ref (G.2 + a) :: st) M (bd oc kf) := V_callNv (av := [.ref (G.2 + u0), .ref (G.2 + u1)]) (n := 2) C0 hM rfl (by decide) (shN0 ha) wm6_216 wiX0_measure wvX0_measure w0X0 (by decide +kernel) wcX0_measure rfl hh (by decide) hst hdg k
theorem k0_37 (C0 : Cx X G cc nL RX0 ret) {u0 : Nat} {u1 : Int32} {h2 : Nat} {oc : Option (Int32 × Mem)} {kf : Int32 → Mem → Option (ρ × Mem)} (hh : h2 < h) (hM : ∀ l r M1, oc = some (r, M1) → MC l G yX0_entry cX0_entry 2 (some .int) h2 [.ref (G.2 + u0), .int u1] M (vI r) M1) (hst : (st.map fun v => v.category).sum ≤ 8) (hdg : decode cc pc = .ok (.invokestatic 37, 3)) (k : ∀ r M1, V X G h val nL (pc + 3) lv (.int r :: st) M1 (kf r M1)) : V X G h val nL pc lv (.int u1 :: .ref (G.2 + u0) :: st) M (bd oc kf) := V_callSi (av := [.ref (G.2 + u0), .int u1]) (n := 2) C0 hM (List.forall_mem_cons.mpr ⟨wm0_37, List.forall_mem_cons.mpr ⟨wsX0_entry, List.forall_mem_cons.mpr ⟨w0X0, fun _ h => absurd h List.not_mem_nil⟩⟩⟩) (by decide +kernel) wcX0_entry rfl hh (by decide) hst hdg k
theorem k0_41 (C0 : Cx X G cc nL RX0 ret) {u0 : Int32} {a : Nat} (ha : (sh a).1 = 0) {h2 : Nat} {oc : Option (Int32 × Mem)} {kf : Int32 → Mem → Option (ρ × Mem)} (hh : h2 < h) (hM : ∀ l r M1, oc = some (r, M1) → MC l G yX0_sizeOf cX0_sizeOf 2 (some .int) h2 (.ref (G.2 + a) :: [.int u0]) M (vI r) M1) (hst : (st.map fun v => v.category).sum ≤ 8) (hdg : decode cc pc = .ok (.invokevirtual 41, 3)) (k : ∀ r M1, V X G h val nL (pc + 3) lv (.int r :: st) M1 (kf r M1)) : V X G h val nL pc lv (.int u0 :: .ref (G.2 + a) :: st) M (bd oc kf) := V_callVi (av := [.int u0]) (n := 1) C0 hM rfl (by decide) (shN0 ha) (List.forall_mem_cons.mpr ⟨wm0_41, List.forall_mem_cons.mpr ⟨wiX0_sizeOf, List.forall_mem_cons.mpr ⟨wvX0_sizeOf, List.forall_mem_cons.mpr ⟨w0X0, fun _ h => absurd h List.not_mem_nil⟩⟩⟩⟩) (by decide +kernel) wcX0_sizeOf rfl hh (by decide) hst hdg k
theorem k0_48 (C0 : Cx X G cc nL RX0 ret) {u0 : Int32} {a : Nat} (ha : (sh a).1 = 1) {h2 : Nat} {oc : Option (Int32 × Mem)} {kf : Int32 → Mem → Option (ρ × Mem)} (hh : h2 < h) (hM : ∀ l r M1, oc = some (r, M1) → MC l G yX1_kindOf cX1_kindOf 2 (some .int) h2 (.ref (G.2 + a) :: [.int u0]) M (vI r) M1) (hst : (st.map fun v => v.category).sum ≤ 8) (hdg : decode cc pc = .ok (.invokevirtual 48, 3)) (k : ∀ r M1, V X G h val nL (pc + 3) lv (.int r :: st) M1 (kf r M1)) : V X G h val nL pc lv (.int u0 :: .ref (G.2 + a) :: st) M (bd oc kf) := V_callNi (av := [.int u0]) (n := 1) C0 hM rfl (by decide) (shN1 ha) wm0_48 wiX1_kindOf wvX1_kindOf w0X1 (by decide +kernel) wcX1_kindOf rfl hh (by decide) hst hdg k
theorem k0_51 (C0 : Cx X G cc nL RX0 ret) {u0 : Int32} {h2 : Nat} {oc : Option (Int32 × Mem)} {kf : Int32 → Mem → Option (ρ × Mem)} (hh : h2 < h) (hM : ∀ l r M1, oc = some (r, M1) → MC l G yX6_partsOf cX6_partsOf 1 (some .int) h2 [.int u0] M (vI r) M1) (hst : (st.map fun v => v.category).sum ≤ 8) (hdg : decode cc pc = .ok (.invokestatic 51, 3)) (k : ∀ r M1, V X G h val nL (pc + 3) lv (.int r :: st) M1 (kf r M1)) : V X G h val nL pc lv (.int u0 :: st) M (bd oc kf) := V_callTi (av := [.int u0]) (n := 1) C0 hM wm0_51 wsX6_partsOf w0X6 (by decide +kernel) wcX6_partsOf rfl hh (by decide) hst hdg k
theorem k0_54 (C0 : Cx X G cc nL RX0 ret) {u0 : Int32} {a : Nat} (ha : (sh a).1 = 1) {h2 : Nat} {oc : Option (Int32 × Mem)} {kf : Int32 → Mem → Option (ρ × Mem)} (hh : h2 < h) (hM : ∀ l r M1, oc = some (r, M1) → MC l G yX1_contentOf cX1_contentOf 2 (some .int) h2 (.ref (G.2 + a) :: [.int u0]) M (vI r) M1) (hst : (st.map fun v => v.category).sum ≤ 8) (hdg : decode cc pc = .ok (.invokevirtual 54, 3)) (k : ∀ r M1, V X G h val nL (pc + 3) lv (.int r :: st) M1 (kf r M1)) : V X G h val nL pc lv (.int u0 :: .ref (G.2 + a) :: st) M (bd oc kf) := V_callNi (av := [.int u0]) (n := 1) C0 hM rfl (by decide) (shN1 ha) wm0_54 wiX1_contentOf wvX1_contentOf w0X1 (by decide +kernel) wcX1_contentOf rfl hh (by decide) hst hdg k
theorem k0_61 (C0 : Cx X G cc nL RX0 ret) {u0 : Nat} {a : Nat} (ha : (sh a).1 = 1) {h2 : Nat} {oc : Option (Unit × Mem)} {kf : Unit → Mem → Option (ρ × Mem)} (hh : h2 < h) (hM : ∀ l r M1, oc = some (r, M1) → MC l G yX1_addAll cX1_addAll 4 none h2 (.ref (G.2 + a) :: [.ref (G.2 + u0)]) M (vU r) M1) (hst : (st.map fun v => v.category).sum ≤ 8) (hdg : decode cc pc = .ok (.invokevirtual 61, 3)) (k : ∀ r M1, V X G h val nL (pc + 3) lv st M1 (kf r M1)) : V X G h val nL pc lv (.ref (G.2 + u0) :: .ref (G.2 + a) :: st) M (bd oc kf) := V_callNv (av := [.ref (G.2 + u0)]) (n := 1) C0 hM rfl (by decide) (shN1 ha) wm0_61 wiX1_addAll wvX1_addAll w0X1 (by decide +kernel) wcX1_addAll rfl hh (by decide) hst hdg k
theorem k0_65 (C0 : Cx X G cc nL RX0 ret) {u0 : Int32} {u1 : Int32} {a : Nat} (ha : (sh a).1 = 1) {h2 : Nat} {oc : Option (Int32 × Mem)} {kf : Int32 → Mem → Option (ρ × Mem)} (hh : h2 < h) (hM : ∀ l r M1, oc = some (r, M1) → MC l G yX1_add cX1_add 3 (some .boolean) h2 (.ref (G.2 + a) :: [.int u0, .int u1]) M (vI r) M1) (hst : (st.map fun v => v.category).sum ≤ 8) (hdg : decode cc pc = .ok (.invokevirtual 65, 3)) (k : ∀ r M1, V X G h val nL (pc + 3) lv (.int r :: st) M1 (kf r M1)) : V X G h val nL pc lv (.int u1 :: .int u0 :: .ref (G.2 + a) :: st) M (bd oc kf) := V_callNi (av := [.int u0, .int u1]) (n := 2) C0 hM rfl (by decide) (shN1 ha) wm0_65 wiX1_add wvX1_add w0X1 (by decide +kernel) wcX1_add rfl hh (by decide) hst hdg k
theorem k0_69 (C0 : Cx X G cc nL RX0 ret) {u0 : Int32} {a : Nat} (ha : (sh a).1 = 1) {h2 : Nat} {oc : Option (Int32 × Mem)} {kf : Int32 → Mem → Option (ρ × Mem)} (hh : h2 < h) (hM : ∀ l r M1, oc = some (r, M1) → MC l G yX1_hasKind cX1_hasKind 3 (some .boolean) h2 (.ref (G.2 + a) :: [.int u0]) M (vI r) M1) (hst : (st.map fun v => v.category).sum ≤ 8) (hdg : decode cc pc = .ok (.invokevirtual 69, 3)) (k : ∀ r M1, V X G h val nL (pc + 3) lv (.int r :: st) M1 (kf r M1)) : V X G h val nL pc lv (.int u0 :: .ref (G.2 + a) :: st) M (bd oc kf) := V_callNi (av := [.int u0]) (n := 1) C0 hM rfl (by decide) (shN1 ha) wm0_69 wiX1_hasKind wvX1_hasKind w0X1 (by decide +kernel) wcX1_hasKind rfl hh (by decide) hst hdg k
theorem k0_79 (C0 : Cx X G cc nL RX0 ret) {u0 : Int32} {u1 : Int32} {u2 : Int32} {u3 : Int32} {a : Nat} (ha : (sh a).1 = 0) {h2 : Nat} {oc : Option (Unit × Mem)} {kf : Unit → Mem → Option (ρ × Mem)} (hh : h2 < h) (hM : ∀ l r M1, oc = some (r, M1) → MC l G yX0_put cX0_put 5 none h2 (.ref (G.2 + a) :: [.int u0, .int u1, .int u2, .int u3]) M (vU r) M1) (hst : (st.map fun v => v.category).sum ≤ 8) (hdg : decode cc pc = .ok (.invokevirtual 79, 3)) (k : ∀ r M1, V X G h val nL (pc + 3) lv st M1 (kf r M1)) : V X G h val nL pc lv (.int u3 :: .int u2 :: .int u1 :: .int u0 :: .ref (G.2 + a) :: st) M (bd oc kf) := V_callVv (av := [.int u0, .int u1, .int u2, .int u3]) (n := 4) C0 hM rfl (by decide) (shN0 ha) (List.forall_mem_cons.mpr ⟨wm0_79, List.forall_mem_cons.mpr ⟨wiX0_put, List.forall_mem_cons.mpr ⟨wvX0_put, List.forall_mem_cons.mpr ⟨w0X0, fun _ h => absurd h List.not_mem_nil⟩⟩⟩⟩) (by decide +kernel) wcX0_put rfl hh (by decide) hst hdg k
theorem k0_83 (C0 : Cx X G cc nL RX0 ret) {u0 : Int32} {u1 : Nat} {u2 : Nat} {a : Nat} (ha : (sh a).1 = 0) {h2 : Nat} {oc : Option (Int32 × Mem)} {kf : Int32 → Mem → Option (ρ × Mem)} (hh : h2 < h) (hM : ∀ l r M1, oc = some (r, M1) → MC l G yX0_leafValue cX0_leafValue 6 (some .int) h2 (.ref (G.2 + a) :: [.int u0, .ref (G.2 + u1), .ref (G.2 + u2)]) M (vI r) M1) (hst : (st.map fun v => v.category).sum ≤ 8) (hdg : decode cc pc = .ok (.invokevirtual 83, 3)) (k : ∀ r M1, V X G h val nL (pc + 3) lv (.int r :: st) M1 (kf r M1)) : V X G h val nL pc lv (.ref (G.2 + u2) :: .ref (G.2 + u1) :: .int u0 :: .ref (G.2 + a) :: st) M (bd oc kf) := V_callVi (av := [.int u0, .ref (G.2 + u1), .ref (G.2 + u2)]) (n := 3) C0 hM rfl (by decide) (shN0 ha) (List.forall_mem_cons.mpr ⟨wm0_83, List.forall_mem_cons.mpr ⟨wiX0_leafValue, List.forall_mem_cons.mpr ⟨wvX0_leafValue, List.forall_mem_cons.mpr ⟨w0X0, fun _ h => absurd h List.not_mem_nil⟩⟩⟩⟩) (by decide +kernel) wcX0_leafValue rfl hh (by decide) hst hdg k
theorem k0_87 (C0 : Cx X G cc nL RX0 ret) {u0 : Int32} {a : Nat} (ha : (sh a).1 = 0) {h2 : Nat} {oc : Option (Int32 × Mem)} {kf : Int32 → Mem → Option (ρ × Mem)} (hh : h2 < h) (hM : ∀ l r M1, oc = some (r, M1) → MC l G yX0_needOf cX0_needOf 2 (some .int) h2 (.ref (G.2 + a) :: [.int u0]) M (vI r) M1) (hst : (st.map fun v => v.category).sum ≤ 8) (hdg : decode cc pc = .ok (.invokevirtual 87, 3)) (k : ∀ r M1, V X G h val nL (pc + 3) lv (.int r :: st) M1 (kf r M1)) : V X G h val nL pc lv (.int u0 :: .ref (G.2 + a) :: st) M (bd oc kf) := V_callVi (av := [.int u0]) (n := 1) C0 hM rfl (by decide) (shN0 ha) (List.forall_mem_cons.mpr ⟨wm0_87, List.forall_mem_cons.mpr ⟨wiX0_needOf, List.forall_mem_cons.mpr ⟨wvX0_needOf, List.forall_mem_cons.mpr ⟨w0X0, fun _ h => absurd h List.not_mem_nil⟩⟩⟩⟩) (by decide +kernel) wcX0_needOf rfl hh (by decide) hst hdg k
theorem k0_90 (C0 : Cx X G cc nL RX0 ret) {u0 : Int32} {a : Nat} (ha : (sh a).1 = 0) {h2 : Nat} {oc : Option (Int32 × Mem)} {kf : Int32 → Mem → Option (ρ × Mem)} (hh : h2 < h) (hM : ∀ l r M1, oc = some (r, M1) → MC l G yX0_depthOf cX0_depthOf 2 (some .int) h2 (.ref (G.2 + a) :: [.int u0]) M (vI r) M1) (hst : (st.map fun v => v.category).sum ≤ 8) (hdg : decode cc pc = .ok (.invokevirtual 90, 3)) (k : ∀ r M1, V X G h val nL (pc + 3) lv (.int r :: st) M1 (kf r M1)) : V X G h val nL pc lv (.int u0 :: .ref (G.2 + a) :: st) M (bd oc kf) := V_callVi (av := [.int u0]) (n := 1) C0 hM rfl (by decide) (shN0 ha) (List.forall_mem_cons.mpr ⟨wm0_90, List.forall_mem_cons.mpr ⟨wiX0_depthOf, List.forall_mem_cons.mpr ⟨wvX0_depthOf, List.forall_mem_cons.mpr ⟨w0X0, fun _ h => absurd h List.not_mem_nil⟩⟩⟩⟩) (by decide +kernel) wcX0_depthOf rfl hh (by decide) hst hdg k
theorem k0_93 (C0 : Cx X G cc nL RX0 ret) {u0 : Int32} {a : Nat} (ha : (sh a).1 = 0) {h2 : Nat} {oc : Option (Int32 × Mem)} {kf : Int32 → Mem → Option (ρ × Mem)} (hh : h2 < h) (hM : ∀ l r M1, oc = some (r, M1) → MC l G yX0_valueOf cX0_valueOf 2 (some .int) h2 (.ref (G.2 + a) :: [.int u0]) M (vI r) M1) (hst : (st.map fun v => v.category).sum ≤ 8) (hdg : decode cc pc = .ok (.invokevirtual 93, 3)) (k : ∀ r M1, V X G h val nL (pc + 3) lv (.int r :: st) M1 (kf r M1)) : V X G h val nL pc lv (.int u0 :: .ref (G.2 + a) :: st) M (bd oc kf) := V_callVi (av := [.int u0]) (n := 1) C0 hM rfl (by decide) (shN0 ha) (List.forall_mem_cons.mpr ⟨wm0_93, List.forall_mem_cons.mpr ⟨wiX0_valueOf, List.forall_mem_cons.mpr ⟨wvX0_valueOf, List.forall_mem_cons.mpr ⟨w0X0, fun _ h => absurd h List.not_mem_nil⟩⟩⟩⟩) (by decide +kernel) wcX0_valueOf rfl hh (by decide) hst hdg k
theorem k0_96 (C0 : Cx X G cc nL RX0 ret) {u0 : Int32} {a : Nat} (ha : (sh a).1 = 0) {h2 : Nat} {oc : Option (Int32 × Mem)} {kf : Int32 → Mem → Option (ρ × Mem)} (hh : h2 < h) (hM : ∀ l r M1, oc = some (r, M1) → MC l G yX0_rightOf cX0_rightOf 2 (some .int) h2 (.ref (G.2 + a) :: [.int u0]) M (vI r) M1) (hst : (st.map fun v => v.category).sum ≤ 8) (hdg : decode cc pc = .ok (.invokevirtual 96, 3)) (k : ∀ r M1, V X G h val nL (pc + 3) lv (.int r :: st) M1 (kf r M1)) : V X G h val nL pc lv (.int u0 :: .ref (G.2 + a) :: st) M (bd oc kf) := V_callVi (av := [.int u0]) (n := 1) C0 hM rfl (by decide) (shN0 ha) (List.forall_mem_cons.mpr ⟨wm0_96, List.forall_mem_cons.mpr ⟨wiX0_rightOf, List.forall_mem_cons.mpr ⟨wvX0_rightOf, List.forall_mem_cons.mpr ⟨w0X0, fun _ h => absurd h List.not_mem_nil⟩⟩⟩⟩) (by decide +kernel) wcX0_rightOf rfl hh (by decide) hst hdg k
theorem k0_102 (C0 : Cx X G cc nL RX0 ret) {u0 : Int32} {u1 : Int32} {h2 : Nat} {oc : Option (Int32 × Mem)} {kf : Int32 → Mem → Option (ρ × Mem)} (hh : h2 < h) (hM : ∀ l r M1, oc = some (r, M1) → MC l G yX0_needOfPair cX0_needOfPair 2 (some .int) h2 [.int u0, .int u1] M (vI r) M1) (hst : (st.map fun v => v.category).sum ≤ 8) (hdg : decode cc pc = .ok (.invokestatic 102, 3)) (k : ∀ r M1, V X G h val nL (pc + 3) lv (.int r :: st) M1 (kf r M1)) : V X G h val nL pc lv (.int u1 :: .int u0 :: st) M (bd oc kf) := V_callSi (av := [.int u0, .int u1]) (n := 2) C0 hM (List.forall_mem_cons.mpr ⟨wm0_102, List.forall_mem_cons.mpr ⟨wsX0_needOfPair, List.forall_mem_cons.mpr ⟨w0X0, fun _ h => absurd h List.not_mem_nil⟩⟩⟩) (by decide +kernel) wcX0_needOfPair rfl hh (by decide) hst hdg k
theorem k0_105 (C0 : Cx X G cc nL RX0 ret) {u0 : Int32} {u1 : Int64} {u2 : Int64} {h2 : Nat} {oc : Option (Int32 × Mem)} {kf : Int32 → Mem → Option (ρ × Mem)} (hh : h2 < h) (hM : ∀ l r M1, oc = some (r, M1) → MC l G yX0_operate cX0_operate 7 (some .int) h2 [.int u0, .long u1, .long u2] M (vI r) M1) (hst : (st.map fun v => v.category).sum ≤ 8) (hdg : decode cc pc = .ok (.invokestatic 105, 3)) (k : ∀ r M1, V X G h val nL (pc + 3) lv (.int r :: st) M1 (kf r M1)) : V X G h val nL pc lv (.long u2 :: .long u1 :: .int u0 :: st) M (bd oc kf) := V_callSi (av := [.int u0, .long u1, .long u2]) (n := 3) C0 hM (List.forall_mem_cons.mpr ⟨wm0_105, List.forall_mem_cons.mpr ⟨wsX0_operate, List.forall_mem_cons.mpr ⟨w0X0, fun _ h => absurd h List.not_mem_nil⟩⟩⟩) (by decide +kernel) wcX0_operate rfl hh (by decide) hst hdg k
theorem k1_28 (C0 : Cx X G cc nL RX1 ret) {u0 : Int32} {a : Nat} (ha : (sh a).1 = 1) {h2 : Nat} {oc : Option (Int32 × Mem)} {kf : Int32 → Mem → Option (ρ × Mem)} (hh : h2 < h) (hM : ∀ l r M1, oc = some (r, M1) → MC l G yX1_has cX1_has 2 (some .boolean) h2 (.ref (G.2 + a) :: [.int u0]) M (vI r) M1) (hst : (st.map fun v => v.category).sum ≤ 8) (hdg : decode cc pc = .ok (.invokevirtual 28, 3)) (k : ∀ r M1, V X G h val nL (pc + 3) lv (.int r :: st) M1 (kf r M1)) : V X G h val nL pc lv (.int u0 :: .ref (G.2 + a) :: st) M (bd oc kf) := V_callVi (av := [.int u0]) (n := 1) C0 hM rfl (by decide) (shN1 ha) (List.forall_mem_cons.mpr ⟨wm1_28, List.forall_mem_cons.mpr ⟨wiX1_has, List.forall_mem_cons.mpr ⟨wvX1_has, List.forall_mem_cons.mpr ⟨w0X1, fun _ h => absurd h List.not_mem_nil⟩⟩⟩⟩) (by decide +kernel) wcX1_has rfl hh (by decide) hst hdg k
theorem k1_32 (C0 : Cx X G cc nL RX1 ret) {u0 : Int32} {a : Nat} (ha : (sh a).1 = 1) {h2 : Nat} {oc : Option (Int32 × Mem)} {kf : Int32 → Mem → Option (ρ × Mem)} (hh : h2 < h) (hM : ∀ l r M1, oc = some (r, M1) → MC l G yX1_kindOf cX1_kindOf 2 (some .int) h2 (.ref (G.2 + a) :: [.int u0]) M (vI r) M1) (hst : (st.map fun v => v.category).sum ≤ 8) (hdg : decode cc pc = .ok (.invokevirtual 32, 3)) (k : ∀ r M1, V X G h val nL (pc + 3) lv (.int r :: st) M1 (kf r M1)) : V X G h val nL pc lv (.int u0 :: .ref (G.2 + a) :: st) M (bd oc kf) := V_callVi (av := [.int u0]) (n := 1) C0 hM rfl (by decide) (shN1 ha) (List.forall_mem_cons.mpr ⟨wm1_32, List.forall_mem_cons.mpr ⟨wiX1_kindOf, List.forall_mem_cons.mpr ⟨wvX1_kindOf, List.forall_mem_cons.mpr ⟨w0X1, fun _ h => absurd h List.not_mem_nil⟩⟩⟩⟩) (by decide +kernel) wcX1_kindOf rfl hh (by decide) hst hdg k
theorem k1_36 (C0 : Cx X G cc nL RX1 ret) {a : Nat} (ha : (sh a).1 = 1) {h2 : Nat} {oc : Option (Int32 × Mem)} {kf : Int32 → Mem → Option (ρ × Mem)} (hh : h2 < h) (hM : ∀ l r M1, oc = some (r, M1) → MC l G yX1_isFull cX1_isFull 1 (some .boolean) h2 (.ref (G.2 + a) :: []) M (vI r) M1) (hst : (st.map fun v => v.category).sum ≤ 8) (hdg : decode cc pc = .ok (.invokevirtual 36, 3)) (k : ∀ r M1, V X G h val nL (pc + 3) lv (.int r :: st) M1 (kf r M1)) : V X G h val nL pc lv (.ref (G.2 + a) :: st) M (bd oc kf) := V_callVi (av := []) (n := 0) C0 hM rfl (by decide) (shN1 ha) (List.forall_mem_cons.mpr ⟨wm1_36, List.forall_mem_cons.mpr ⟨wiX1_isFull, List.forall_mem_cons.mpr ⟨wvX1_isFull, List.forall_mem_cons.mpr ⟨w0X1, fun _ h => absurd h List.not_mem_nil⟩⟩⟩⟩) (by decide +kernel) wcX1_isFull rfl hh (by decide) hst hdg k
theorem k1_46 (C0 : Cx X G cc nL RX1 ret) {u0 : Int32} {a : Nat} (ha : (sh a).1 = 1) {h2 : Nat} {oc : Option (Int32 × Mem)} {kf : Int32 → Mem → Option (ρ × Mem)} (hh : h2 < h) (hM : ∀ l r M1, oc = some (r, M1) → MC l G yX1_contentOf cX1_contentOf 2 (some .int) h2 (.ref (G.2 + a) :: [.int u0]) M (vI r) M1) (hst : (st.map fun v => v.category).sum ≤ 8) (hdg : decode cc pc = .ok (.invokevirtual 46, 3)) (k : ∀ r M1, V X G h val nL (pc + 3) lv (.int r :: st) M1 (kf r M1)) : V X G h val nL pc lv (.int u0 :: .ref (G.2 + a) :: st) M (bd oc kf) := V_callVi (av := [.int u0]) (n := 1) C0 hM rfl (by decide) (shN1 ha) (List.forall_mem_cons.mpr ⟨wm1_46, List.forall_mem_cons.mpr ⟨wiX1_contentOf, List.forall_mem_cons.mpr ⟨wvX1_contentOf, List.forall_mem_cons.mpr ⟨w0X1, fun _ h => absurd h List.not_mem_nil⟩⟩⟩⟩) (by decide +kernel) wcX1_contentOf rfl hh (by decide) hst hdg k
theorem k1_49 (C0 : Cx X G cc nL RX1 ret) {u0 : Int32} {u1 : Int32} {a : Nat} (ha : (sh a).1 = 1) {h2 : Nat} {oc : Option (Int32 × Mem)} {kf : Int32 → Mem → Option (ρ × Mem)} (hh : h2 < h) (hM : ∀ l r M1, oc = some (r, M1) → MC l G yX1_add cX1_add 3 (some .boolean) h2 (.ref (G.2 + a) :: [.int u0, .int u1]) M (vI r) M1) (hst : (st.map fun v => v.category).sum ≤ 8) (hdg : decode cc pc = .ok (.invokevirtual 49, 3)) (k : ∀ r M1, V X G h val nL (pc + 3) lv (.int r :: st) M1 (kf r M1)) : V X G h val nL pc lv (.int u1 :: .int u0 :: .ref (G.2 + a) :: st) M (bd oc kf) := V_callVi (av := [.int u0, .int u1]) (n := 2) C0 hM rfl (by decide) (shN1 ha) (List.forall_mem_cons.mpr ⟨wm1_49, List.forall_mem_cons.mpr ⟨wiX1_add, List.forall_mem_cons.mpr ⟨wvX1_add, List.forall_mem_cons.mpr ⟨w0X1, fun _ h => absurd h List.not_mem_nil⟩⟩⟩⟩) (by decide +kernel) wcX1_add rfl hh (by decide) hst hdg k
theorem k1_53 (C0 : Cx X G cc nL RX1 ret) {u0 : Nat} {a : Nat} (ha : (sh a).1 = 1) {h2 : Nat} {oc : Option (Unit × Mem)} {kf : Unit → Mem → Option (ρ × Mem)} (hh : h2 < h) (hM : ∀ l r M1, oc = some (r, M1) → MC l G yX1_addAll cX1_addAll 4 none h2 (.ref (G.2 + a) :: [.ref (G.2 + u0)]) M (vU r) M1) (hst : (st.map fun v => v.category).sum ≤ 8) (hdg : decode cc pc = .ok (.invokevirtual 53, 3)) (k : ∀ r M1, V X G h val nL (pc + 3) lv st M1 (kf r M1)) : V X G h val nL pc lv (.ref (G.2 + u0) :: .ref (G.2 + a) :: st) M (bd oc kf) := V_callVv (av := [.ref (G.2 + u0)]) (n := 1) C0 hM rfl (by decide) (shN1 ha) (List.forall_mem_cons.mpr ⟨wm1_53, List.forall_mem_cons.mpr ⟨wiX1_addAll, List.forall_mem_cons.mpr ⟨wvX1_addAll, List.forall_mem_cons.mpr ⟨w0X1, fun _ h => absurd h List.not_mem_nil⟩⟩⟩⟩) (by decide +kernel) wcX1_addAll rfl hh (by decide) hst hdg k
theorem k1_57 (C0 : Cx X G cc nL RX1 ret) {u0 : Int32} {h2 : Nat} {oc : Option (Int32 × Mem)} {kf : Int32 → Mem → Option (ρ × Mem)} (hh : h2 < h) (hM : ∀ l r M1, oc = some (r, M1) → MC l G yX6_partsOf cX6_partsOf 1 (some .int) h2 [.int u0] M (vI r) M1) (hst : (st.map fun v => v.category).sum ≤ 8) (hdg : decode cc pc = .ok (.invokestatic 57, 3)) (k : ∀ r M1, V X G h val nL (pc + 3) lv (.int r :: st) M1 (kf r M1)) : V X G h val nL pc lv (.int u0 :: st) M (bd oc kf) := V_callTi (av := [.int u0]) (n := 1) C0 hM wm1_57 wsX6_partsOf w0X6 (by decide +kernel) wcX6_partsOf rfl hh (by decide) hst hdg k
theorem k1_60 (C0 : Cx X G cc nL RX1 ret) {u0 : Int32} {a : Nat} (ha : (sh a).1 = 1) {h2 : Nat} {oc : Option (Int32 × Mem)} {kf : Int32 → Mem → Option (ρ × Mem)} (hh : h2 < h) (hM : ∀ l r M1, oc = some (r, M1) → MC l G yX1_behind cX1_behind 4 (some .int) h2 (.ref (G.2 + a) :: [.int u0]) M (vI r) M1) (hst : (st.map fun v => v.category).sum ≤ 8) (hdg : decode cc pc = .ok (.invokevirtual 60, 3)) (k : ∀ r M1, V X G h val nL (pc + 3) lv (.int r :: st) M1 (kf r M1)) : V X G h val nL pc lv (.int u0 :: .ref (G.2 + a) :: st) M (bd oc kf) := V_callVi (av := [.int u0]) (n := 1) C0 hM rfl (by decide) (shN1 ha) (List.forall_mem_cons.mpr ⟨wm1_60, List.forall_mem_cons.mpr ⟨wiX1_behind, List.forall_mem_cons.mpr ⟨wvX1_behind, List.forall_mem_cons.mpr ⟨w0X1, fun _ h => absurd h List.not_mem_nil⟩⟩⟩⟩) (by decide +kernel) wcX1_behind rfl hh (by decide) hst hdg k
theorem k1_63 (C0 : Cx X G cc nL RX1 ret) {u0 : Int32} {u1 : Int32} {a : Nat} (ha : (sh a).1 = 1) {h2 : Nat} {oc : Option (Unit × Mem)} {kf : Unit → Mem → Option (ρ × Mem)} (hh : h2 < h) (hM : ∀ l r M1, oc = some (r, M1) → MC l G yX1_turnAround cX1_turnAround 7 none h2 (.ref (G.2 + a) :: [.int u0, .int u1]) M (vU r) M1) (hst : (st.map fun v => v.category).sum ≤ 8) (hdg : decode cc pc = .ok (.invokevirtual 63, 3)) (k : ∀ r M1, V X G h val nL (pc + 3) lv st M1 (kf r M1)) : V X G h val nL pc lv (.int u1 :: .int u0 :: .ref (G.2 + a) :: st) M (bd oc kf) := V_callVv (av := [.int u0, .int u1]) (n := 2) C0 hM rfl (by decide) (shN1 ha) (List.forall_mem_cons.mpr ⟨wm1_63, List.forall_mem_cons.mpr ⟨wiX1_turnAround, List.forall_mem_cons.mpr ⟨wvX1_turnAround, List.forall_mem_cons.mpr ⟨w0X1, fun _ h => absurd h List.not_mem_nil⟩⟩⟩⟩) (by decide +kernel) wcX1_turnAround rfl hh (by decide) hst hdg k
theorem k2_49 (C0 : Cx X G cc nL RX2 ret) {u0 : Nat} {u1 : Int32} {u2 : Int32} {u3 : Int32} {h2 : Nat} {oc : Option (Unit × Mem)} {kf : Unit → Mem → Option (ρ × Mem)} (hh : h2 < h) (hM : ∀ l r M1, oc = some (r, M1) → MC l G yX2_workOut cX2_workOut 7 none h2 (.ref (G.2 + 47) :: [.ref (G.2 + u0), .int u1, .int u2, .int u3]) M (vU r) M1) (hst : (st.map fun v => v.category).sum ≤ 8) (hdg : decode cc pc = .ok (.invokevirtual 49, 3)) (k : ∀ r M1, V X G h val nL (pc + 3) lv st M1 (kf r M1)) : V X G h val nL pc lv (.int u3 :: .int u2 :: .int u1 :: .ref (G.2 + u0) :: .ref (G.2 + 47) :: st) M (bd oc kf) := V_callVv (av := [.ref (G.2 + u0), .int u1, .int u2, .int u3]) (n := 4) C0 hM rfl (by decide) (shN2 s47) (List.forall_mem_cons.mpr ⟨wm2_49, List.forall_mem_cons.mpr ⟨wiX2_workOut, List.forall_mem_cons.mpr ⟨wvX2_workOut, List.forall_mem_cons.mpr ⟨w0X2, fun _ h => absurd h List.not_mem_nil⟩⟩⟩⟩) (by decide +kernel) wcX2_workOut rfl hh (by decide) hst hdg k
theorem k2_53 (C0 : Cx X G cc nL RX2 ret) {u0 : Int32} {u1 : Nat} {u2 : Int32} {u3 : Int32} {u4 : Int32} {h2 : Nat} {oc : Option (Unit × Mem)} {kf : Unit → Mem → Option (ρ × Mem)} (hh : h2 < h) (hM : ∀ l r M1, oc = some (r, M1) → MC l G yX2_addStep cX2_addStep 6 none h2 (.ref (G.2 + 47) :: [.int u0, .ref (G.2 + u1), .int u2, .int u3, .int u4]) M (vU r) M1) (hst : (st.map fun v => v.category).sum ≤ 8) (hdg : decode cc pc = .ok (.invokevirtual 53, 3)) (k : ∀ r M1, V X G h val nL (pc + 3) lv st M1 (kf r M1)) : V X G h val nL pc lv (.int u4 :: .int u3 :: .int u2 :: .ref (G.2 + u1) :: .int u0 :: .ref (G.2 + 47) :: st) M (bd oc kf) := V_callVv (av := [.int u0, .ref (G.2 + u1), .int u2, .int u3, .int u4]) (n := 5) C0 hM rfl (by decide) (shN2 s47) (List.forall_mem_cons.mpr ⟨wm2_53, List.forall_mem_cons.mpr ⟨wiX2_addStep, List.forall_mem_cons.mpr ⟨wvX2_addStep, List.forall_mem_cons.mpr ⟨w0X2, fun _ h => absurd h List.not_mem_nil⟩⟩⟩⟩) (by decide +kernel) wcX2_addStep rfl hh (by decide) hst hdg k
theorem k2_60 (C0 : Cx X G cc nL RX2 ret) {u0 : Int32} {a : Nat} (ha : (sh a).1 = 1) {h2 : Nat} {oc : Option (Int32 × Mem)} {kf : Int32 → Mem → Option (ρ × Mem)} (hh : h2 < h) (hM : ∀ l r M1, oc = some (r, M1) → MC l G yX1_kindOf cX1_kindOf 2 (some .int) h2 (.ref (G.2 + a) :: [.int u0]) M (vI r) M1) (hst : (st.map fun v => v.category).sum ≤ 8) (hdg : decode cc pc = .ok (.invokevirtual 60, 3)) (k : ∀ r M1, V X G h val nL (pc + 3) lv (.int r :: st) M1 (kf r M1)) : V X G h val nL pc lv (.int u0 :: .ref (G.2 + a) :: st) M (bd oc kf) := V_callNi (av := [.int u0]) (n := 1) C0 hM rfl (by decide) (shN1 ha) wm2_60 wiX1_kindOf wvX1_kindOf w0X1 (by decide +kernel) wcX1_kindOf rfl hh (by decide) hst hdg k
theorem k2_66 (C0 : Cx X G cc nL RX2 ret) {u0 : Int32} {h2 : Nat} {oc : Option (Int32 × Mem)} {kf : Int32 → Mem → Option (ρ × Mem)} (hh : h2 < h) (hM : ∀ l r M1, oc = some (r, M1) → MC l G yX6_partsOf cX6_partsOf 1 (some .int) h2 [.int u0] M (vI r) M1) (hst : (st.map fun v => v.category).sum ≤ 8) (hdg : decode cc pc = .ok (.invokestatic 66, 3)) (k : ∀ r M1, V X G h val nL (pc + 3) lv (.int r :: st) M1 (kf r M1)) : V X G h val nL pc lv (.int u0 :: st) M (bd oc kf) := V_callTi (av := [.int u0]) (n := 1) C0 hM wm2_66 wsX6_partsOf w0X6 (by decide +kernel) wcX6_partsOf rfl hh (by decide) hst hdg k
theorem k2_69 (C0 : Cx X G cc nL RX2 ret) {u0 : Nat} {u1 : Int32} {u2 : Int32} {u3 : Int32} {h2 : Nat} {oc : Option (Unit × Mem)} {kf : Unit → Mem → Option (ρ × Mem)} (hh : h2 < h) (hM : ∀ l r M1, oc = some (r, M1) → MC l G yX2_workOutParts cX2_workOutParts 10 none h2 (.ref (G.2 + 47) :: [.ref (G.2 + u0), .int u1, .int u2, .int u3]) M (vU r) M1) (hst : (st.map fun v => v.category).sum ≤ 8) (hdg : decode cc pc = .ok (.invokevirtual 69, 3)) (k : ∀ r M1, V X G h val nL (pc + 3) lv st M1 (kf r M1)) : V X G h val nL pc lv (.int u3 :: .int u2 :: .int u1 :: .ref (G.2 + u0) :: .ref (G.2 + 47) :: st) M (bd oc kf) := V_callVv (av := [.ref (G.2 + u0), .int u1, .int u2, .int u3]) (n := 4) C0 hM rfl (by decide) (shN2 s47) (List.forall_mem_cons.mpr ⟨wm2_69, List.forall_mem_cons.mpr ⟨wiX2_workOutParts, List.forall_mem_cons.mpr ⟨wvX2_workOutParts, List.forall_mem_cons.mpr ⟨w0X2, fun _ h => absurd h List.not_mem_nil⟩⟩⟩⟩) (by decide +kernel) wcX2_workOutParts rfl hh (by decide) hst hdg k
theorem k2_72 (C0 : Cx X G cc nL RX2 ret) {u0 : Int32} {a : Nat} (ha : (sh a).1 = 0) {h2 : Nat} {oc : Option (Int32 × Mem)} {kf : Int32 → Mem → Option (ρ × Mem)} (hh : h2 < h) (hM : ∀ l r M1, oc = some (r, M1) → MC l G yX0_rightOf cX0_rightOf 2 (some .int) h2 (.ref (G.2 + a) :: [.int u0]) M (vI r) M1) (hst : (st.map fun v => v.category).sum ≤ 8) (hdg : decode cc pc = .ok (.invokevirtual 72, 3)) (k : ∀ r M1, V X G h val nL (pc + 3) lv (.int r :: st) M1 (kf r M1)) : V X G h val nL pc lv (.int u0 :: .ref (G.2 + a) :: st) M (bd oc kf) := V_callNi (av := [.int u0]) (n := 1) C0 hM rfl (by decide) (shN0 ha) wm2_72 wiX0_rightOf wvX0_rightOf w0X0 (by decide +kernel) wcX0_rightOf rfl hh (by decide) hst hdg k
theorem k2_75 (C0 : Cx X G cc nL RX2 ret) {u0 : Int32} {a : Nat} (ha : (sh a).1 = 0) {h2 : Nat} {oc : Option (Int32 × Mem)} {kf : Int32 → Mem → Option (ρ × Mem)} (hh : h2 < h) (hM : ∀ l r M1, oc = some (r, M1) → MC l G yX0_needOf cX0_needOf 2 (some .int) h2 (.ref (G.2 + a) :: [.int u0]) M (vI r) M1) (hst : (st.map fun v => v.category).sum ≤ 8) (hdg : decode cc pc = .ok (.invokevirtual 75, 3)) (k : ∀ r M1, V X G h val nL (pc + 3) lv (.int r :: st) M1 (kf r M1)) : V X G h val nL pc lv (.int u0 :: .ref (G.2 + a) :: st) M (bd oc kf) := V_callNi (av := [.int u0]) (n := 1) C0 hM rfl (by decide) (shN0 ha) wm2_75 wiX0_needOf wvX0_needOf w0X0 (by decide +kernel) wcX0_needOf rfl hh (by decide) hst hdg k
theorem k3_29 (C0 : Cx X G cc nL RX3 ret) {h2 : Nat} {oc : Option (Int32 × Mem)} {kf : Int32 → Mem → Option (ρ × Mem)} (hh : h2 < h) (hM : ∀ l r M1, oc = some (r, M1) → MC l G yX3_sign cX3_sign 1 (some .int) h2 (.ref (G.2 + 1) :: []) M (vI r) M1) (hst : (st.map fun v => v.category).sum ≤ 8) (hdg : decode cc pc = .ok (.invokevirtual 29, 3)) (k : ∀ r M1, V X G h val nL (pc + 3) lv (.int r :: st) M1 (kf r M1)) : V X G h val nL pc lv (.ref (G.2 + 1) :: st) M (bd oc kf) := V_callVi (av := []) (n := 0) C0 hM rfl (by decide) (shN3 s1) (List.forall_mem_cons.mpr ⟨wm3_29, List.forall_mem_cons.mpr ⟨wiX3_sign, List.forall_mem_cons.mpr ⟨wvX3_sign, List.forall_mem_cons.mpr ⟨w0X3, fun _ h => absurd h List.not_mem_nil⟩⟩⟩⟩) (by decide +kernel) wcX3_sign rfl hh (by decide) hst hdg k
theorem k3_42 (C0 : Cx X G cc nL RX3 ret) {u0 : Int32} {h2 : Nat} {oc : Option (Int32 × Mem)} {kf : Int32 → Mem → Option (ρ × Mem)} (hh : h2 < h) (hM : ∀ l r M1, oc = some (r, M1) → MC l G yX3_pass cX3_pass 3 (some .boolean) h2 (.ref (G.2 + 1) :: [.int u0]) M (vI r) M1) (hst : (st.map fun v => v.category).sum ≤ 8) (hdg : decode cc pc = .ok (.invokevirtual 42, 3)) (k : ∀ r M1, V X G h val nL (pc + 3) lv (.int r :: st) M1 (kf r M1)) : V X G h val nL pc lv (.int u0 :: .ref (G.2 + 1) :: st) M (bd oc kf) := V_callVi (av := [.int u0]) (n := 1) C0 hM rfl (by decide) (shN3 s1) (List.forall_mem_cons.mpr ⟨wm3_42, List.forall_mem_cons.mpr ⟨wiX3_pass, List.forall_mem_cons.mpr ⟨wvX3_pass, List.forall_mem_cons.mpr ⟨w0X3, fun _ h => absurd h List.not_mem_nil⟩⟩⟩⟩) (by decide +kernel) wcX3_pass rfl hh (by decide) hst hdg k
theorem k3_46 (C0 : Cx X G cc nL RX3 ret) {u0 : Nat} {u1 : Int32} {u2 : Int32} {h2 : Nat} {oc : Option (Int32 × Mem)} {kf : Int32 → Mem → Option (ρ × Mem)} (hh : h2 < h) (hM : ∀ l r M1, oc = some (r, M1) → MC l G yX3_readSum cX3_readSum 8 (some .boolean) h2 (.ref (G.2 + 1) :: [.ref (G.2 + u0), .int u1, .int u2]) M (vI r) M1) (hst : (st.map fun v => v.category).sum ≤ 8) (hdg : decode cc pc = .ok (.invokevirtual 46, 3)) (k : ∀ r M1, V X G h val nL (pc + 3) lv (.int r :: st) M1 (kf r M1)) : V X G h val nL pc lv (.int u2 :: .int u1 :: .ref (G.2 + u0) :: .ref (G.2 + 1) :: st) M (bd oc kf) := V_callVi (av := [.ref (G.2 + u0), .int u1, .int u2]) (n := 3) C0 hM rfl (by decide) (shN3 s1) (List.forall_mem_cons.mpr ⟨wm3_46, List.forall_mem_cons.mpr ⟨wiX3_readSum, List.forall_mem_cons.mpr ⟨wvX3_readSum, List.forall_mem_cons.mpr ⟨w0X3, fun _ h => absurd h List.not_mem_nil⟩⟩⟩⟩) (by decide +kernel) wcX3_readSum rfl hh (by decide) hst hdg k
theorem k3_53 (C0 : Cx X G cc nL RX3 ret) {u0 : Nat} {u1 : Int32} {u2 : Int32} {h2 : Nat} {oc : Option (Int32 × Mem)} {kf : Int32 → Mem → Option (ρ × Mem)} (hh : h2 < h) (hM : ∀ l r M1, oc = some (r, M1) → MC l G yX3_readProduct cX3_readProduct 7 (some .boolean) h2 (.ref (G.2 + 1) :: [.ref (G.2 + u0), .int u1, .int u2]) M (vI r) M1) (hst : (st.map fun v => v.category).sum ≤ 8) (hdg : decode cc pc = .ok (.invokevirtual 53, 3)) (k : ∀ r M1, V X G h val nL (pc + 3) lv (.int r :: st) M1 (kf r M1)) : V X G h val nL pc lv (.int u2 :: .int u1 :: .ref (G.2 + u0) :: .ref (G.2 + 1) :: st) M (bd oc kf) := V_callVi (av := [.ref (G.2 + u0), .int u1, .int u2]) (n := 3) C0 hM rfl (by decide) (shN3 s1) (List.forall_mem_cons.mpr ⟨wm3_53, List.forall_mem_cons.mpr ⟨wiX3_readProduct, List.forall_mem_cons.mpr ⟨wvX3_readProduct, List.forall_mem_cons.mpr ⟨w0X3, fun _ h => absurd h List.not_mem_nil⟩⟩⟩⟩) (by decide +kernel) wcX3_readProduct rfl hh (by decide) hst hdg k
theorem k3_56 (C0 : Cx X G cc nL RX3 ret) {u0 : Nat} {u1 : Int32} {u2 : Int32} {h2 : Nat} {oc : Option (Int32 × Mem)} {kf : Int32 → Mem → Option (ρ × Mem)} (hh : h2 < h) (hM : ∀ l r M1, oc = some (r, M1) → MC l G yX3_readOperation cX3_readOperation 5 (some .boolean) h2 (.ref (G.2 + 1) :: [.ref (G.2 + u0), .int u1, .int u2]) M (vI r) M1) (hst : (st.map fun v => v.category).sum ≤ 8) (hdg : decode cc pc = .ok (.invokevirtual 56, 3)) (k : ∀ r M1, V X G h val nL (pc + 3) lv (.int r :: st) M1 (kf r M1)) : V X G h val nL pc lv (.int u2 :: .int u1 :: .ref (G.2 + u0) :: .ref (G.2 + 1) :: st) M (bd oc kf) := V_callVi (av := [.ref (G.2 + u0), .int u1, .int u2]) (n := 3) C0 hM rfl (by decide) (shN3 s1) (List.forall_mem_cons.mpr ⟨wm3_56, List.forall_mem_cons.mpr ⟨wiX3_readOperation, List.forall_mem_cons.mpr ⟨wvX3_readOperation, List.forall_mem_cons.mpr ⟨w0X3, fun _ h => absurd h List.not_mem_nil⟩⟩⟩⟩) (by decide +kernel) wcX3_readOperation rfl hh (by decide) hst hdg k
theorem k3_59 (C0 : Cx X G cc nL RX3 ret) {u0 : Nat} {u1 : Int32} {u2 : Int32} {h2 : Nat} {oc : Option (Int32 × Mem)} {kf : Int32 → Mem → Option (ρ × Mem)} (hh : h2 < h) (hM : ∀ l r M1, oc = some (r, M1) → MC l G yX3_readFactor cX3_readFactor 4 (some .boolean) h2 (.ref (G.2 + 1) :: [.ref (G.2 + u0), .int u1, .int u2]) M (vI r) M1) (hst : (st.map fun v => v.category).sum ≤ 8) (hdg : decode cc pc = .ok (.invokevirtual 59, 3)) (k : ∀ r M1, V X G h val nL (pc + 3) lv (.int r :: st) M1 (kf r M1)) : V X G h val nL pc lv (.int u2 :: .int u1 :: .ref (G.2 + u0) :: .ref (G.2 + 1) :: st) M (bd oc kf) := V_callVi (av := [.ref (G.2 + u0), .int u1, .int u2]) (n := 3) C0 hM rfl (by decide) (shN3 s1) (List.forall_mem_cons.mpr ⟨wm3_59, List.forall_mem_cons.mpr ⟨wiX3_readFactor, List.forall_mem_cons.mpr ⟨wvX3_readFactor, List.forall_mem_cons.mpr ⟨w0X3, fun _ h => absurd h List.not_mem_nil⟩⟩⟩⟩) (by decide +kernel) wcX3_readFactor rfl hh (by decide) hst hdg k
theorem k3_62 (C0 : Cx X G cc nL RX3 ret) {u0 : Int32} {u1 : Int32} {u2 : Int32} {a : Nat} (ha : (sh a).1 = 1) {h2 : Nat} {oc : Option (Int32 × Mem)} {kf : Int32 → Mem → Option (ρ × Mem)} (hh : h2 < h) (hM : ∀ l r M1, oc = some (r, M1) → MC l G yX1_insert cX1_insert 4 (some .boolean) h2 (.ref (G.2 + a) :: [.int u0, .int u1, .int u2]) M (vI r) M1) (hst : (st.map fun v => v.category).sum ≤ 8) (hdg : decode cc pc = .ok (.invokevirtual 62, 3)) (k : ∀ r M1, V X G h val nL (pc + 3) lv (.int r :: st) M1 (kf r M1)) : V X G h val nL pc lv (.int u2 :: .int u1 :: .int u0 :: .ref (G.2 + a) :: st) M (bd oc kf) := V_callNi (av := [.int u0, .int u1, .int u2]) (n := 3) C0 hM rfl (by decide) (shN1 ha) wm3_62 wiX1_insert wvX1_insert w0X1 (by decide +kernel) wcX1_insert rfl hh (by decide) hst hdg k
theorem k3_66 (C0 : Cx X G cc nL RX3 ret) {u0 : Nat} {u1 : Int32} {u2 : Int32} {h2 : Nat} {oc : Option (Int32 × Mem)} {kf : Int32 → Mem → Option (ρ × Mem)} (hh : h2 < h) (hM : ∀ l r M1, oc = some (r, M1) → MC l G yX3_readNested cX3_readNested 4 (some .boolean) h2 (.ref (G.2 + 1) :: [.ref (G.2 + u0), .int u1, .int u2]) M (vI r) M1) (hst : (st.map fun v => v.category).sum ≤ 8) (hdg : decode cc pc = .ok (.invokevirtual 66, 3)) (k : ∀ r M1, V X G h val nL (pc + 3) lv (.int r :: st) M1 (kf r M1)) : V X G h val nL pc lv (.int u2 :: .int u1 :: .ref (G.2 + u0) :: .ref (G.2 + 1) :: st) M (bd oc kf) := V_callVi (av := [.ref (G.2 + u0), .int u1, .int u2]) (n := 3) C0 hM rfl (by decide) (shN3 s1) (List.forall_mem_cons.mpr ⟨wm3_66, List.forall_mem_cons.mpr ⟨wiX3_readNested, List.forall_mem_cons.mpr ⟨wvX3_readNested, List.forall_mem_cons.mpr ⟨w0X3, fun _ h => absurd h List.not_mem_nil⟩⟩⟩⟩) (by decide +kernel) wcX3_readNested rfl hh (by decide) hst hdg k
theorem k3_69 (C0 : Cx X G cc nL RX3 ret) {u0 : Nat} {u1 : Int32} {h2 : Nat} {oc : Option (Int32 × Mem)} {kf : Int32 → Mem → Option (ρ × Mem)} (hh : h2 < h) (hM : ∀ l r M1, oc = some (r, M1) → MC l G yX3_readLeaf cX3_readLeaf 4 (some .boolean) h2 (.ref (G.2 + 1) :: [.ref (G.2 + u0), .int u1]) M (vI r) M1) (hst : (st.map fun v => v.category).sum ≤ 8) (hdg : decode cc pc = .ok (.invokevirtual 69, 3)) (k : ∀ r M1, V X G h val nL (pc + 3) lv (.int r :: st) M1 (kf r M1)) : V X G h val nL pc lv (.int u1 :: .ref (G.2 + u0) :: .ref (G.2 + 1) :: st) M (bd oc kf) := V_callVi (av := [.ref (G.2 + u0), .int u1]) (n := 2) C0 hM rfl (by decide) (shN3 s1) (List.forall_mem_cons.mpr ⟨wm3_69, List.forall_mem_cons.mpr ⟨wiX3_readLeaf, List.forall_mem_cons.mpr ⟨wvX3_readLeaf, List.forall_mem_cons.mpr ⟨w0X3, fun _ h => absurd h List.not_mem_nil⟩⟩⟩⟩) (by decide +kernel) wcX3_readLeaf rfl hh (by decide) hst hdg k
theorem k3_73 (C0 : Cx X G cc nL RX3 ret) {a : Nat} (ha : (sh a).1 = 1) {h2 : Nat} {oc : Option (Int32 × Mem)} {kf : Int32 → Mem → Option (ρ × Mem)} (hh : h2 < h) (hM : ∀ l r M1, oc = some (r, M1) → MC l G yX1_isFull cX1_isFull 1 (some .boolean) h2 (.ref (G.2 + a) :: []) M (vI r) M1) (hst : (st.map fun v => v.category).sum ≤ 8) (hdg : decode cc pc = .ok (.invokevirtual 73, 3)) (k : ∀ r M1, V X G h val nL (pc + 3) lv (.int r :: st) M1 (kf r M1)) : V X G h val nL pc lv (.ref (G.2 + a) :: st) M (bd oc kf) := V_callNi (av := []) (n := 0) C0 hM rfl (by decide) (shN1 ha) wm3_73 wiX1_isFull wvX1_isFull w0X1 (by decide +kernel) wcX1_isFull rfl hh (by decide) hst hdg k
theorem k3_77 (C0 : Cx X G cc nL RX3 ret) {u0 : Int32} {u1 : Int32} {a : Nat} (ha : (sh a).1 = 1) {h2 : Nat} {oc : Option (Int32 × Mem)} {kf : Int32 → Mem → Option (ρ × Mem)} (hh : h2 < h) (hM : ∀ l r M1, oc = some (r, M1) → MC l G yX1_add cX1_add 3 (some .boolean) h2 (.ref (G.2 + a) :: [.int u0, .int u1]) M (vI r) M1) (hst : (st.map fun v => v.category).sum ≤ 8) (hdg : decode cc pc = .ok (.invokevirtual 77, 3)) (k : ∀ r M1, V X G h val nL (pc + 3) lv (.int r :: st) M1 (kf r M1)) : V X G h val nL pc lv (.int u1 :: .int u0 :: .ref (G.2 + a) :: st) M (bd oc kf) := V_callNi (av := [.int u0, .int u1]) (n := 2) C0 hM rfl (by decide) (shN1 ha) wm3_77 wiX1_add wvX1_add w0X1 (by decide +kernel) wcX1_add rfl hh (by decide) hst hdg k
theorem k3_81 (C0 : Cx X G cc nL RX3 ret) {u0 : Int32} {h2 : Nat} {oc : Option (Int32 × Mem)} {kf : Int32 → Mem → Option (ρ × Mem)} (hh : h2 < h) (hM : ∀ l r M1, oc = some (r, M1) → MC l G yX3_isDigit cX3_isDigit 1 (some .boolean) h2 [.int u0] M (vI r) M1) (hst : (st.map fun v => v.category).sum ≤ 8) (hdg : decode cc pc = .ok (.invokestatic 81, 3)) (k : ∀ r M1, V X G h val nL (pc + 3) lv (.int r :: st) M1 (kf r M1)) : V X G h val nL pc lv (.int u0 :: st) M (bd oc kf) := V_callSi (av := [.int u0]) (n := 1) C0 hM (List.forall_mem_cons.mpr ⟨wm3_81, List.forall_mem_cons.mpr ⟨wsX3_isDigit, List.forall_mem_cons.mpr ⟨w0X3, fun _ h => absurd h List.not_mem_nil⟩⟩⟩) (by decide +kernel) wcX3_isDigit rfl hh (by decide) hst hdg k
theorem k3_84 (C0 : Cx X G cc nL RX3 ret) {h2 : Nat} {oc : Option (Int32 × Mem)} {kf : Int32 → Mem → Option (ρ × Mem)} (hh : h2 < h) (hM : ∀ l r M1, oc = some (r, M1) → MC l G yX3_readNumber cX3_readNumber 3 (some .int) h2 (.ref (G.2 + 1) :: []) M (vI r) M1) (hst : (st.map fun v => v.category).sum ≤ 8) (hdg : decode cc pc = .ok (.invokevirtual 84, 3)) (k : ∀ r M1, V X G h val nL (pc + 3) lv (.int r :: st) M1 (kf r M1)) : V X G h val nL pc lv (.ref (G.2 + 1) :: st) M (bd oc kf) := V_callVi (av := []) (n := 0) C0 hM rfl (by decide) (shN3 s1) (List.forall_mem_cons.mpr ⟨wm3_84, List.forall_mem_cons.mpr ⟨wiX3_readNumber, List.forall_mem_cons.mpr ⟨wvX3_readNumber, List.forall_mem_cons.mpr ⟨w0X3, fun _ h => absurd h List.not_mem_nil⟩⟩⟩⟩) (by decide +kernel) wcX3_readNumber rfl hh (by decide) hst hdg k
theorem k4_31 (C0 : Cx X G cc nL RX4 ret) {u0 : Nat} {a : Nat} (ha : (sh a).1 = 1) {h2 : Nat} {oc : Option (Unit × Mem)} {kf : Unit → Mem → Option (ρ × Mem)} (hh : h2 < h) (hM : ∀ l r M1, oc = some (r, M1) → MC l G yX1_copy cX1_copy 2 none h2 (.ref (G.2 + a) :: [.ref (G.2 + u0)]) M (vU r) M1) (hst : (st.map fun v => v.category).sum ≤ 8) (hdg : decode cc pc = .ok (.invokevirtual 31, 3)) (k : ∀ r M1, V X G h val nL (pc + 3) lv st M1 (kf r M1)) : V X G h val nL pc lv (.ref (G.2 + u0) :: .ref (G.2 + a) :: st) M (bd oc kf) := V_callNv (av := [.ref (G.2 + u0)]) (n := 1) C0 hM rfl (by decide) (shN1 ha) wm4_31 wiX1_copy wvX1_copy w0X1 (by decide +kernel) wcX1_copy rfl hh (by decide) hst hdg k
theorem k4_35 (C0 : Cx X G cc nL RX4 ret) {u0 : Nat} {a : Nat} (ha : (sh a).1 = 4) {h2 : Nat} {oc : Option (Unit × Mem)} {kf : Unit → Mem → Option (ρ × Mem)} (hh : h2 < h) (hM : ∀ l r M1, oc = some (r, M1) → MC l G yX4_copyFormulas cX4_copyFormulas 3 none h2 (.ref (G.2 + a) :: [.ref (G.2 + u0)]) M (vU r) M1) (hst : (st.map fun v => v.category).sum ≤ 8) (hdg : decode cc pc = .ok (.invokevirtual 35, 3)) (k : ∀ r M1, V X G h val nL (pc + 3) lv st M1 (kf r M1)) : V X G h val nL pc lv (.ref (G.2 + u0) :: .ref (G.2 + a) :: st) M (bd oc kf) := V_callVv (av := [.ref (G.2 + u0)]) (n := 1) C0 hM rfl (by decide) (shN4 ha) (List.forall_mem_cons.mpr ⟨wm4_35, List.forall_mem_cons.mpr ⟨wiX4_copyFormulas, List.forall_mem_cons.mpr ⟨wvX4_copyFormulas, List.forall_mem_cons.mpr ⟨w0X4, fun _ h => absurd h List.not_mem_nil⟩⟩⟩⟩) (by decide +kernel) wcX4_copyFormulas rfl hh (by decide) hst hdg k
theorem k5_45 (C0 : Cx X G cc nL RX5 ret) {u0 : Nat} {u1 : Int32} {h2 : Nat} {oc : Option (Int32 × Mem)} {kf : Int32 → Mem → Option (ρ × Mem)} (hh : h2 < h) (hM : ∀ l r M1, oc = some (r, M1) → MC l G yX5_waysFor cX5_waysFor 8 (some .int) h2 (.ref (G.2 + 52) :: [.ref (G.2 + u0), .int u1]) M (vI r) M1) (hst : (st.map fun v => v.category).sum ≤ 8) (hdg : decode cc pc = .ok (.invokevirtual 45, 3)) (k : ∀ r M1, V X G h val nL (pc + 3) lv (.int r :: st) M1 (kf r M1)) : V X G h val nL pc lv (.int u1 :: .ref (G.2 + u0) :: .ref (G.2 + 52) :: st) M (bd oc kf) := V_callVi (av := [.ref (G.2 + u0), .int u1]) (n := 2) C0 hM rfl (by decide) (shN5 s52) (List.forall_mem_cons.mpr ⟨wm5_45, List.forall_mem_cons.mpr ⟨wiX5_waysFor, List.forall_mem_cons.mpr ⟨wvX5_waysFor, List.forall_mem_cons.mpr ⟨w0X5, fun _ h => absurd h List.not_mem_nil⟩⟩⟩⟩) (by decide +kernel) wcX5_waysFor rfl hh (by decide) hst hdg k
theorem k5_49 (C0 : Cx X G cc nL RX5 ret) {u0 : Int32} {a : Nat} (ha : (sh a).1 = 1) {h2 : Nat} {oc : Option (Int32 × Mem)} {kf : Int32 → Mem → Option (ρ × Mem)} (hh : h2 < h) (hM : ∀ l r M1, oc = some (r, M1) → MC l G yX1_kindOf cX1_kindOf 2 (some .int) h2 (.ref (G.2 + a) :: [.int u0]) M (vI r) M1) (hst : (st.map fun v => v.category).sum ≤ 8) (hdg : decode cc pc = .ok (.invokevirtual 49, 3)) (k : ∀ r M1, V X G h val nL (pc + 3) lv (.int r :: st) M1 (kf r M1)) : V X G h val nL pc lv (.int u0 :: .ref (G.2 + a) :: st) M (bd oc kf) := V_callNi (av := [.int u0]) (n := 1) C0 hM rfl (by decide) (shN1 ha) wm5_49 wiX1_kindOf wvX1_kindOf w0X1 (by decide +kernel) wcX1_kindOf rfl hh (by decide) hst hdg k
theorem k5_53 (C0 : Cx X G cc nL RX5 ret) {u0 : Int32} {h2 : Nat} {oc : Option (Int32 × Mem)} {kf : Int32 → Mem → Option (ρ × Mem)} (hh : h2 < h) (hM : ∀ l r M1, oc = some (r, M1) → MC l G yX6_partsOf cX6_partsOf 1 (some .int) h2 [.int u0] M (vI r) M1) (hst : (st.map fun v => v.category).sum ≤ 8) (hdg : decode cc pc = .ok (.invokestatic 53, 3)) (k : ∀ r M1, V X G h val nL (pc + 3) lv (.int r :: st) M1 (kf r M1)) : V X G h val nL pc lv (.int u0 :: st) M (bd oc kf) := V_callTi (av := [.int u0]) (n := 1) C0 hM wm5_53 wsX6_partsOf w0X6 (by decide +kernel) wcX6_partsOf rfl hh (by decide) hst hdg k
theorem k5_56 (C0 : Cx X G cc nL RX5 ret) {u0 : Nat} {u1 : Int32} {h2 : Nat} {oc : Option (Int32 × Mem)} {kf : Int32 → Mem → Option (ρ × Mem)} (hh : h2 < h) (hM : ∀ l r M1, oc = some (r, M1) → MC l G yX0_entry cX0_entry 2 (some .int) h2 [.ref (G.2 + u0), .int u1] M (vI r) M1) (hst : (st.map fun v => v.category).sum ≤ 8) (hdg : decode cc pc = .ok (.invokestatic 56, 3)) (k : ∀ r M1, V X G h val nL (pc + 3) lv (.int r :: st) M1 (kf r M1)) : V X G h val nL pc lv (.int u1 :: .ref (G.2 + u0) :: st) M (bd oc kf) := V_callTi (av := [.ref (G.2 + u0), .int u1]) (n := 2) C0 hM wm5_56 wsX0_entry w0X0 (by decide +kernel) wcX0_entry rfl hh (by decide) hst hdg k
theorem k5_60 (C0 : Cx X G cc nL RX5 ret) {u0 : Int32} {a : Nat} (ha : (sh a).1 = 0) {h2 : Nat} {oc : Option (Int32 × Mem)} {kf : Int32 → Mem → Option (ρ × Mem)} (hh : h2 < h) (hM : ∀ l r M1, oc = some (r, M1) → MC l G yX0_rightOf cX0_rightOf 2 (some .int) h2 (.ref (G.2 + a) :: [.int u0]) M (vI r) M1) (hst : (st.map fun v => v.category).sum ≤ 8) (hdg : decode cc pc = .ok (.invokevirtual 60, 3)) (k : ∀ r M1, V X G h val nL (pc + 3) lv (.int r :: st) M1 (kf r M1)) : V X G h val nL pc lv (.int u0 :: .ref (G.2 + a) :: st) M (bd oc kf) := V_callNi (av := [.int u0]) (n := 1) C0 hM rfl (by decide) (shN0 ha) wm5_60 wiX0_rightOf wvX0_rightOf w0X0 (by decide +kernel) wcX0_rightOf rfl hh (by decide) hst hdg k
theorem k7_75 (C0 : Cx X G cc nL RX7 ret) {u0 : Int32} {u1 : Int32} {u2 : Int32} {h2 : Nat} {oc : Option (Int32 × Mem)} {kf : Int32 → Mem → Option (ρ × Mem)} (hh : h2 < h) (hM : ∀ l r M1, oc = some (r, M1) → MC l G yX7_in cX7_in 3 (some .boolean) h2 [.int u0, .int u1, .int u2] M (vI r) M1) (hst : (st.map fun v => v.category).sum ≤ 8) (hdg : decode cc pc = .ok (.invokestatic 75, 3)) (k : ∀ r M1, V X G h val nL (pc + 3) lv (.int r :: st) M1 (kf r M1)) : V X G h val nL pc lv (.int u2 :: .int u1 :: .int u0 :: st) M (bd oc kf) := V_callSi (av := [.int u0, .int u1, .int u2]) (n := 3) C0 hM (List.forall_mem_cons.mpr ⟨wm7_75, List.forall_mem_cons.mpr ⟨wsX7_in, List.forall_mem_cons.mpr ⟨w0X7, fun _ h => absurd h List.not_mem_nil⟩⟩⟩) (by decide +kernel) wcX7_in rfl hh (by decide) hst hdg k
theorem k7_97 (C0 : Cx X G cc nL RX7 ret) {u0 : Int32} {u1 : Int32} {u2 : Int32} {h2 : Nat} {oc : Option (Unit × Mem)} {kf : Unit → Mem → Option (ρ × Mem)} (hh : h2 < h) (hM : ∀ l r M1, oc = some (r, M1) → MC l G yX7_puts cX7_puts 6 none h2 (.ref (G.2 + 208) :: [.int u0, .int u1, .int u2]) M (vU r) M1) (hst : (st.map fun v => v.category).sum ≤ 8) (hdg : decode cc pc = .ok (.invokevirtual 97, 3)) (k : ∀ r M1, V X G h val nL (pc + 3) lv st M1 (kf r M1)) : V X G h val nL pc lv (.int u2 :: .int u1 :: .int u0 :: .ref (G.2 + 208) :: st) M (bd oc kf) := V_callVv (av := [.int u0, .int u1, .int u2]) (n := 3) C0 hM rfl (by decide) (shN7 s208) (List.forall_mem_cons.mpr ⟨wm7_97, List.forall_mem_cons.mpr ⟨wiX7_puts, List.forall_mem_cons.mpr ⟨wvX7_puts, List.forall_mem_cons.mpr ⟨w0X7, fun _ h => absurd h List.not_mem_nil⟩⟩⟩⟩) (by decide +kernel) wcX7_puts rfl hh (by decide) hst hdg k
theorem k7_104 (C0 : Cx X G cc nL RX7 ret) {u0 : Int32} {h2 : Nat} {oc : Option (Int32 × Mem)} {kf : Int32 → Mem → Option (ρ × Mem)} (hh : h2 < h) (hM : ∀ l r M1, oc = some (r, M1) → MC l G yX7_kindOf cX7_kindOf 1 (some .int) h2 [.int u0] M (vI r) M1) (hst : (st.map fun v => v.category).sum ≤ 8) (hdg : decode cc pc = .ok (.invokestatic 104, 3)) (k : ∀ r M1, V X G h val nL (pc + 3) lv (.int r :: st) M1 (kf r M1)) : V X G h val nL pc lv (.int u0 :: st) M (bd oc kf) := V_callSi (av := [.int u0]) (n := 1) C0 hM (List.forall_mem_cons.mpr ⟨wm7_104, List.forall_mem_cons.mpr ⟨wsX7_kindOf, List.forall_mem_cons.mpr ⟨w0X7, fun _ h => absurd h List.not_mem_nil⟩⟩⟩) (by decide +kernel) wcX7_kindOf rfl hh (by decide) hst hdg k
theorem k7_111 (C0 : Cx X G cc nL RX7 ret) {u0 : Int32} {h2 : Nat} {oc : Option (Unit × Mem)} {kf : Unit → Mem → Option (ρ × Mem)} (hh : h2 < h) (hM : ∀ l r M1, oc = some (r, M1) → MC l G yX7_makes cX7_makes 2 none h2 (.ref (G.2 + 208) :: [.int u0]) M (vU r) M1) (hst : (st.map fun v => v.category).sum ≤ 8) (hdg : decode cc pc = .ok (.invokevirtual 111, 3)) (k : ∀ r M1, V X G h val nL (pc + 3) lv st M1 (kf r M1)) : V X G h val nL pc lv (.int u0 :: .ref (G.2 + 208) :: st) M (bd oc kf) := V_callVv (av := [.int u0]) (n := 1) C0 hM rfl (by decide) (shN7 s208) (List.forall_mem_cons.mpr ⟨wm7_111, List.forall_mem_cons.mpr ⟨wiX7_makes, List.forall_mem_cons.mpr ⟨wvX7_makes, List.forall_mem_cons.mpr ⟨w0X7, fun _ h => absurd h List.not_mem_nil⟩⟩⟩⟩) (by decide +kernel) wcX7_makes rfl hh (by decide) hst hdg k
theorem k7_118 (C0 : Cx X G cc nL RX7 ret) {h2 : Nat} {oc : Option (Int32 × Mem)} {kf : Int32 → Mem → Option (ρ × Mem)} (hh : h2 < h) (hM : ∀ l r M1, oc = some (r, M1) → MC l G yX7_here cX7_here 1 (some .int) h2 (.ref (G.2 + 208) :: []) M (vI r) M1) (hst : (st.map fun v => v.category).sum ≤ 8) (hdg : decode cc pc = .ok (.invokevirtual 118, 3)) (k : ∀ r M1, V X G h val nL (pc + 3) lv (.int r :: st) M1 (kf r M1)) : V X G h val nL pc lv (.ref (G.2 + 208) :: st) M (bd oc kf) := V_callVi (av := []) (n := 0) C0 hM rfl (by decide) (shN7 s208) (List.forall_mem_cons.mpr ⟨wm7_118, List.forall_mem_cons.mpr ⟨wiX7_here, List.forall_mem_cons.mpr ⟨wvX7_here, List.forall_mem_cons.mpr ⟨w0X7, fun _ h => absurd h List.not_mem_nil⟩⟩⟩⟩) (by decide +kernel) wcX7_here rfl hh (by decide) hst hdg k
theorem k7_122 (C0 : Cx X G cc nL RX7 ret) {u0 : Int32} {u1 : Int32} {h2 : Nat} {oc : Option (Int32 × Mem)} {kf : Int32 → Mem → Option (ρ × Mem)} (hh : h2 < h) (hM : ∀ l r M1, oc = some (r, M1) → MC l G yX7_leaf cX7_leaf 3 (some .boolean) h2 (.ref (G.2 + 208) :: [.int u0, .int u1]) M (vI r) M1) (hst : (st.map fun v => v.category).sum ≤ 8) (hdg : decode cc pc = .ok (.invokevirtual 122, 3)) (k : ∀ r M1, V X G h val nL (pc + 3) lv (.int r :: st) M1 (kf r M1)) : V X G h val nL pc lv (.int u1 :: .int u0 :: .ref (G.2 + 208) :: st) M (bd oc kf) := V_callVi (av := [.int u0, .int u1]) (n := 2) C0 hM rfl (by decide) (shN7 s208) (List.forall_mem_cons.mpr ⟨wm7_122, List.forall_mem_cons.mpr ⟨wiX7_leaf, List.forall_mem_cons.mpr ⟨wvX7_leaf, List.forall_mem_cons.mpr ⟨w0X7, fun _ h => absurd h List.not_mem_nil⟩⟩⟩⟩) (by decide +kernel) wcX7_leaf rfl hh (by decide) hst hdg k
theorem k7_130 (C0 : Cx X G cc nL RX7 ret) {h2 : Nat} {oc : Option (Int32 × Mem)} {kf : Int32 → Mem → Option (ρ × Mem)} (hh : h2 < h) (hM : ∀ l r M1, oc = some (r, M1) → MC l G yX7_number cX7_number 3 (some .boolean) h2 (.ref (G.2 + 208) :: []) M (vI r) M1) (hst : (st.map fun v => v.category).sum ≤ 8) (hdg : decode cc pc = .ok (.invokevirtual 130, 3)) (k : ∀ r M1, V X G h val nL (pc + 3) lv (.int r :: st) M1 (kf r M1)) : V X G h val nL pc lv (.ref (G.2 + 208) :: st) M (bd oc kf) := V_callVi (av := []) (n := 0) C0 hM rfl (by decide) (shN7 s208) (List.forall_mem_cons.mpr ⟨wm7_130, List.forall_mem_cons.mpr ⟨wiX7_number, List.forall_mem_cons.mpr ⟨wvX7_number, List.forall_mem_cons.mpr ⟨w0X7, fun _ h => absurd h List.not_mem_nil⟩⟩⟩⟩) (by decide +kernel) wcX7_number rfl hh (by decide) hst hdg k
theorem k7_134 (C0 : Cx X G cc nL RX7 ret) {h2 : Nat} {oc : Option (Int32 × Mem)} {kf : Int32 → Mem → Option (ρ × Mem)} (hh : h2 < h) (hM : ∀ l r M1, oc = some (r, M1) → MC l G yX7_factor cX7_factor 4 (some .boolean) h2 (.ref (G.2 + 208) :: []) M (vI r) M1) (hst : (st.map fun v => v.category).sum ≤ 8) (hdg : decode cc pc = .ok (.invokevirtual 134, 3)) (k : ∀ r M1, V X G h val nL (pc + 3) lv (.int r :: st) M1 (kf r M1)) : V X G h val nL pc lv (.ref (G.2 + 208) :: st) M (bd oc kf) := V_callVi (av := []) (n := 0) C0 hM rfl (by decide) (shN7 s208) (List.forall_mem_cons.mpr ⟨wm7_134, List.forall_mem_cons.mpr ⟨wiX7_factor, List.forall_mem_cons.mpr ⟨wvX7_factor, List.forall_mem_cons.mpr ⟨w0X7, fun _ h => absurd h List.not_mem_nil⟩⟩⟩⟩) (by decide +kernel) wcX7_factor rfl hh (by decide) hst hdg k
theorem k7_137 (C0 : Cx X G cc nL RX7 ret) {u0 : Int32} {h2 : Nat} {oc : Option (Unit × Mem)} {kf : Unit → Mem → Option (ρ × Mem)} (hh : h2 < h) (hM : ∀ l r M1, oc = some (r, M1) → MC l G yX7_settles cX7_settles 5 none h2 (.ref (G.2 + 208) :: [.int u0]) M (vU r) M1) (hst : (st.map fun v => v.category).sum ≤ 8) (hdg : decode cc pc = .ok (.invokevirtual 137, 3)) (k : ∀ r M1, V X G h val nL (pc + 3) lv st M1 (kf r M1)) : V X G h val nL pc lv (.int u0 :: .ref (G.2 + 208) :: st) M (bd oc kf) := V_callVv (av := [.int u0]) (n := 1) C0 hM rfl (by decide) (shN7 s208) (List.forall_mem_cons.mpr ⟨wm7_137, List.forall_mem_cons.mpr ⟨wiX7_settles, List.forall_mem_cons.mpr ⟨wvX7_settles, List.forall_mem_cons.mpr ⟨w0X7, fun _ h => absurd h List.not_mem_nil⟩⟩⟩⟩) (by decide +kernel) wcX7_settles rfl hh (by decide) hst hdg k
theorem k7_140 (C0 : Cx X G cc nL RX7 ret) {h2 : Nat} {oc : Option (Int32 × Mem)} {kf : Int32 → Mem → Option (ρ × Mem)} (hh : h2 < h) (hM : ∀ l r M1, oc = some (r, M1) → MC l G yX7_isOpen cX7_isOpen 3 (some .boolean) h2 (.ref (G.2 + 208) :: []) M (vI r) M1) (hst : (st.map fun v => v.category).sum ≤ 8) (hdg : decode cc pc = .ok (.invokevirtual 140, 3)) (k : ∀ r M1, V X G h val nL (pc + 3) lv (.int r :: st) M1 (kf r M1)) : V X G h val nL pc lv (.ref (G.2 + 208) :: st) M (bd oc kf) := V_callVi (av := []) (n := 0) C0 hM rfl (by decide) (shN7 s208) (List.forall_mem_cons.mpr ⟨wm7_140, List.forall_mem_cons.mpr ⟨wiX7_isOpen, List.forall_mem_cons.mpr ⟨wvX7_isOpen, List.forall_mem_cons.mpr ⟨w0X7, fun _ h => absurd h List.not_mem_nil⟩⟩⟩⟩) (by decide +kernel) wcX7_isOpen rfl hh (by decide) hst hdg k
theorem k7_143 (C0 : Cx X G cc nL RX7 ret) {h2 : Nat} {oc : Option (Int32 × Mem)} {kf : Int32 → Mem → Option (ρ × Mem)} (hh : h2 < h) (hM : ∀ l r M1, oc = some (r, M1) → MC l G yX7_formulaRead cX7_formulaRead 4 (some .boolean) h2 (.ref (G.2 + 208) :: []) M (vI r) M1) (hst : (st.map fun v => v.category).sum ≤ 8) (hdg : decode cc pc = .ok (.invokevirtual 143, 3)) (k : ∀ r M1, V X G h val nL (pc + 3) lv (.int r :: st) M1 (kf r M1)) : V X G h val nL pc lv (.ref (G.2 + 208) :: st) M (bd oc kf) := V_callVi (av := []) (n := 0) C0 hM rfl (by decide) (shN7 s208) (List.forall_mem_cons.mpr ⟨wm7_143, List.forall_mem_cons.mpr ⟨wiX7_formulaRead, List.forall_mem_cons.mpr ⟨wvX7_formulaRead, List.forall_mem_cons.mpr ⟨w0X7, fun _ h => absurd h List.not_mem_nil⟩⟩⟩⟩) (by decide +kernel) wcX7_formulaRead rfl hh (by decide) hst hdg k
theorem k7_146 (C0 : Cx X G cc nL RX7 ret) {h2 : Nat} {oc : Option (Int32 × Mem)} {kf : Int32 → Mem → Option (ρ × Mem)} (hh : h2 < h) (hM : ∀ l r M1, oc = some (r, M1) → MC l G yX7_reads cX7_reads 2 (some .boolean) h2 (.ref (G.2 + 208) :: []) M (vI r) M1) (hst : (st.map fun v => v.category).sum ≤ 8) (hdg : decode cc pc = .ok (.invokevirtual 146, 3)) (k : ∀ r M1, V X G h val nL (pc + 3) lv (.int r :: st) M1 (kf r M1)) : V X G h val nL pc lv (.ref (G.2 + 208) :: st) M (bd oc kf) := V_callVi (av := []) (n := 0) C0 hM rfl (by decide) (shN7 s208) (List.forall_mem_cons.mpr ⟨wm7_146, List.forall_mem_cons.mpr ⟨wiX7_reads, List.forall_mem_cons.mpr ⟨wvX7_reads, List.forall_mem_cons.mpr ⟨w0X7, fun _ h => absurd h List.not_mem_nil⟩⟩⟩⟩) (by decide +kernel) wcX7_reads rfl hh (by decide) hst hdg k
theorem k7_149 (C0 : Cx X G cc nL RX7 ret) {h2 : Nat} {oc : Option (Unit × Mem)} {kf : Unit → Mem → Option (ρ × Mem)} (hh : h2 < h) (hM : ∀ l r M1, oc = some (r, M1) → MC l G yX7_acts cX7_acts 2 none h2 (.ref (G.2 + 208) :: []) M (vU r) M1) (hst : (st.map fun v => v.category).sum ≤ 8) (hdg : decode cc pc = .ok (.invokevirtual 149, 3)) (k : ∀ r M1, V X G h val nL (pc + 3) lv st M1 (kf r M1)) : V X G h val nL pc lv (.ref (G.2 + 208) :: st) M (bd oc kf) := V_callVv (av := []) (n := 0) C0 hM rfl (by decide) (shN7 s208) (List.forall_mem_cons.mpr ⟨wm7_149, List.forall_mem_cons.mpr ⟨wiX7_acts, List.forall_mem_cons.mpr ⟨wvX7_acts, List.forall_mem_cons.mpr ⟨w0X7, fun _ h => absurd h List.not_mem_nil⟩⟩⟩⟩) (by decide +kernel) wcX7_acts rfl hh (by decide) hst hdg k
theorem k7_152 (C0 : Cx X G cc nL RX7 ret) {u0 : Int32} {u1 : Int32} {h2 : Nat} {oc : Option (Int32 × Mem)} {kf : Int32 → Mem → Option (ρ × Mem)} (hh : h2 < h) (hM : ∀ l r M1, oc = some (r, M1) → MC l G yX7_kindAt cX7_kindAt 3 (some .int) h2 (.ref (G.2 + 208) :: [.int u0, .int u1]) M (vI r) M1) (hst : (st.map fun v => v.category).sum ≤ 8) (hdg : decode cc pc = .ok (.invokevirtual 152, 3)) (k : ∀ r M1, V X G h val nL (pc + 3) lv (.int r :: st) M1 (kf r M1)) : V X G h val nL pc lv (.int u1 :: .int u0 :: .ref (G.2 + 208) :: st) M (bd oc kf) := V_callVi (av := [.int u0, .int u1]) (n := 2) C0 hM rfl (by decide) (shN7 s208) (List.forall_mem_cons.mpr ⟨wm7_152, List.forall_mem_cons.mpr ⟨wiX7_kindAt, List.forall_mem_cons.mpr ⟨wvX7_kindAt, List.forall_mem_cons.mpr ⟨w0X7, fun _ h => absurd h List.not_mem_nil⟩⟩⟩⟩) (by decide +kernel) wcX7_kindAt rfl hh (by decide) hst hdg k
theorem k7_156 (C0 : Cx X G cc nL RX7 ret) {u0 : Int32} {h2 : Nat} {oc : Option (Int32 × Mem)} {kf : Int32 → Mem → Option (ρ × Mem)} (hh : h2 < h) (hM : ∀ l r M1, oc = some (r, M1) → MC l G yX7_isFormula cX7_isFormula 2 (some .boolean) h2 (.ref (G.2 + 208) :: [.int u0]) M (vI r) M1) (hst : (st.map fun v => v.category).sum ≤ 8) (hdg : decode cc pc = .ok (.invokevirtual 156, 3)) (k : ∀ r M1, V X G h val nL (pc + 3) lv (.int r :: st) M1 (kf r M1)) : V X G h val nL pc lv (.int u0 :: .ref (G.2 + 208) :: st) M (bd oc kf) := V_callVi (av := [.int u0]) (n := 1) C0 hM rfl (by decide) (shN7 s208) (List.forall_mem_cons.mpr ⟨wm7_156, List.forall_mem_cons.mpr ⟨wiX7_isFormula, List.forall_mem_cons.mpr ⟨wvX7_isFormula, List.forall_mem_cons.mpr ⟨w0X7, fun _ h => absurd h List.not_mem_nil⟩⟩⟩⟩) (by decide +kernel) wcX7_isFormula rfl hh (by decide) hst hdg k
theorem k7_161 (C0 : Cx X G cc nL RX7 ret) {u0 : Int32} {u1 : Int32} {h2 : Nat} {oc : Option (Int32 × Mem)} {kf : Int32 → Mem → Option (ρ × Mem)} (hh : h2 < h) (hM : ∀ l r M1, oc = some (r, M1) → MC l G yX7_sizeAt cX7_sizeAt 6 (some .int) h2 (.ref (G.2 + 208) :: [.int u0, .int u1]) M (vI r) M1) (hst : (st.map fun v => v.category).sum ≤ 8) (hdg : decode cc pc = .ok (.invokevirtual 161, 3)) (k : ∀ r M1, V X G h val nL (pc + 3) lv (.int r :: st) M1 (kf r M1)) : V X G h val nL pc lv (.int u1 :: .int u0 :: .ref (G.2 + 208) :: st) M (bd oc kf) := V_callVi (av := [.int u0, .int u1]) (n := 2) C0 hM rfl (by decide) (shN7 s208) (List.forall_mem_cons.mpr ⟨wm7_161, List.forall_mem_cons.mpr ⟨wiX7_sizeAt, List.forall_mem_cons.mpr ⟨wvX7_sizeAt, List.forall_mem_cons.mpr ⟨w0X7, fun _ h => absurd h List.not_mem_nil⟩⟩⟩⟩) (by decide +kernel) wcX7_sizeAt rfl hh (by decide) hst hdg k
theorem k7_164 (C0 : Cx X G cc nL RX7 ret) {h2 : Nat} {oc : Option (Unit × Mem)} {kf : Unit → Mem → Option (ρ × Mem)} (hh : h2 < h) (hM : ∀ l r M1, oc = some (r, M1) → MC l G yX7_lays cX7_lays 3 none h2 (.ref (G.2 + 208) :: []) M (vU r) M1) (hst : (st.map fun v => v.category).sum ≤ 8) (hdg : decode cc pc = .ok (.invokevirtual 164, 3)) (k : ∀ r M1, V X G h val nL (pc + 3) lv st M1 (kf r M1)) : V X G h val nL pc lv (.ref (G.2 + 208) :: st) M (bd oc kf) := V_callVv (av := []) (n := 0) C0 hM rfl (by decide) (shN7 s208) (List.forall_mem_cons.mpr ⟨wm7_164, List.forall_mem_cons.mpr ⟨wiX7_lays, List.forall_mem_cons.mpr ⟨wvX7_lays, List.forall_mem_cons.mpr ⟨w0X7, fun _ h => absurd h List.not_mem_nil⟩⟩⟩⟩) (by decide +kernel) wcX7_lays rfl hh (by decide) hst hdg k
theorem k7_167 (C0 : Cx X G cc nL RX7 ret) {u0 : Int32} {h2 : Nat} {oc : Option (Int32 × Mem)} {kf : Int32 → Mem → Option (ρ × Mem)} (hh : h2 < h) (hM : ∀ l r M1, oc = some (r, M1) → MC l G yX7_isCell cX7_isCell 1 (some .boolean) h2 [.int u0] M (vI r) M1) (hst : (st.map fun v => v.category).sum ≤ 8) (hdg : decode cc pc = .ok (.invokestatic 167, 3)) (k : ∀ r M1, V X G h val nL (pc + 3) lv (.int r :: st) M1 (kf r M1)) : V X G h val nL pc lv (.int u0 :: st) M (bd oc kf) := V_callSi (av := [.int u0]) (n := 1) C0 hM (List.forall_mem_cons.mpr ⟨wm7_167, List.forall_mem_cons.mpr ⟨wsX7_isCell, List.forall_mem_cons.mpr ⟨w0X7, fun _ h => absurd h List.not_mem_nil⟩⟩⟩) (by decide +kernel) wcX7_isCell rfl hh (by decide) hst hdg k
theorem k7_174 (C0 : Cx X G cc nL RX7 ret) {u0 : Int32} {u1 : Int32} {u2 : Int32} {h2 : Nat} {oc : Option (Unit × Mem)} {kf : Unit → Mem → Option (ρ × Mem)} (hh : h2 < h) (hM : ∀ l r M1, oc = some (r, M1) → MC l G yX7_copies cX7_copies 4 none h2 (.ref (G.2 + 208) :: [.int u0, .int u1, .int u2]) M (vU r) M1) (hst : (st.map fun v => v.category).sum ≤ 8) (hdg : decode cc pc = .ok (.invokevirtual 174, 3)) (k : ∀ r M1, V X G h val nL (pc + 3) lv st M1 (kf r M1)) : V X G h val nL pc lv (.int u2 :: .int u1 :: .int u0 :: .ref (G.2 + 208) :: st) M (bd oc kf) := V_callVv (av := [.int u0, .int u1, .int u2]) (n := 3) C0 hM rfl (by decide) (shN7 s208) (List.forall_mem_cons.mpr ⟨wm7_174, List.forall_mem_cons.mpr ⟨wiX7_copies, List.forall_mem_cons.mpr ⟨wvX7_copies, List.forall_mem_cons.mpr ⟨w0X7, fun _ h => absurd h List.not_mem_nil⟩⟩⟩⟩) (by decide +kernel) wcX7_copies rfl hh (by decide) hst hdg k
theorem k7_177 (C0 : Cx X G cc nL RX7 ret) {u0 : Int32} {u1 : Int32} {u2 : Int32} {h2 : Nat} {oc : Option (Unit × Mem)} {kf : Unit → Mem → Option (ρ × Mem)} (hh : h2 < h) (hM : ∀ l r M1, oc = some (r, M1) → MC l G yX7_joins cX7_joins 8 none h2 (.ref (G.2 + 208) :: [.int u0, .int u1, .int u2]) M (vU r) M1) (hst : (st.map fun v => v.category).sum ≤ 8) (hdg : decode cc pc = .ok (.invokevirtual 177, 3)) (k : ∀ r M1, V X G h val nL (pc + 3) lv st M1 (kf r M1)) : V X G h val nL pc lv (.int u2 :: .int u1 :: .int u0 :: .ref (G.2 + 208) :: st) M (bd oc kf) := V_callVv (av := [.int u0, .int u1, .int u2]) (n := 3) C0 hM rfl (by decide) (shN7 s208) (List.forall_mem_cons.mpr ⟨wm7_177, List.forall_mem_cons.mpr ⟨wiX7_joins, List.forall_mem_cons.mpr ⟨wvX7_joins, List.forall_mem_cons.mpr ⟨w0X7, fun _ h => absurd h List.not_mem_nil⟩⟩⟩⟩) (by decide +kernel) wcX7_joins rfl hh (by decide) hst hdg k
theorem k7_180 (C0 : Cx X G cc nL RX7 ret) {u0 : Int64} {h2 : Nat} {oc : Option (Int32 × Mem)} {kf : Int32 → Mem → Option (ρ × Mem)} (hh : h2 < h) (hM : ∀ l r M1, oc = some (r, M1) → MC l G yX7_cut cX7_cut 2 (some .int) h2 [.long u0] M (vI r) M1) (hst : (st.map fun v => v.category).sum ≤ 8) (hdg : decode cc pc = .ok (.invokestatic 180, 3)) (k : ∀ r M1, V X G h val nL (pc + 3) lv (.int r :: st) M1 (kf r M1)) : V X G h val nL pc lv (.long u0 :: st) M (bd oc kf) := V_callSi (av := [.long u0]) (n := 1) C0 hM (List.forall_mem_cons.mpr ⟨wm7_180, List.forall_mem_cons.mpr ⟨wsX7_cut, List.forall_mem_cons.mpr ⟨w0X7, fun _ h => absurd h List.not_mem_nil⟩⟩⟩) (by decide +kernel) wcX7_cut rfl hh (by decide) hst hdg k
theorem k7_184 (C0 : Cx X G cc nL RX7 ret) {u0 : Int32} {h2 : Nat} {oc : Option (Unit × Mem)} {kf : Unit → Mem → Option (ρ × Mem)} (hh : h2 < h) (hM : ∀ l r M1, oc = some (r, M1) → MC l G yX7_expands cX7_expands 5 none h2 (.ref (G.2 + 208) :: [.int u0]) M (vU r) M1) (hst : (st.map fun v => v.category).sum ≤ 8) (hdg : decode cc pc = .ok (.invokevirtual 184, 3)) (k : ∀ r M1, V X G h val nL (pc + 3) lv st M1 (kf r M1)) : V X G h val nL pc lv (.int u0 :: .ref (G.2 + 208) :: st) M (bd oc kf) := V_callVv (av := [.int u0]) (n := 1) C0 hM rfl (by decide) (shN7 s208) (List.forall_mem_cons.mpr ⟨wm7_184, List.forall_mem_cons.mpr ⟨wiX7_expands, List.forall_mem_cons.mpr ⟨wvX7_expands, List.forall_mem_cons.mpr ⟨w0X7, fun _ h => absurd h List.not_mem_nil⟩⟩⟩⟩) (by decide +kernel) wcX7_expands rfl hh (by decide) hst hdg k
theorem k7_187 (C0 : Cx X G cc nL RX7 ret) {u0 : Int32} {u1 : Int32} {h2 : Nat} {oc : Option (Unit × Mem)} {kf : Unit → Mem → Option (ρ × Mem)} (hh : h2 < h) (hM : ∀ l r M1, oc = some (r, M1) → MC l G yX7_tells cX7_tells 4 none h2 (.ref (G.2 + 208) :: [.int u0, .int u1]) M (vU r) M1) (hst : (st.map fun v => v.category).sum ≤ 8) (hdg : decode cc pc = .ok (.invokevirtual 187, 3)) (k : ∀ r M1, V X G h val nL (pc + 3) lv st M1 (kf r M1)) : V X G h val nL pc lv (.int u1 :: .int u0 :: .ref (G.2 + 208) :: st) M (bd oc kf) := V_callVv (av := [.int u0, .int u1]) (n := 2) C0 hM rfl (by decide) (shN7 s208) (List.forall_mem_cons.mpr ⟨wm7_187, List.forall_mem_cons.mpr ⟨wiX7_tells, List.forall_mem_cons.mpr ⟨wvX7_tells, List.forall_mem_cons.mpr ⟨w0X7, fun _ h => absurd h List.not_mem_nil⟩⟩⟩⟩) (by decide +kernel) wcX7_tells rfl hh (by decide) hst hdg k
theorem k7_191 (C0 : Cx X G cc nL RX7 ret) {h2 : Nat} {oc : Option (Int32 × Mem)} {kf : Int32 → Mem → Option (ρ × Mem)} (hh : h2 < h) (hM : ∀ l r M1, oc = some (r, M1) → MC l G yX7_cheapOnes cX7_cheapOnes 3 (some .int) h2 (.ref (G.2 + 208) :: []) M (vI r) M1) (hst : (st.map fun v => v.category).sum ≤ 8) (hdg : decode cc pc = .ok (.invokevirtual 191, 3)) (k : ∀ r M1, V X G h val nL (pc + 3) lv (.int r :: st) M1 (kf r M1)) : V X G h val nL pc lv (.ref (G.2 + 208) :: st) M (bd oc kf) := V_callVi (av := []) (n := 0) C0 hM rfl (by decide) (shN7 s208) (List.forall_mem_cons.mpr ⟨wm7_191, List.forall_mem_cons.mpr ⟨wiX7_cheapOnes, List.forall_mem_cons.mpr ⟨wvX7_cheapOnes, List.forall_mem_cons.mpr ⟨w0X7, fun _ h => absurd h List.not_mem_nil⟩⟩⟩⟩) (by decide +kernel) wcX7_cheapOnes rfl hh (by decide) hst hdg k
theorem k7_194 (C0 : Cx X G cc nL RX7 ret) {h2 : Nat} {oc : Option (Int32 × Mem)} {kf : Int32 → Mem → Option (ρ × Mem)} (hh : h2 < h) (hM : ∀ l r M1, oc = some (r, M1) → MC l G yX7_greatestNeed cX7_greatestNeed 3 (some .int) h2 (.ref (G.2 + 208) :: []) M (vI r) M1) (hst : (st.map fun v => v.category).sum ≤ 8) (hdg : decode cc pc = .ok (.invokevirtual 194, 3)) (k : ∀ r M1, V X G h val nL (pc + 3) lv (.int r :: st) M1 (kf r M1)) : V X G h val nL pc lv (.ref (G.2 + 208) :: st) M (bd oc kf) := V_callVi (av := []) (n := 0) C0 hM rfl (by decide) (shN7 s208) (List.forall_mem_cons.mpr ⟨wm7_194, List.forall_mem_cons.mpr ⟨wiX7_greatestNeed, List.forall_mem_cons.mpr ⟨wvX7_greatestNeed, List.forall_mem_cons.mpr ⟨w0X7, fun _ h => absurd h List.not_mem_nil⟩⟩⟩⟩) (by decide +kernel) wcX7_greatestNeed rfl hh (by decide) hst hdg k
theorem k7_197 (C0 : Cx X G cc nL RX7 ret) {u0 : Int32} {h2 : Nat} {oc : Option (Int32 × Mem)} {kf : Int32 → Mem → Option (ρ × Mem)} (hh : h2 < h) (hM : ∀ l r M1, oc = some (r, M1) → MC l G yX7_uses cX7_uses 5 (some .int) h2 (.ref (G.2 + 208) :: [.int u0]) M (vI r) M1) (hst : (st.map fun v => v.category).sum ≤ 8) (hdg : decode cc pc = .ok (.invokevirtual 197, 3)) (k : ∀ r M1, V X G h val nL (pc + 3) lv (.int r :: st) M1 (kf r M1)) : V X G h val nL pc lv (.int u0 :: .ref (G.2 + 208) :: st) M (bd oc kf) := V_callVi (av := [.int u0]) (n := 1) C0 hM rfl (by decide) (shN7 s208) (List.forall_mem_cons.mpr ⟨wm7_197, List.forall_mem_cons.mpr ⟨wiX7_uses, List.forall_mem_cons.mpr ⟨wvX7_uses, List.forall_mem_cons.mpr ⟨w0X7, fun _ h => absurd h List.not_mem_nil⟩⟩⟩⟩) (by decide +kernel) wcX7_uses rfl hh (by decide) hst hdg k
theorem k7_227 (C0 : Cx X G cc nL RX7 ret) {u0 : Int32} {u1 : Int32} {u2 : Int32} {u3 : Int32} {h2 : Nat} {oc : Option (Unit × Mem)} {kf : Unit → Mem → Option (ρ × Mem)} (hh : h2 < h) (hM : ∀ l r M1, oc = some (r, M1) → MC l G yX7_does cX7_does 5 none h2 (.ref (G.2 + 208) :: [.int u0, .int u1, .int u2, .int u3]) M (vU r) M1) (hst : (st.map fun v => v.category).sum ≤ 8) (hdg : decode cc pc = .ok (.invokevirtual 227, 3)) (k : ∀ r M1, V X G h val nL (pc + 3) lv st M1 (kf r M1)) : V X G h val nL pc lv (.int u3 :: .int u2 :: .int u1 :: .int u0 :: .ref (G.2 + 208) :: st) M (bd oc kf) := V_callVv (av := [.int u0, .int u1, .int u2, .int u3]) (n := 4) C0 hM rfl (by decide) (shN7 s208) (List.forall_mem_cons.mpr ⟨wm7_227, List.forall_mem_cons.mpr ⟨wiX7_does, List.forall_mem_cons.mpr ⟨wvX7_does, List.forall_mem_cons.mpr ⟨w0X7, fun _ h => absurd h List.not_mem_nil⟩⟩⟩⟩) (by decide +kernel) wcX7_does rfl hh (by decide) hst hdg k
theorem k7_231 (C0 : Cx X G cc nL RX7 ret) {u0 : Int32} {u1 : Int32} {h2 : Nat} {oc : Option (Unit × Mem)} {kf : Unit → Mem → Option (ρ × Mem)} (hh : h2 < h) (hM : ∀ l r M1, oc = some (r, M1) → MC l G yX7_pushes cX7_pushes 3 none h2 (.ref (G.2 + 208) :: [.int u0, .int u1]) M (vU r) M1) (hst : (st.map fun v => v.category).sum ≤ 8) (hdg : decode cc pc = .ok (.invokevirtual 231, 3)) (k : ∀ r M1, V X G h val nL (pc + 3) lv st M1 (kf r M1)) : V X G h val nL pc lv (.int u1 :: .int u0 :: .ref (G.2 + 208) :: st) M (bd oc kf) := V_callVv (av := [.int u0, .int u1]) (n := 2) C0 hM rfl (by decide) (shN7 s208) (List.forall_mem_cons.mpr ⟨wm7_231, List.forall_mem_cons.mpr ⟨wiX7_pushes, List.forall_mem_cons.mpr ⟨wvX7_pushes, List.forall_mem_cons.mpr ⟨w0X7, fun _ h => absurd h List.not_mem_nil⟩⟩⟩⟩) (by decide +kernel) wcX7_pushes rfl hh (by decide) hst hdg k
theorem k7_234 (C0 : Cx X G cc nL RX7 ret) {h2 : Nat} {oc : Option (Unit × Mem)} {kf : Unit → Mem → Option (ρ × Mem)} (hh : h2 < h) (hM : ∀ l r M1, oc = some (r, M1) → MC l G yX7_goesOn cX7_goesOn 12 none h2 (.ref (G.2 + 208) :: []) M (vU r) M1) (hst : (st.map fun v => v.category).sum ≤ 8) (hdg : decode cc pc = .ok (.invokevirtual 234, 3)) (k : ∀ r M1, V X G h val nL (pc + 3) lv st M1 (kf r M1)) : V X G h val nL pc lv (.ref (G.2 + 208) :: st) M (bd oc kf) := V_callVv (av := []) (n := 0) C0 hM rfl (by decide) (shN7 s208) (List.forall_mem_cons.mpr ⟨wm7_234, List.forall_mem_cons.mpr ⟨wiX7_goesOn, List.forall_mem_cons.mpr ⟨wvX7_goesOn, List.forall_mem_cons.mpr ⟨w0X7, fun _ h => absurd h List.not_mem_nil⟩⟩⟩⟩) (by decide +kernel) wcX7_goesOn rfl hh (by decide) hst hdg k
theorem k7_237 (C0 : Cx X G cc nL RX7 ret) {u0 : Int32} {u1 : Int32} {h2 : Nat} {oc : Option (Unit × Mem)} {kf : Unit → Mem → Option (ρ × Mem)} (hh : h2 < h) (hM : ∀ l r M1, oc = some (r, M1) → MC l G yX7_plans cX7_plans 4 none h2 (.ref (G.2 + 208) :: [.int u0, .int u1]) M (vU r) M1) (hst : (st.map fun v => v.category).sum ≤ 8) (hdg : decode cc pc = .ok (.invokevirtual 237, 3)) (k : ∀ r M1, V X G h val nL (pc + 3) lv st M1 (kf r M1)) : V X G h val nL pc lv (.int u1 :: .int u0 :: .ref (G.2 + 208) :: st) M (bd oc kf) := V_callVv (av := [.int u0, .int u1]) (n := 2) C0 hM rfl (by decide) (shN7 s208) (List.forall_mem_cons.mpr ⟨wm7_237, List.forall_mem_cons.mpr ⟨wiX7_plans, List.forall_mem_cons.mpr ⟨wvX7_plans, List.forall_mem_cons.mpr ⟨w0X7, fun _ h => absurd h List.not_mem_nil⟩⟩⟩⟩) (by decide +kernel) wcX7_plans rfl hh (by decide) hst hdg k
theorem k7_240 (C0 : Cx X G cc nL RX7 ret) {u0 : Int32} {h2 : Nat} {oc : Option (Int32 × Mem)} {kf : Int32 → Mem → Option (ρ × Mem)} (hh : h2 < h) (hM : ∀ l r M1, oc = some (r, M1) → MC l G yX7_tries cX7_tries 11 (some .int) h2 (.ref (G.2 + 208) :: [.int u0]) M (vI r) M1) (hst : (st.map fun v => v.category).sum ≤ 8) (hdg : decode cc pc = .ok (.invokevirtual 240, 3)) (k : ∀ r M1, V X G h val nL (pc + 3) lv (.int r :: st) M1 (kf r M1)) : V X G h val nL pc lv (.int u0 :: .ref (G.2 + 208) :: st) M (bd oc kf) := V_callVi (av := [.int u0]) (n := 1) C0 hM rfl (by decide) (shN7 s208) (List.forall_mem_cons.mpr ⟨wm7_240, List.forall_mem_cons.mpr ⟨wiX7_tries, List.forall_mem_cons.mpr ⟨wvX7_tries, List.forall_mem_cons.mpr ⟨w0X7, fun _ h => absurd h List.not_mem_nil⟩⟩⟩⟩) (by decide +kernel) wcX7_tries rfl hh (by decide) hst hdg k
theorem k7_243 (C0 : Cx X G cc nL RX7 ret) {h2 : Nat} {oc : Option (Int32 × Mem)} {kf : Int32 → Mem → Option (ρ × Mem)} (hh : h2 < h) (hM : ∀ l r M1, oc = some (r, M1) → MC l G yX7_fewest cX7_fewest 2 (some .int) h2 (.ref (G.2 + 208) :: []) M (vI r) M1) (hst : (st.map fun v => v.category).sum ≤ 8) (hdg : decode cc pc = .ok (.invokevirtual 243, 3)) (k : ∀ r M1, V X G h val nL (pc + 3) lv (.int r :: st) M1 (kf r M1)) : V X G h val nL pc lv (.ref (G.2 + 208) :: st) M (bd oc kf) := V_callVi (av := []) (n := 0) C0 hM rfl (by decide) (shN7 s208) (List.forall_mem_cons.mpr ⟨wm7_243, List.forall_mem_cons.mpr ⟨wiX7_fewest, List.forall_mem_cons.mpr ⟨wvX7_fewest, List.forall_mem_cons.mpr ⟨w0X7, fun _ h => absurd h List.not_mem_nil⟩⟩⟩⟩) (by decide +kernel) wcX7_fewest rfl hh (by decide) hst hdg k
end SP
end
