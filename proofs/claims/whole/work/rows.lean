section
-- ===== PART A: goes FIRST, ahead of the names: the tables' words, and 'selects' of the private methods out of them =====
/-- a private method of a class that the tables say can be made, by its rows of tables_1 -/
def lw_okq (q : MethodName × Nat) : Prop := (q.1.cls ≠ "java/lang/invoke/MethodHandle" ∧ q.1.cls ≠ "java/lang/invoke/VarHandle") ∧ Cond.instantiable q.1.cls q.2 ∈ tables_1 ∧ Cond.privateMethod q.1 ∈ tables_1 ∧ Cond.instanceMethod q.1 ∈ tables_1
theorem lw_p0 : lw_okq (⟨"ShortestCode$Values", "setInputs", "(II)V"⟩, 6) := ⟨⟨by decide +kernel, by decide +kernel⟩, List.mem_of_getElem? (i := 16) (by decide +kernel), List.mem_of_getElem? (i := 131) (by decide +kernel), List.mem_of_getElem? (i := 132) (by decide +kernel)⟩
theorem lw_p1 : lw_okq (⟨"ShortestCode$Row", "empty", "(I)V"⟩, 5) := ⟨⟨by decide +kernel, by decide +kernel⟩, List.mem_of_getElem? (i := 49) (by decide +kernel), List.mem_of_getElem? (i := 164) (by decide +kernel), List.mem_of_getElem? (i := 165) (by decide +kernel)⟩
theorem lw_p2 : lw_okq (⟨"ShortestCode$Values", "isWord", "(I)Z"⟩, 6) := ⟨⟨by decide +kernel, by decide +kernel⟩, List.mem_of_getElem? (i := 16) (by decide +kernel), List.mem_of_getElem? (i := 172) (by decide +kernel), List.mem_of_getElem? (i := 173) (by decide +kernel)⟩
theorem lw_p3 : lw_okq (⟨"ShortestCode$Values", "appendConstant", "(I)V"⟩, 6) := ⟨⟨by decide +kernel, by decide +kernel⟩, List.mem_of_getElem? (i := 16) (by decide +kernel), List.mem_of_getElem? (i := 176) (by decide +kernel), List.mem_of_getElem? (i := 177) (by decide +kernel)⟩
theorem lw_p4 : lw_okq (⟨"ShortestCode$Values", "given", "()I"⟩, 6) := ⟨⟨by decide +kernel, by decide +kernel⟩, List.mem_of_getElem? (i := 16) (by decide +kernel), List.mem_of_getElem? (i := 180) (by decide +kernel), List.mem_of_getElem? (i := 181) (by decide +kernel)⟩
theorem lw_p5 : lw_okq (⟨"ShortestCode$Values", "isAssignment", "(I)Z"⟩, 6) := ⟨⟨by decide +kernel, by decide +kernel⟩, List.mem_of_getElem? (i := 16) (by decide +kernel), List.mem_of_getElem? (i := 196) (by decide +kernel), List.mem_of_getElem? (i := 197) (by decide +kernel)⟩
theorem lw_p6 : lw_okq (⟨"ShortestCode", "isValue", "(I)Z"⟩, 8) := ⟨⟨by decide +kernel, by decide +kernel⟩, List.mem_of_getElem? (i := 8) (by decide +kernel), List.mem_of_getElem? (i := 208) (by decide +kernel), List.mem_of_getElem? (i := 209) (by decide +kernel)⟩
theorem lw_p7 : lw_okq (⟨"ShortestCode", "valueCount", "()I"⟩, 8) := ⟨⟨by decide +kernel, by decide +kernel⟩, List.mem_of_getElem? (i := 8) (by decide +kernel), List.mem_of_getElem? (i := 212) (by decide +kernel), List.mem_of_getElem? (i := 213) (by decide +kernel)⟩
theorem lw_p8 : lw_okq (⟨"ShortestCode$Row", "put", "(IIII)V"⟩, 5) := ⟨⟨by decide +kernel, by decide +kernel⟩, List.mem_of_getElem? (i := 49) (by decide +kernel), List.mem_of_getElem? (i := 219) (by decide +kernel), List.mem_of_getElem? (i := 220) (by decide +kernel)⟩
theorem lw_p9 : lw_okq (⟨"ShortestCode", "makeFrom", "(I)V"⟩, 8) := ⟨⟨by decide +kernel, by decide +kernel⟩, List.mem_of_getElem? (i := 8) (by decide +kernel), List.mem_of_getElem? (i := 223) (by decide +kernel), List.mem_of_getElem? (i := 224) (by decide +kernel)⟩
theorem lw_p10 : lw_okq (⟨"ShortestCode$Values", "make", "(IIII)V"⟩, 6) := ⟨⟨by decide +kernel, by decide +kernel⟩, List.mem_of_getElem? (i := 16) (by decide +kernel), List.mem_of_getElem? (i := 227) (by decide +kernel), List.mem_of_getElem? (i := 228) (by decide +kernel)⟩
theorem lw_p11 : lw_okq (⟨"ShortestCode$Values", "reckon", "(III)I"⟩, 6) := ⟨⟨by decide +kernel, by decide +kernel⟩, List.mem_of_getElem? (i := 16) (by decide +kernel), List.mem_of_getElem? (i := 231) (by decide +kernel), List.mem_of_getElem? (i := 232) (by decide +kernel)⟩
theorem lw_p12 : lw_okq (⟨"ShortestCode$Values", "distance", "(I)I"⟩, 6) := ⟨⟨by decide +kernel, by decide +kernel⟩, List.mem_of_getElem? (i := 16) (by decide +kernel), List.mem_of_getElem? (i := 235) (by decide +kernel), List.mem_of_getElem? (i := 236) (by decide +kernel)⟩
theorem lw_p13 : lw_okq (⟨"ShortestCode$Values", "signed", "(I)I"⟩, 6) := ⟨⟨by decide +kernel, by decide +kernel⟩, List.mem_of_getElem? (i := 16) (by decide +kernel), List.mem_of_getElem? (i := 239) (by decide +kernel), List.mem_of_getElem? (i := 240) (by decide +kernel)⟩
theorem lw_p14 : lw_okq (⟨"ShortestCode", "programCost", "()I"⟩, 8) := ⟨⟨by decide +kernel, by decide +kernel⟩, List.mem_of_getElem? (i := 8) (by decide +kernel), List.mem_of_getElem? (i := 259) (by decide +kernel), List.mem_of_getElem? (i := 260) (by decide +kernel)⟩
theorem lw_p15 : lw_okq (⟨"ShortestCode$Values", "firstDifference", "([I[I)I"⟩, 6) := ⟨⟨by decide +kernel, by decide +kernel⟩, List.mem_of_getElem? (i := 16) (by decide +kernel), List.mem_of_getElem? (i := 271) (by decide +kernel), List.mem_of_getElem? (i := 272) (by decide +kernel)⟩
def lw_privs_1 : List (MethodName × Nat) := [(⟨"ShortestCode$Values", "setInputs", "(II)V"⟩, 6), (⟨"ShortestCode$Row", "empty", "(I)V"⟩, 5), (⟨"ShortestCode$Values", "isWord", "(I)Z"⟩, 6), (⟨"ShortestCode$Values", "appendConstant", "(I)V"⟩, 6), (⟨"ShortestCode$Values", "given", "()I"⟩, 6), (⟨"ShortestCode$Values", "isAssignment", "(I)Z"⟩, 6), (⟨"ShortestCode", "isValue", "(I)Z"⟩, 8), (⟨"ShortestCode", "valueCount", "()I"⟩, 8), (⟨"ShortestCode$Row", "put", "(IIII)V"⟩, 5), (⟨"ShortestCode", "makeFrom", "(I)V"⟩, 8), (⟨"ShortestCode$Values", "make", "(IIII)V"⟩, 6), (⟨"ShortestCode$Values", "reckon", "(III)I"⟩, 6), (⟨"ShortestCode$Values", "distance", "(I)I"⟩, 6), (⟨"ShortestCode$Values", "signed", "(I)I"⟩, 6), (⟨"ShortestCode", "programCost", "()I"⟩, 8), (⟨"ShortestCode$Values", "firstDifference", "([I[I)I"⟩, 6)]
theorem lw_r1 : ∀ q ∈ lw_privs_1, lw_okq q := List.forall_mem_cons.mpr ⟨lw_p0, List.forall_mem_cons.mpr ⟨lw_p1, List.forall_mem_cons.mpr ⟨lw_p2, List.forall_mem_cons.mpr ⟨lw_p3, List.forall_mem_cons.mpr ⟨lw_p4, List.forall_mem_cons.mpr ⟨lw_p5, List.forall_mem_cons.mpr ⟨lw_p6, List.forall_mem_cons.mpr ⟨lw_p7, List.forall_mem_cons.mpr ⟨lw_p8, List.forall_mem_cons.mpr ⟨lw_p9, List.forall_mem_cons.mpr ⟨lw_p10, List.forall_mem_cons.mpr ⟨lw_p11, List.forall_mem_cons.mpr ⟨lw_p12, List.forall_mem_cons.mpr ⟨lw_p13, List.forall_mem_cons.mpr ⟨lw_p14, List.forall_mem_cons.mpr ⟨lw_p15, fun _ h => absurd h List.not_mem_nil⟩⟩⟩⟩⟩⟩⟩⟩⟩⟩⟩⟩⟩⟩⟩⟩
theorem lw_p16 : lw_okq (⟨"ShortestCode", "takeOutRepeated", "()Z"⟩, 8) := ⟨⟨by decide +kernel, by decide +kernel⟩, List.mem_of_getElem? (i := 8) (by decide +kernel), List.mem_of_getElem? (i := 279) (by decide +kernel), List.mem_of_getElem? (i := 280) (by decide +kernel)⟩
theorem lw_p17 : lw_okq (⟨"ShortestCode$Values", "leastSame", "(I)I"⟩, 6) := ⟨⟨by decide +kernel, by decide +kernel⟩, List.mem_of_getElem? (i := 16) (by decide +kernel), List.mem_of_getElem? (i := 283) (by decide +kernel), List.mem_of_getElem? (i := 284) (by decide +kernel)⟩
theorem lw_p18 : lw_okq (⟨"ShortestCode$Values", "leastBelow", "(I[I)I"⟩, 6) := ⟨⟨by decide +kernel, by decide +kernel⟩, List.mem_of_getElem? (i := 16) (by decide +kernel), List.mem_of_getElem? (i := 287) (by decide +kernel), List.mem_of_getElem? (i := 288) (by decide +kernel)⟩
theorem lw_p19 : lw_okq (⟨"ShortestCode", "takeOut", "(II)V"⟩, 8) := ⟨⟨by decide +kernel, by decide +kernel⟩, List.mem_of_getElem? (i := 8) (by decide +kernel), List.mem_of_getElem? (i := 292) (by decide +kernel), List.mem_of_getElem? (i := 293) (by decide +kernel)⟩
theorem lw_p20 : lw_okq (⟨"ShortestCode$Row", "remove", "(III)V"⟩, 5) := ⟨⟨by decide +kernel, by decide +kernel⟩, List.mem_of_getElem? (i := 49) (by decide +kernel), List.mem_of_getElem? (i := 296) (by decide +kernel), List.mem_of_getElem? (i := 297) (by decide +kernel)⟩
theorem lw_p21 : lw_okq (⟨"ShortestCode", "takeOutNeedless", "()Z"⟩, 8) := ⟨⟨by decide +kernel, by decide +kernel⟩, List.mem_of_getElem? (i := 8) (by decide +kernel), List.mem_of_getElem? (i := 304) (by decide +kernel), List.mem_of_getElem? (i := 305) (by decide +kernel)⟩
theorem lw_p22 : lw_okq (⟨"ShortestCode", "markNeeded", "()V"⟩, 8) := ⟨⟨by decide +kernel, by decide +kernel⟩, List.mem_of_getElem? (i := 8) (by decide +kernel), List.mem_of_getElem? (i := 308) (by decide +kernel), List.mem_of_getElem? (i := 309) (by decide +kernel)⟩
theorem lw_p23 : lw_okq (⟨"ShortestCode$Hunt", "prepare", "(LShortestCode$Values;[I[I)V"⟩, 12) := ⟨⟨by decide +kernel, by decide +kernel⟩, List.mem_of_getElem? (i := 78) (by decide +kernel), List.mem_of_getElem? (i := 316) (by decide +kernel), List.mem_of_getElem? (i := 317) (by decide +kernel)⟩
theorem lw_p24 : lw_okq (⟨"ShortestCode$Values", "copyGiven", "(LShortestCode$Values;)V"⟩, 6) := ⟨⟨by decide +kernel, by decide +kernel⟩, List.mem_of_getElem? (i := 16) (by decide +kernel), List.mem_of_getElem? (i := 320) (by decide +kernel), List.mem_of_getElem? (i := 321) (by decide +kernel)⟩
theorem lw_p25 : lw_okq (⟨"ShortestCode$Hunt", "run", "(IIZ)I"⟩, 12) := ⟨⟨by decide +kernel, by decide +kernel⟩, List.mem_of_getElem? (i := 78) (by decide +kernel), List.mem_of_getElem? (i := 328) (by decide +kernel), List.mem_of_getElem? (i := 329) (by decide +kernel)⟩
theorem lw_p26 : lw_okq (⟨"ShortestCode$Hunt", "findGiven", "()V"⟩, 12) := ⟨⟨by decide +kernel, by decide +kernel⟩, List.mem_of_getElem? (i := 78) (by decide +kernel), List.mem_of_getElem? (i := 332) (by decide +kernel), List.mem_of_getElem? (i := 333) (by decide +kernel)⟩
theorem lw_p27 : lw_okq (⟨"ShortestCode$Hunt", "fill", "(II)V"⟩, 12) := ⟨⟨by decide +kernel, by decide +kernel⟩, List.mem_of_getElem? (i := 78) (by decide +kernel), List.mem_of_getElem? (i := 339) (by decide +kernel), List.mem_of_getElem? (i := 340) (by decide +kernel)⟩
theorem lw_p28 : lw_okq (⟨"ShortestCode$Hunt", "isOver", "()Z"⟩, 12) := ⟨⟨by decide +kernel, by decide +kernel⟩, List.mem_of_getElem? (i := 78) (by decide +kernel), List.mem_of_getElem? (i := 343) (by decide +kernel), List.mem_of_getElem? (i := 344) (by decide +kernel)⟩
theorem lw_p29 : lw_okq (⟨"ShortestCode$Hunt", "fillWith", "(III)V"⟩, 12) := ⟨⟨by decide +kernel, by decide +kernel⟩, List.mem_of_getElem? (i := 78) (by decide +kernel), List.mem_of_getElem? (i := 347) (by decide +kernel), List.mem_of_getElem? (i := 348) (by decide +kernel)⟩
theorem lw_p30 : lw_okq (⟨"ShortestCode$Hunt", "attempt", "(IIIII)V"⟩, 12) := ⟨⟨by decide +kernel, by decide +kernel⟩, List.mem_of_getElem? (i := 78) (by decide +kernel), List.mem_of_getElem? (i := 355) (by decide +kernel), List.mem_of_getElem? (i := 356) (by decide +kernel)⟩
theorem lw_p31 : lw_okq (⟨"ShortestCode$Values", "makes", "([IIII)Z"⟩, 6) := ⟨⟨by decide +kernel, by decide +kernel⟩, List.mem_of_getElem? (i := 16) (by decide +kernel), List.mem_of_getElem? (i := 360) (by decide +kernel), List.mem_of_getElem? (i := 361) (by decide +kernel)⟩
def lw_privs_2 : List (MethodName × Nat) := [(⟨"ShortestCode", "takeOutRepeated", "()Z"⟩, 8), (⟨"ShortestCode$Values", "leastSame", "(I)I"⟩, 6), (⟨"ShortestCode$Values", "leastBelow", "(I[I)I"⟩, 6), (⟨"ShortestCode", "takeOut", "(II)V"⟩, 8), (⟨"ShortestCode$Row", "remove", "(III)V"⟩, 5), (⟨"ShortestCode", "takeOutNeedless", "()Z"⟩, 8), (⟨"ShortestCode", "markNeeded", "()V"⟩, 8), (⟨"ShortestCode$Hunt", "prepare", "(LShortestCode$Values;[I[I)V"⟩, 12), (⟨"ShortestCode$Values", "copyGiven", "(LShortestCode$Values;)V"⟩, 6), (⟨"ShortestCode$Hunt", "run", "(IIZ)I"⟩, 12), (⟨"ShortestCode$Hunt", "findGiven", "()V"⟩, 12), (⟨"ShortestCode$Hunt", "fill", "(II)V"⟩, 12), (⟨"ShortestCode$Hunt", "isOver", "()Z"⟩, 12), (⟨"ShortestCode$Hunt", "fillWith", "(III)V"⟩, 12), (⟨"ShortestCode$Hunt", "attempt", "(IIIII)V"⟩, 12), (⟨"ShortestCode$Values", "makes", "([IIII)Z"⟩, 6)]
theorem lw_r2 : ∀ q ∈ lw_privs_2, lw_okq q := List.forall_mem_cons.mpr ⟨lw_p16, List.forall_mem_cons.mpr ⟨lw_p17, List.forall_mem_cons.mpr ⟨lw_p18, List.forall_mem_cons.mpr ⟨lw_p19, List.forall_mem_cons.mpr ⟨lw_p20, List.forall_mem_cons.mpr ⟨lw_p21, List.forall_mem_cons.mpr ⟨lw_p22, List.forall_mem_cons.mpr ⟨lw_p23, List.forall_mem_cons.mpr ⟨lw_p24, List.forall_mem_cons.mpr ⟨lw_p25, List.forall_mem_cons.mpr ⟨lw_p26, List.forall_mem_cons.mpr ⟨lw_p27, List.forall_mem_cons.mpr ⟨lw_p28, List.forall_mem_cons.mpr ⟨lw_p29, List.forall_mem_cons.mpr ⟨lw_p30, List.forall_mem_cons.mpr ⟨lw_p31, fun _ h => absurd h List.not_mem_nil⟩⟩⟩⟩⟩⟩⟩⟩⟩⟩⟩⟩⟩⟩⟩⟩
theorem lw_p32 : lw_okq (⟨"ShortestCode$Hunt", "hit", "(II)V"⟩, 12) := ⟨⟨by decide +kernel, by decide +kernel⟩, List.mem_of_getElem? (i := 78) (by decide +kernel), List.mem_of_getElem? (i := 364) (by decide +kernel), List.mem_of_getElem? (i := 365) (by decide +kernel)⟩
theorem lw_p33 : lw_okq (⟨"ShortestCode$Row", "copyFrom", "(LShortestCode$Row;)V"⟩, 5) := ⟨⟨by decide +kernel, by decide +kernel⟩, List.mem_of_getElem? (i := 49) (by decide +kernel), List.mem_of_getElem? (i := 368) (by decide +kernel), List.mem_of_getElem? (i := 369) (by decide +kernel)⟩
theorem lw_p34 : lw_okq (⟨"ShortestCodeModel", "reckonAll", "()V"⟩, 33) := ⟨⟨by decide +kernel, by decide +kernel⟩, List.mem_of_getElem? (i := 383) (by decide +kernel), List.mem_of_getElem? (i := 389) (by decide +kernel), List.mem_of_getElem? (i := 390) (by decide +kernel)⟩
theorem lw_p35 : lw_okq (⟨"ShortestCodeModel", "layFirsts", "([I)V"⟩, 33) := ⟨⟨by decide +kernel, by decide +kernel⟩, List.mem_of_getElem? (i := 383) (by decide +kernel), List.mem_of_getElem? (i := 393) (by decide +kernel), List.mem_of_getElem? (i := 394) (by decide +kernel)⟩
theorem lw_p36 : lw_okq (⟨"ShortestCodeModel", "firsts", "()I"⟩, 33) := ⟨⟨by decide +kernel, by decide +kernel⟩, List.mem_of_getElem? (i := 383) (by decide +kernel), List.mem_of_getElem? (i := 397) (by decide +kernel), List.mem_of_getElem? (i := 398) (by decide +kernel)⟩
theorem lw_p37 : lw_okq (⟨"ShortestCodeModel", "reckon", "(III)I"⟩, 33) := ⟨⟨by decide +kernel, by decide +kernel⟩, List.mem_of_getElem? (i := 383) (by decide +kernel), List.mem_of_getElem? (i := 401) (by decide +kernel), List.mem_of_getElem? (i := 402) (by decide +kernel)⟩
theorem lw_p38 : lw_okq (⟨"ShortestCodeModel", "isAssignment", "(I)Z"⟩, 33) := ⟨⟨by decide +kernel, by decide +kernel⟩, List.mem_of_getElem? (i := 383) (by decide +kernel), List.mem_of_getElem? (i := 524) (by decide +kernel), List.mem_of_getElem? (i := 525) (by decide +kernel)⟩
theorem lw_p39 : lw_okq (⟨"ShortestCodeModel", "isValue", "(I)Z"⟩, 33) := ⟨⟨by decide +kernel, by decide +kernel⟩, List.mem_of_getElem? (i := 383) (by decide +kernel), List.mem_of_getElem? (i := 536) (by decide +kernel), List.mem_of_getElem? (i := 537) (by decide +kernel)⟩
theorem lw_p40 : lw_okq (⟨"ShortestCodeModel", "all", "()I"⟩, 33) := ⟨⟨by decide +kernel, by decide +kernel⟩, List.mem_of_getElem? (i := 383) (by decide +kernel), List.mem_of_getElem? (i := 540) (by decide +kernel), List.mem_of_getElem? (i := 541) (by decide +kernel)⟩
theorem lw_p41 : lw_okq (⟨"ShortestCodeModel", "loseTwin", "()Z"⟩, 33) := ⟨⟨by decide +kernel, by decide +kernel⟩, List.mem_of_getElem? (i := 383) (by decide +kernel), List.mem_of_getElem? (i := 572) (by decide +kernel), List.mem_of_getElem? (i := 573) (by decide +kernel)⟩
theorem lw_p42 : lw_okq (⟨"ShortestCodeModel", "lose", "(II)V"⟩, 33) := ⟨⟨by decide +kernel, by decide +kernel⟩, List.mem_of_getElem? (i := 383) (by decide +kernel), List.mem_of_getElem? (i := 579) (by decide +kernel), List.mem_of_getElem? (i := 580) (by decide +kernel)⟩
theorem lw_p43 : lw_okq (⟨"ShortestCodeModel", "loseIdle", "()Z"⟩, 33) := ⟨⟨by decide +kernel, by decide +kernel⟩, List.mem_of_getElem? (i := 383) (by decide +kernel), List.mem_of_getElem? (i := 583) (by decide +kernel), List.mem_of_getElem? (i := 584) (by decide +kernel)⟩
theorem lw_p44 : lw_okq (⟨"ShortestCodeModel", "isTarget", "(I)Z"⟩, 33) := ⟨⟨by decide +kernel, by decide +kernel⟩, List.mem_of_getElem? (i := 383) (by decide +kernel), List.mem_of_getElem? (i := 591) (by decide +kernel), List.mem_of_getElem? (i := 592) (by decide +kernel)⟩
theorem lw_p45 : lw_okq (⟨"ShortestCodeModel", "round", "(IIZ)I"⟩, 33) := ⟨⟨by decide +kernel, by decide +kernel⟩, List.mem_of_getElem? (i := 383) (by decide +kernel), List.mem_of_getElem? (i := 595) (by decide +kernel), List.mem_of_getElem? (i := 596) (by decide +kernel)⟩
theorem lw_p46 : lw_okq (⟨"ShortestCodeModel", "open", "(II)V"⟩, 33) := ⟨⟨by decide +kernel, by decide +kernel⟩, List.mem_of_getElem? (i := 383) (by decide +kernel), List.mem_of_getElem? (i := 599) (by decide +kernel), List.mem_of_getElem? (i := 600) (by decide +kernel)⟩
theorem lw_p47 : lw_okq (⟨"ShortestCodeModel", "advance", "(I)Z"⟩, 33) := ⟨⟨by decide +kernel, by decide +kernel⟩, List.mem_of_getElem? (i := 383) (by decide +kernel), List.mem_of_getElem? (i := 603) (by decide +kernel), List.mem_of_getElem? (i := 604) (by decide +kernel)⟩
def lw_privs_3 : List (MethodName × Nat) := [(⟨"ShortestCode$Hunt", "hit", "(II)V"⟩, 12), (⟨"ShortestCode$Row", "copyFrom", "(LShortestCode$Row;)V"⟩, 5), (⟨"ShortestCodeModel", "reckonAll", "()V"⟩, 33), (⟨"ShortestCodeModel", "layFirsts", "([I)V"⟩, 33), (⟨"ShortestCodeModel", "firsts", "()I"⟩, 33), (⟨"ShortestCodeModel", "reckon", "(III)I"⟩, 33), (⟨"ShortestCodeModel", "isAssignment", "(I)Z"⟩, 33), (⟨"ShortestCodeModel", "isValue", "(I)Z"⟩, 33), (⟨"ShortestCodeModel", "all", "()I"⟩, 33), (⟨"ShortestCodeModel", "loseTwin", "()Z"⟩, 33), (⟨"ShortestCodeModel", "lose", "(II)V"⟩, 33), (⟨"ShortestCodeModel", "loseIdle", "()Z"⟩, 33), (⟨"ShortestCodeModel", "isTarget", "(I)Z"⟩, 33), (⟨"ShortestCodeModel", "round", "(IIZ)I"⟩, 33), (⟨"ShortestCodeModel", "open", "(II)V"⟩, 33), (⟨"ShortestCodeModel", "advance", "(I)Z"⟩, 33)]
theorem lw_r3 : ∀ q ∈ lw_privs_3, lw_okq q := List.forall_mem_cons.mpr ⟨lw_p32, List.forall_mem_cons.mpr ⟨lw_p33, List.forall_mem_cons.mpr ⟨lw_p34, List.forall_mem_cons.mpr ⟨lw_p35, List.forall_mem_cons.mpr ⟨lw_p36, List.forall_mem_cons.mpr ⟨lw_p37, List.forall_mem_cons.mpr ⟨lw_p38, List.forall_mem_cons.mpr ⟨lw_p39, List.forall_mem_cons.mpr ⟨lw_p40, List.forall_mem_cons.mpr ⟨lw_p41, List.forall_mem_cons.mpr ⟨lw_p42, List.forall_mem_cons.mpr ⟨lw_p43, List.forall_mem_cons.mpr ⟨lw_p44, List.forall_mem_cons.mpr ⟨lw_p45, List.forall_mem_cons.mpr ⟨lw_p46, List.forall_mem_cons.mpr ⟨lw_p47, fun _ h => absurd h List.not_mem_nil⟩⟩⟩⟩⟩⟩⟩⟩⟩⟩⟩⟩⟩⟩⟩⟩
theorem lw_p48 : lw_okq (⟨"ShortestCodeModel", "note", "(I)V"⟩, 33) := ⟨⟨by decide +kernel, by decide +kernel⟩, List.mem_of_getElem? (i := 383) (by decide +kernel), List.mem_of_getElem? (i := 610) (by decide +kernel), List.mem_of_getElem? (i := 611) (by decide +kernel)⟩
theorem lw_p49 : lw_okq (⟨"ShortestCodeModel", "isNew", "(I)Z"⟩, 33) := ⟨⟨by decide +kernel, by decide +kernel⟩, List.mem_of_getElem? (i := 383) (by decide +kernel), List.mem_of_getElem? (i := 614) (by decide +kernel), List.mem_of_getElem? (i := 615) (by decide +kernel)⟩
theorem lw_p50 : lw_okq (⟨"ShortestCodeModel", "keepFirst", "(I)V"⟩, 33) := ⟨⟨by decide +kernel, by decide +kernel⟩, List.mem_of_getElem? (i := 383) (by decide +kernel), List.mem_of_getElem? (i := 618) (by decide +kernel), List.mem_of_getElem? (i := 619) (by decide +kernel)⟩
def lw_privs_4 : List (MethodName × Nat) := [(⟨"ShortestCodeModel", "note", "(I)V"⟩, 33), (⟨"ShortestCodeModel", "isNew", "(I)Z"⟩, 33), (⟨"ShortestCodeModel", "keepFirst", "(I)V"⟩, 33)]
theorem lw_r4 : ∀ q ∈ lw_privs_4, lw_okq q := List.forall_mem_cons.mpr ⟨lw_p48, List.forall_mem_cons.mpr ⟨lw_p49, List.forall_mem_cons.mpr ⟨lw_p50, fun _ h => absurd h List.not_mem_nil⟩⟩⟩
def lw_privs : List (MethodName × Nat) := lw_privs_1 ++ (lw_privs_2 ++ (lw_privs_3 ++ (lw_privs_4)))
def lw_tbl : List Cond := k2_sels lw_privs ++ tables_1
theorem lw_privs_ok : ∀ q ∈ lw_privs, lw_okq q := by
  show ∀ q ∈ lw_privs_1 ++ (lw_privs_2 ++ (lw_privs_3 ++ (lw_privs_4))), lw_okq q
  exact List.forall_mem_append.mpr ⟨lw_r1, List.forall_mem_append.mpr ⟨lw_r2, List.forall_mem_append.mpr ⟨lw_r3, lw_r4⟩⟩⟩
end
section
/-! names, printed of the program -/
def RX0 : String := "ShortestCode$Hunt"
def TX0 : u_T := fun k => match k with
  | 0 => ("ShortestCode$Hunt", "costs", "[I", true)
  | 1 => ("ShortestCode$Hunt", "target", "[I", true)
  | 2 => ("ShortestCode$Hunt", "values", "LShortestCode$Values;", true)
  | 3 => ("ShortestCode$Hunt", "row", "LShortestCode$Row;", true)
  | 4 => ("ShortestCode$Hunt", "first", "LShortestCode$Row;", true)
  | 5 => ("ShortestCode$Hunt", "mostTries", "I", false)
  | 6 => ("ShortestCode$Hunt", "wantsAll", "Z", false)
  | 7 => ("ShortestCode$Hunt", "spent", "Z", false)
  | 8 => ("ShortestCode$Hunt", "tries", "I", false)
  | 9 => ("ShortestCode$Hunt", "rounds", "I", false)
  | 10 => ("ShortestCode$Hunt", "hits", "I", false)
  | _ => ("ShortestCode$Hunt", "answer", "I", false)
def tyX0 : Nat → FieldType := fun k => match k with
  | 0 => .array .int
  | 1 => .array .int
  | 2 => .object "ShortestCode$Values"
  | 3 => .object "ShortestCode$Row"
  | 4 => .object "ShortestCode$Row"
  | 5 => .int
  | 6 => .boolean
  | 7 => .boolean
  | 8 => .int
  | 9 => .int
  | 10 => .int
  | _ => .int
theorem nmX0 : ∀ a, a < 12 → ∀ b, b < 12 → a ≠ b → (TX0 a).2.1 ≠ (TX0 b).2.1 := by decide +kernel
theorem tyX0_ok : ∀ k, k < 12 → parseFieldDescriptor (TX0 k).2.2.1 = some (tyX0 k) := by decide +kernel
abbrev cX0_init : ByteArray := prog_2_method_1_code
def yX0_init : MethodName := ⟨RX0, "<init>", "()V"⟩
abbrev cX0_prepare : ByteArray := prog_2_method_2_code
def yX0_prepare : MethodName := ⟨RX0, "prepare", "(LShortestCode$Values;[I[I)V"⟩
abbrev cX0_run : ByteArray := prog_2_method_3_code
def yX0_run : MethodName := ⟨RX0, "run", "(IIZ)I"⟩
abbrev cX0_findGiven : ByteArray := prog_2_method_4_code
def yX0_findGiven : MethodName := ⟨RX0, "findGiven", "()V"⟩
abbrev cX0_isOver : ByteArray := prog_2_method_5_code
def yX0_isOver : MethodName := ⟨RX0, "isOver", "()Z"⟩
abbrev cX0_fill : ByteArray := prog_2_method_6_code
def yX0_fill : MethodName := ⟨RX0, "fill", "(II)V"⟩
abbrev cX0_fillWith : ByteArray := prog_2_method_7_code
def yX0_fillWith : MethodName := ⟨RX0, "fillWith", "(III)V"⟩
abbrev cX0_attempt : ByteArray := prog_2_method_8_code
def yX0_attempt : MethodName := ⟨RX0, "attempt", "(IIIII)V"⟩
abbrev cX0_hit : ByteArray := prog_2_method_9_code
def yX0_hit : MethodName := ⟨RX0, "hit", "(II)V"⟩
def RX1 : String := "ShortestCode$Row"
def TX1 : u_T := fun k => match k with
  | 0 => ("ShortestCode$Row", "operations", "[I", true)
  | 1 => ("ShortestCode$Row", "lefts", "[I", true)
  | 2 => ("ShortestCode$Row", "rights", "[I", true)
  | 3 => ("ShortestCode$Row", "length", "I", false)
  | _ => ("ShortestCode$Row", "result", "I", false)
def tyX1 : Nat → FieldType := fun k => match k with
  | 0 => .array .int
  | 1 => .array .int
  | 2 => .array .int
  | 3 => .int
  | _ => .int
theorem nmX1 : ∀ a, a < 5 → ∀ b, b < 5 → a ≠ b → (TX1 a).2.1 ≠ (TX1 b).2.1 := by decide +kernel
theorem tyX1_ok : ∀ k, k < 5 → parseFieldDescriptor (TX1 k).2.2.1 = some (tyX1 k) := by decide +kernel
abbrev cX1_init : ByteArray := prog_3_method_1_code
def yX1_init : MethodName := ⟨RX1, "<init>", "()V"⟩
abbrev cX1_empty : ByteArray := prog_3_method_2_code
def yX1_empty : MethodName := ⟨RX1, "empty", "(I)V"⟩
abbrev cX1_put : ByteArray := prog_3_method_3_code
def yX1_put : MethodName := ⟨RX1, "put", "(IIII)V"⟩
abbrev cX1_copyFrom : ByteArray := prog_3_method_4_code
def yX1_copyFrom : MethodName := ⟨RX1, "copyFrom", "(LShortestCode$Row;)V"⟩
abbrev cX1_remove : ByteArray := prog_3_method_5_code
def yX1_remove : MethodName := ⟨RX1, "remove", "(III)V"⟩
abbrev cX1_renumbered : ByteArray := prog_3_method_6_code
def yX1_renumbered : MethodName := ⟨RX1, "renumbered", "(III)I"⟩
def RX2 : String := "ShortestCode$Values"
def TX2 : u_T := fun k => match k with
  | 0 => ("ShortestCode$Values", "rows", "[[I", true)
  | 1 => ("ShortestCode$Values", "bits", "I", false)
  | 2 => ("ShortestCode$Values", "mask", "I", false)
  | 3 => ("ShortestCode$Values", "inputs", "I", false)
  | 4 => ("ShortestCode$Values", "constants", "I", false)
  | _ => ("ShortestCode$Values", "assignments", "I", false)
def tyX2 : Nat → FieldType := fun k => match k with
  | 0 => .array (.array .int)
  | 1 => .int
  | 2 => .int
  | 3 => .int
  | 4 => .int
  | _ => .int
theorem nmX2 : ∀ a, a < 6 → ∀ b, b < 6 → a ≠ b → (TX2 a).2.1 ≠ (TX2 b).2.1 := by decide +kernel
theorem tyX2_ok : ∀ k, k < 6 → parseFieldDescriptor (TX2 k).2.2.1 = some (tyX2 k) := by decide +kernel
abbrev cX2_init : ByteArray := prog_4_method_1_code
def yX2_init : MethodName := ⟨RX2, "<init>", "()V"⟩
abbrev cX2_setInputs : ByteArray := prog_4_method_2_code
def yX2_setInputs : MethodName := ⟨RX2, "setInputs", "(II)V"⟩
abbrev cX2_appendConstant : ByteArray := prog_4_method_3_code
def yX2_appendConstant : MethodName := ⟨RX2, "appendConstant", "(I)V"⟩
abbrev cX2_copyGiven : ByteArray := prog_4_method_4_code
def yX2_copyGiven : MethodName := ⟨RX2, "copyGiven", "(LShortestCode$Values;)V"⟩
abbrev cX2_given : ByteArray := prog_4_method_5_code
def yX2_given : MethodName := ⟨RX2, "given", "()I"⟩
abbrev cX2_isWord : ByteArray := prog_4_method_6_code
def yX2_isWord : MethodName := ⟨RX2, "isWord", "(I)Z"⟩
abbrev cX2_isAssignment : ByteArray := prog_4_method_7_code
def yX2_isAssignment : MethodName := ⟨RX2, "isAssignment", "(I)Z"⟩
abbrev cX2_make : ByteArray := prog_4_method_8_code
def yX2_make : MethodName := ⟨RX2, "make", "(IIII)V"⟩
abbrev cX2_makes : ByteArray := prog_4_method_9_code
def yX2_makes : MethodName := ⟨RX2, "makes", "([IIII)Z"⟩
abbrev cX2_firstDifference : ByteArray := prog_4_method_10_code
def yX2_firstDifference : MethodName := ⟨RX2, "firstDifference", "([I[I)I"⟩
abbrev cX2_leastBelow : ByteArray := prog_4_method_11_code
def yX2_leastBelow : MethodName := ⟨RX2, "leastBelow", "(I[I)I"⟩
abbrev cX2_leastSame : ByteArray := prog_4_method_12_code
def yX2_leastSame : MethodName := ⟨RX2, "leastSame", "(I)I"⟩
abbrev cX2_reckon : ByteArray := prog_4_method_13_code
def yX2_reckon : MethodName := ⟨RX2, "reckon", "(III)I"⟩
abbrev cX2_distance : ByteArray := prog_4_method_14_code
def yX2_distance : MethodName := ⟨RX2, "distance", "(I)I"⟩
abbrev cX2_signed : ByteArray := prog_4_method_15_code
def yX2_signed : MethodName := ⟨RX2, "signed", "(I)I"⟩
def RX3 : String := "ShortestCode"
def TX3 : u_T := fun k => match k with
  | 0 => ("ShortestCode", "costs", "[I", true)
  | 1 => ("ShortestCode", "target", "[I", true)
  | 2 => ("ShortestCode", "values", "LShortestCode$Values;", true)
  | 3 => ("ShortestCode", "program", "LShortestCode$Row;", true)
  | 4 => ("ShortestCode", "found", "LShortestCode$Row;", true)
  | 5 => ("ShortestCode", "needed", "[Z", true)
  | 6 => ("ShortestCode", "hunt", "LShortestCode$Hunt;", true)
  | _ => ("ShortestCode", "anyFound", "Z", false)
def tyX3 : Nat → FieldType := fun k => match k with
  | 0 => .array .int
  | 1 => .array .int
  | 2 => .object "ShortestCode$Values"
  | 3 => .object "ShortestCode$Row"
  | 4 => .object "ShortestCode$Row"
  | 5 => .array .boolean
  | 6 => .object "ShortestCode$Hunt"
  | _ => .boolean
theorem nmX3 : ∀ a, a < 8 → ∀ b, b < 8 → a ≠ b → (TX3 a).2.1 ≠ (TX3 b).2.1 := by decide +kernel
theorem tyX3_ok : ∀ k, k < 8 → parseFieldDescriptor (TX3 k).2.2.1 = some (tyX3 k) := by decide +kernel
abbrev cX3_init : ByteArray := prog_1_method_1_code
def yX3_init : MethodName := ⟨RX3, "<init>", "()V"⟩
abbrev cX3_words : ByteArray := prog_1_method_2_code
def yX3_words : MethodName := ⟨RX3, "words", "(II)I"⟩
abbrev cX3_constant : ByteArray := prog_1_method_3_code
def yX3_constant : MethodName := ⟨RX3, "constant", "(I)I"⟩
abbrev cX3_cost : ByteArray := prog_1_method_4_code
def yX3_cost : MethodName := ⟨RX3, "cost", "(II)I"⟩
abbrev cX3_target : ByteArray := prog_1_method_5_code
def yX3_target : MethodName := ⟨RX3, "target", "(II)I"⟩
abbrev cX3_aim : ByteArray := prog_1_method_6_code
def yX3_aim : MethodName := ⟨RX3, "aim", "()I"⟩
abbrev cX3_add : ByteArray := prog_1_method_7_code
def yX3_add : MethodName := ⟨RX3, "add", "(III)I"⟩
abbrev cX3_drop : ByteArray := prog_1_method_8_code
def yX3_drop : MethodName := ⟨RX3, "drop", "()I"⟩
abbrev cX3_result : ByteArray := prog_1_method_9_code
def yX3_result : MethodName := ⟨RX3, "result", "(I)I"⟩
abbrev cX3_instruction : ByteArray := prog_1_method_10_code
def yX3_instruction : MethodName := ⟨RX3, "instruction", "(II)I"⟩
abbrev cX3_count : ByteArray := prog_1_method_11_code
def yX3_count : MethodName := ⟨RX3, "count", "(I)I"⟩
abbrev cX3_value : ByteArray := prog_1_method_12_code
def yX3_value : MethodName := ⟨RX3, "value", "(II)I"⟩
abbrev cX3_differ : ByteArray := prog_1_method_13_code
def yX3_differ : MethodName := ⟨RX3, "differ", "(II)I"⟩
abbrev cX3_clean : ByteArray := prog_1_method_14_code
def yX3_clean : MethodName := ⟨RX3, "clean", "()I"⟩
abbrev cX3_search : ByteArray := prog_1_method_15_code
def yX3_search : MethodName := ⟨RX3, "search", "(III)I"⟩
abbrev cX3_told : ByteArray := prog_1_method_16_code
def yX3_told : MethodName := ⟨RX3, "told", "(I)I"⟩
abbrev cX3_take : ByteArray := prog_1_method_17_code
def yX3_take : MethodName := ⟨RX3, "take", "()I"⟩
abbrev cX3_isOperation : ByteArray := prog_1_method_18_code
def yX3_isOperation : MethodName := ⟨RX3, "isOperation", "(I)Z"⟩
abbrev cX3_takesOne : ByteArray := prog_1_method_19_code
def yX3_takesOne : MethodName := ⟨RX3, "takesOne", "(I)Z"⟩
abbrev cX3_isOrdered : ByteArray := prog_1_method_20_code
def yX3_isOrdered : MethodName := ⟨RX3, "isOrdered", "(I)Z"⟩
abbrev cX3_valueCount : ByteArray := prog_1_method_21_code
def yX3_valueCount : MethodName := ⟨RX3, "valueCount", "()I"⟩
abbrev cX3_isValue : ByteArray := prog_1_method_22_code
def yX3_isValue : MethodName := ⟨RX3, "isValue", "(I)Z"⟩
abbrev cX3_programCost : ByteArray := prog_1_method_23_code
def yX3_programCost : MethodName := ⟨RX3, "programCost", "()I"⟩
abbrev cX3_makeFrom : ByteArray := prog_1_method_24_code
def yX3_makeFrom : MethodName := ⟨RX3, "makeFrom", "(I)V"⟩
abbrev cX3_takeOutRepeated : ByteArray := prog_1_method_25_code
def yX3_takeOutRepeated : MethodName := ⟨RX3, "takeOutRepeated", "()Z"⟩
abbrev cX3_takeOutNeedless : ByteArray := prog_1_method_26_code
def yX3_takeOutNeedless : MethodName := ⟨RX3, "takeOutNeedless", "()Z"⟩
abbrev cX3_takeOut : ByteArray := prog_1_method_27_code
def yX3_takeOut : MethodName := ⟨RX3, "takeOut", "(II)V"⟩
abbrev cX3_markNeeded : ByteArray := prog_1_method_28_code
def yX3_markNeeded : MethodName := ⟨RX3, "markNeeded", "()V"⟩
def RX4 : String := "ShortestCodeModel"
def TX4 : u_T := fun k => match k with
  | 0 => ("ShortestCodeModel", "w", "I", false)
  | 1 => ("ShortestCodeModel", "n", "I", false)
  | 2 => ("ShortestCodeModel", "mask", "I", false)
  | 3 => ("ShortestCodeModel", "assignments", "I", false)
  | 4 => ("ShortestCodeModel", "constants", "I", false)
  | 5 => ("ShortestCodeModel", "constant", "[I", true)
  | 6 => ("ShortestCodeModel", "costs", "[I", true)
  | 7 => ("ShortestCodeModel", "target", "[I", true)
  | 8 => ("ShortestCodeModel", "many", "I", false)
  | 9 => ("ShortestCodeModel", "op", "[I", true)
  | 10 => ("ShortestCodeModel", "left", "[I", true)
  | 11 => ("ShortestCodeModel", "right", "[I", true)
  | 12 => ("ShortestCodeModel", "result", "I", false)
  | 13 => ("ShortestCodeModel", "values", "[I", true)
  | 14 => ("ShortestCodeModel", "tried", "[I", true)
  | 15 => ("ShortestCodeModel", "hasFound", "Z", false)
  | 16 => ("ShortestCodeModel", "foundMany", "I", false)
  | 17 => ("ShortestCodeModel", "foundResult", "I", false)
  | 18 => ("ShortestCodeModel", "foundOp", "[I", true)
  | 19 => ("ShortestCodeModel", "foundLeft", "[I", true)
  | 20 => ("ShortestCodeModel", "foundRight", "[I", true)
  | 21 => ("ShortestCodeModel", "tries", "I", false)
  | 22 => ("ShortestCodeModel", "rounds", "I", false)
  | 23 => ("ShortestCodeModel", "found", "I", false)
  | 24 => ("ShortestCodeModel", "answer", "I", false)
  | 25 => ("ShortestCodeModel", "tOp", "[I", true)
  | 26 => ("ShortestCodeModel", "tLeft", "[I", true)
  | 27 => ("ShortestCodeModel", "tRight", "[I", true)
  | 28 => ("ShortestCodeModel", "rest", "[I", true)
  | 29 => ("ShortestCodeModel", "firstMany", "I", false)
  | 30 => ("ShortestCodeModel", "firstOp", "[I", true)
  | 31 => ("ShortestCodeModel", "firstLeft", "[I", true)
  | _ => ("ShortestCodeModel", "firstRight", "[I", true)
def tyX4 : Nat → FieldType := fun k => match k with
  | 0 => .int
  | 1 => .int
  | 2 => .int
  | 3 => .int
  | 4 => .int
  | 5 => .array .int
  | 6 => .array .int
  | 7 => .array .int
  | 8 => .int
  | 9 => .array .int
  | 10 => .array .int
  | 11 => .array .int
  | 12 => .int
  | 13 => .array .int
  | 14 => .array .int
  | 15 => .boolean
  | 16 => .int
  | 17 => .int
  | 18 => .array .int
  | 19 => .array .int
  | 20 => .array .int
  | 21 => .int
  | 22 => .int
  | 23 => .int
  | 24 => .int
  | 25 => .array .int
  | 26 => .array .int
  | 27 => .array .int
  | 28 => .array .int
  | 29 => .int
  | 30 => .array .int
  | 31 => .array .int
  | _ => .array .int
theorem nmX4 : ∀ a, a < 33 → ∀ b, b < 33 → a ≠ b → (TX4 a).2.1 ≠ (TX4 b).2.1 := by decide +kernel
theorem tyX4_ok : ∀ k, k < 33 → parseFieldDescriptor (TX4 k).2.2.1 = some (tyX4 k) := by decide +kernel
abbrev cX4_init : ByteArray := prog_6_method_1_code
def yX4_init : MethodName := ⟨RX4, "<init>", "()V"⟩
abbrev cX4_within : ByteArray := prog_6_method_2_code
def yX4_within : MethodName := ⟨RX4, "within", "(III)Z"⟩
abbrev cX4_firsts : ByteArray := prog_6_method_3_code
def yX4_firsts : MethodName := ⟨RX4, "firsts", "()I"⟩
abbrev cX4_all : ByteArray := prog_6_method_4_code
def yX4_all : MethodName := ⟨RX4, "all", "()I"⟩
abbrev cX4_reckon : ByteArray := prog_6_method_5_code
def yX4_reckon : MethodName := ⟨RX4, "reckon", "(III)I"⟩
abbrev cX4_layFirsts : ByteArray := prog_6_method_6_code
def yX4_layFirsts : MethodName := ⟨RX4, "layFirsts", "([I)V"⟩
abbrev cX4_reckonAll : ByteArray := prog_6_method_7_code
def yX4_reckonAll : MethodName := ⟨RX4, "reckonAll", "()V"⟩
abbrev cX4_words : ByteArray := prog_6_method_8_code
def yX4_words : MethodName := ⟨RX4, "words", "(II)I"⟩
abbrev cX4_constant : ByteArray := prog_6_method_9_code
def yX4_constant : MethodName := ⟨RX4, "constant", "(I)I"⟩
abbrev cX4_cost : ByteArray := prog_6_method_10_code
def yX4_cost : MethodName := ⟨RX4, "cost", "(II)I"⟩
abbrev cX4_isAssignment : ByteArray := prog_6_method_11_code
def yX4_isAssignment : MethodName := ⟨RX4, "isAssignment", "(I)Z"⟩
abbrev cX4_target : ByteArray := prog_6_method_12_code
def yX4_target : MethodName := ⟨RX4, "target", "(II)I"⟩
abbrev cX4_aim : ByteArray := prog_6_method_13_code
def yX4_aim : MethodName := ⟨RX4, "aim", "()I"⟩
abbrev cX4_isValue : ByteArray := prog_6_method_14_code
def yX4_isValue : MethodName := ⟨RX4, "isValue", "(I)Z"⟩
abbrev cX4_add : ByteArray := prog_6_method_15_code
def yX4_add : MethodName := ⟨RX4, "add", "(III)I"⟩
abbrev cX4_drop : ByteArray := prog_6_method_16_code
def yX4_drop : MethodName := ⟨RX4, "drop", "()I"⟩
abbrev cX4_result : ByteArray := prog_6_method_17_code
def yX4_result : MethodName := ⟨RX4, "result", "(I)I"⟩
abbrev cX4_instruction : ByteArray := prog_6_method_18_code
def yX4_instruction : MethodName := ⟨RX4, "instruction", "(II)I"⟩
abbrev cX4_count : ByteArray := prog_6_method_19_code
def yX4_count : MethodName := ⟨RX4, "count", "(I)I"⟩
abbrev cX4_value : ByteArray := prog_6_method_20_code
def yX4_value : MethodName := ⟨RX4, "value", "(II)I"⟩
abbrev cX4_differ : ByteArray := prog_6_method_21_code
def yX4_differ : MethodName := ⟨RX4, "differ", "(II)I"⟩
abbrev cX4_isSame : ByteArray := prog_6_method_22_code
def yX4_isSame : MethodName := ⟨RX4, "isSame", "([IIII)Z"⟩
abbrev cX4_lose : ByteArray := prog_6_method_23_code
def yX4_lose : MethodName := ⟨RX4, "lose", "(II)V"⟩
abbrev cX4_loseTwin : ByteArray := prog_6_method_24_code
def yX4_loseTwin : MethodName := ⟨RX4, "loseTwin", "()Z"⟩
abbrev cX4_loseIdle : ByteArray := prog_6_method_25_code
def yX4_loseIdle : MethodName := ⟨RX4, "loseIdle", "()Z"⟩
abbrev cX4_clean : ByteArray := prog_6_method_26_code
def yX4_clean : MethodName := ⟨RX4, "clean", "()I"⟩
abbrev cX4_turns : ByteArray := prog_6_method_27_code
def yX4_turns : MethodName := ⟨RX4, "turns", "(I)Z"⟩
abbrev cX4_advance : ByteArray := prog_6_method_28_code
def yX4_advance : MethodName := ⟨RX4, "advance", "(I)Z"⟩
abbrev cX4_open : ByteArray := prog_6_method_29_code
def yX4_open : MethodName := ⟨RX4, "open", "(II)V"⟩
abbrev cX4_isTarget : ByteArray := prog_6_method_30_code
def yX4_isTarget : MethodName := ⟨RX4, "isTarget", "(I)Z"⟩
abbrev cX4_isNew : ByteArray := prog_6_method_31_code
def yX4_isNew : MethodName := ⟨RX4, "isNew", "(I)Z"⟩
abbrev cX4_note : ByteArray := prog_6_method_32_code
def yX4_note : MethodName := ⟨RX4, "note", "(I)V"⟩
abbrev cX4_round : ByteArray := prog_6_method_33_code
def yX4_round : MethodName := ⟨RX4, "round", "(IIZ)I"⟩
abbrev cX4_keepFirst : ByteArray := prog_6_method_34_code
def yX4_keepFirst : MethodName := ⟨RX4, "keepFirst", "(I)V"⟩
abbrev cX4_search : ByteArray := prog_6_method_35_code
def yX4_search : MethodName := ⟨RX4, "search", "(III)I"⟩
abbrev cX4_told : ByteArray := prog_6_method_36_code
def yX4_told : MethodName := ⟨RX4, "told", "(I)I"⟩
abbrev cX4_take : ByteArray := prog_6_method_37_code
def yX4_take : MethodName := ⟨RX4, "take", "()I"⟩
def RL : String := "ShortestCodeLaw"
abbrev cL_law : ByteArray := code
def yL_law : MethodName := ⟨RL, "law", "([I)Z"⟩
abbrev classes : List vw_C := [(RX0, TX0, 12), (RX1, TX1, 5), (RX2, TX2, 6), (RX3, TX3, 8), (RX4, TX4, 33)]
def eg_fty : Nat → Nat → FieldType := fun c => match c with
  | 0 => tyX0
  | 1 => tyX1
  | 2 => tyX2
  | 3 => tyX3
  | 4 => tyX4
  | _ => fun _ => .int
def eg_atys : List FieldType := [.int, .boolean, .array .int]
abbrev eg_Mt : Type := MethodName × ByteArray × Nat × Option FieldType
abbrev mX0_init : eg_Mt := (yX0_init, cX0_init, 1, none)
abbrev mX0_prepare : eg_Mt := (yX0_prepare, cX0_prepare, 4, none)
abbrev mX0_run : eg_Mt := (yX0_run, cX0_run, 6, (some .int))
abbrev mX0_findGiven : eg_Mt := (yX0_findGiven, cX0_findGiven, 2, none)
abbrev mX0_isOver : eg_Mt := (yX0_isOver, cX0_isOver, 1, (some .boolean))
abbrev mX0_fill : eg_Mt := (yX0_fill, cX0_fill, 5, none)
abbrev mX0_fillWith : eg_Mt := (yX0_fillWith, cX0_fillWith, 9, none)
abbrev mX0_attempt : eg_Mt := (yX0_attempt, cX0_attempt, 7, none)
abbrev mX0_hit : eg_Mt := (yX0_hit, cX0_hit, 3, none)
abbrev mX1_init : eg_Mt := (yX1_init, cX1_init, 1, none)
abbrev mX1_empty : eg_Mt := (yX1_empty, cX1_empty, 2, none)
abbrev mX1_put : eg_Mt := (yX1_put, cX1_put, 5, none)
abbrev mX1_copyFrom : eg_Mt := (yX1_copyFrom, cX1_copyFrom, 3, none)
abbrev mX1_remove : eg_Mt := (yX1_remove, cX1_remove, 7, none)
abbrev mX1_renumbered : eg_Mt := (yX1_renumbered, cX1_renumbered, 3, (some .int))
abbrev mX2_init : eg_Mt := (yX2_init, cX2_init, 1, none)
abbrev mX2_setInputs : eg_Mt := (yX2_setInputs, cX2_setInputs, 5, none)
abbrev mX2_appendConstant : eg_Mt := (yX2_appendConstant, cX2_appendConstant, 4, none)
abbrev mX2_copyGiven : eg_Mt := (yX2_copyGiven, cX2_copyGiven, 3, none)
abbrev mX2_given : eg_Mt := (yX2_given, cX2_given, 1, (some .int))
abbrev mX2_isWord : eg_Mt := (yX2_isWord, cX2_isWord, 2, (some .boolean))
abbrev mX2_isAssignment : eg_Mt := (yX2_isAssignment, cX2_isAssignment, 2, (some .boolean))
abbrev mX2_make : eg_Mt := (yX2_make, cX2_make, 9, none)
abbrev mX2_makes : eg_Mt := (yX2_makes, cX2_makes, 8, (some .boolean))
abbrev mX2_firstDifference : eg_Mt := (yX2_firstDifference, cX2_firstDifference, 4, (some .int))
abbrev mX2_leastBelow : eg_Mt := (yX2_leastBelow, cX2_leastBelow, 4, (some .int))
abbrev mX2_leastSame : eg_Mt := (yX2_leastSame, cX2_leastSame, 2, (some .int))
abbrev mX2_reckon : eg_Mt := (yX2_reckon, cX2_reckon, 4, (some .int))
abbrev mX2_distance : eg_Mt := (yX2_distance, cX2_distance, 2, (some .int))
abbrev mX2_signed : eg_Mt := (yX2_signed, cX2_signed, 2, (some .int))
abbrev mX3_init : eg_Mt := (yX3_init, cX3_init, 2, none)
abbrev mX3_words : eg_Mt := (yX3_words, cX3_words, 4, (some .int))
abbrev mX3_constant : eg_Mt := (yX3_constant, cX3_constant, 2, (some .int))
abbrev mX3_cost : eg_Mt := (yX3_cost, cX3_cost, 4, (some .int))
abbrev mX3_target : eg_Mt := (yX3_target, cX3_target, 4, (some .int))
abbrev mX3_aim : eg_Mt := (yX3_aim, cX3_aim, 4, (some .int))
abbrev mX3_add : eg_Mt := (yX3_add, cX3_add, 5, (some .int))
abbrev mX3_drop : eg_Mt := (yX3_drop, cX3_drop, 1, (some .int))
abbrev mX3_result : eg_Mt := (yX3_result, cX3_result, 3, (some .int))
abbrev mX3_instruction : eg_Mt := (yX3_instruction, cX3_instruction, 3, (some .int))
abbrev mX3_count : eg_Mt := (yX3_count, cX3_count, 2, (some .int))
abbrev mX3_value : eg_Mt := (yX3_value, cX3_value, 3, (some .int))
abbrev mX3_differ : eg_Mt := (yX3_differ, cX3_differ, 5, (some .int))
abbrev mX3_clean : eg_Mt := (yX3_clean, cX3_clean, 3, (some .int))
abbrev mX3_search : eg_Mt := (yX3_search, cX3_search, 5, (some .int))
abbrev mX3_told : eg_Mt := (yX3_told, cX3_told, 2, (some .int))
abbrev mX3_take : eg_Mt := (yX3_take, cX3_take, 1, (some .int))
abbrev mX3_isOperation : eg_Mt := (yX3_isOperation, cX3_isOperation, 1, (some .boolean))
abbrev mX3_takesOne : eg_Mt := (yX3_takesOne, cX3_takesOne, 1, (some .boolean))
abbrev mX3_isOrdered : eg_Mt := (yX3_isOrdered, cX3_isOrdered, 1, (some .boolean))
abbrev mX3_valueCount : eg_Mt := (yX3_valueCount, cX3_valueCount, 1, (some .int))
abbrev mX3_isValue : eg_Mt := (yX3_isValue, cX3_isValue, 2, (some .boolean))
abbrev mX3_programCost : eg_Mt := (yX3_programCost, cX3_programCost, 3, (some .int))
abbrev mX3_makeFrom : eg_Mt := (yX3_makeFrom, cX3_makeFrom, 4, none)
abbrev mX3_takeOutRepeated : eg_Mt := (yX3_takeOutRepeated, cX3_takeOutRepeated, 4, (some .boolean))
abbrev mX3_takeOutNeedless : eg_Mt := (yX3_takeOutNeedless, cX3_takeOutNeedless, 3, (some .boolean))
abbrev mX3_takeOut : eg_Mt := (yX3_takeOut, cX3_takeOut, 3, none)
abbrev mX3_markNeeded : eg_Mt := (yX3_markNeeded, cX3_markNeeded, 3, none)
abbrev mX4_init : eg_Mt := (yX4_init, cX4_init, 2, none)
abbrev mX4_within : eg_Mt := (yX4_within, cX4_within, 3, (some .boolean))
abbrev mX4_firsts : eg_Mt := (yX4_firsts, cX4_firsts, 1, (some .int))
abbrev mX4_all : eg_Mt := (yX4_all, cX4_all, 1, (some .int))
abbrev mX4_reckon : eg_Mt := (yX4_reckon, cX4_reckon, 6, (some .int))
abbrev mX4_layFirsts : eg_Mt := (yX4_layFirsts, cX4_layFirsts, 4, none)
abbrev mX4_reckonAll : eg_Mt := (yX4_reckonAll, cX4_reckonAll, 4, none)
abbrev mX4_words : eg_Mt := (yX4_words, cX4_words, 4, (some .int))
abbrev mX4_constant : eg_Mt := (yX4_constant, cX4_constant, 2, (some .int))
abbrev mX4_cost : eg_Mt := (yX4_cost, cX4_cost, 4, (some .int))
abbrev mX4_isAssignment : eg_Mt := (yX4_isAssignment, cX4_isAssignment, 2, (some .boolean))
abbrev mX4_target : eg_Mt := (yX4_target, cX4_target, 4, (some .int))
abbrev mX4_aim : eg_Mt := (yX4_aim, cX4_aim, 4, (some .int))
abbrev mX4_isValue : eg_Mt := (yX4_isValue, cX4_isValue, 2, (some .boolean))
abbrev mX4_add : eg_Mt := (yX4_add, cX4_add, 4, (some .int))
abbrev mX4_drop : eg_Mt := (yX4_drop, cX4_drop, 1, (some .int))
abbrev mX4_result : eg_Mt := (yX4_result, cX4_result, 3, (some .int))
abbrev mX4_instruction : eg_Mt := (yX4_instruction, cX4_instruction, 3, (some .int))
abbrev mX4_count : eg_Mt := (yX4_count, cX4_count, 4, (some .int))
abbrev mX4_value : eg_Mt := (yX4_value, cX4_value, 3, (some .int))
abbrev mX4_differ : eg_Mt := (yX4_differ, cX4_differ, 5, (some .int))
abbrev mX4_isSame : eg_Mt := (yX4_isSame, cX4_isSame, 5, (some .boolean))
abbrev mX4_lose : eg_Mt := (yX4_lose, cX4_lose, 5, none)
abbrev mX4_loseTwin : eg_Mt := (yX4_loseTwin, cX4_loseTwin, 4, (some .boolean))
abbrev mX4_loseIdle : eg_Mt := (yX4_loseIdle, cX4_loseIdle, 4, (some .boolean))
abbrev mX4_clean : eg_Mt := (yX4_clean, cX4_clean, 3, (some .int))
abbrev mX4_turns : eg_Mt := (yX4_turns, cX4_turns, 1, (some .boolean))
abbrev mX4_advance : eg_Mt := (yX4_advance, cX4_advance, 4, (some .boolean))
abbrev mX4_open : eg_Mt := (yX4_open, cX4_open, 3, none)
abbrev mX4_isTarget : eg_Mt := (yX4_isTarget, cX4_isTarget, 3, (some .boolean))
abbrev mX4_isNew : eg_Mt := (yX4_isNew, cX4_isNew, 3, (some .boolean))
abbrev mX4_note : eg_Mt := (yX4_note, cX4_note, 3, none)
abbrev mX4_round : eg_Mt := (yX4_round, cX4_round, 7, (some .int))
abbrev mX4_keepFirst : eg_Mt := (yX4_keepFirst, cX4_keepFirst, 3, none)
abbrev mX4_search : eg_Mt := (yX4_search, cX4_search, 5, (some .int))
abbrev mX4_told : eg_Mt := (yX4_told, cX4_told, 2, (some .int))
abbrev mX4_take : eg_Mt := (yX4_take, cX4_take, 2, (some .int))
abbrev mL_law : eg_Mt := (yL_law, cL_law, 4, (some .boolean))
end
section
theorem dX0_init_0 : decode cX0_init 0 = .ok (.aload_n 0, 1) := by decide +kernel
theorem dX0_init_1 : decode cX0_init 1 = .ok (.invokespecial 3, 3) := by decide +kernel
theorem dX0_init_4 : decode cX0_init 4 = .ok (.aload_n 0, 1) := by decide +kernel
theorem dX0_init_5 : decode cX0_init 5 = .ok (.bipush 13, 2) := by decide +kernel
theorem dX0_init_7 : decode cX0_init 7 = .ok (.newarray .int, 2) := by decide +kernel
theorem dX0_init_9 : decode cX0_init 9 = .ok (.putfield 9, 3) := by decide +kernel
theorem dX0_init_12 : decode cX0_init 12 = .ok (.aload_n 0, 1) := by decide +kernel
theorem dX0_init_13 : decode cX0_init 13 = .ok (.sipush 256, 3) := by decide +kernel
theorem dX0_init_16 : decode cX0_init 16 = .ok (.newarray .int, 2) := by decide +kernel
theorem dX0_init_18 : decode cX0_init 18 = .ok (.putfield 15, 3) := by decide +kernel
theorem dX0_init_21 : decode cX0_init 21 = .ok (.aload_n 0, 1) := by decide +kernel
theorem dX0_init_22 : decode cX0_init 22 = .ok (.new 18, 3) := by decide +kernel
theorem dX0_init_25 : decode cX0_init 25 = .ok (.dup, 1) := by decide +kernel
theorem dX0_init_26 : decode cX0_init 26 = .ok (.invokespecial 20, 3) := by decide +kernel
theorem dX0_init_29 : decode cX0_init 29 = .ok (.putfield 21, 3) := by decide +kernel
theorem dX0_init_32 : decode cX0_init 32 = .ok (.aload_n 0, 1) := by decide +kernel
theorem dX0_init_33 : decode cX0_init 33 = .ok (.new 25, 3) := by decide +kernel
theorem dX0_init_36 : decode cX0_init 36 = .ok (.dup, 1) := by decide +kernel
theorem dX0_init_37 : decode cX0_init 37 = .ok (.invokespecial 27, 3) := by decide +kernel
theorem dX0_init_40 : decode cX0_init 40 = .ok (.putfield 28, 3) := by decide +kernel
theorem dX0_init_43 : decode cX0_init 43 = .ok (.aload_n 0, 1) := by decide +kernel
theorem dX0_init_44 : decode cX0_init 44 = .ok (.new 25, 3) := by decide +kernel
theorem dX0_init_47 : decode cX0_init 47 = .ok (.dup, 1) := by decide +kernel
theorem dX0_init_48 : decode cX0_init 48 = .ok (.invokespecial 27, 3) := by decide +kernel
theorem dX0_init_51 : decode cX0_init 51 = .ok (.putfield 32, 3) := by decide +kernel
theorem dX0_init_54 : decode cX0_init 54 = .ok (.aload_n 0, 1) := by decide +kernel
theorem dX0_init_55 : decode cX0_init 55 = .ok (.bipush (-3), 2) := by decide +kernel
theorem dX0_init_57 : decode cX0_init 57 = .ok (.putfield 35, 3) := by decide +kernel
theorem dX0_init_60 : decode cX0_init 60 = .ok (.return_, 1) := by decide +kernel
theorem dX0_prepare_0 : decode cX0_prepare 0 = .ok (.aload_n 0, 1) := by decide +kernel
theorem dX0_prepare_1 : decode cX0_prepare 1 = .ok (.getfield 21, 3) := by decide +kernel
theorem dX0_prepare_4 : decode cX0_prepare 4 = .ok (.aload_n 1, 1) := by decide +kernel
theorem dX0_prepare_5 : decode cX0_prepare 5 = .ok (.invokevirtual 39, 3) := by decide +kernel
theorem dX0_prepare_8 : decode cX0_prepare 8 = .ok (.aload_n 2, 1) := by decide +kernel
theorem dX0_prepare_9 : decode cX0_prepare 9 = .ok (.iconst 0, 1) := by decide +kernel
theorem dX0_prepare_10 : decode cX0_prepare 10 = .ok (.aload_n 0, 1) := by decide +kernel
theorem dX0_prepare_11 : decode cX0_prepare 11 = .ok (.getfield 9, 3) := by decide +kernel
theorem dX0_prepare_14 : decode cX0_prepare 14 = .ok (.iconst 0, 1) := by decide +kernel
theorem dX0_prepare_15 : decode cX0_prepare 15 = .ok (.bipush 13, 2) := by decide +kernel
theorem dX0_prepare_17 : decode cX0_prepare 17 = .ok (.invokestatic 43, 3) := by decide +kernel
theorem dX0_prepare_20 : decode cX0_prepare 20 = .ok (.aload_n 3, 1) := by decide +kernel
theorem dX0_prepare_21 : decode cX0_prepare 21 = .ok (.iconst 0, 1) := by decide +kernel
theorem dX0_prepare_22 : decode cX0_prepare 22 = .ok (.aload_n 0, 1) := by decide +kernel
theorem dX0_prepare_23 : decode cX0_prepare 23 = .ok (.getfield 15, 3) := by decide +kernel
theorem dX0_prepare_26 : decode cX0_prepare 26 = .ok (.iconst 0, 1) := by decide +kernel
theorem dX0_prepare_27 : decode cX0_prepare 27 = .ok (.sipush 256, 3) := by decide +kernel
theorem dX0_prepare_30 : decode cX0_prepare 30 = .ok (.invokestatic 43, 3) := by decide +kernel
theorem dX0_prepare_33 : decode cX0_prepare 33 = .ok (.return_, 1) := by decide +kernel
theorem dX0_run_0 : decode cX0_run 0 = .ok (.aload_n 0, 1) := by decide +kernel
theorem dX0_run_1 : decode cX0_run 1 = .ok (.iload_n 2, 1) := by decide +kernel
theorem dX0_run_2 : decode cX0_run 2 = .ok (.putfield 49, 3) := by decide +kernel
theorem dX0_run_5 : decode cX0_run 5 = .ok (.aload_n 0, 1) := by decide +kernel
theorem dX0_run_6 : decode cX0_run 6 = .ok (.iload_n 3, 1) := by decide +kernel
theorem dX0_run_7 : decode cX0_run 7 = .ok (.putfield 52, 3) := by decide +kernel
theorem dX0_run_10 : decode cX0_run 10 = .ok (.aload_n 0, 1) := by decide +kernel
theorem dX0_run_11 : decode cX0_run 11 = .ok (.iconst 0, 1) := by decide +kernel
theorem dX0_run_12 : decode cX0_run 12 = .ok (.putfield 56, 3) := by decide +kernel
theorem dX0_run_15 : decode cX0_run 15 = .ok (.aload_n 0, 1) := by decide +kernel
theorem dX0_run_16 : decode cX0_run 16 = .ok (.iconst 0, 1) := by decide +kernel
theorem dX0_run_17 : decode cX0_run 17 = .ok (.putfield 59, 3) := by decide +kernel
theorem dX0_run_20 : decode cX0_run 20 = .ok (.aload_n 0, 1) := by decide +kernel
theorem dX0_run_21 : decode cX0_run 21 = .ok (.iconst 0, 1) := by decide +kernel
theorem dX0_run_22 : decode cX0_run 22 = .ok (.putfield 62, 3) := by decide +kernel
theorem dX0_run_25 : decode cX0_run 25 = .ok (.aload_n 0, 1) := by decide +kernel
theorem dX0_run_26 : decode cX0_run 26 = .ok (.iconst 0, 1) := by decide +kernel
theorem dX0_run_27 : decode cX0_run 27 = .ok (.putfield 65, 3) := by decide +kernel
theorem dX0_run_30 : decode cX0_run 30 = .ok (.aload_n 0, 1) := by decide +kernel
theorem dX0_run_31 : decode cX0_run 31 = .ok (.invokevirtual 68, 3) := by decide +kernel
theorem dX0_run_34 : decode cX0_run 34 = .ok (.iconst 0, 1) := by decide +kernel
theorem dX0_run_35 : decode cX0_run 35 = .ok (.istore 4, 2) := by decide +kernel
theorem dX0_run_37 : decode cX0_run 37 = .ok (.iconst 1, 1) := by decide +kernel
theorem dX0_run_38 : decode cX0_run 38 = .ok (.istore 5, 2) := by decide +kernel
theorem dX0_run_40 : decode cX0_run 40 = .ok (.iload 5, 2) := by decide +kernel
theorem dX0_run_42 : decode cX0_run 42 = .ok (.iload_n 1, 1) := by decide +kernel
theorem dX0_run_43 : decode cX0_run 43 = .ok (.if_icmp .gt 44, 3) := by decide +kernel
theorem dX0_run_46 : decode cX0_run 46 = .ok (.aload_n 0, 1) := by decide +kernel
theorem dX0_run_47 : decode cX0_run 47 = .ok (.getfield 65, 3) := by decide +kernel
theorem dX0_run_50 : decode cX0_run 50 = .ok (.ifCond .ne 37, 3) := by decide +kernel
theorem dX0_run_53 : decode cX0_run 53 = .ok (.aload_n 0, 1) := by decide +kernel
theorem dX0_run_54 : decode cX0_run 54 = .ok (.getfield 56, 3) := by decide +kernel
theorem dX0_run_57 : decode cX0_run 57 = .ok (.ifCond .ne 30, 3) := by decide +kernel
theorem dX0_run_60 : decode cX0_run 60 = .ok (.aload_n 0, 1) := by decide +kernel
theorem dX0_run_61 : decode cX0_run 61 = .ok (.dup, 1) := by decide +kernel
theorem dX0_run_62 : decode cX0_run 62 = .ok (.getfield 62, 3) := by decide +kernel
theorem dX0_run_65 : decode cX0_run 65 = .ok (.iconst 1, 1) := by decide +kernel
theorem dX0_run_66 : decode cX0_run 66 = .ok (.iadd, 1) := by decide +kernel
theorem dX0_run_67 : decode cX0_run 67 = .ok (.putfield 62, 3) := by decide +kernel
theorem dX0_run_70 : decode cX0_run 70 = .ok (.iload 5, 2) := by decide +kernel
theorem dX0_run_72 : decode cX0_run 72 = .ok (.istore 4, 2) := by decide +kernel
theorem dX0_run_74 : decode cX0_run 74 = .ok (.aload_n 0, 1) := by decide +kernel
theorem dX0_run_75 : decode cX0_run 75 = .ok (.iconst 0, 1) := by decide +kernel
theorem dX0_run_76 : decode cX0_run 76 = .ok (.iload 5, 2) := by decide +kernel
theorem dX0_run_78 : decode cX0_run 78 = .ok (.invokevirtual 71, 3) := by decide +kernel
theorem dX0_run_81 : decode cX0_run 81 = .ok (.iinc 5 1, 3) := by decide +kernel
theorem dX0_run_84 : decode cX0_run 84 = .ok (.goto (-44), 3) := by decide +kernel
theorem dX0_run_87 : decode cX0_run 87 = .ok (.aload_n 0, 1) := by decide +kernel
theorem dX0_run_88 : decode cX0_run 88 = .ok (.getfield 56, 3) := by decide +kernel
theorem dX0_run_91 : decode cX0_run 91 = .ok (.ifCond .eq 12, 3) := by decide +kernel
theorem dX0_run_94 : decode cX0_run 94 = .ok (.aload_n 0, 1) := by decide +kernel
theorem dX0_run_95 : decode cX0_run 95 = .ok (.bipush (-6), 2) := by decide +kernel
theorem dX0_run_97 : decode cX0_run 97 = .ok (.putfield 35, 3) := by decide +kernel
theorem dX0_run_100 : decode cX0_run 100 = .ok (.goto 21, 3) := by decide +kernel
theorem dX0_run_103 : decode cX0_run 103 = .ok (.aload_n 0, 1) := by decide +kernel
theorem dX0_run_104 : decode cX0_run 104 = .ok (.aload_n 0, 1) := by decide +kernel
theorem dX0_run_105 : decode cX0_run 105 = .ok (.getfield 65, 3) := by decide +kernel
theorem dX0_run_108 : decode cX0_run 108 = .ok (.ifCond .ne 8, 3) := by decide +kernel
theorem dX0_run_111 : decode cX0_run 111 = .ok (.bipush (-5), 2) := by decide +kernel
theorem dX0_run_113 : decode cX0_run 113 = .ok (.goto 5, 3) := by decide +kernel
theorem dX0_run_116 : decode cX0_run 116 = .ok (.iload 4, 2) := by decide +kernel
theorem dX0_run_118 : decode cX0_run 118 = .ok (.putfield 35, 3) := by decide +kernel
theorem dX0_run_121 : decode cX0_run 121 = .ok (.aload_n 0, 1) := by decide +kernel
theorem dX0_run_122 : decode cX0_run 122 = .ok (.getfield 35, 3) := by decide +kernel
theorem dX0_run_125 : decode cX0_run 125 = .ok (.ireturn, 1) := by decide +kernel
theorem dX0_findGiven_0 : decode cX0_findGiven 0 = .ok (.aload_n 0, 1) := by decide +kernel
theorem dX0_findGiven_1 : decode cX0_findGiven 1 = .ok (.getfield 21, 3) := by decide +kernel
theorem dX0_findGiven_4 : decode cX0_findGiven 4 = .ok (.aload_n 0, 1) := by decide +kernel
theorem dX0_findGiven_5 : decode cX0_findGiven 5 = .ok (.getfield 21, 3) := by decide +kernel
theorem dX0_findGiven_8 : decode cX0_findGiven 8 = .ok (.invokevirtual 75, 3) := by decide +kernel
theorem dX0_findGiven_11 : decode cX0_findGiven 11 = .ok (.aload_n 0, 1) := by decide +kernel
theorem dX0_findGiven_12 : decode cX0_findGiven 12 = .ok (.getfield 15, 3) := by decide +kernel
theorem dX0_findGiven_15 : decode cX0_findGiven 15 = .ok (.invokevirtual 79, 3) := by decide +kernel
theorem dX0_findGiven_18 : decode cX0_findGiven 18 = .ok (.istore_n 1, 1) := by decide +kernel
theorem dX0_findGiven_19 : decode cX0_findGiven 19 = .ok (.iload_n 1, 1) := by decide +kernel
theorem dX0_findGiven_20 : decode cX0_findGiven 20 = .ok (.ifCond .lt 16, 3) := by decide +kernel
theorem dX0_findGiven_23 : decode cX0_findGiven 23 = .ok (.aload_n 0, 1) := by decide +kernel
theorem dX0_findGiven_24 : decode cX0_findGiven 24 = .ok (.getfield 32, 3) := by decide +kernel
theorem dX0_findGiven_27 : decode cX0_findGiven 27 = .ok (.iload_n 1, 1) := by decide +kernel
theorem dX0_findGiven_28 : decode cX0_findGiven 28 = .ok (.invokevirtual 83, 3) := by decide +kernel
theorem dX0_findGiven_31 : decode cX0_findGiven 31 = .ok (.aload_n 0, 1) := by decide +kernel
theorem dX0_findGiven_32 : decode cX0_findGiven 32 = .ok (.iconst 1, 1) := by decide +kernel
theorem dX0_findGiven_33 : decode cX0_findGiven 33 = .ok (.putfield 65, 3) := by decide +kernel
theorem dX0_findGiven_36 : decode cX0_findGiven 36 = .ok (.return_, 1) := by decide +kernel
theorem dX0_isOver_0 : decode cX0_isOver 0 = .ok (.aload_n 0, 1) := by decide +kernel
theorem dX0_isOver_1 : decode cX0_isOver 1 = .ok (.getfield 56, 3) := by decide +kernel
theorem dX0_isOver_4 : decode cX0_isOver 4 = .ok (.ifCond .ne 17, 3) := by decide +kernel
theorem dX0_isOver_7 : decode cX0_isOver 7 = .ok (.aload_n 0, 1) := by decide +kernel
theorem dX0_isOver_8 : decode cX0_isOver 8 = .ok (.getfield 65, 3) := by decide +kernel
theorem dX0_isOver_11 : decode cX0_isOver 11 = .ok (.ifCond .le 14, 3) := by decide +kernel
theorem dX0_isOver_14 : decode cX0_isOver 14 = .ok (.aload_n 0, 1) := by decide +kernel
theorem dX0_isOver_15 : decode cX0_isOver 15 = .ok (.getfield 52, 3) := by decide +kernel
theorem dX0_isOver_18 : decode cX0_isOver 18 = .ok (.ifCond .ne 7, 3) := by decide +kernel
theorem dX0_isOver_21 : decode cX0_isOver 21 = .ok (.iconst 1, 1) := by decide +kernel
theorem dX0_isOver_22 : decode cX0_isOver 22 = .ok (.goto 4, 3) := by decide +kernel
theorem dX0_isOver_25 : decode cX0_isOver 25 = .ok (.iconst 0, 1) := by decide +kernel
theorem dX0_isOver_26 : decode cX0_isOver 26 = .ok (.ireturn, 1) := by decide +kernel
theorem dX0_fill_0 : decode cX0_fill 0 = .ok (.iload_n 1, 1) := by decide +kernel
theorem dX0_fill_1 : decode cX0_fill 1 = .ok (.bipush 12, 2) := by decide +kernel
theorem dX0_fill_3 : decode cX0_fill 3 = .ok (.if_icmp .lt 4, 3) := by decide +kernel
theorem dX0_fill_6 : decode cX0_fill 6 = .ok (.return_, 1) := by decide +kernel
theorem dX0_fill_7 : decode cX0_fill 7 = .ok (.iconst 0, 1) := by decide +kernel
theorem dX0_fill_8 : decode cX0_fill 8 = .ok (.istore_n 3, 1) := by decide +kernel
theorem dX0_fill_9 : decode cX0_fill 9 = .ok (.iload_n 3, 1) := by decide +kernel
theorem dX0_fill_10 : decode cX0_fill 10 = .ok (.bipush 13, 2) := by decide +kernel
theorem dX0_fill_12 : decode cX0_fill 12 = .ok (.if_icmp .ge 45, 3) := by decide +kernel
theorem dX0_fill_15 : decode cX0_fill 15 = .ok (.aload_n 0, 1) := by decide +kernel
theorem dX0_fill_16 : decode cX0_fill 16 = .ok (.invokevirtual 87, 3) := by decide +kernel
theorem dX0_fill_19 : decode cX0_fill 19 = .ok (.ifCond .ne 38, 3) := by decide +kernel
theorem dX0_fill_22 : decode cX0_fill 22 = .ok (.aload_n 0, 1) := by decide +kernel
theorem dX0_fill_23 : decode cX0_fill 23 = .ok (.getfield 9, 3) := by decide +kernel
theorem dX0_fill_26 : decode cX0_fill 26 = .ok (.iload_n 3, 1) := by decide +kernel
theorem dX0_fill_27 : decode cX0_fill 27 = .ok (.iaload, 1) := by decide +kernel
theorem dX0_fill_28 : decode cX0_fill 28 = .ok (.istore 4, 2) := by decide +kernel
theorem dX0_fill_30 : decode cX0_fill 30 = .ok (.iload 4, 2) := by decide +kernel
theorem dX0_fill_32 : decode cX0_fill 32 = .ok (.ifCond .le 19, 3) := by decide +kernel
theorem dX0_fill_35 : decode cX0_fill 35 = .ok (.iload 4, 2) := by decide +kernel
theorem dX0_fill_37 : decode cX0_fill 37 = .ok (.iload_n 2, 1) := by decide +kernel
theorem dX0_fill_38 : decode cX0_fill 38 = .ok (.if_icmp .gt 13, 3) := by decide +kernel
theorem dX0_fill_41 : decode cX0_fill 41 = .ok (.aload_n 0, 1) := by decide +kernel
theorem dX0_fill_42 : decode cX0_fill 42 = .ok (.iload_n 3, 1) := by decide +kernel
theorem dX0_fill_43 : decode cX0_fill 43 = .ok (.iload_n 1, 1) := by decide +kernel
theorem dX0_fill_44 : decode cX0_fill 44 = .ok (.iload_n 2, 1) := by decide +kernel
theorem dX0_fill_45 : decode cX0_fill 45 = .ok (.iload 4, 2) := by decide +kernel
theorem dX0_fill_47 : decode cX0_fill 47 = .ok (.isub, 1) := by decide +kernel
theorem dX0_fill_48 : decode cX0_fill 48 = .ok (.invokevirtual 91, 3) := by decide +kernel
theorem dX0_fill_51 : decode cX0_fill 51 = .ok (.iinc 3 1, 3) := by decide +kernel
theorem dX0_fill_54 : decode cX0_fill 54 = .ok (.goto (-45), 3) := by decide +kernel
theorem dX0_fill_57 : decode cX0_fill 57 = .ok (.return_, 1) := by decide +kernel
theorem dX0_fillWith_0 : decode cX0_fillWith 0 = .ok (.aload_n 0, 1) := by decide +kernel
theorem dX0_fillWith_1 : decode cX0_fillWith 1 = .ok (.getfield 21, 3) := by decide +kernel
theorem dX0_fillWith_4 : decode cX0_fillWith 4 = .ok (.invokevirtual 75, 3) := by decide +kernel
theorem dX0_fillWith_7 : decode cX0_fillWith 7 = .ok (.iload_n 2, 1) := by decide +kernel
theorem dX0_fillWith_8 : decode cX0_fillWith 8 = .ok (.iadd, 1) := by decide +kernel
theorem dX0_fillWith_9 : decode cX0_fillWith 9 = .ok (.istore 4, 2) := by decide +kernel
theorem dX0_fillWith_11 : decode cX0_fillWith 11 = .ok (.iload_n 1, 1) := by decide +kernel
theorem dX0_fillWith_12 : decode cX0_fillWith 12 = .ok (.invokestatic 95, 3) := by decide +kernel
theorem dX0_fillWith_15 : decode cX0_fillWith 15 = .ok (.ifCond .eq 7, 3) := by decide +kernel
theorem dX0_fillWith_18 : decode cX0_fillWith 18 = .ok (.iconst 1, 1) := by decide +kernel
theorem dX0_fillWith_19 : decode cX0_fillWith 19 = .ok (.goto 5, 3) := by decide +kernel
theorem dX0_fillWith_22 : decode cX0_fillWith 22 = .ok (.iload 4, 2) := by decide +kernel
theorem dX0_fillWith_24 : decode cX0_fillWith 24 = .ok (.istore 5, 2) := by decide +kernel
theorem dX0_fillWith_26 : decode cX0_fillWith 26 = .ok (.iload_n 1, 1) := by decide +kernel
theorem dX0_fillWith_27 : decode cX0_fillWith 27 = .ok (.invokestatic 99, 3) := by decide +kernel
theorem dX0_fillWith_30 : decode cX0_fillWith 30 = .ok (.istore 6, 2) := by decide +kernel
theorem dX0_fillWith_32 : decode cX0_fillWith 32 = .ok (.iconst 0, 1) := by decide +kernel
theorem dX0_fillWith_33 : decode cX0_fillWith 33 = .ok (.istore 7, 2) := by decide +kernel
theorem dX0_fillWith_35 : decode cX0_fillWith 35 = .ok (.iload 7, 2) := by decide +kernel
theorem dX0_fillWith_37 : decode cX0_fillWith 37 = .ok (.iload 4, 2) := by decide +kernel
theorem dX0_fillWith_39 : decode cX0_fillWith 39 = .ok (.if_icmp .ge 54, 3) := by decide +kernel
theorem dX0_fillWith_42 : decode cX0_fillWith 42 = .ok (.iload 6, 2) := by decide +kernel
theorem dX0_fillWith_44 : decode cX0_fillWith 44 = .ok (.ifCond .eq 8, 3) := by decide +kernel
theorem dX0_fillWith_47 : decode cX0_fillWith 47 = .ok (.iload 7, 2) := by decide +kernel
theorem dX0_fillWith_49 : decode cX0_fillWith 49 = .ok (.goto 4, 3) := by decide +kernel
theorem dX0_fillWith_52 : decode cX0_fillWith 52 = .ok (.iconst 0, 1) := by decide +kernel
theorem dX0_fillWith_53 : decode cX0_fillWith 53 = .ok (.istore 8, 2) := by decide +kernel
theorem dX0_fillWith_55 : decode cX0_fillWith 55 = .ok (.iload 8, 2) := by decide +kernel
theorem dX0_fillWith_57 : decode cX0_fillWith 57 = .ok (.iload 5, 2) := by decide +kernel
theorem dX0_fillWith_59 : decode cX0_fillWith 59 = .ok (.if_icmp .ge 28, 3) := by decide +kernel
theorem dX0_fillWith_62 : decode cX0_fillWith 62 = .ok (.aload_n 0, 1) := by decide +kernel
theorem dX0_fillWith_63 : decode cX0_fillWith 63 = .ok (.invokevirtual 87, 3) := by decide +kernel
theorem dX0_fillWith_66 : decode cX0_fillWith 66 = .ok (.ifCond .eq 4, 3) := by decide +kernel
theorem dX0_fillWith_69 : decode cX0_fillWith 69 = .ok (.return_, 1) := by decide +kernel
theorem dX0_fillWith_70 : decode cX0_fillWith 70 = .ok (.aload_n 0, 1) := by decide +kernel
theorem dX0_fillWith_71 : decode cX0_fillWith 71 = .ok (.iload_n 2, 1) := by decide +kernel
theorem dX0_fillWith_72 : decode cX0_fillWith 72 = .ok (.iload_n 1, 1) := by decide +kernel
theorem dX0_fillWith_73 : decode cX0_fillWith 73 = .ok (.iload 7, 2) := by decide +kernel
theorem dX0_fillWith_75 : decode cX0_fillWith 75 = .ok (.iload 8, 2) := by decide +kernel
theorem dX0_fillWith_77 : decode cX0_fillWith 77 = .ok (.iload_n 3, 1) := by decide +kernel
theorem dX0_fillWith_78 : decode cX0_fillWith 78 = .ok (.invokevirtual 102, 3) := by decide +kernel
theorem dX0_fillWith_81 : decode cX0_fillWith 81 = .ok (.iinc 8 1, 3) := by decide +kernel
theorem dX0_fillWith_84 : decode cX0_fillWith 84 = .ok (.goto (-29), 3) := by decide +kernel
theorem dX0_fillWith_87 : decode cX0_fillWith 87 = .ok (.iinc 7 1, 3) := by decide +kernel
theorem dX0_fillWith_90 : decode cX0_fillWith 90 = .ok (.goto (-55), 3) := by decide +kernel
theorem dX0_fillWith_93 : decode cX0_fillWith 93 = .ok (.return_, 1) := by decide +kernel
theorem dX0_attempt_0 : decode cX0_attempt 0 = .ok (.aload_n 0, 1) := by decide +kernel
theorem dX0_attempt_1 : decode cX0_attempt 1 = .ok (.getfield 59, 3) := by decide +kernel
theorem dX0_attempt_4 : decode cX0_attempt 4 = .ok (.aload_n 0, 1) := by decide +kernel
theorem dX0_attempt_5 : decode cX0_attempt 5 = .ok (.getfield 49, 3) := by decide +kernel
theorem dX0_attempt_8 : decode cX0_attempt 8 = .ok (.if_icmp .lt 9, 3) := by decide +kernel
theorem dX0_attempt_11 : decode cX0_attempt 11 = .ok (.aload_n 0, 1) := by decide +kernel
theorem dX0_attempt_12 : decode cX0_attempt 12 = .ok (.iconst 1, 1) := by decide +kernel
theorem dX0_attempt_13 : decode cX0_attempt 13 = .ok (.putfield 56, 3) := by decide +kernel
theorem dX0_attempt_16 : decode cX0_attempt 16 = .ok (.return_, 1) := by decide +kernel
theorem dX0_attempt_17 : decode cX0_attempt 17 = .ok (.aload_n 0, 1) := by decide +kernel
theorem dX0_attempt_18 : decode cX0_attempt 18 = .ok (.dup, 1) := by decide +kernel
theorem dX0_attempt_19 : decode cX0_attempt 19 = .ok (.getfield 59, 3) := by decide +kernel
theorem dX0_attempt_22 : decode cX0_attempt 22 = .ok (.iconst 1, 1) := by decide +kernel
theorem dX0_attempt_23 : decode cX0_attempt 23 = .ok (.iadd, 1) := by decide +kernel
theorem dX0_attempt_24 : decode cX0_attempt 24 = .ok (.putfield 59, 3) := by decide +kernel
theorem dX0_attempt_27 : decode cX0_attempt 27 = .ok (.aload_n 0, 1) := by decide +kernel
theorem dX0_attempt_28 : decode cX0_attempt 28 = .ok (.getfield 28, 3) := by decide +kernel
theorem dX0_attempt_31 : decode cX0_attempt 31 = .ok (.iload_n 1, 1) := by decide +kernel
theorem dX0_attempt_32 : decode cX0_attempt 32 = .ok (.iload_n 2, 1) := by decide +kernel
theorem dX0_attempt_33 : decode cX0_attempt 33 = .ok (.iload_n 3, 1) := by decide +kernel
theorem dX0_attempt_34 : decode cX0_attempt 34 = .ok (.iload 4, 2) := by decide +kernel
theorem dX0_attempt_36 : decode cX0_attempt 36 = .ok (.invokevirtual 106, 3) := by decide +kernel
theorem dX0_attempt_39 : decode cX0_attempt 39 = .ok (.aload_n 0, 1) := by decide +kernel
theorem dX0_attempt_40 : decode cX0_attempt 40 = .ok (.getfield 21, 3) := by decide +kernel
theorem dX0_attempt_43 : decode cX0_attempt 43 = .ok (.invokevirtual 75, 3) := by decide +kernel
theorem dX0_attempt_46 : decode cX0_attempt 46 = .ok (.iload_n 1, 1) := by decide +kernel
theorem dX0_attempt_47 : decode cX0_attempt 47 = .ok (.iadd, 1) := by decide +kernel
theorem dX0_attempt_48 : decode cX0_attempt 48 = .ok (.istore 6, 2) := by decide +kernel
theorem dX0_attempt_50 : decode cX0_attempt 50 = .ok (.iload 5, 2) := by decide +kernel
theorem dX0_attempt_52 : decode cX0_attempt 52 = .ok (.ifCond .ne 29, 3) := by decide +kernel
theorem dX0_attempt_55 : decode cX0_attempt 55 = .ok (.aload_n 0, 1) := by decide +kernel
theorem dX0_attempt_56 : decode cX0_attempt 56 = .ok (.getfield 21, 3) := by decide +kernel
theorem dX0_attempt_59 : decode cX0_attempt 59 = .ok (.aload_n 0, 1) := by decide +kernel
theorem dX0_attempt_60 : decode cX0_attempt 60 = .ok (.getfield 15, 3) := by decide +kernel
theorem dX0_attempt_63 : decode cX0_attempt 63 = .ok (.iload_n 2, 1) := by decide +kernel
theorem dX0_attempt_64 : decode cX0_attempt 64 = .ok (.iload_n 3, 1) := by decide +kernel
theorem dX0_attempt_65 : decode cX0_attempt 65 = .ok (.iload 4, 2) := by decide +kernel
theorem dX0_attempt_67 : decode cX0_attempt 67 = .ok (.invokevirtual 110, 3) := by decide +kernel
theorem dX0_attempt_70 : decode cX0_attempt 70 = .ok (.ifCond .eq 10, 3) := by decide +kernel
theorem dX0_attempt_73 : decode cX0_attempt 73 = .ok (.aload_n 0, 1) := by decide +kernel
theorem dX0_attempt_74 : decode cX0_attempt 74 = .ok (.iload_n 1, 1) := by decide +kernel
theorem dX0_attempt_75 : decode cX0_attempt 75 = .ok (.iload 6, 2) := by decide +kernel
theorem dX0_attempt_77 : decode cX0_attempt 77 = .ok (.invokevirtual 114, 3) := by decide +kernel
theorem dX0_attempt_80 : decode cX0_attempt 80 = .ok (.return_, 1) := by decide +kernel
theorem dX0_attempt_81 : decode cX0_attempt 81 = .ok (.aload_n 0, 1) := by decide +kernel
theorem dX0_attempt_82 : decode cX0_attempt 82 = .ok (.getfield 21, 3) := by decide +kernel
theorem dX0_attempt_85 : decode cX0_attempt 85 = .ok (.iload 6, 2) := by decide +kernel
theorem dX0_attempt_87 : decode cX0_attempt 87 = .ok (.iload_n 2, 1) := by decide +kernel
theorem dX0_attempt_88 : decode cX0_attempt 88 = .ok (.iload_n 3, 1) := by decide +kernel
theorem dX0_attempt_89 : decode cX0_attempt 89 = .ok (.iload 4, 2) := by decide +kernel
theorem dX0_attempt_91 : decode cX0_attempt 91 = .ok (.invokevirtual 117, 3) := by decide +kernel
theorem dX0_attempt_94 : decode cX0_attempt 94 = .ok (.aload_n 0, 1) := by decide +kernel
theorem dX0_attempt_95 : decode cX0_attempt 95 = .ok (.getfield 21, 3) := by decide +kernel
theorem dX0_attempt_98 : decode cX0_attempt 98 = .ok (.iload 6, 2) := by decide +kernel
theorem dX0_attempt_100 : decode cX0_attempt 100 = .ok (.invokevirtual 120, 3) := by decide +kernel
theorem dX0_attempt_103 : decode cX0_attempt 103 = .ok (.ifCond .ge 12, 3) := by decide +kernel
theorem dX0_attempt_106 : decode cX0_attempt 106 = .ok (.aload_n 0, 1) := by decide +kernel
theorem dX0_attempt_107 : decode cX0_attempt 107 = .ok (.iload_n 1, 1) := by decide +kernel
theorem dX0_attempt_108 : decode cX0_attempt 108 = .ok (.iconst 1, 1) := by decide +kernel
theorem dX0_attempt_109 : decode cX0_attempt 109 = .ok (.iadd, 1) := by decide +kernel
theorem dX0_attempt_110 : decode cX0_attempt 110 = .ok (.iload 5, 2) := by decide +kernel
theorem dX0_attempt_112 : decode cX0_attempt 112 = .ok (.invokevirtual 71, 3) := by decide +kernel
theorem dX0_attempt_115 : decode cX0_attempt 115 = .ok (.return_, 1) := by decide +kernel
theorem dX0_hit_0 : decode cX0_hit 0 = .ok (.aload_n 0, 1) := by decide +kernel
theorem dX0_hit_1 : decode cX0_hit 1 = .ok (.dup, 1) := by decide +kernel
theorem dX0_hit_2 : decode cX0_hit 2 = .ok (.getfield 65, 3) := by decide +kernel
theorem dX0_hit_5 : decode cX0_hit 5 = .ok (.iconst 1, 1) := by decide +kernel
theorem dX0_hit_6 : decode cX0_hit 6 = .ok (.iadd, 1) := by decide +kernel
theorem dX0_hit_7 : decode cX0_hit 7 = .ok (.putfield 65, 3) := by decide +kernel
theorem dX0_hit_10 : decode cX0_hit 10 = .ok (.aload_n 0, 1) := by decide +kernel
theorem dX0_hit_11 : decode cX0_hit 11 = .ok (.getfield 65, 3) := by decide +kernel
theorem dX0_hit_14 : decode cX0_hit 14 = .ok (.iconst 1, 1) := by decide +kernel
theorem dX0_hit_15 : decode cX0_hit 15 = .ok (.if_icmp .ne 32, 3) := by decide +kernel
theorem dX0_hit_18 : decode cX0_hit 18 = .ok (.aload_n 0, 1) := by decide +kernel
theorem dX0_hit_19 : decode cX0_hit 19 = .ok (.getfield 28, 3) := by decide +kernel
theorem dX0_hit_22 : decode cX0_hit 22 = .ok (.iload_n 1, 1) := by decide +kernel
theorem dX0_hit_23 : decode cX0_hit 23 = .ok (.iconst 1, 1) := by decide +kernel
theorem dX0_hit_24 : decode cX0_hit 24 = .ok (.iadd, 1) := by decide +kernel
theorem dX0_hit_25 : decode cX0_hit 25 = .ok (.putfield 124, 3) := by decide +kernel
theorem dX0_hit_28 : decode cX0_hit 28 = .ok (.aload_n 0, 1) := by decide +kernel
theorem dX0_hit_29 : decode cX0_hit 29 = .ok (.getfield 28, 3) := by decide +kernel
theorem dX0_hit_32 : decode cX0_hit 32 = .ok (.iload_n 2, 1) := by decide +kernel
theorem dX0_hit_33 : decode cX0_hit 33 = .ok (.putfield 127, 3) := by decide +kernel
theorem dX0_hit_36 : decode cX0_hit 36 = .ok (.aload_n 0, 1) := by decide +kernel
theorem dX0_hit_37 : decode cX0_hit 37 = .ok (.getfield 32, 3) := by decide +kernel
theorem dX0_hit_40 : decode cX0_hit 40 = .ok (.aload_n 0, 1) := by decide +kernel
theorem dX0_hit_41 : decode cX0_hit 41 = .ok (.getfield 28, 3) := by decide +kernel
theorem dX0_hit_44 : decode cX0_hit 44 = .ok (.invokevirtual 130, 3) := by decide +kernel
theorem dX0_hit_47 : decode cX0_hit 47 = .ok (.return_, 1) := by decide +kernel
theorem dX1_init_0 : decode cX1_init 0 = .ok (.aload_n 0, 1) := by decide +kernel
theorem dX1_init_1 : decode cX1_init 1 = .ok (.invokespecial 3, 3) := by decide +kernel
theorem dX1_init_4 : decode cX1_init 4 = .ok (.aload_n 0, 1) := by decide +kernel
theorem dX1_init_5 : decode cX1_init 5 = .ok (.bipush 12, 2) := by decide +kernel
theorem dX1_init_7 : decode cX1_init 7 = .ok (.newarray .int, 2) := by decide +kernel
theorem dX1_init_9 : decode cX1_init 9 = .ok (.putfield 9, 3) := by decide +kernel
theorem dX1_init_12 : decode cX1_init 12 = .ok (.aload_n 0, 1) := by decide +kernel
theorem dX1_init_13 : decode cX1_init 13 = .ok (.bipush 12, 2) := by decide +kernel
theorem dX1_init_15 : decode cX1_init 15 = .ok (.newarray .int, 2) := by decide +kernel
theorem dX1_init_17 : decode cX1_init 17 = .ok (.putfield 15, 3) := by decide +kernel
theorem dX1_init_20 : decode cX1_init 20 = .ok (.aload_n 0, 1) := by decide +kernel
theorem dX1_init_21 : decode cX1_init 21 = .ok (.bipush 12, 2) := by decide +kernel
theorem dX1_init_23 : decode cX1_init 23 = .ok (.newarray .int, 2) := by decide +kernel
theorem dX1_init_25 : decode cX1_init 25 = .ok (.putfield 18, 3) := by decide +kernel
theorem dX1_init_28 : decode cX1_init 28 = .ok (.return_, 1) := by decide +kernel
theorem dX1_empty_0 : decode cX1_empty 0 = .ok (.aload_n 0, 1) := by decide +kernel
theorem dX1_empty_1 : decode cX1_empty 1 = .ok (.iconst 0, 1) := by decide +kernel
theorem dX1_empty_2 : decode cX1_empty 2 = .ok (.putfield 21, 3) := by decide +kernel
theorem dX1_empty_5 : decode cX1_empty 5 = .ok (.aload_n 0, 1) := by decide +kernel
theorem dX1_empty_6 : decode cX1_empty 6 = .ok (.iload_n 1, 1) := by decide +kernel
theorem dX1_empty_7 : decode cX1_empty 7 = .ok (.putfield 25, 3) := by decide +kernel
theorem dX1_empty_10 : decode cX1_empty 10 = .ok (.return_, 1) := by decide +kernel
theorem dX1_put_0 : decode cX1_put 0 = .ok (.aload_n 0, 1) := by decide +kernel
theorem dX1_put_1 : decode cX1_put 1 = .ok (.getfield 9, 3) := by decide +kernel
theorem dX1_put_4 : decode cX1_put 4 = .ok (.iload_n 1, 1) := by decide +kernel
theorem dX1_put_5 : decode cX1_put 5 = .ok (.iload_n 2, 1) := by decide +kernel
theorem dX1_put_6 : decode cX1_put 6 = .ok (.iastore, 1) := by decide +kernel
theorem dX1_put_7 : decode cX1_put 7 = .ok (.aload_n 0, 1) := by decide +kernel
theorem dX1_put_8 : decode cX1_put 8 = .ok (.getfield 15, 3) := by decide +kernel
theorem dX1_put_11 : decode cX1_put 11 = .ok (.iload_n 1, 1) := by decide +kernel
theorem dX1_put_12 : decode cX1_put 12 = .ok (.iload_n 3, 1) := by decide +kernel
theorem dX1_put_13 : decode cX1_put 13 = .ok (.iastore, 1) := by decide +kernel
theorem dX1_put_14 : decode cX1_put 14 = .ok (.aload_n 0, 1) := by decide +kernel
theorem dX1_put_15 : decode cX1_put 15 = .ok (.getfield 18, 3) := by decide +kernel
theorem dX1_put_18 : decode cX1_put 18 = .ok (.iload_n 1, 1) := by decide +kernel
theorem dX1_put_19 : decode cX1_put 19 = .ok (.iload 4, 2) := by decide +kernel
theorem dX1_put_21 : decode cX1_put 21 = .ok (.iastore, 1) := by decide +kernel
theorem dX1_put_22 : decode cX1_put 22 = .ok (.return_, 1) := by decide +kernel
theorem dX1_copyFrom_0 : decode cX1_copyFrom 0 = .ok (.iconst 0, 1) := by decide +kernel
theorem dX1_copyFrom_1 : decode cX1_copyFrom 1 = .ok (.istore_n 2, 1) := by decide +kernel
theorem dX1_copyFrom_2 : decode cX1_copyFrom 2 = .ok (.iload_n 2, 1) := by decide +kernel
theorem dX1_copyFrom_3 : decode cX1_copyFrom 3 = .ok (.aload_n 1, 1) := by decide +kernel
theorem dX1_copyFrom_4 : decode cX1_copyFrom 4 = .ok (.getfield 21, 3) := by decide +kernel
theorem dX1_copyFrom_7 : decode cX1_copyFrom 7 = .ok (.if_icmp .ge 32, 3) := by decide +kernel
theorem dX1_copyFrom_10 : decode cX1_copyFrom 10 = .ok (.aload_n 0, 1) := by decide +kernel
theorem dX1_copyFrom_11 : decode cX1_copyFrom 11 = .ok (.iload_n 2, 1) := by decide +kernel
theorem dX1_copyFrom_12 : decode cX1_copyFrom 12 = .ok (.aload_n 1, 1) := by decide +kernel
theorem dX1_copyFrom_13 : decode cX1_copyFrom 13 = .ok (.getfield 9, 3) := by decide +kernel
theorem dX1_copyFrom_16 : decode cX1_copyFrom 16 = .ok (.iload_n 2, 1) := by decide +kernel
theorem dX1_copyFrom_17 : decode cX1_copyFrom 17 = .ok (.iaload, 1) := by decide +kernel
theorem dX1_copyFrom_18 : decode cX1_copyFrom 18 = .ok (.aload_n 1, 1) := by decide +kernel
theorem dX1_copyFrom_19 : decode cX1_copyFrom 19 = .ok (.getfield 15, 3) := by decide +kernel
theorem dX1_copyFrom_22 : decode cX1_copyFrom 22 = .ok (.iload_n 2, 1) := by decide +kernel
theorem dX1_copyFrom_23 : decode cX1_copyFrom 23 = .ok (.iaload, 1) := by decide +kernel
theorem dX1_copyFrom_24 : decode cX1_copyFrom 24 = .ok (.aload_n 1, 1) := by decide +kernel
theorem dX1_copyFrom_25 : decode cX1_copyFrom 25 = .ok (.getfield 18, 3) := by decide +kernel
theorem dX1_copyFrom_28 : decode cX1_copyFrom 28 = .ok (.iload_n 2, 1) := by decide +kernel
theorem dX1_copyFrom_29 : decode cX1_copyFrom 29 = .ok (.iaload, 1) := by decide +kernel
theorem dX1_copyFrom_30 : decode cX1_copyFrom 30 = .ok (.invokevirtual 28, 3) := by decide +kernel
theorem dX1_copyFrom_33 : decode cX1_copyFrom 33 = .ok (.iinc 2 1, 3) := by decide +kernel
theorem dX1_copyFrom_36 : decode cX1_copyFrom 36 = .ok (.goto (-34), 3) := by decide +kernel
theorem dX1_copyFrom_39 : decode cX1_copyFrom 39 = .ok (.aload_n 0, 1) := by decide +kernel
theorem dX1_copyFrom_40 : decode cX1_copyFrom 40 = .ok (.aload_n 1, 1) := by decide +kernel
theorem dX1_copyFrom_41 : decode cX1_copyFrom 41 = .ok (.getfield 21, 3) := by decide +kernel
theorem dX1_copyFrom_44 : decode cX1_copyFrom 44 = .ok (.putfield 21, 3) := by decide +kernel
theorem dX1_copyFrom_47 : decode cX1_copyFrom 47 = .ok (.aload_n 0, 1) := by decide +kernel
theorem dX1_copyFrom_48 : decode cX1_copyFrom 48 = .ok (.aload_n 1, 1) := by decide +kernel
theorem dX1_copyFrom_49 : decode cX1_copyFrom 49 = .ok (.getfield 25, 3) := by decide +kernel
theorem dX1_copyFrom_52 : decode cX1_copyFrom 52 = .ok (.putfield 25, 3) := by decide +kernel
theorem dX1_copyFrom_55 : decode cX1_copyFrom 55 = .ok (.return_, 1) := by decide +kernel
theorem dX1_remove_0 : decode cX1_remove 0 = .ok (.iload_n 1, 1) := by decide +kernel
theorem dX1_remove_1 : decode cX1_remove 1 = .ok (.iconst 1, 1) := by decide +kernel
theorem dX1_remove_2 : decode cX1_remove 2 = .ok (.iadd, 1) := by decide +kernel
theorem dX1_remove_3 : decode cX1_remove 3 = .ok (.istore 4, 2) := by decide +kernel
theorem dX1_remove_5 : decode cX1_remove 5 = .ok (.iload 4, 2) := by decide +kernel
theorem dX1_remove_7 : decode cX1_remove 7 = .ok (.aload_n 0, 1) := by decide +kernel
theorem dX1_remove_8 : decode cX1_remove 8 = .ok (.getfield 21, 3) := by decide +kernel
theorem dX1_remove_11 : decode cX1_remove 11 = .ok (.if_icmp .ge 56, 3) := by decide +kernel
theorem dX1_remove_14 : decode cX1_remove 14 = .ok (.aload_n 0, 1) := by decide +kernel
theorem dX1_remove_15 : decode cX1_remove 15 = .ok (.getfield 15, 3) := by decide +kernel
theorem dX1_remove_18 : decode cX1_remove 18 = .ok (.iload 4, 2) := by decide +kernel
theorem dX1_remove_20 : decode cX1_remove 20 = .ok (.iaload, 1) := by decide +kernel
theorem dX1_remove_21 : decode cX1_remove 21 = .ok (.iload_n 2, 1) := by decide +kernel
theorem dX1_remove_22 : decode cX1_remove 22 = .ok (.iload_n 3, 1) := by decide +kernel
theorem dX1_remove_23 : decode cX1_remove 23 = .ok (.invokestatic 32, 3) := by decide +kernel
theorem dX1_remove_26 : decode cX1_remove 26 = .ok (.istore 5, 2) := by decide +kernel
theorem dX1_remove_28 : decode cX1_remove 28 = .ok (.aload_n 0, 1) := by decide +kernel
theorem dX1_remove_29 : decode cX1_remove 29 = .ok (.getfield 18, 3) := by decide +kernel
theorem dX1_remove_32 : decode cX1_remove 32 = .ok (.iload 4, 2) := by decide +kernel
theorem dX1_remove_34 : decode cX1_remove 34 = .ok (.iaload, 1) := by decide +kernel
theorem dX1_remove_35 : decode cX1_remove 35 = .ok (.iload_n 2, 1) := by decide +kernel
theorem dX1_remove_36 : decode cX1_remove 36 = .ok (.iload_n 3, 1) := by decide +kernel
theorem dX1_remove_37 : decode cX1_remove 37 = .ok (.invokestatic 32, 3) := by decide +kernel
theorem dX1_remove_40 : decode cX1_remove 40 = .ok (.istore 6, 2) := by decide +kernel
theorem dX1_remove_42 : decode cX1_remove 42 = .ok (.aload_n 0, 1) := by decide +kernel
theorem dX1_remove_43 : decode cX1_remove 43 = .ok (.iload 4, 2) := by decide +kernel
theorem dX1_remove_45 : decode cX1_remove 45 = .ok (.iconst 1, 1) := by decide +kernel
theorem dX1_remove_46 : decode cX1_remove 46 = .ok (.isub, 1) := by decide +kernel
theorem dX1_remove_47 : decode cX1_remove 47 = .ok (.aload_n 0, 1) := by decide +kernel
theorem dX1_remove_48 : decode cX1_remove 48 = .ok (.getfield 9, 3) := by decide +kernel
theorem dX1_remove_51 : decode cX1_remove 51 = .ok (.iload 4, 2) := by decide +kernel
theorem dX1_remove_53 : decode cX1_remove 53 = .ok (.iaload, 1) := by decide +kernel
theorem dX1_remove_54 : decode cX1_remove 54 = .ok (.iload 5, 2) := by decide +kernel
theorem dX1_remove_56 : decode cX1_remove 56 = .ok (.iload 6, 2) := by decide +kernel
theorem dX1_remove_58 : decode cX1_remove 58 = .ok (.invokevirtual 28, 3) := by decide +kernel
theorem dX1_remove_61 : decode cX1_remove 61 = .ok (.iinc 4 1, 3) := by decide +kernel
theorem dX1_remove_64 : decode cX1_remove 64 = .ok (.goto (-59), 3) := by decide +kernel
theorem dX1_remove_67 : decode cX1_remove 67 = .ok (.aload_n 0, 1) := by decide +kernel
theorem dX1_remove_68 : decode cX1_remove 68 = .ok (.dup, 1) := by decide +kernel
theorem dX1_remove_69 : decode cX1_remove 69 = .ok (.getfield 21, 3) := by decide +kernel
theorem dX1_remove_72 : decode cX1_remove 72 = .ok (.iconst 1, 1) := by decide +kernel
theorem dX1_remove_73 : decode cX1_remove 73 = .ok (.isub, 1) := by decide +kernel
theorem dX1_remove_74 : decode cX1_remove 74 = .ok (.putfield 21, 3) := by decide +kernel
theorem dX1_remove_77 : decode cX1_remove 77 = .ok (.aload_n 0, 1) := by decide +kernel
theorem dX1_remove_78 : decode cX1_remove 78 = .ok (.aload_n 0, 1) := by decide +kernel
theorem dX1_remove_79 : decode cX1_remove 79 = .ok (.getfield 25, 3) := by decide +kernel
theorem dX1_remove_82 : decode cX1_remove 82 = .ok (.iload_n 2, 1) := by decide +kernel
theorem dX1_remove_83 : decode cX1_remove 83 = .ok (.iload_n 3, 1) := by decide +kernel
theorem dX1_remove_84 : decode cX1_remove 84 = .ok (.invokestatic 32, 3) := by decide +kernel
theorem dX1_remove_87 : decode cX1_remove 87 = .ok (.putfield 25, 3) := by decide +kernel
theorem dX1_remove_90 : decode cX1_remove 90 = .ok (.return_, 1) := by decide +kernel
theorem dX1_renumbered_0 : decode cX1_renumbered 0 = .ok (.iload_n 0, 1) := by decide +kernel
theorem dX1_renumbered_1 : decode cX1_renumbered 1 = .ok (.iload_n 1, 1) := by decide +kernel
theorem dX1_renumbered_2 : decode cX1_renumbered 2 = .ok (.if_icmp .ne 5, 3) := by decide +kernel
theorem dX1_renumbered_5 : decode cX1_renumbered 5 = .ok (.iload_n 2, 1) := by decide +kernel
theorem dX1_renumbered_6 : decode cX1_renumbered 6 = .ok (.ireturn, 1) := by decide +kernel
theorem dX1_renumbered_7 : decode cX1_renumbered 7 = .ok (.iload_n 0, 1) := by decide +kernel
theorem dX1_renumbered_8 : decode cX1_renumbered 8 = .ok (.iload_n 1, 1) := by decide +kernel
theorem dX1_renumbered_9 : decode cX1_renumbered 9 = .ok (.if_icmp .le 9, 3) := by decide +kernel
theorem dX1_renumbered_12 : decode cX1_renumbered 12 = .ok (.iload_n 0, 1) := by decide +kernel
theorem dX1_renumbered_13 : decode cX1_renumbered 13 = .ok (.iconst 1, 1) := by decide +kernel
theorem dX1_renumbered_14 : decode cX1_renumbered 14 = .ok (.isub, 1) := by decide +kernel
theorem dX1_renumbered_15 : decode cX1_renumbered 15 = .ok (.goto 4, 3) := by decide +kernel
theorem dX1_renumbered_18 : decode cX1_renumbered 18 = .ok (.iload_n 0, 1) := by decide +kernel
theorem dX1_renumbered_19 : decode cX1_renumbered 19 = .ok (.ireturn, 1) := by decide +kernel
theorem dX2_init_0 : decode cX2_init 0 = .ok (.aload_n 0, 1) := by decide +kernel
theorem dX2_init_1 : decode cX2_init 1 = .ok (.invokespecial 3, 3) := by decide +kernel
theorem dX2_init_4 : decode cX2_init 4 = .ok (.aload_n 0, 1) := by decide +kernel
theorem dX2_init_5 : decode cX2_init 5 = .ok (.bipush 18, 2) := by decide +kernel
theorem dX2_init_7 : decode cX2_init 7 = .ok (.sipush 256, 3) := by decide +kernel
theorem dX2_init_10 : decode cX2_init 10 = .ok (.multianewarray 9 2, 4) := by decide +kernel
theorem dX2_init_14 : decode cX2_init 14 = .ok (.putfield 11, 3) := by decide +kernel
theorem dX2_init_17 : decode cX2_init 17 = .ok (.aload_n 0, 1) := by decide +kernel
theorem dX2_init_18 : decode cX2_init 18 = .ok (.iconst 1, 1) := by decide +kernel
theorem dX2_init_19 : decode cX2_init 19 = .ok (.putfield 16, 3) := by decide +kernel
theorem dX2_init_22 : decode cX2_init 22 = .ok (.aload_n 0, 1) := by decide +kernel
theorem dX2_init_23 : decode cX2_init 23 = .ok (.iconst 1, 1) := by decide +kernel
theorem dX2_init_24 : decode cX2_init 24 = .ok (.putfield 20, 3) := by decide +kernel
theorem dX2_init_27 : decode cX2_init 27 = .ok (.aload_n 0, 1) := by decide +kernel
theorem dX2_init_28 : decode cX2_init 28 = .ok (.iconst 1, 1) := by decide +kernel
theorem dX2_init_29 : decode cX2_init 29 = .ok (.putfield 23, 3) := by decide +kernel
theorem dX2_init_32 : decode cX2_init 32 = .ok (.aload_n 0, 1) := by decide +kernel
theorem dX2_init_33 : decode cX2_init 33 = .ok (.iconst 2, 1) := by decide +kernel
theorem dX2_init_34 : decode cX2_init 34 = .ok (.putfield 26, 3) := by decide +kernel
theorem dX2_init_37 : decode cX2_init 37 = .ok (.return_, 1) := by decide +kernel
theorem dX2_setInputs_0 : decode cX2_setInputs 0 = .ok (.aload_n 0, 1) := by decide +kernel
theorem dX2_setInputs_1 : decode cX2_setInputs 1 = .ok (.iload_n 1, 1) := by decide +kernel
theorem dX2_setInputs_2 : decode cX2_setInputs 2 = .ok (.putfield 16, 3) := by decide +kernel
theorem dX2_setInputs_5 : decode cX2_setInputs 5 = .ok (.aload_n 0, 1) := by decide +kernel
theorem dX2_setInputs_6 : decode cX2_setInputs 6 = .ok (.iconst 1, 1) := by decide +kernel
theorem dX2_setInputs_7 : decode cX2_setInputs 7 = .ok (.iload_n 1, 1) := by decide +kernel
theorem dX2_setInputs_8 : decode cX2_setInputs 8 = .ok (.ishl, 1) := by decide +kernel
theorem dX2_setInputs_9 : decode cX2_setInputs 9 = .ok (.iconst 1, 1) := by decide +kernel
theorem dX2_setInputs_10 : decode cX2_setInputs 10 = .ok (.isub, 1) := by decide +kernel
theorem dX2_setInputs_11 : decode cX2_setInputs 11 = .ok (.putfield 20, 3) := by decide +kernel
theorem dX2_setInputs_14 : decode cX2_setInputs 14 = .ok (.aload_n 0, 1) := by decide +kernel
theorem dX2_setInputs_15 : decode cX2_setInputs 15 = .ok (.iload_n 2, 1) := by decide +kernel
theorem dX2_setInputs_16 : decode cX2_setInputs 16 = .ok (.putfield 23, 3) := by decide +kernel
theorem dX2_setInputs_19 : decode cX2_setInputs 19 = .ok (.aload_n 0, 1) := by decide +kernel
theorem dX2_setInputs_20 : decode cX2_setInputs 20 = .ok (.iconst 0, 1) := by decide +kernel
theorem dX2_setInputs_21 : decode cX2_setInputs 21 = .ok (.putfield 29, 3) := by decide +kernel
theorem dX2_setInputs_24 : decode cX2_setInputs 24 = .ok (.aload_n 0, 1) := by decide +kernel
theorem dX2_setInputs_25 : decode cX2_setInputs 25 = .ok (.iconst 1, 1) := by decide +kernel
theorem dX2_setInputs_26 : decode cX2_setInputs 26 = .ok (.iload_n 1, 1) := by decide +kernel
theorem dX2_setInputs_27 : decode cX2_setInputs 27 = .ok (.iload_n 2, 1) := by decide +kernel
theorem dX2_setInputs_28 : decode cX2_setInputs 28 = .ok (.imul, 1) := by decide +kernel
theorem dX2_setInputs_29 : decode cX2_setInputs 29 = .ok (.ishl, 1) := by decide +kernel
theorem dX2_setInputs_30 : decode cX2_setInputs 30 = .ok (.putfield 26, 3) := by decide +kernel
theorem dX2_setInputs_33 : decode cX2_setInputs 33 = .ok (.iconst 0, 1) := by decide +kernel
theorem dX2_setInputs_34 : decode cX2_setInputs 34 = .ok (.istore_n 3, 1) := by decide +kernel
theorem dX2_setInputs_35 : decode cX2_setInputs 35 = .ok (.iload_n 3, 1) := by decide +kernel
theorem dX2_setInputs_36 : decode cX2_setInputs 36 = .ok (.iload_n 2, 1) := by decide +kernel
theorem dX2_setInputs_37 : decode cX2_setInputs 37 = .ok (.if_icmp .ge 47, 3) := by decide +kernel
theorem dX2_setInputs_40 : decode cX2_setInputs 40 = .ok (.iconst 0, 1) := by decide +kernel
theorem dX2_setInputs_41 : decode cX2_setInputs 41 = .ok (.istore 4, 2) := by decide +kernel
theorem dX2_setInputs_43 : decode cX2_setInputs 43 = .ok (.iload 4, 2) := by decide +kernel
theorem dX2_setInputs_45 : decode cX2_setInputs 45 = .ok (.aload_n 0, 1) := by decide +kernel
theorem dX2_setInputs_46 : decode cX2_setInputs 46 = .ok (.getfield 26, 3) := by decide +kernel
theorem dX2_setInputs_49 : decode cX2_setInputs 49 = .ok (.if_icmp .ge 29, 3) := by decide +kernel
theorem dX2_setInputs_52 : decode cX2_setInputs 52 = .ok (.aload_n 0, 1) := by decide +kernel
theorem dX2_setInputs_53 : decode cX2_setInputs 53 = .ok (.getfield 11, 3) := by decide +kernel
theorem dX2_setInputs_56 : decode cX2_setInputs 56 = .ok (.iload_n 3, 1) := by decide +kernel
theorem dX2_setInputs_57 : decode cX2_setInputs 57 = .ok (.aaload, 1) := by decide +kernel
theorem dX2_setInputs_58 : decode cX2_setInputs 58 = .ok (.iload 4, 2) := by decide +kernel
theorem dX2_setInputs_60 : decode cX2_setInputs 60 = .ok (.iload 4, 2) := by decide +kernel
theorem dX2_setInputs_62 : decode cX2_setInputs 62 = .ok (.iload_n 1, 1) := by decide +kernel
theorem dX2_setInputs_63 : decode cX2_setInputs 63 = .ok (.iload_n 3, 1) := by decide +kernel
theorem dX2_setInputs_64 : decode cX2_setInputs 64 = .ok (.imul, 1) := by decide +kernel
theorem dX2_setInputs_65 : decode cX2_setInputs 65 = .ok (.ishr, 1) := by decide +kernel
theorem dX2_setInputs_66 : decode cX2_setInputs 66 = .ok (.aload_n 0, 1) := by decide +kernel
theorem dX2_setInputs_67 : decode cX2_setInputs 67 = .ok (.getfield 20, 3) := by decide +kernel
theorem dX2_setInputs_70 : decode cX2_setInputs 70 = .ok (.iand, 1) := by decide +kernel
theorem dX2_setInputs_71 : decode cX2_setInputs 71 = .ok (.iastore, 1) := by decide +kernel
theorem dX2_setInputs_72 : decode cX2_setInputs 72 = .ok (.iinc 4 1, 3) := by decide +kernel
theorem dX2_setInputs_75 : decode cX2_setInputs 75 = .ok (.goto (-32), 3) := by decide +kernel
theorem dX2_setInputs_78 : decode cX2_setInputs 78 = .ok (.iinc 3 1, 3) := by decide +kernel
theorem dX2_setInputs_81 : decode cX2_setInputs 81 = .ok (.goto (-46), 3) := by decide +kernel
theorem dX2_setInputs_84 : decode cX2_setInputs 84 = .ok (.return_, 1) := by decide +kernel
theorem dX2_appendConstant_0 : decode cX2_appendConstant 0 = .ok (.aload_n 0, 1) := by decide +kernel
theorem dX2_appendConstant_1 : decode cX2_appendConstant 1 = .ok (.getfield 11, 3) := by decide +kernel
theorem dX2_appendConstant_4 : decode cX2_appendConstant 4 = .ok (.aload_n 0, 1) := by decide +kernel
theorem dX2_appendConstant_5 : decode cX2_appendConstant 5 = .ok (.invokevirtual 32, 3) := by decide +kernel
theorem dX2_appendConstant_8 : decode cX2_appendConstant 8 = .ok (.aaload, 1) := by decide +kernel
theorem dX2_appendConstant_9 : decode cX2_appendConstant 9 = .ok (.astore_n 2, 1) := by decide +kernel
theorem dX2_appendConstant_10 : decode cX2_appendConstant 10 = .ok (.iconst 0, 1) := by decide +kernel
theorem dX2_appendConstant_11 : decode cX2_appendConstant 11 = .ok (.istore_n 3, 1) := by decide +kernel
theorem dX2_appendConstant_12 : decode cX2_appendConstant 12 = .ok (.iload_n 3, 1) := by decide +kernel
theorem dX2_appendConstant_13 : decode cX2_appendConstant 13 = .ok (.aload_n 0, 1) := by decide +kernel
theorem dX2_appendConstant_14 : decode cX2_appendConstant 14 = .ok (.getfield 26, 3) := by decide +kernel
theorem dX2_appendConstant_17 : decode cX2_appendConstant 17 = .ok (.if_icmp .ge 13, 3) := by decide +kernel
theorem dX2_appendConstant_20 : decode cX2_appendConstant 20 = .ok (.aload_n 2, 1) := by decide +kernel
theorem dX2_appendConstant_21 : decode cX2_appendConstant 21 = .ok (.iload_n 3, 1) := by decide +kernel
theorem dX2_appendConstant_22 : decode cX2_appendConstant 22 = .ok (.iload_n 1, 1) := by decide +kernel
theorem dX2_appendConstant_23 : decode cX2_appendConstant 23 = .ok (.iastore, 1) := by decide +kernel
theorem dX2_appendConstant_24 : decode cX2_appendConstant 24 = .ok (.iinc 3 1, 3) := by decide +kernel
theorem dX2_appendConstant_27 : decode cX2_appendConstant 27 = .ok (.goto (-15), 3) := by decide +kernel
theorem dX2_appendConstant_30 : decode cX2_appendConstant 30 = .ok (.aload_n 0, 1) := by decide +kernel
theorem dX2_appendConstant_31 : decode cX2_appendConstant 31 = .ok (.dup, 1) := by decide +kernel
theorem dX2_appendConstant_32 : decode cX2_appendConstant 32 = .ok (.getfield 29, 3) := by decide +kernel
theorem dX2_appendConstant_35 : decode cX2_appendConstant 35 = .ok (.iconst 1, 1) := by decide +kernel
theorem dX2_appendConstant_36 : decode cX2_appendConstant 36 = .ok (.iadd, 1) := by decide +kernel
theorem dX2_appendConstant_37 : decode cX2_appendConstant 37 = .ok (.putfield 29, 3) := by decide +kernel
theorem dX2_appendConstant_40 : decode cX2_appendConstant 40 = .ok (.return_, 1) := by decide +kernel
theorem dX2_copyGiven_0 : decode cX2_copyGiven 0 = .ok (.aload_n 0, 1) := by decide +kernel
theorem dX2_copyGiven_1 : decode cX2_copyGiven 1 = .ok (.aload_n 1, 1) := by decide +kernel
theorem dX2_copyGiven_2 : decode cX2_copyGiven 2 = .ok (.getfield 16, 3) := by decide +kernel
theorem dX2_copyGiven_5 : decode cX2_copyGiven 5 = .ok (.putfield 16, 3) := by decide +kernel
theorem dX2_copyGiven_8 : decode cX2_copyGiven 8 = .ok (.aload_n 0, 1) := by decide +kernel
theorem dX2_copyGiven_9 : decode cX2_copyGiven 9 = .ok (.aload_n 1, 1) := by decide +kernel
theorem dX2_copyGiven_10 : decode cX2_copyGiven 10 = .ok (.getfield 20, 3) := by decide +kernel
theorem dX2_copyGiven_13 : decode cX2_copyGiven 13 = .ok (.putfield 20, 3) := by decide +kernel
theorem dX2_copyGiven_16 : decode cX2_copyGiven 16 = .ok (.aload_n 0, 1) := by decide +kernel
theorem dX2_copyGiven_17 : decode cX2_copyGiven 17 = .ok (.aload_n 1, 1) := by decide +kernel
theorem dX2_copyGiven_18 : decode cX2_copyGiven 18 = .ok (.getfield 23, 3) := by decide +kernel
theorem dX2_copyGiven_21 : decode cX2_copyGiven 21 = .ok (.putfield 23, 3) := by decide +kernel
theorem dX2_copyGiven_24 : decode cX2_copyGiven 24 = .ok (.aload_n 0, 1) := by decide +kernel
theorem dX2_copyGiven_25 : decode cX2_copyGiven 25 = .ok (.aload_n 1, 1) := by decide +kernel
theorem dX2_copyGiven_26 : decode cX2_copyGiven 26 = .ok (.getfield 29, 3) := by decide +kernel
theorem dX2_copyGiven_29 : decode cX2_copyGiven 29 = .ok (.putfield 29, 3) := by decide +kernel
theorem dX2_copyGiven_32 : decode cX2_copyGiven 32 = .ok (.aload_n 0, 1) := by decide +kernel
theorem dX2_copyGiven_33 : decode cX2_copyGiven 33 = .ok (.aload_n 1, 1) := by decide +kernel
theorem dX2_copyGiven_34 : decode cX2_copyGiven 34 = .ok (.getfield 26, 3) := by decide +kernel
theorem dX2_copyGiven_37 : decode cX2_copyGiven 37 = .ok (.putfield 26, 3) := by decide +kernel
theorem dX2_copyGiven_40 : decode cX2_copyGiven 40 = .ok (.iconst 0, 1) := by decide +kernel
theorem dX2_copyGiven_41 : decode cX2_copyGiven 41 = .ok (.istore_n 2, 1) := by decide +kernel
theorem dX2_copyGiven_42 : decode cX2_copyGiven 42 = .ok (.iload_n 2, 1) := by decide +kernel
theorem dX2_copyGiven_43 : decode cX2_copyGiven 43 = .ok (.aload_n 0, 1) := by decide +kernel
theorem dX2_copyGiven_44 : decode cX2_copyGiven 44 = .ok (.invokevirtual 32, 3) := by decide +kernel
theorem dX2_copyGiven_47 : decode cX2_copyGiven 47 = .ok (.if_icmp .ge 30, 3) := by decide +kernel
theorem dX2_copyGiven_50 : decode cX2_copyGiven 50 = .ok (.aload_n 1, 1) := by decide +kernel
theorem dX2_copyGiven_51 : decode cX2_copyGiven 51 = .ok (.getfield 11, 3) := by decide +kernel
theorem dX2_copyGiven_54 : decode cX2_copyGiven 54 = .ok (.iload_n 2, 1) := by decide +kernel
theorem dX2_copyGiven_55 : decode cX2_copyGiven 55 = .ok (.aaload, 1) := by decide +kernel
theorem dX2_copyGiven_56 : decode cX2_copyGiven 56 = .ok (.iconst 0, 1) := by decide +kernel
theorem dX2_copyGiven_57 : decode cX2_copyGiven 57 = .ok (.aload_n 0, 1) := by decide +kernel
theorem dX2_copyGiven_58 : decode cX2_copyGiven 58 = .ok (.getfield 11, 3) := by decide +kernel
theorem dX2_copyGiven_61 : decode cX2_copyGiven 61 = .ok (.iload_n 2, 1) := by decide +kernel
theorem dX2_copyGiven_62 : decode cX2_copyGiven 62 = .ok (.aaload, 1) := by decide +kernel
theorem dX2_copyGiven_63 : decode cX2_copyGiven 63 = .ok (.iconst 0, 1) := by decide +kernel
theorem dX2_copyGiven_64 : decode cX2_copyGiven 64 = .ok (.aload_n 0, 1) := by decide +kernel
theorem dX2_copyGiven_65 : decode cX2_copyGiven 65 = .ok (.getfield 26, 3) := by decide +kernel
theorem dX2_copyGiven_68 : decode cX2_copyGiven 68 = .ok (.invokestatic 36, 3) := by decide +kernel
theorem dX2_copyGiven_71 : decode cX2_copyGiven 71 = .ok (.iinc 2 1, 3) := by decide +kernel
theorem dX2_copyGiven_74 : decode cX2_copyGiven 74 = .ok (.goto (-32), 3) := by decide +kernel
theorem dX2_copyGiven_77 : decode cX2_copyGiven 77 = .ok (.return_, 1) := by decide +kernel
theorem dX2_given_0 : decode cX2_given 0 = .ok (.aload_n 0, 1) := by decide +kernel
theorem dX2_given_1 : decode cX2_given 1 = .ok (.getfield 23, 3) := by decide +kernel
theorem dX2_given_4 : decode cX2_given 4 = .ok (.aload_n 0, 1) := by decide +kernel
theorem dX2_given_5 : decode cX2_given 5 = .ok (.getfield 29, 3) := by decide +kernel
theorem dX2_given_8 : decode cX2_given 8 = .ok (.iadd, 1) := by decide +kernel
theorem dX2_given_9 : decode cX2_given 9 = .ok (.ireturn, 1) := by decide +kernel
theorem dX2_isWord_0 : decode cX2_isWord 0 = .ok (.iload_n 1, 1) := by decide +kernel
theorem dX2_isWord_1 : decode cX2_isWord 1 = .ok (.ifCond .lt 15, 3) := by decide +kernel
theorem dX2_isWord_4 : decode cX2_isWord 4 = .ok (.iload_n 1, 1) := by decide +kernel
theorem dX2_isWord_5 : decode cX2_isWord 5 = .ok (.aload_n 0, 1) := by decide +kernel
theorem dX2_isWord_6 : decode cX2_isWord 6 = .ok (.getfield 20, 3) := by decide +kernel
theorem dX2_isWord_9 : decode cX2_isWord 9 = .ok (.if_icmp .gt 7, 3) := by decide +kernel
theorem dX2_isWord_12 : decode cX2_isWord 12 = .ok (.iconst 1, 1) := by decide +kernel
theorem dX2_isWord_13 : decode cX2_isWord 13 = .ok (.goto 4, 3) := by decide +kernel
theorem dX2_isWord_16 : decode cX2_isWord 16 = .ok (.iconst 0, 1) := by decide +kernel
theorem dX2_isWord_17 : decode cX2_isWord 17 = .ok (.ireturn, 1) := by decide +kernel
theorem dX2_isAssignment_0 : decode cX2_isAssignment 0 = .ok (.iload_n 1, 1) := by decide +kernel
theorem dX2_isAssignment_1 : decode cX2_isAssignment 1 = .ok (.ifCond .lt 15, 3) := by decide +kernel
theorem dX2_isAssignment_4 : decode cX2_isAssignment 4 = .ok (.iload_n 1, 1) := by decide +kernel
theorem dX2_isAssignment_5 : decode cX2_isAssignment 5 = .ok (.aload_n 0, 1) := by decide +kernel
theorem dX2_isAssignment_6 : decode cX2_isAssignment 6 = .ok (.getfield 26, 3) := by decide +kernel
theorem dX2_isAssignment_9 : decode cX2_isAssignment 9 = .ok (.if_icmp .ge 7, 3) := by decide +kernel
theorem dX2_isAssignment_12 : decode cX2_isAssignment 12 = .ok (.iconst 1, 1) := by decide +kernel
theorem dX2_isAssignment_13 : decode cX2_isAssignment 13 = .ok (.goto 4, 3) := by decide +kernel
theorem dX2_isAssignment_16 : decode cX2_isAssignment 16 = .ok (.iconst 0, 1) := by decide +kernel
theorem dX2_isAssignment_17 : decode cX2_isAssignment 17 = .ok (.ireturn, 1) := by decide +kernel
theorem dX2_make_0 : decode cX2_make 0 = .ok (.aload_n 0, 1) := by decide +kernel
theorem dX2_make_1 : decode cX2_make 1 = .ok (.getfield 11, 3) := by decide +kernel
theorem dX2_make_4 : decode cX2_make 4 = .ok (.iload_n 3, 1) := by decide +kernel
theorem dX2_make_5 : decode cX2_make 5 = .ok (.aaload, 1) := by decide +kernel
theorem dX2_make_6 : decode cX2_make 6 = .ok (.astore 5, 2) := by decide +kernel
theorem dX2_make_8 : decode cX2_make 8 = .ok (.aload_n 0, 1) := by decide +kernel
theorem dX2_make_9 : decode cX2_make 9 = .ok (.getfield 11, 3) := by decide +kernel
theorem dX2_make_12 : decode cX2_make 12 = .ok (.iload 4, 2) := by decide +kernel
theorem dX2_make_14 : decode cX2_make 14 = .ok (.aaload, 1) := by decide +kernel
theorem dX2_make_15 : decode cX2_make 15 = .ok (.astore 6, 2) := by decide +kernel
theorem dX2_make_17 : decode cX2_make 17 = .ok (.aload_n 0, 1) := by decide +kernel
theorem dX2_make_18 : decode cX2_make 18 = .ok (.getfield 11, 3) := by decide +kernel
theorem dX2_make_21 : decode cX2_make 21 = .ok (.iload_n 1, 1) := by decide +kernel
theorem dX2_make_22 : decode cX2_make 22 = .ok (.aaload, 1) := by decide +kernel
theorem dX2_make_23 : decode cX2_make 23 = .ok (.astore 7, 2) := by decide +kernel
theorem dX2_make_25 : decode cX2_make 25 = .ok (.iconst 0, 1) := by decide +kernel
theorem dX2_make_26 : decode cX2_make 26 = .ok (.istore 8, 2) := by decide +kernel
theorem dX2_make_28 : decode cX2_make 28 = .ok (.iload 8, 2) := by decide +kernel
theorem dX2_make_30 : decode cX2_make 30 = .ok (.aload_n 0, 1) := by decide +kernel
theorem dX2_make_31 : decode cX2_make 31 = .ok (.getfield 26, 3) := by decide +kernel
theorem dX2_make_34 : decode cX2_make 34 = .ok (.if_icmp .ge 29, 3) := by decide +kernel
theorem dX2_make_37 : decode cX2_make 37 = .ok (.aload 7, 2) := by decide +kernel
theorem dX2_make_39 : decode cX2_make 39 = .ok (.iload 8, 2) := by decide +kernel
theorem dX2_make_41 : decode cX2_make 41 = .ok (.aload_n 0, 1) := by decide +kernel
theorem dX2_make_42 : decode cX2_make 42 = .ok (.iload_n 2, 1) := by decide +kernel
theorem dX2_make_43 : decode cX2_make 43 = .ok (.aload 5, 2) := by decide +kernel
theorem dX2_make_45 : decode cX2_make 45 = .ok (.iload 8, 2) := by decide +kernel
theorem dX2_make_47 : decode cX2_make 47 = .ok (.iaload, 1) := by decide +kernel
theorem dX2_make_48 : decode cX2_make 48 = .ok (.aload 6, 2) := by decide +kernel
theorem dX2_make_50 : decode cX2_make 50 = .ok (.iload 8, 2) := by decide +kernel
theorem dX2_make_52 : decode cX2_make 52 = .ok (.iaload, 1) := by decide +kernel
theorem dX2_make_53 : decode cX2_make 53 = .ok (.invokevirtual 42, 3) := by decide +kernel
theorem dX2_make_56 : decode cX2_make 56 = .ok (.iastore, 1) := by decide +kernel
theorem dX2_make_57 : decode cX2_make 57 = .ok (.iinc 8 1, 3) := by decide +kernel
theorem dX2_make_60 : decode cX2_make 60 = .ok (.goto (-32), 3) := by decide +kernel
theorem dX2_make_63 : decode cX2_make 63 = .ok (.return_, 1) := by decide +kernel
theorem dX2_makes_0 : decode cX2_makes 0 = .ok (.aload_n 0, 1) := by decide +kernel
theorem dX2_makes_1 : decode cX2_makes 1 = .ok (.getfield 11, 3) := by decide +kernel
theorem dX2_makes_4 : decode cX2_makes 4 = .ok (.iload_n 3, 1) := by decide +kernel
theorem dX2_makes_5 : decode cX2_makes 5 = .ok (.aaload, 1) := by decide +kernel
theorem dX2_makes_6 : decode cX2_makes 6 = .ok (.astore 5, 2) := by decide +kernel
theorem dX2_makes_8 : decode cX2_makes 8 = .ok (.aload_n 0, 1) := by decide +kernel
theorem dX2_makes_9 : decode cX2_makes 9 = .ok (.getfield 11, 3) := by decide +kernel
theorem dX2_makes_12 : decode cX2_makes 12 = .ok (.iload 4, 2) := by decide +kernel
theorem dX2_makes_14 : decode cX2_makes 14 = .ok (.aaload, 1) := by decide +kernel
theorem dX2_makes_15 : decode cX2_makes 15 = .ok (.astore 6, 2) := by decide +kernel
theorem dX2_makes_17 : decode cX2_makes 17 = .ok (.iconst 0, 1) := by decide +kernel
theorem dX2_makes_18 : decode cX2_makes 18 = .ok (.istore 7, 2) := by decide +kernel
theorem dX2_makes_20 : decode cX2_makes 20 = .ok (.iload 7, 2) := by decide +kernel
theorem dX2_makes_22 : decode cX2_makes 22 = .ok (.aload_n 0, 1) := by decide +kernel
theorem dX2_makes_23 : decode cX2_makes 23 = .ok (.getfield 26, 3) := by decide +kernel
theorem dX2_makes_26 : decode cX2_makes 26 = .ok (.if_icmp .ge 33, 3) := by decide +kernel
theorem dX2_makes_29 : decode cX2_makes 29 = .ok (.aload_n 0, 1) := by decide +kernel
theorem dX2_makes_30 : decode cX2_makes 30 = .ok (.iload_n 2, 1) := by decide +kernel
theorem dX2_makes_31 : decode cX2_makes 31 = .ok (.aload 5, 2) := by decide +kernel
theorem dX2_makes_33 : decode cX2_makes 33 = .ok (.iload 7, 2) := by decide +kernel
theorem dX2_makes_35 : decode cX2_makes 35 = .ok (.iaload, 1) := by decide +kernel
theorem dX2_makes_36 : decode cX2_makes 36 = .ok (.aload 6, 2) := by decide +kernel
theorem dX2_makes_38 : decode cX2_makes 38 = .ok (.iload 7, 2) := by decide +kernel
theorem dX2_makes_40 : decode cX2_makes 40 = .ok (.iaload, 1) := by decide +kernel
theorem dX2_makes_41 : decode cX2_makes 41 = .ok (.invokevirtual 42, 3) := by decide +kernel
theorem dX2_makes_44 : decode cX2_makes 44 = .ok (.aload_n 1, 1) := by decide +kernel
theorem dX2_makes_45 : decode cX2_makes 45 = .ok (.iload 7, 2) := by decide +kernel
theorem dX2_makes_47 : decode cX2_makes 47 = .ok (.iaload, 1) := by decide +kernel
theorem dX2_makes_48 : decode cX2_makes 48 = .ok (.if_icmp .eq 5, 3) := by decide +kernel
theorem dX2_makes_51 : decode cX2_makes 51 = .ok (.iconst 0, 1) := by decide +kernel
theorem dX2_makes_52 : decode cX2_makes 52 = .ok (.ireturn, 1) := by decide +kernel
theorem dX2_makes_53 : decode cX2_makes 53 = .ok (.iinc 7 1, 3) := by decide +kernel
theorem dX2_makes_56 : decode cX2_makes 56 = .ok (.goto (-36), 3) := by decide +kernel
theorem dX2_makes_59 : decode cX2_makes 59 = .ok (.iconst 1, 1) := by decide +kernel
theorem dX2_makes_60 : decode cX2_makes 60 = .ok (.ireturn, 1) := by decide +kernel
theorem dX2_firstDifference_0 : decode cX2_firstDifference 0 = .ok (.iconst 0, 1) := by decide +kernel
theorem dX2_firstDifference_1 : decode cX2_firstDifference 1 = .ok (.istore_n 3, 1) := by decide +kernel
theorem dX2_firstDifference_2 : decode cX2_firstDifference 2 = .ok (.iload_n 3, 1) := by decide +kernel
theorem dX2_firstDifference_3 : decode cX2_firstDifference 3 = .ok (.aload_n 0, 1) := by decide +kernel
theorem dX2_firstDifference_4 : decode cX2_firstDifference 4 = .ok (.getfield 26, 3) := by decide +kernel
theorem dX2_firstDifference_7 : decode cX2_firstDifference 7 = .ok (.if_icmp .ge 20, 3) := by decide +kernel
theorem dX2_firstDifference_10 : decode cX2_firstDifference 10 = .ok (.aload_n 1, 1) := by decide +kernel
theorem dX2_firstDifference_11 : decode cX2_firstDifference 11 = .ok (.iload_n 3, 1) := by decide +kernel
theorem dX2_firstDifference_12 : decode cX2_firstDifference 12 = .ok (.iaload, 1) := by decide +kernel
theorem dX2_firstDifference_13 : decode cX2_firstDifference 13 = .ok (.aload_n 2, 1) := by decide +kernel
theorem dX2_firstDifference_14 : decode cX2_firstDifference 14 = .ok (.iload_n 3, 1) := by decide +kernel
theorem dX2_firstDifference_15 : decode cX2_firstDifference 15 = .ok (.iaload, 1) := by decide +kernel
theorem dX2_firstDifference_16 : decode cX2_firstDifference 16 = .ok (.if_icmp .eq 5, 3) := by decide +kernel
theorem dX2_firstDifference_19 : decode cX2_firstDifference 19 = .ok (.iload_n 3, 1) := by decide +kernel
theorem dX2_firstDifference_20 : decode cX2_firstDifference 20 = .ok (.ireturn, 1) := by decide +kernel
theorem dX2_firstDifference_21 : decode cX2_firstDifference 21 = .ok (.iinc 3 1, 3) := by decide +kernel
theorem dX2_firstDifference_24 : decode cX2_firstDifference 24 = .ok (.goto (-22), 3) := by decide +kernel
theorem dX2_firstDifference_27 : decode cX2_firstDifference 27 = .ok (.iconst (-1), 1) := by decide +kernel
theorem dX2_firstDifference_28 : decode cX2_firstDifference 28 = .ok (.ireturn, 1) := by decide +kernel
theorem dX2_leastBelow_0 : decode cX2_leastBelow 0 = .ok (.iconst 0, 1) := by decide +kernel
theorem dX2_leastBelow_1 : decode cX2_leastBelow 1 = .ok (.istore_n 3, 1) := by decide +kernel
theorem dX2_leastBelow_2 : decode cX2_leastBelow 2 = .ok (.iload_n 3, 1) := by decide +kernel
theorem dX2_leastBelow_3 : decode cX2_leastBelow 3 = .ok (.iload_n 1, 1) := by decide +kernel
theorem dX2_leastBelow_4 : decode cX2_leastBelow 4 = .ok (.if_icmp .ge 25, 3) := by decide +kernel
theorem dX2_leastBelow_7 : decode cX2_leastBelow 7 = .ok (.aload_n 0, 1) := by decide +kernel
theorem dX2_leastBelow_8 : decode cX2_leastBelow 8 = .ok (.aload_n 0, 1) := by decide +kernel
theorem dX2_leastBelow_9 : decode cX2_leastBelow 9 = .ok (.getfield 11, 3) := by decide +kernel
theorem dX2_leastBelow_12 : decode cX2_leastBelow 12 = .ok (.iload_n 3, 1) := by decide +kernel
theorem dX2_leastBelow_13 : decode cX2_leastBelow 13 = .ok (.aaload, 1) := by decide +kernel
theorem dX2_leastBelow_14 : decode cX2_leastBelow 14 = .ok (.aload_n 2, 1) := by decide +kernel
theorem dX2_leastBelow_15 : decode cX2_leastBelow 15 = .ok (.invokevirtual 46, 3) := by decide +kernel
theorem dX2_leastBelow_18 : decode cX2_leastBelow 18 = .ok (.ifCond .ge 5, 3) := by decide +kernel
theorem dX2_leastBelow_21 : decode cX2_leastBelow 21 = .ok (.iload_n 3, 1) := by decide +kernel
theorem dX2_leastBelow_22 : decode cX2_leastBelow 22 = .ok (.ireturn, 1) := by decide +kernel
theorem dX2_leastBelow_23 : decode cX2_leastBelow 23 = .ok (.iinc 3 1, 3) := by decide +kernel
theorem dX2_leastBelow_26 : decode cX2_leastBelow 26 = .ok (.goto (-24), 3) := by decide +kernel
theorem dX2_leastBelow_29 : decode cX2_leastBelow 29 = .ok (.iconst (-1), 1) := by decide +kernel
theorem dX2_leastBelow_30 : decode cX2_leastBelow 30 = .ok (.ireturn, 1) := by decide +kernel
theorem dX2_leastSame_0 : decode cX2_leastSame 0 = .ok (.aload_n 0, 1) := by decide +kernel
theorem dX2_leastSame_1 : decode cX2_leastSame 1 = .ok (.iload_n 1, 1) := by decide +kernel
theorem dX2_leastSame_2 : decode cX2_leastSame 2 = .ok (.aload_n 0, 1) := by decide +kernel
theorem dX2_leastSame_3 : decode cX2_leastSame 3 = .ok (.getfield 11, 3) := by decide +kernel
theorem dX2_leastSame_6 : decode cX2_leastSame 6 = .ok (.iload_n 1, 1) := by decide +kernel
theorem dX2_leastSame_7 : decode cX2_leastSame 7 = .ok (.aaload, 1) := by decide +kernel
theorem dX2_leastSame_8 : decode cX2_leastSame 8 = .ok (.invokevirtual 50, 3) := by decide +kernel
theorem dX2_leastSame_11 : decode cX2_leastSame 11 = .ok (.ireturn, 1) := by decide +kernel
theorem dX2_reckon_0 : decode cX2_reckon 0 = .ok (.iload_n 1, 1) := by decide +kernel
theorem dX2_reckon_1 : decode cX2_reckon 1 = .ok (.tableswitch 183 0 12 #[67, 76, 84, 88, 92, 96, 105, 114, 123, 136, 144, 161, 172], 67) := by decide +kernel
theorem dX2_reckon_68 : decode cX2_reckon 68 = .ok (.iload_n 2, 1) := by decide +kernel
theorem dX2_reckon_69 : decode cX2_reckon 69 = .ok (.iconst (-1), 1) := by decide +kernel
theorem dX2_reckon_70 : decode cX2_reckon 70 = .ok (.ixor, 1) := by decide +kernel
theorem dX2_reckon_71 : decode cX2_reckon 71 = .ok (.aload_n 0, 1) := by decide +kernel
theorem dX2_reckon_72 : decode cX2_reckon 72 = .ok (.getfield 20, 3) := by decide +kernel
theorem dX2_reckon_75 : decode cX2_reckon 75 = .ok (.iand, 1) := by decide +kernel
theorem dX2_reckon_76 : decode cX2_reckon 76 = .ok (.ireturn, 1) := by decide +kernel
theorem dX2_reckon_77 : decode cX2_reckon 77 = .ok (.iload_n 2, 1) := by decide +kernel
theorem dX2_reckon_78 : decode cX2_reckon 78 = .ok (.ineg, 1) := by decide +kernel
theorem dX2_reckon_79 : decode cX2_reckon 79 = .ok (.aload_n 0, 1) := by decide +kernel
theorem dX2_reckon_80 : decode cX2_reckon 80 = .ok (.getfield 20, 3) := by decide +kernel
theorem dX2_reckon_83 : decode cX2_reckon 83 = .ok (.iand, 1) := by decide +kernel
theorem dX2_reckon_84 : decode cX2_reckon 84 = .ok (.ireturn, 1) := by decide +kernel
theorem dX2_reckon_85 : decode cX2_reckon 85 = .ok (.iload_n 2, 1) := by decide +kernel
theorem dX2_reckon_86 : decode cX2_reckon 86 = .ok (.iload_n 3, 1) := by decide +kernel
theorem dX2_reckon_87 : decode cX2_reckon 87 = .ok (.iand, 1) := by decide +kernel
theorem dX2_reckon_88 : decode cX2_reckon 88 = .ok (.ireturn, 1) := by decide +kernel
theorem dX2_reckon_89 : decode cX2_reckon 89 = .ok (.iload_n 2, 1) := by decide +kernel
theorem dX2_reckon_90 : decode cX2_reckon 90 = .ok (.iload_n 3, 1) := by decide +kernel
theorem dX2_reckon_91 : decode cX2_reckon 91 = .ok (.ior, 1) := by decide +kernel
theorem dX2_reckon_92 : decode cX2_reckon 92 = .ok (.ireturn, 1) := by decide +kernel
theorem dX2_reckon_93 : decode cX2_reckon 93 = .ok (.iload_n 2, 1) := by decide +kernel
theorem dX2_reckon_94 : decode cX2_reckon 94 = .ok (.iload_n 3, 1) := by decide +kernel
theorem dX2_reckon_95 : decode cX2_reckon 95 = .ok (.ixor, 1) := by decide +kernel
theorem dX2_reckon_96 : decode cX2_reckon 96 = .ok (.ireturn, 1) := by decide +kernel
theorem dX2_reckon_97 : decode cX2_reckon 97 = .ok (.iload_n 2, 1) := by decide +kernel
theorem dX2_reckon_98 : decode cX2_reckon 98 = .ok (.iload_n 3, 1) := by decide +kernel
theorem dX2_reckon_99 : decode cX2_reckon 99 = .ok (.iadd, 1) := by decide +kernel
theorem dX2_reckon_100 : decode cX2_reckon 100 = .ok (.aload_n 0, 1) := by decide +kernel
theorem dX2_reckon_101 : decode cX2_reckon 101 = .ok (.getfield 20, 3) := by decide +kernel
theorem dX2_reckon_104 : decode cX2_reckon 104 = .ok (.iand, 1) := by decide +kernel
theorem dX2_reckon_105 : decode cX2_reckon 105 = .ok (.ireturn, 1) := by decide +kernel
theorem dX2_reckon_106 : decode cX2_reckon 106 = .ok (.iload_n 2, 1) := by decide +kernel
theorem dX2_reckon_107 : decode cX2_reckon 107 = .ok (.iload_n 3, 1) := by decide +kernel
theorem dX2_reckon_108 : decode cX2_reckon 108 = .ok (.isub, 1) := by decide +kernel
theorem dX2_reckon_109 : decode cX2_reckon 109 = .ok (.aload_n 0, 1) := by decide +kernel
theorem dX2_reckon_110 : decode cX2_reckon 110 = .ok (.getfield 20, 3) := by decide +kernel
theorem dX2_reckon_113 : decode cX2_reckon 113 = .ok (.iand, 1) := by decide +kernel
theorem dX2_reckon_114 : decode cX2_reckon 114 = .ok (.ireturn, 1) := by decide +kernel
theorem dX2_reckon_115 : decode cX2_reckon 115 = .ok (.iload_n 2, 1) := by decide +kernel
theorem dX2_reckon_116 : decode cX2_reckon 116 = .ok (.iload_n 3, 1) := by decide +kernel
theorem dX2_reckon_117 : decode cX2_reckon 117 = .ok (.imul, 1) := by decide +kernel
theorem dX2_reckon_118 : decode cX2_reckon 118 = .ok (.aload_n 0, 1) := by decide +kernel
theorem dX2_reckon_119 : decode cX2_reckon 119 = .ok (.getfield 20, 3) := by decide +kernel
theorem dX2_reckon_122 : decode cX2_reckon 122 = .ok (.iand, 1) := by decide +kernel
theorem dX2_reckon_123 : decode cX2_reckon 123 = .ok (.ireturn, 1) := by decide +kernel
theorem dX2_reckon_124 : decode cX2_reckon 124 = .ok (.iload_n 2, 1) := by decide +kernel
theorem dX2_reckon_125 : decode cX2_reckon 125 = .ok (.aload_n 0, 1) := by decide +kernel
theorem dX2_reckon_126 : decode cX2_reckon 126 = .ok (.iload_n 3, 1) := by decide +kernel
theorem dX2_reckon_127 : decode cX2_reckon 127 = .ok (.invokevirtual 54, 3) := by decide +kernel
theorem dX2_reckon_130 : decode cX2_reckon 130 = .ok (.ishl, 1) := by decide +kernel
theorem dX2_reckon_131 : decode cX2_reckon 131 = .ok (.aload_n 0, 1) := by decide +kernel
theorem dX2_reckon_132 : decode cX2_reckon 132 = .ok (.getfield 20, 3) := by decide +kernel
theorem dX2_reckon_135 : decode cX2_reckon 135 = .ok (.iand, 1) := by decide +kernel
theorem dX2_reckon_136 : decode cX2_reckon 136 = .ok (.ireturn, 1) := by decide +kernel
theorem dX2_reckon_137 : decode cX2_reckon 137 = .ok (.iload_n 2, 1) := by decide +kernel
theorem dX2_reckon_138 : decode cX2_reckon 138 = .ok (.aload_n 0, 1) := by decide +kernel
theorem dX2_reckon_139 : decode cX2_reckon 139 = .ok (.iload_n 3, 1) := by decide +kernel
theorem dX2_reckon_140 : decode cX2_reckon 140 = .ok (.invokevirtual 54, 3) := by decide +kernel
theorem dX2_reckon_143 : decode cX2_reckon 143 = .ok (.ishr, 1) := by decide +kernel
theorem dX2_reckon_144 : decode cX2_reckon 144 = .ok (.ireturn, 1) := by decide +kernel
theorem dX2_reckon_145 : decode cX2_reckon 145 = .ok (.aload_n 0, 1) := by decide +kernel
theorem dX2_reckon_146 : decode cX2_reckon 146 = .ok (.iload_n 2, 1) := by decide +kernel
theorem dX2_reckon_147 : decode cX2_reckon 147 = .ok (.invokevirtual 58, 3) := by decide +kernel
theorem dX2_reckon_150 : decode cX2_reckon 150 = .ok (.aload_n 0, 1) := by decide +kernel
theorem dX2_reckon_151 : decode cX2_reckon 151 = .ok (.iload_n 3, 1) := by decide +kernel
theorem dX2_reckon_152 : decode cX2_reckon 152 = .ok (.invokevirtual 54, 3) := by decide +kernel
theorem dX2_reckon_155 : decode cX2_reckon 155 = .ok (.ishr, 1) := by decide +kernel
theorem dX2_reckon_156 : decode cX2_reckon 156 = .ok (.aload_n 0, 1) := by decide +kernel
theorem dX2_reckon_157 : decode cX2_reckon 157 = .ok (.getfield 20, 3) := by decide +kernel
theorem dX2_reckon_160 : decode cX2_reckon 160 = .ok (.iand, 1) := by decide +kernel
theorem dX2_reckon_161 : decode cX2_reckon 161 = .ok (.ireturn, 1) := by decide +kernel
theorem dX2_reckon_162 : decode cX2_reckon 162 = .ok (.iload_n 2, 1) := by decide +kernel
theorem dX2_reckon_163 : decode cX2_reckon 163 = .ok (.iload_n 3, 1) := by decide +kernel
theorem dX2_reckon_164 : decode cX2_reckon 164 = .ok (.if_icmp .ge 7, 3) := by decide +kernel
theorem dX2_reckon_167 : decode cX2_reckon 167 = .ok (.iconst 1, 1) := by decide +kernel
theorem dX2_reckon_168 : decode cX2_reckon 168 = .ok (.goto 4, 3) := by decide +kernel
theorem dX2_reckon_171 : decode cX2_reckon 171 = .ok (.iconst 0, 1) := by decide +kernel
theorem dX2_reckon_172 : decode cX2_reckon 172 = .ok (.ireturn, 1) := by decide +kernel
theorem dX2_reckon_173 : decode cX2_reckon 173 = .ok (.iload_n 2, 1) := by decide +kernel
theorem dX2_reckon_174 : decode cX2_reckon 174 = .ok (.iload_n 3, 1) := by decide +kernel
theorem dX2_reckon_175 : decode cX2_reckon 175 = .ok (.if_icmp .ne 7, 3) := by decide +kernel
theorem dX2_reckon_178 : decode cX2_reckon 178 = .ok (.iconst 1, 1) := by decide +kernel
theorem dX2_reckon_179 : decode cX2_reckon 179 = .ok (.goto 4, 3) := by decide +kernel
theorem dX2_reckon_182 : decode cX2_reckon 182 = .ok (.iconst 0, 1) := by decide +kernel
theorem dX2_reckon_183 : decode cX2_reckon 183 = .ok (.ireturn, 1) := by decide +kernel
theorem dX2_reckon_184 : decode cX2_reckon 184 = .ok (.iconst 0, 1) := by decide +kernel
theorem dX2_reckon_185 : decode cX2_reckon 185 = .ok (.ireturn, 1) := by decide +kernel
theorem dX2_distance_0 : decode cX2_distance 0 = .ok (.aload_n 0, 1) := by decide +kernel
theorem dX2_distance_1 : decode cX2_distance 1 = .ok (.getfield 16, 3) := by decide +kernel
theorem dX2_distance_4 : decode cX2_distance 4 = .ok (.iconst 1, 1) := by decide +kernel
theorem dX2_distance_5 : decode cX2_distance 5 = .ok (.if_icmp .ge 7, 3) := by decide +kernel
theorem dX2_distance_8 : decode cX2_distance 8 = .ok (.iconst 0, 1) := by decide +kernel
theorem dX2_distance_9 : decode cX2_distance 9 = .ok (.goto 9, 3) := by decide +kernel
theorem dX2_distance_12 : decode cX2_distance 12 = .ok (.iload_n 1, 1) := by decide +kernel
theorem dX2_distance_13 : decode cX2_distance 13 = .ok (.aload_n 0, 1) := by decide +kernel
theorem dX2_distance_14 : decode cX2_distance 14 = .ok (.getfield 16, 3) := by decide +kernel
theorem dX2_distance_17 : decode cX2_distance 17 = .ok (.irem, 1) := by decide +kernel
theorem dX2_distance_18 : decode cX2_distance 18 = .ok (.ireturn, 1) := by decide +kernel
theorem dX2_signed_0 : decode cX2_signed 0 = .ok (.iload_n 1, 1) := by decide +kernel
theorem dX2_signed_1 : decode cX2_signed 1 = .ok (.aload_n 0, 1) := by decide +kernel
theorem dX2_signed_2 : decode cX2_signed 2 = .ok (.getfield 16, 3) := by decide +kernel
theorem dX2_signed_5 : decode cX2_signed 5 = .ok (.iconst 1, 1) := by decide +kernel
theorem dX2_signed_6 : decode cX2_signed 6 = .ok (.isub, 1) := by decide +kernel
theorem dX2_signed_7 : decode cX2_signed 7 = .ok (.ishr, 1) := by decide +kernel
theorem dX2_signed_8 : decode cX2_signed 8 = .ok (.ifCond .ne 7, 3) := by decide +kernel
theorem dX2_signed_11 : decode cX2_signed 11 = .ok (.iload_n 1, 1) := by decide +kernel
theorem dX2_signed_12 : decode cX2_signed 12 = .ok (.goto 11, 3) := by decide +kernel
theorem dX2_signed_15 : decode cX2_signed 15 = .ok (.iload_n 1, 1) := by decide +kernel
theorem dX2_signed_16 : decode cX2_signed 16 = .ok (.aload_n 0, 1) := by decide +kernel
theorem dX2_signed_17 : decode cX2_signed 17 = .ok (.getfield 20, 3) := by decide +kernel
theorem dX2_signed_20 : decode cX2_signed 20 = .ok (.iconst (-1), 1) := by decide +kernel
theorem dX2_signed_21 : decode cX2_signed 21 = .ok (.ixor, 1) := by decide +kernel
theorem dX2_signed_22 : decode cX2_signed 22 = .ok (.ior, 1) := by decide +kernel
theorem dX2_signed_23 : decode cX2_signed 23 = .ok (.ireturn, 1) := by decide +kernel
theorem dX3_init_0 : decode cX3_init 0 = .ok (.aload_n 0, 1) := by decide +kernel
theorem dX3_init_1 : decode cX3_init 1 = .ok (.invokespecial 3, 3) := by decide +kernel
theorem dX3_init_4 : decode cX3_init 4 = .ok (.aload_n 0, 1) := by decide +kernel
theorem dX3_init_5 : decode cX3_init 5 = .ok (.bipush 13, 2) := by decide +kernel
theorem dX3_init_7 : decode cX3_init 7 = .ok (.newarray .int, 2) := by decide +kernel
theorem dX3_init_9 : decode cX3_init 9 = .ok (.putfield 9, 3) := by decide +kernel
theorem dX3_init_12 : decode cX3_init 12 = .ok (.aload_n 0, 1) := by decide +kernel
theorem dX3_init_13 : decode cX3_init 13 = .ok (.sipush 256, 3) := by decide +kernel
theorem dX3_init_16 : decode cX3_init 16 = .ok (.newarray .int, 2) := by decide +kernel
theorem dX3_init_18 : decode cX3_init 18 = .ok (.putfield 13, 3) := by decide +kernel
theorem dX3_init_21 : decode cX3_init 21 = .ok (.aload_n 0, 1) := by decide +kernel
theorem dX3_init_22 : decode cX3_init 22 = .ok (.new 16, 3) := by decide +kernel
theorem dX3_init_25 : decode cX3_init 25 = .ok (.dup, 1) := by decide +kernel
theorem dX3_init_26 : decode cX3_init 26 = .ok (.invokespecial 18, 3) := by decide +kernel
theorem dX3_init_29 : decode cX3_init 29 = .ok (.putfield 19, 3) := by decide +kernel
theorem dX3_init_32 : decode cX3_init 32 = .ok (.aload_n 0, 1) := by decide +kernel
theorem dX3_init_33 : decode cX3_init 33 = .ok (.new 23, 3) := by decide +kernel
theorem dX3_init_36 : decode cX3_init 36 = .ok (.dup, 1) := by decide +kernel
theorem dX3_init_37 : decode cX3_init 37 = .ok (.invokespecial 25, 3) := by decide +kernel
theorem dX3_init_40 : decode cX3_init 40 = .ok (.putfield 26, 3) := by decide +kernel
theorem dX3_init_43 : decode cX3_init 43 = .ok (.aload_n 0, 1) := by decide +kernel
theorem dX3_init_44 : decode cX3_init 44 = .ok (.new 23, 3) := by decide +kernel
theorem dX3_init_47 : decode cX3_init 47 = .ok (.dup, 1) := by decide +kernel
theorem dX3_init_48 : decode cX3_init 48 = .ok (.invokespecial 25, 3) := by decide +kernel
theorem dX3_init_51 : decode cX3_init 51 = .ok (.putfield 30, 3) := by decide +kernel
theorem dX3_init_54 : decode cX3_init 54 = .ok (.aload_n 0, 1) := by decide +kernel
theorem dX3_init_55 : decode cX3_init 55 = .ok (.bipush 18, 2) := by decide +kernel
theorem dX3_init_57 : decode cX3_init 57 = .ok (.newarray .boolean, 2) := by decide +kernel
theorem dX3_init_59 : decode cX3_init 59 = .ok (.putfield 33, 3) := by decide +kernel
theorem dX3_init_62 : decode cX3_init 62 = .ok (.aload_n 0, 1) := by decide +kernel
theorem dX3_init_63 : decode cX3_init 63 = .ok (.new 37, 3) := by decide +kernel
theorem dX3_init_66 : decode cX3_init 66 = .ok (.dup, 1) := by decide +kernel
theorem dX3_init_67 : decode cX3_init 67 = .ok (.invokespecial 39, 3) := by decide +kernel
theorem dX3_init_70 : decode cX3_init 70 = .ok (.putfield 40, 3) := by decide +kernel
theorem dX3_init_73 : decode cX3_init 73 = .ok (.iconst 0, 1) := by decide +kernel
theorem dX3_init_74 : decode cX3_init 74 = .ok (.istore_n 1, 1) := by decide +kernel
theorem dX3_init_75 : decode cX3_init 75 = .ok (.iload_n 1, 1) := by decide +kernel
theorem dX3_init_76 : decode cX3_init 76 = .ok (.bipush 13, 2) := by decide +kernel
theorem dX3_init_78 : decode cX3_init 78 = .ok (.if_icmp .ge 16, 3) := by decide +kernel
theorem dX3_init_81 : decode cX3_init 81 = .ok (.aload_n 0, 1) := by decide +kernel
theorem dX3_init_82 : decode cX3_init 82 = .ok (.getfield 9, 3) := by decide +kernel
theorem dX3_init_85 : decode cX3_init 85 = .ok (.iload_n 1, 1) := by decide +kernel
theorem dX3_init_86 : decode cX3_init 86 = .ok (.iconst 1, 1) := by decide +kernel
theorem dX3_init_87 : decode cX3_init 87 = .ok (.iastore, 1) := by decide +kernel
theorem dX3_init_88 : decode cX3_init 88 = .ok (.iinc 1 1, 3) := by decide +kernel
theorem dX3_init_91 : decode cX3_init 91 = .ok (.goto (-16), 3) := by decide +kernel
theorem dX3_init_94 : decode cX3_init 94 = .ok (.aload_n 0, 1) := by decide +kernel
theorem dX3_init_95 : decode cX3_init 95 = .ok (.getfield 19, 3) := by decide +kernel
theorem dX3_init_98 : decode cX3_init 98 = .ok (.iconst 4, 1) := by decide +kernel
theorem dX3_init_99 : decode cX3_init 99 = .ok (.iconst 1, 1) := by decide +kernel
theorem dX3_init_100 : decode cX3_init 100 = .ok (.invokevirtual 44, 3) := by decide +kernel
theorem dX3_init_103 : decode cX3_init 103 = .ok (.return_, 1) := by decide +kernel
theorem dX3_words_0 : decode cX3_words 0 = .ok (.iload_n 1, 1) := by decide +kernel
theorem dX3_words_1 : decode cX3_words 1 = .ok (.iconst 1, 1) := by decide +kernel
theorem dX3_words_2 : decode cX3_words 2 = .ok (.if_icmp .lt 18, 3) := by decide +kernel
theorem dX3_words_5 : decode cX3_words 5 = .ok (.iload_n 1, 1) := by decide +kernel
theorem dX3_words_6 : decode cX3_words 6 = .ok (.iconst 4, 1) := by decide +kernel
theorem dX3_words_7 : decode cX3_words 7 = .ok (.if_icmp .gt 13, 3) := by decide +kernel
theorem dX3_words_10 : decode cX3_words 10 = .ok (.iload_n 2, 1) := by decide +kernel
theorem dX3_words_11 : decode cX3_words 11 = .ok (.iconst 1, 1) := by decide +kernel
theorem dX3_words_12 : decode cX3_words 12 = .ok (.if_icmp .lt 8, 3) := by decide +kernel
theorem dX3_words_15 : decode cX3_words 15 = .ok (.iload_n 2, 1) := by decide +kernel
theorem dX3_words_16 : decode cX3_words 16 = .ok (.iconst 2, 1) := by decide +kernel
theorem dX3_words_17 : decode cX3_words 17 = .ok (.if_icmp .le 6, 3) := by decide +kernel
theorem dX3_words_20 : decode cX3_words 20 = .ok (.bipush (-2), 2) := by decide +kernel
theorem dX3_words_22 : decode cX3_words 22 = .ok (.ireturn, 1) := by decide +kernel
theorem dX3_words_23 : decode cX3_words 23 = .ok (.aload_n 0, 1) := by decide +kernel
theorem dX3_words_24 : decode cX3_words 24 = .ok (.getfield 19, 3) := by decide +kernel
theorem dX3_words_27 : decode cX3_words 27 = .ok (.iload_n 1, 1) := by decide +kernel
theorem dX3_words_28 : decode cX3_words 28 = .ok (.iload_n 2, 1) := by decide +kernel
theorem dX3_words_29 : decode cX3_words 29 = .ok (.invokevirtual 44, 3) := by decide +kernel
theorem dX3_words_32 : decode cX3_words 32 = .ok (.aload_n 0, 1) := by decide +kernel
theorem dX3_words_33 : decode cX3_words 33 = .ok (.getfield 26, 3) := by decide +kernel
theorem dX3_words_36 : decode cX3_words 36 = .ok (.iconst 0, 1) := by decide +kernel
theorem dX3_words_37 : decode cX3_words 37 = .ok (.invokevirtual 48, 3) := by decide +kernel
theorem dX3_words_40 : decode cX3_words 40 = .ok (.iconst 0, 1) := by decide +kernel
theorem dX3_words_41 : decode cX3_words 41 = .ok (.istore_n 3, 1) := by decide +kernel
theorem dX3_words_42 : decode cX3_words 42 = .ok (.iload_n 3, 1) := by decide +kernel
theorem dX3_words_43 : decode cX3_words 43 = .ok (.sipush 256, 3) := by decide +kernel
theorem dX3_words_46 : decode cX3_words 46 = .ok (.if_icmp .ge 16, 3) := by decide +kernel
theorem dX3_words_49 : decode cX3_words 49 = .ok (.aload_n 0, 1) := by decide +kernel
theorem dX3_words_50 : decode cX3_words 50 = .ok (.getfield 13, 3) := by decide +kernel
theorem dX3_words_53 : decode cX3_words 53 = .ok (.iload_n 3, 1) := by decide +kernel
theorem dX3_words_54 : decode cX3_words 54 = .ok (.iconst 0, 1) := by decide +kernel
theorem dX3_words_55 : decode cX3_words 55 = .ok (.iastore, 1) := by decide +kernel
theorem dX3_words_56 : decode cX3_words 56 = .ok (.iinc 3 1, 3) := by decide +kernel
theorem dX3_words_59 : decode cX3_words 59 = .ok (.goto (-17), 3) := by decide +kernel
theorem dX3_words_62 : decode cX3_words 62 = .ok (.aload_n 0, 1) := by decide +kernel
theorem dX3_words_63 : decode cX3_words 63 = .ok (.iconst 0, 1) := by decide +kernel
theorem dX3_words_64 : decode cX3_words 64 = .ok (.putfield 52, 3) := by decide +kernel
theorem dX3_words_67 : decode cX3_words 67 = .ok (.aload_n 0, 1) := by decide +kernel
theorem dX3_words_68 : decode cX3_words 68 = .ok (.getfield 19, 3) := by decide +kernel
theorem dX3_words_71 : decode cX3_words 71 = .ok (.getfield 56, 3) := by decide +kernel
theorem dX3_words_74 : decode cX3_words 74 = .ok (.ireturn, 1) := by decide +kernel
theorem dX3_constant_0 : decode cX3_constant 0 = .ok (.aload_n 0, 1) := by decide +kernel
theorem dX3_constant_1 : decode cX3_constant 1 = .ok (.getfield 19, 3) := by decide +kernel
theorem dX3_constant_4 : decode cX3_constant 4 = .ok (.iload_n 1, 1) := by decide +kernel
theorem dX3_constant_5 : decode cX3_constant 5 = .ok (.invokevirtual 60, 3) := by decide +kernel
theorem dX3_constant_8 : decode cX3_constant 8 = .ok (.ifCond .ne 6, 3) := by decide +kernel
theorem dX3_constant_11 : decode cX3_constant 11 = .ok (.bipush (-2), 2) := by decide +kernel
theorem dX3_constant_13 : decode cX3_constant 13 = .ok (.ireturn, 1) := by decide +kernel
theorem dX3_constant_14 : decode cX3_constant 14 = .ok (.aload_n 0, 1) := by decide +kernel
theorem dX3_constant_15 : decode cX3_constant 15 = .ok (.getfield 26, 3) := by decide +kernel
end
section
theorem dX3_constant_18 : decode cX3_constant 18 = .ok (.getfield 64, 3) := by decide +kernel
theorem dX3_constant_21 : decode cX3_constant 21 = .ok (.ifCond .le 6, 3) := by decide +kernel
theorem dX3_constant_24 : decode cX3_constant 24 = .ok (.bipush (-3), 2) := by decide +kernel
theorem dX3_constant_26 : decode cX3_constant 26 = .ok (.ireturn, 1) := by decide +kernel
theorem dX3_constant_27 : decode cX3_constant 27 = .ok (.aload_n 0, 1) := by decide +kernel
theorem dX3_constant_28 : decode cX3_constant 28 = .ok (.getfield 19, 3) := by decide +kernel
theorem dX3_constant_31 : decode cX3_constant 31 = .ok (.getfield 67, 3) := by decide +kernel
theorem dX3_constant_34 : decode cX3_constant 34 = .ok (.iconst 4, 1) := by decide +kernel
theorem dX3_constant_35 : decode cX3_constant 35 = .ok (.if_icmp .lt 6, 3) := by decide +kernel
theorem dX3_constant_38 : decode cX3_constant 38 = .ok (.bipush (-4), 2) := by decide +kernel
theorem dX3_constant_40 : decode cX3_constant 40 = .ok (.ireturn, 1) := by decide +kernel
theorem dX3_constant_41 : decode cX3_constant 41 = .ok (.aload_n 0, 1) := by decide +kernel
theorem dX3_constant_42 : decode cX3_constant 42 = .ok (.getfield 19, 3) := by decide +kernel
theorem dX3_constant_45 : decode cX3_constant 45 = .ok (.iload_n 1, 1) := by decide +kernel
theorem dX3_constant_46 : decode cX3_constant 46 = .ok (.invokevirtual 70, 3) := by decide +kernel
theorem dX3_constant_49 : decode cX3_constant 49 = .ok (.aload_n 0, 1) := by decide +kernel
theorem dX3_constant_50 : decode cX3_constant 50 = .ok (.iconst 0, 1) := by decide +kernel
theorem dX3_constant_51 : decode cX3_constant 51 = .ok (.putfield 52, 3) := by decide +kernel
theorem dX3_constant_54 : decode cX3_constant 54 = .ok (.aload_n 0, 1) := by decide +kernel
theorem dX3_constant_55 : decode cX3_constant 55 = .ok (.getfield 19, 3) := by decide +kernel
theorem dX3_constant_58 : decode cX3_constant 58 = .ok (.invokevirtual 73, 3) := by decide +kernel
theorem dX3_constant_61 : decode cX3_constant 61 = .ok (.iconst 1, 1) := by decide +kernel
theorem dX3_constant_62 : decode cX3_constant 62 = .ok (.isub, 1) := by decide +kernel
theorem dX3_constant_63 : decode cX3_constant 63 = .ok (.ireturn, 1) := by decide +kernel
theorem dX3_cost_0 : decode cX3_cost 0 = .ok (.iload_n 1, 1) := by decide +kernel
theorem dX3_cost_1 : decode cX3_cost 1 = .ok (.invokestatic 77, 3) := by decide +kernel
theorem dX3_cost_4 : decode cX3_cost 4 = .ok (.ifCond .ne 5, 3) := by decide +kernel
theorem dX3_cost_7 : decode cX3_cost 7 = .ok (.iconst (-1), 1) := by decide +kernel
theorem dX3_cost_8 : decode cX3_cost 8 = .ok (.ireturn, 1) := by decide +kernel
theorem dX3_cost_9 : decode cX3_cost 9 = .ok (.iload_n 2, 1) := by decide +kernel
theorem dX3_cost_10 : decode cX3_cost 10 = .ok (.ifCond .lt 9, 3) := by decide +kernel
theorem dX3_cost_13 : decode cX3_cost 13 = .ok (.iload_n 2, 1) := by decide +kernel
theorem dX3_cost_14 : decode cX3_cost 14 = .ok (.bipush 9, 2) := by decide +kernel
theorem dX3_cost_16 : decode cX3_cost 16 = .ok (.if_icmp .le 6, 3) := by decide +kernel
theorem dX3_cost_19 : decode cX3_cost 19 = .ok (.bipush (-2), 2) := by decide +kernel
theorem dX3_cost_21 : decode cX3_cost 21 = .ok (.ireturn, 1) := by decide +kernel
theorem dX3_cost_22 : decode cX3_cost 22 = .ok (.aload_n 0, 1) := by decide +kernel
theorem dX3_cost_23 : decode cX3_cost 23 = .ok (.getfield 9, 3) := by decide +kernel
theorem dX3_cost_26 : decode cX3_cost 26 = .ok (.iload_n 1, 1) := by decide +kernel
theorem dX3_cost_27 : decode cX3_cost 27 = .ok (.iaload, 1) := by decide +kernel
theorem dX3_cost_28 : decode cX3_cost 28 = .ok (.istore_n 3, 1) := by decide +kernel
theorem dX3_cost_29 : decode cX3_cost 29 = .ok (.aload_n 0, 1) := by decide +kernel
theorem dX3_cost_30 : decode cX3_cost 30 = .ok (.getfield 9, 3) := by decide +kernel
theorem dX3_cost_33 : decode cX3_cost 33 = .ok (.iload_n 1, 1) := by decide +kernel
theorem dX3_cost_34 : decode cX3_cost 34 = .ok (.iload_n 2, 1) := by decide +kernel
theorem dX3_cost_35 : decode cX3_cost 35 = .ok (.iastore, 1) := by decide +kernel
theorem dX3_cost_36 : decode cX3_cost 36 = .ok (.iload_n 3, 1) := by decide +kernel
theorem dX3_cost_37 : decode cX3_cost 37 = .ok (.ireturn, 1) := by decide +kernel
theorem dX3_target_0 : decode cX3_target 0 = .ok (.aload_n 0, 1) := by decide +kernel
theorem dX3_target_1 : decode cX3_target 1 = .ok (.getfield 19, 3) := by decide +kernel
theorem dX3_target_4 : decode cX3_target 4 = .ok (.iload_n 1, 1) := by decide +kernel
theorem dX3_target_5 : decode cX3_target 5 = .ok (.invokevirtual 80, 3) := by decide +kernel
theorem dX3_target_8 : decode cX3_target 8 = .ok (.ifCond .ne 5, 3) := by decide +kernel
theorem dX3_target_11 : decode cX3_target 11 = .ok (.iconst (-1), 1) := by decide +kernel
theorem dX3_target_12 : decode cX3_target 12 = .ok (.ireturn, 1) := by decide +kernel
theorem dX3_target_13 : decode cX3_target 13 = .ok (.aload_n 0, 1) := by decide +kernel
theorem dX3_target_14 : decode cX3_target 14 = .ok (.getfield 19, 3) := by decide +kernel
theorem dX3_target_17 : decode cX3_target 17 = .ok (.iload_n 2, 1) := by decide +kernel
theorem dX3_target_18 : decode cX3_target 18 = .ok (.invokevirtual 60, 3) := by decide +kernel
theorem dX3_target_21 : decode cX3_target 21 = .ok (.ifCond .ne 6, 3) := by decide +kernel
theorem dX3_target_24 : decode cX3_target 24 = .ok (.bipush (-2), 2) := by decide +kernel
theorem dX3_target_26 : decode cX3_target 26 = .ok (.ireturn, 1) := by decide +kernel
theorem dX3_target_27 : decode cX3_target 27 = .ok (.aload_n 0, 1) := by decide +kernel
theorem dX3_target_28 : decode cX3_target 28 = .ok (.getfield 13, 3) := by decide +kernel
theorem dX3_target_31 : decode cX3_target 31 = .ok (.iload_n 1, 1) := by decide +kernel
theorem dX3_target_32 : decode cX3_target 32 = .ok (.iaload, 1) := by decide +kernel
theorem dX3_target_33 : decode cX3_target 33 = .ok (.istore_n 3, 1) := by decide +kernel
theorem dX3_target_34 : decode cX3_target 34 = .ok (.aload_n 0, 1) := by decide +kernel
theorem dX3_target_35 : decode cX3_target 35 = .ok (.getfield 13, 3) := by decide +kernel
theorem dX3_target_38 : decode cX3_target 38 = .ok (.iload_n 1, 1) := by decide +kernel
theorem dX3_target_39 : decode cX3_target 39 = .ok (.iload_n 2, 1) := by decide +kernel
theorem dX3_target_40 : decode cX3_target 40 = .ok (.iastore, 1) := by decide +kernel
theorem dX3_target_41 : decode cX3_target 41 = .ok (.iload_n 3, 1) := by decide +kernel
theorem dX3_target_42 : decode cX3_target 42 = .ok (.ireturn, 1) := by decide +kernel
theorem dX3_aim_0 : decode cX3_aim 0 = .ok (.aload_n 0, 1) := by decide +kernel
theorem dX3_aim_1 : decode cX3_aim 1 = .ok (.getfield 19, 3) := by decide +kernel
theorem dX3_aim_4 : decode cX3_aim 4 = .ok (.getfield 83, 3) := by decide +kernel
theorem dX3_aim_7 : decode cX3_aim 7 = .ok (.aload_n 0, 1) := by decide +kernel
theorem dX3_aim_8 : decode cX3_aim 8 = .ok (.getfield 26, 3) := by decide +kernel
theorem dX3_aim_11 : decode cX3_aim 11 = .ok (.getfield 87, 3) := by decide +kernel
theorem dX3_aim_14 : decode cX3_aim 14 = .ok (.aaload, 1) := by decide +kernel
theorem dX3_aim_15 : decode cX3_aim 15 = .ok (.astore_n 1, 1) := by decide +kernel
theorem dX3_aim_16 : decode cX3_aim 16 = .ok (.iconst 0, 1) := by decide +kernel
theorem dX3_aim_17 : decode cX3_aim 17 = .ok (.istore_n 2, 1) := by decide +kernel
theorem dX3_aim_18 : decode cX3_aim 18 = .ok (.iconst 0, 1) := by decide +kernel
theorem dX3_aim_19 : decode cX3_aim 19 = .ok (.istore_n 3, 1) := by decide +kernel
theorem dX3_aim_20 : decode cX3_aim 20 = .ok (.iload_n 3, 1) := by decide +kernel
theorem dX3_aim_21 : decode cX3_aim 21 = .ok (.aload_n 0, 1) := by decide +kernel
theorem dX3_aim_22 : decode cX3_aim 22 = .ok (.getfield 19, 3) := by decide +kernel
theorem dX3_aim_25 : decode cX3_aim 25 = .ok (.getfield 56, 3) := by decide +kernel
theorem dX3_aim_28 : decode cX3_aim 28 = .ok (.if_icmp .ge 33, 3) := by decide +kernel
theorem dX3_aim_31 : decode cX3_aim 31 = .ok (.aload_n 0, 1) := by decide +kernel
theorem dX3_aim_32 : decode cX3_aim 32 = .ok (.getfield 13, 3) := by decide +kernel
theorem dX3_aim_35 : decode cX3_aim 35 = .ok (.iload_n 3, 1) := by decide +kernel
theorem dX3_aim_36 : decode cX3_aim 36 = .ok (.iaload, 1) := by decide +kernel
theorem dX3_aim_37 : decode cX3_aim 37 = .ok (.aload_n 1, 1) := by decide +kernel
theorem dX3_aim_38 : decode cX3_aim 38 = .ok (.iload_n 3, 1) := by decide +kernel
theorem dX3_aim_39 : decode cX3_aim 39 = .ok (.iaload, 1) := by decide +kernel
theorem dX3_aim_40 : decode cX3_aim 40 = .ok (.if_icmp .eq 15, 3) := by decide +kernel
theorem dX3_aim_43 : decode cX3_aim 43 = .ok (.aload_n 0, 1) := by decide +kernel
theorem dX3_aim_44 : decode cX3_aim 44 = .ok (.getfield 13, 3) := by decide +kernel
theorem dX3_aim_47 : decode cX3_aim 47 = .ok (.iload_n 3, 1) := by decide +kernel
theorem dX3_aim_48 : decode cX3_aim 48 = .ok (.aload_n 1, 1) := by decide +kernel
theorem dX3_aim_49 : decode cX3_aim 49 = .ok (.iload_n 3, 1) := by decide +kernel
theorem dX3_aim_50 : decode cX3_aim 50 = .ok (.iaload, 1) := by decide +kernel
theorem dX3_aim_51 : decode cX3_aim 51 = .ok (.iastore, 1) := by decide +kernel
theorem dX3_aim_52 : decode cX3_aim 52 = .ok (.iinc 2 1, 3) := by decide +kernel
theorem dX3_aim_55 : decode cX3_aim 55 = .ok (.iinc 3 1, 3) := by decide +kernel
theorem dX3_aim_58 : decode cX3_aim 58 = .ok (.goto (-38), 3) := by decide +kernel
theorem dX3_aim_61 : decode cX3_aim 61 = .ok (.iload_n 2, 1) := by decide +kernel
theorem dX3_aim_62 : decode cX3_aim 62 = .ok (.ireturn, 1) := by decide +kernel
theorem dX3_add_0 : decode cX3_add 0 = .ok (.iload_n 1, 1) := by decide +kernel
theorem dX3_add_1 : decode cX3_add 1 = .ok (.invokestatic 77, 3) := by decide +kernel
theorem dX3_add_4 : decode cX3_add 4 = .ok (.ifCond .eq 19, 3) := by decide +kernel
theorem dX3_add_7 : decode cX3_add 7 = .ok (.aload_n 0, 1) := by decide +kernel
theorem dX3_add_8 : decode cX3_add 8 = .ok (.iload_n 2, 1) := by decide +kernel
theorem dX3_add_9 : decode cX3_add 9 = .ok (.invokevirtual 90, 3) := by decide +kernel
theorem dX3_add_12 : decode cX3_add 12 = .ok (.ifCond .eq 11, 3) := by decide +kernel
theorem dX3_add_15 : decode cX3_add 15 = .ok (.aload_n 0, 1) := by decide +kernel
theorem dX3_add_16 : decode cX3_add 16 = .ok (.iload_n 3, 1) := by decide +kernel
theorem dX3_add_17 : decode cX3_add 17 = .ok (.invokevirtual 90, 3) := by decide +kernel
theorem dX3_add_20 : decode cX3_add 20 = .ok (.ifCond .ne 5, 3) := by decide +kernel
theorem dX3_add_23 : decode cX3_add 23 = .ok (.iconst (-1), 1) := by decide +kernel
theorem dX3_add_24 : decode cX3_add 24 = .ok (.ireturn, 1) := by decide +kernel
theorem dX3_add_25 : decode cX3_add 25 = .ok (.aload_n 0, 1) := by decide +kernel
theorem dX3_add_26 : decode cX3_add 26 = .ok (.getfield 26, 3) := by decide +kernel
theorem dX3_add_29 : decode cX3_add 29 = .ok (.getfield 64, 3) := by decide +kernel
theorem dX3_add_32 : decode cX3_add 32 = .ok (.bipush 12, 2) := by decide +kernel
theorem dX3_add_34 : decode cX3_add 34 = .ok (.if_icmp .lt 6, 3) := by decide +kernel
theorem dX3_add_37 : decode cX3_add 37 = .ok (.bipush (-4), 2) := by decide +kernel
theorem dX3_add_39 : decode cX3_add 39 = .ok (.ireturn, 1) := by decide +kernel
theorem dX3_add_40 : decode cX3_add 40 = .ok (.aload_n 0, 1) := by decide +kernel
theorem dX3_add_41 : decode cX3_add 41 = .ok (.invokevirtual 93, 3) := by decide +kernel
theorem dX3_add_44 : decode cX3_add 44 = .ok (.istore 4, 2) := by decide +kernel
theorem dX3_add_46 : decode cX3_add 46 = .ok (.aload_n 0, 1) := by decide +kernel
theorem dX3_add_47 : decode cX3_add 47 = .ok (.getfield 26, 3) := by decide +kernel
theorem dX3_add_50 : decode cX3_add 50 = .ok (.aload_n 0, 1) := by decide +kernel
theorem dX3_add_51 : decode cX3_add 51 = .ok (.getfield 26, 3) := by decide +kernel
theorem dX3_add_54 : decode cX3_add 54 = .ok (.getfield 64, 3) := by decide +kernel
theorem dX3_add_57 : decode cX3_add 57 = .ok (.iload_n 1, 1) := by decide +kernel
theorem dX3_add_58 : decode cX3_add 58 = .ok (.iload_n 2, 1) := by decide +kernel
theorem dX3_add_59 : decode cX3_add 59 = .ok (.iload_n 1, 1) := by decide +kernel
theorem dX3_add_60 : decode cX3_add 60 = .ok (.invokestatic 96, 3) := by decide +kernel
theorem dX3_add_63 : decode cX3_add 63 = .ok (.ifCond .eq 7, 3) := by decide +kernel
theorem dX3_add_66 : decode cX3_add 66 = .ok (.iconst 0, 1) := by decide +kernel
theorem dX3_add_67 : decode cX3_add 67 = .ok (.goto 4, 3) := by decide +kernel
theorem dX3_add_70 : decode cX3_add 70 = .ok (.iload_n 3, 1) := by decide +kernel
theorem dX3_add_71 : decode cX3_add 71 = .ok (.invokevirtual 99, 3) := by decide +kernel
theorem dX3_add_74 : decode cX3_add 74 = .ok (.aload_n 0, 1) := by decide +kernel
theorem dX3_add_75 : decode cX3_add 75 = .ok (.getfield 26, 3) := by decide +kernel
theorem dX3_add_78 : decode cX3_add 78 = .ok (.dup, 1) := by decide +kernel
theorem dX3_add_79 : decode cX3_add 79 = .ok (.getfield 64, 3) := by decide +kernel
theorem dX3_add_82 : decode cX3_add 82 = .ok (.iconst 1, 1) := by decide +kernel
theorem dX3_add_83 : decode cX3_add 83 = .ok (.iadd, 1) := by decide +kernel
theorem dX3_add_84 : decode cX3_add 84 = .ok (.putfield 64, 3) := by decide +kernel
theorem dX3_add_87 : decode cX3_add 87 = .ok (.aload_n 0, 1) := by decide +kernel
theorem dX3_add_88 : decode cX3_add 88 = .ok (.getfield 26, 3) := by decide +kernel
theorem dX3_add_91 : decode cX3_add 91 = .ok (.iload 4, 2) := by decide +kernel
theorem dX3_add_93 : decode cX3_add 93 = .ok (.putfield 87, 3) := by decide +kernel
theorem dX3_add_96 : decode cX3_add 96 = .ok (.aload_n 0, 1) := by decide +kernel
theorem dX3_add_97 : decode cX3_add 97 = .ok (.aload_n 0, 1) := by decide +kernel
theorem dX3_add_98 : decode cX3_add 98 = .ok (.getfield 26, 3) := by decide +kernel
theorem dX3_add_101 : decode cX3_add 101 = .ok (.getfield 64, 3) := by decide +kernel
theorem dX3_add_104 : decode cX3_add 104 = .ok (.iconst 1, 1) := by decide +kernel
theorem dX3_add_105 : decode cX3_add 105 = .ok (.isub, 1) := by decide +kernel
theorem dX3_add_106 : decode cX3_add 106 = .ok (.invokevirtual 103, 3) := by decide +kernel
theorem dX3_add_109 : decode cX3_add 109 = .ok (.iload 4, 2) := by decide +kernel
theorem dX3_add_111 : decode cX3_add 111 = .ok (.ireturn, 1) := by decide +kernel
theorem dX3_drop_0 : decode cX3_drop 0 = .ok (.aload_n 0, 1) := by decide +kernel
theorem dX3_drop_1 : decode cX3_drop 1 = .ok (.getfield 26, 3) := by decide +kernel
theorem dX3_drop_4 : decode cX3_drop 4 = .ok (.getfield 64, 3) := by decide +kernel
theorem dX3_drop_7 : decode cX3_drop 7 = .ok (.iconst 1, 1) := by decide +kernel
theorem dX3_drop_8 : decode cX3_drop 8 = .ok (.if_icmp .ge 6, 3) := by decide +kernel
theorem dX3_drop_11 : decode cX3_drop 11 = .ok (.bipush (-3), 2) := by decide +kernel
theorem dX3_drop_13 : decode cX3_drop 13 = .ok (.ireturn, 1) := by decide +kernel
theorem dX3_drop_14 : decode cX3_drop 14 = .ok (.aload_n 0, 1) := by decide +kernel
theorem dX3_drop_15 : decode cX3_drop 15 = .ok (.getfield 26, 3) := by decide +kernel
theorem dX3_drop_18 : decode cX3_drop 18 = .ok (.dup, 1) := by decide +kernel
theorem dX3_drop_19 : decode cX3_drop 19 = .ok (.getfield 64, 3) := by decide +kernel
theorem dX3_drop_22 : decode cX3_drop 22 = .ok (.iconst 1, 1) := by decide +kernel
theorem dX3_drop_23 : decode cX3_drop 23 = .ok (.isub, 1) := by decide +kernel
theorem dX3_drop_24 : decode cX3_drop 24 = .ok (.putfield 64, 3) := by decide +kernel
theorem dX3_drop_27 : decode cX3_drop 27 = .ok (.aload_n 0, 1) := by decide +kernel
theorem dX3_drop_28 : decode cX3_drop 28 = .ok (.getfield 26, 3) := by decide +kernel
theorem dX3_drop_31 : decode cX3_drop 31 = .ok (.getfield 87, 3) := by decide +kernel
theorem dX3_drop_34 : decode cX3_drop 34 = .ok (.aload_n 0, 1) := by decide +kernel
theorem dX3_drop_35 : decode cX3_drop 35 = .ok (.invokevirtual 93, 3) := by decide +kernel
theorem dX3_drop_38 : decode cX3_drop 38 = .ok (.if_icmp .ne 11, 3) := by decide +kernel
theorem dX3_drop_41 : decode cX3_drop 41 = .ok (.aload_n 0, 1) := by decide +kernel
theorem dX3_drop_42 : decode cX3_drop 42 = .ok (.getfield 26, 3) := by decide +kernel
theorem dX3_drop_45 : decode cX3_drop 45 = .ok (.iconst 0, 1) := by decide +kernel
theorem dX3_drop_46 : decode cX3_drop 46 = .ok (.putfield 87, 3) := by decide +kernel
theorem dX3_drop_49 : decode cX3_drop 49 = .ok (.aload_n 0, 1) := by decide +kernel
theorem dX3_drop_50 : decode cX3_drop 50 = .ok (.getfield 26, 3) := by decide +kernel
theorem dX3_drop_53 : decode cX3_drop 53 = .ok (.getfield 64, 3) := by decide +kernel
theorem dX3_drop_56 : decode cX3_drop 56 = .ok (.ireturn, 1) := by decide +kernel
theorem dX3_result_0 : decode cX3_result 0 = .ok (.aload_n 0, 1) := by decide +kernel
theorem dX3_result_1 : decode cX3_result 1 = .ok (.iload_n 1, 1) := by decide +kernel
theorem dX3_result_2 : decode cX3_result 2 = .ok (.invokevirtual 90, 3) := by decide +kernel
theorem dX3_result_5 : decode cX3_result 5 = .ok (.ifCond .ne 5, 3) := by decide +kernel
theorem dX3_result_8 : decode cX3_result 8 = .ok (.iconst (-1), 1) := by decide +kernel
theorem dX3_result_9 : decode cX3_result 9 = .ok (.ireturn, 1) := by decide +kernel
theorem dX3_result_10 : decode cX3_result 10 = .ok (.aload_n 0, 1) := by decide +kernel
theorem dX3_result_11 : decode cX3_result 11 = .ok (.getfield 26, 3) := by decide +kernel
theorem dX3_result_14 : decode cX3_result 14 = .ok (.getfield 87, 3) := by decide +kernel
theorem dX3_result_17 : decode cX3_result 17 = .ok (.istore_n 2, 1) := by decide +kernel
theorem dX3_result_18 : decode cX3_result 18 = .ok (.aload_n 0, 1) := by decide +kernel
theorem dX3_result_19 : decode cX3_result 19 = .ok (.getfield 26, 3) := by decide +kernel
theorem dX3_result_22 : decode cX3_result 22 = .ok (.iload_n 1, 1) := by decide +kernel
theorem dX3_result_23 : decode cX3_result 23 = .ok (.putfield 87, 3) := by decide +kernel
theorem dX3_result_26 : decode cX3_result 26 = .ok (.iload_n 2, 1) := by decide +kernel
theorem dX3_result_27 : decode cX3_result 27 = .ok (.ireturn, 1) := by decide +kernel
theorem dX3_instruction_0 : decode cX3_instruction 0 = .ok (.iload_n 1, 1) := by decide +kernel
theorem dX3_instruction_1 : decode cX3_instruction 1 = .ok (.ifCond .lt 14, 3) := by decide +kernel
theorem dX3_instruction_4 : decode cX3_instruction 4 = .ok (.iload_n 1, 1) := by decide +kernel
theorem dX3_instruction_5 : decode cX3_instruction 5 = .ok (.aload_n 0, 1) := by decide +kernel
theorem dX3_instruction_6 : decode cX3_instruction 6 = .ok (.getfield 26, 3) := by decide +kernel
theorem dX3_instruction_9 : decode cX3_instruction 9 = .ok (.getfield 64, 3) := by decide +kernel
theorem dX3_instruction_12 : decode cX3_instruction 12 = .ok (.if_icmp .lt 5, 3) := by decide +kernel
theorem dX3_instruction_15 : decode cX3_instruction 15 = .ok (.iconst (-1), 1) := by decide +kernel
theorem dX3_instruction_16 : decode cX3_instruction 16 = .ok (.ireturn, 1) := by decide +kernel
theorem dX3_instruction_17 : decode cX3_instruction 17 = .ok (.iload_n 2, 1) := by decide +kernel
theorem dX3_instruction_18 : decode cX3_instruction 18 = .ok (.tableswitch 56 0 2 #[26, 36, 46], 26) := by decide +kernel
theorem dX3_instruction_44 : decode cX3_instruction 44 = .ok (.aload_n 0, 1) := by decide +kernel
theorem dX3_instruction_45 : decode cX3_instruction 45 = .ok (.getfield 26, 3) := by decide +kernel
theorem dX3_instruction_48 : decode cX3_instruction 48 = .ok (.getfield 106, 3) := by decide +kernel
theorem dX3_instruction_51 : decode cX3_instruction 51 = .ok (.iload_n 1, 1) := by decide +kernel
theorem dX3_instruction_52 : decode cX3_instruction 52 = .ok (.iaload, 1) := by decide +kernel
theorem dX3_instruction_53 : decode cX3_instruction 53 = .ok (.ireturn, 1) := by decide +kernel
theorem dX3_instruction_54 : decode cX3_instruction 54 = .ok (.aload_n 0, 1) := by decide +kernel
theorem dX3_instruction_55 : decode cX3_instruction 55 = .ok (.getfield 26, 3) := by decide +kernel
theorem dX3_instruction_58 : decode cX3_instruction 58 = .ok (.getfield 109, 3) := by decide +kernel
theorem dX3_instruction_61 : decode cX3_instruction 61 = .ok (.iload_n 1, 1) := by decide +kernel
theorem dX3_instruction_62 : decode cX3_instruction 62 = .ok (.iaload, 1) := by decide +kernel
theorem dX3_instruction_63 : decode cX3_instruction 63 = .ok (.ireturn, 1) := by decide +kernel
theorem dX3_instruction_64 : decode cX3_instruction 64 = .ok (.aload_n 0, 1) := by decide +kernel
theorem dX3_instruction_65 : decode cX3_instruction 65 = .ok (.getfield 26, 3) := by decide +kernel
theorem dX3_instruction_68 : decode cX3_instruction 68 = .ok (.getfield 112, 3) := by decide +kernel
theorem dX3_instruction_71 : decode cX3_instruction 71 = .ok (.iload_n 1, 1) := by decide +kernel
theorem dX3_instruction_72 : decode cX3_instruction 72 = .ok (.iaload, 1) := by decide +kernel
theorem dX3_instruction_73 : decode cX3_instruction 73 = .ok (.ireturn, 1) := by decide +kernel
theorem dX3_instruction_74 : decode cX3_instruction 74 = .ok (.bipush (-2), 2) := by decide +kernel
theorem dX3_instruction_76 : decode cX3_instruction 76 = .ok (.ireturn, 1) := by decide +kernel
theorem dX3_count_0 : decode cX3_count 0 = .ok (.iload_n 1, 1) := by decide +kernel
theorem dX3_count_1 : decode cX3_count 1 = .ok (.tableswitch 84 0 5 #[39, 47, 55, 63, 71, 79], 39) := by decide +kernel
theorem dX3_count_40 : decode cX3_count 40 = .ok (.aload_n 0, 1) := by decide +kernel
theorem dX3_count_41 : decode cX3_count 41 = .ok (.getfield 19, 3) := by decide +kernel
theorem dX3_count_44 : decode cX3_count 44 = .ok (.getfield 115, 3) := by decide +kernel
theorem dX3_count_47 : decode cX3_count 47 = .ok (.ireturn, 1) := by decide +kernel
theorem dX3_count_48 : decode cX3_count 48 = .ok (.aload_n 0, 1) := by decide +kernel
theorem dX3_count_49 : decode cX3_count 49 = .ok (.getfield 19, 3) := by decide +kernel
theorem dX3_count_52 : decode cX3_count 52 = .ok (.getfield 118, 3) := by decide +kernel
theorem dX3_count_55 : decode cX3_count 55 = .ok (.ireturn, 1) := by decide +kernel
theorem dX3_count_56 : decode cX3_count 56 = .ok (.aload_n 0, 1) := by decide +kernel
theorem dX3_count_57 : decode cX3_count 57 = .ok (.getfield 19, 3) := by decide +kernel
theorem dX3_count_60 : decode cX3_count 60 = .ok (.getfield 67, 3) := by decide +kernel
theorem dX3_count_63 : decode cX3_count 63 = .ok (.ireturn, 1) := by decide +kernel
theorem dX3_count_64 : decode cX3_count 64 = .ok (.aload_n 0, 1) := by decide +kernel
theorem dX3_count_65 : decode cX3_count 65 = .ok (.getfield 26, 3) := by decide +kernel
theorem dX3_count_68 : decode cX3_count 68 = .ok (.getfield 64, 3) := by decide +kernel
theorem dX3_count_71 : decode cX3_count 71 = .ok (.ireturn, 1) := by decide +kernel
theorem dX3_count_72 : decode cX3_count 72 = .ok (.aload_n 0, 1) := by decide +kernel
theorem dX3_count_73 : decode cX3_count 73 = .ok (.getfield 26, 3) := by decide +kernel
theorem dX3_count_76 : decode cX3_count 76 = .ok (.getfield 87, 3) := by decide +kernel
theorem dX3_count_79 : decode cX3_count 79 = .ok (.ireturn, 1) := by decide +kernel
theorem dX3_count_80 : decode cX3_count 80 = .ok (.aload_n 0, 1) := by decide +kernel
theorem dX3_count_81 : decode cX3_count 81 = .ok (.invokevirtual 121, 3) := by decide +kernel
theorem dX3_count_84 : decode cX3_count 84 = .ok (.ireturn, 1) := by decide +kernel
theorem dX3_count_85 : decode cX3_count 85 = .ok (.bipush (-2), 2) := by decide +kernel
theorem dX3_count_87 : decode cX3_count 87 = .ok (.ireturn, 1) := by decide +kernel
theorem dX3_value_0 : decode cX3_value 0 = .ok (.aload_n 0, 1) := by decide +kernel
theorem dX3_value_1 : decode cX3_value 1 = .ok (.iload_n 1, 1) := by decide +kernel
theorem dX3_value_2 : decode cX3_value 2 = .ok (.invokevirtual 90, 3) := by decide +kernel
theorem dX3_value_5 : decode cX3_value 5 = .ok (.ifCond .eq 14, 3) := by decide +kernel
theorem dX3_value_8 : decode cX3_value 8 = .ok (.aload_n 0, 1) := by decide +kernel
theorem dX3_value_9 : decode cX3_value 9 = .ok (.getfield 19, 3) := by decide +kernel
theorem dX3_value_12 : decode cX3_value 12 = .ok (.iload_n 2, 1) := by decide +kernel
theorem dX3_value_13 : decode cX3_value 13 = .ok (.invokevirtual 80, 3) := by decide +kernel
theorem dX3_value_16 : decode cX3_value 16 = .ok (.ifCond .ne 5, 3) := by decide +kernel
theorem dX3_value_19 : decode cX3_value 19 = .ok (.iconst (-1), 1) := by decide +kernel
theorem dX3_value_20 : decode cX3_value 20 = .ok (.ireturn, 1) := by decide +kernel
theorem dX3_value_21 : decode cX3_value 21 = .ok (.aload_n 0, 1) := by decide +kernel
theorem dX3_value_22 : decode cX3_value 22 = .ok (.getfield 19, 3) := by decide +kernel
theorem dX3_value_25 : decode cX3_value 25 = .ok (.getfield 83, 3) := by decide +kernel
theorem dX3_value_28 : decode cX3_value 28 = .ok (.iload_n 1, 1) := by decide +kernel
theorem dX3_value_29 : decode cX3_value 29 = .ok (.aaload, 1) := by decide +kernel
theorem dX3_value_30 : decode cX3_value 30 = .ok (.iload_n 2, 1) := by decide +kernel
theorem dX3_value_31 : decode cX3_value 31 = .ok (.iaload, 1) := by decide +kernel
theorem dX3_value_32 : decode cX3_value 32 = .ok (.ireturn, 1) := by decide +kernel
theorem dX3_differ_0 : decode cX3_differ 0 = .ok (.aload_n 0, 1) := by decide +kernel
theorem dX3_differ_1 : decode cX3_differ 1 = .ok (.iload_n 1, 1) := by decide +kernel
theorem dX3_differ_2 : decode cX3_differ 2 = .ok (.invokevirtual 90, 3) := by decide +kernel
theorem dX3_differ_5 : decode cX3_differ 5 = .ok (.ifCond .eq 17, 3) := by decide +kernel
theorem dX3_differ_8 : decode cX3_differ 8 = .ok (.iload_n 2, 1) := by decide +kernel
theorem dX3_differ_9 : decode cX3_differ 9 = .ok (.bipush (-2), 2) := by decide +kernel
theorem dX3_differ_11 : decode cX3_differ 11 = .ok (.if_icmp .eq 13, 3) := by decide +kernel
theorem dX3_differ_14 : decode cX3_differ 14 = .ok (.aload_n 0, 1) := by decide +kernel
theorem dX3_differ_15 : decode cX3_differ 15 = .ok (.iload_n 2, 1) := by decide +kernel
theorem dX3_differ_16 : decode cX3_differ 16 = .ok (.invokevirtual 90, 3) := by decide +kernel
theorem dX3_differ_19 : decode cX3_differ 19 = .ok (.ifCond .ne 5, 3) := by decide +kernel
theorem dX3_differ_22 : decode cX3_differ 22 = .ok (.iconst (-1), 1) := by decide +kernel
theorem dX3_differ_23 : decode cX3_differ 23 = .ok (.ireturn, 1) := by decide +kernel
theorem dX3_differ_24 : decode cX3_differ 24 = .ok (.iload_n 2, 1) := by decide +kernel
theorem dX3_differ_25 : decode cX3_differ 25 = .ok (.bipush (-2), 2) := by decide +kernel
theorem dX3_differ_27 : decode cX3_differ 27 = .ok (.if_icmp .ne 10, 3) := by decide +kernel
theorem dX3_differ_30 : decode cX3_differ 30 = .ok (.aload_n 0, 1) := by decide +kernel
theorem dX3_differ_31 : decode cX3_differ 31 = .ok (.getfield 13, 3) := by decide +kernel
theorem dX3_differ_34 : decode cX3_differ 34 = .ok (.goto 12, 3) := by decide +kernel
theorem dX3_differ_37 : decode cX3_differ 37 = .ok (.aload_n 0, 1) := by decide +kernel
theorem dX3_differ_38 : decode cX3_differ 38 = .ok (.getfield 19, 3) := by decide +kernel
theorem dX3_differ_41 : decode cX3_differ 41 = .ok (.getfield 83, 3) := by decide +kernel
theorem dX3_differ_44 : decode cX3_differ 44 = .ok (.iload_n 2, 1) := by decide +kernel
theorem dX3_differ_45 : decode cX3_differ 45 = .ok (.aaload, 1) := by decide +kernel
theorem dX3_differ_46 : decode cX3_differ 46 = .ok (.astore_n 3, 1) := by decide +kernel
theorem dX3_differ_47 : decode cX3_differ 47 = .ok (.aload_n 0, 1) := by decide +kernel
theorem dX3_differ_48 : decode cX3_differ 48 = .ok (.getfield 19, 3) := by decide +kernel
theorem dX3_differ_51 : decode cX3_differ 51 = .ok (.aload_n 0, 1) := by decide +kernel
theorem dX3_differ_52 : decode cX3_differ 52 = .ok (.getfield 19, 3) := by decide +kernel
theorem dX3_differ_55 : decode cX3_differ 55 = .ok (.getfield 83, 3) := by decide +kernel
theorem dX3_differ_58 : decode cX3_differ 58 = .ok (.iload_n 1, 1) := by decide +kernel
theorem dX3_differ_59 : decode cX3_differ 59 = .ok (.aaload, 1) := by decide +kernel
theorem dX3_differ_60 : decode cX3_differ 60 = .ok (.aload_n 3, 1) := by decide +kernel
theorem dX3_differ_61 : decode cX3_differ 61 = .ok (.invokevirtual 124, 3) := by decide +kernel
theorem dX3_differ_64 : decode cX3_differ 64 = .ok (.istore 4, 2) := by decide +kernel
theorem dX3_differ_66 : decode cX3_differ 66 = .ok (.iload 4, 2) := by decide +kernel
theorem dX3_differ_68 : decode cX3_differ 68 = .ok (.ifCond .ge 8, 3) := by decide +kernel
theorem dX3_differ_71 : decode cX3_differ 71 = .ok (.bipush (-5), 2) := by decide +kernel
theorem dX3_differ_73 : decode cX3_differ 73 = .ok (.goto 5, 3) := by decide +kernel
theorem dX3_differ_76 : decode cX3_differ 76 = .ok (.iload 4, 2) := by decide +kernel
theorem dX3_differ_78 : decode cX3_differ 78 = .ok (.ireturn, 1) := by decide +kernel
theorem dX3_clean_0 : decode cX3_clean 0 = .ok (.aload_n 0, 1) := by decide +kernel
theorem dX3_clean_1 : decode cX3_clean 1 = .ok (.getfield 26, 3) := by decide +kernel
theorem dX3_clean_4 : decode cX3_clean 4 = .ok (.getfield 64, 3) := by decide +kernel
theorem dX3_clean_7 : decode cX3_clean 7 = .ok (.istore_n 1, 1) := by decide +kernel
theorem dX3_clean_8 : decode cX3_clean 8 = .ok (.iconst 0, 1) := by decide +kernel
theorem dX3_clean_9 : decode cX3_clean 9 = .ok (.istore_n 2, 1) := by decide +kernel
theorem dX3_clean_10 : decode cX3_clean 10 = .ok (.iload_n 2, 1) := by decide +kernel
theorem dX3_clean_11 : decode cX3_clean 11 = .ok (.iload_n 1, 1) := by decide +kernel
theorem dX3_clean_12 : decode cX3_clean 12 = .ok (.if_icmp .ge 26, 3) := by decide +kernel
theorem dX3_clean_15 : decode cX3_clean 15 = .ok (.aload_n 0, 1) := by decide +kernel
theorem dX3_clean_16 : decode cX3_clean 16 = .ok (.invokevirtual 128, 3) := by decide +kernel
theorem dX3_clean_19 : decode cX3_clean 19 = .ok (.ifCond .ne 13, 3) := by decide +kernel
theorem dX3_clean_22 : decode cX3_clean 22 = .ok (.aload_n 0, 1) := by decide +kernel
theorem dX3_clean_23 : decode cX3_clean 23 = .ok (.invokevirtual 132, 3) := by decide +kernel
theorem dX3_clean_26 : decode cX3_clean 26 = .ok (.ifCond .ne 6, 3) := by decide +kernel
theorem dX3_clean_29 : decode cX3_clean 29 = .ok (.goto 9, 3) := by decide +kernel
theorem dX3_clean_32 : decode cX3_clean 32 = .ok (.iinc 2 1, 3) := by decide +kernel
theorem dX3_clean_35 : decode cX3_clean 35 = .ok (.goto (-25), 3) := by decide +kernel
theorem dX3_clean_38 : decode cX3_clean 38 = .ok (.iload_n 1, 1) := by decide +kernel
theorem dX3_clean_39 : decode cX3_clean 39 = .ok (.aload_n 0, 1) := by decide +kernel
theorem dX3_clean_40 : decode cX3_clean 40 = .ok (.getfield 26, 3) := by decide +kernel
theorem dX3_clean_43 : decode cX3_clean 43 = .ok (.getfield 64, 3) := by decide +kernel
theorem dX3_clean_46 : decode cX3_clean 46 = .ok (.isub, 1) := by decide +kernel
theorem dX3_clean_47 : decode cX3_clean 47 = .ok (.ireturn, 1) := by decide +kernel
theorem dX3_search_0 : decode cX3_search 0 = .ok (.iload_n 1, 1) := by decide +kernel
theorem dX3_search_1 : decode cX3_search 1 = .ok (.ifCond .lt 20, 3) := by decide +kernel
theorem dX3_search_4 : decode cX3_search 4 = .ok (.iload_n 1, 1) := by decide +kernel
theorem dX3_search_5 : decode cX3_search 5 = .ok (.bipush 30, 2) := by decide +kernel
theorem dX3_search_7 : decode cX3_search 7 = .ok (.if_icmp .gt 14, 3) := by decide +kernel
theorem dX3_search_10 : decode cX3_search 10 = .ok (.iload_n 2, 1) := by decide +kernel
theorem dX3_search_11 : decode cX3_search 11 = .ok (.ifCond .lt 10, 3) := by decide +kernel
theorem dX3_search_14 : decode cX3_search 14 = .ok (.iload_n 2, 1) := by decide +kernel
theorem dX3_search_15 : decode cX3_search 15 = .ok (.sipush 30000, 3) := by decide +kernel
theorem dX3_search_18 : decode cX3_search 18 = .ok (.if_icmp .le 6, 3) := by decide +kernel
theorem dX3_search_21 : decode cX3_search 21 = .ok (.bipush (-2), 2) := by decide +kernel
theorem dX3_search_23 : decode cX3_search 23 = .ok (.ireturn, 1) := by decide +kernel
theorem dX3_search_24 : decode cX3_search 24 = .ok (.iload_n 3, 1) := by decide +kernel
theorem dX3_search_25 : decode cX3_search 25 = .ok (.ifCond .eq 11, 3) := by decide +kernel
theorem dX3_search_28 : decode cX3_search 28 = .ok (.iload_n 3, 1) := by decide +kernel
theorem dX3_search_29 : decode cX3_search 29 = .ok (.iconst 1, 1) := by decide +kernel
theorem dX3_search_30 : decode cX3_search 30 = .ok (.if_icmp .eq 6, 3) := by decide +kernel
theorem dX3_search_33 : decode cX3_search 33 = .ok (.bipush (-2), 2) := by decide +kernel
theorem dX3_search_35 : decode cX3_search 35 = .ok (.ireturn, 1) := by decide +kernel
theorem dX3_search_36 : decode cX3_search 36 = .ok (.aload_n 0, 1) := by decide +kernel
theorem dX3_search_37 : decode cX3_search 37 = .ok (.getfield 40, 3) := by decide +kernel
theorem dX3_search_40 : decode cX3_search 40 = .ok (.aload_n 0, 1) := by decide +kernel
theorem dX3_search_41 : decode cX3_search 41 = .ok (.getfield 19, 3) := by decide +kernel
theorem dX3_search_44 : decode cX3_search 44 = .ok (.aload_n 0, 1) := by decide +kernel
theorem dX3_search_45 : decode cX3_search 45 = .ok (.getfield 9, 3) := by decide +kernel
theorem dX3_search_48 : decode cX3_search 48 = .ok (.aload_n 0, 1) := by decide +kernel
theorem dX3_search_49 : decode cX3_search 49 = .ok (.getfield 13, 3) := by decide +kernel
theorem dX3_search_52 : decode cX3_search 52 = .ok (.invokevirtual 135, 3) := by decide +kernel
theorem dX3_search_55 : decode cX3_search 55 = .ok (.aload_n 0, 1) := by decide +kernel
theorem dX3_search_56 : decode cX3_search 56 = .ok (.getfield 40, 3) := by decide +kernel
theorem dX3_search_59 : decode cX3_search 59 = .ok (.iload_n 1, 1) := by decide +kernel
theorem dX3_search_60 : decode cX3_search 60 = .ok (.iload_n 2, 1) := by decide +kernel
theorem dX3_search_61 : decode cX3_search 61 = .ok (.iload_n 3, 1) := by decide +kernel
theorem dX3_search_62 : decode cX3_search 62 = .ok (.iconst 1, 1) := by decide +kernel
theorem dX3_search_63 : decode cX3_search 63 = .ok (.if_icmp .ne 7, 3) := by decide +kernel
theorem dX3_search_66 : decode cX3_search 66 = .ok (.iconst 1, 1) := by decide +kernel
theorem dX3_search_67 : decode cX3_search 67 = .ok (.goto 4, 3) := by decide +kernel
theorem dX3_search_70 : decode cX3_search 70 = .ok (.iconst 0, 1) := by decide +kernel
theorem dX3_search_71 : decode cX3_search 71 = .ok (.invokevirtual 139, 3) := by decide +kernel
theorem dX3_search_74 : decode cX3_search 74 = .ok (.istore 4, 2) := by decide +kernel
theorem dX3_search_76 : decode cX3_search 76 = .ok (.iload 4, 2) := by decide +kernel
theorem dX3_search_78 : decode cX3_search 78 = .ok (.ifCond .lt 22, 3) := by decide +kernel
theorem dX3_search_81 : decode cX3_search 81 = .ok (.aload_n 0, 1) := by decide +kernel
theorem dX3_search_82 : decode cX3_search 82 = .ok (.getfield 30, 3) := by decide +kernel
theorem dX3_search_85 : decode cX3_search 85 = .ok (.aload_n 0, 1) := by decide +kernel
theorem dX3_search_86 : decode cX3_search 86 = .ok (.getfield 40, 3) := by decide +kernel
theorem dX3_search_89 : decode cX3_search 89 = .ok (.getfield 143, 3) := by decide +kernel
theorem dX3_search_92 : decode cX3_search 92 = .ok (.invokevirtual 146, 3) := by decide +kernel
theorem dX3_search_95 : decode cX3_search 95 = .ok (.aload_n 0, 1) := by decide +kernel
theorem dX3_search_96 : decode cX3_search 96 = .ok (.iconst 1, 1) := by decide +kernel
theorem dX3_search_97 : decode cX3_search 97 = .ok (.putfield 52, 3) := by decide +kernel
theorem dX3_search_100 : decode cX3_search 100 = .ok (.iload 4, 2) := by decide +kernel
theorem dX3_search_102 : decode cX3_search 102 = .ok (.ireturn, 1) := by decide +kernel
theorem dX3_told_0 : decode cX3_told 0 = .ok (.iload_n 1, 1) := by decide +kernel
theorem dX3_told_1 : decode cX3_told 1 = .ok (.tableswitch 63 0 3 #[31, 39, 47, 55], 31) := by decide +kernel
theorem dX3_told_32 : decode cX3_told 32 = .ok (.aload_n 0, 1) := by decide +kernel
theorem dX3_told_33 : decode cX3_told 33 = .ok (.getfield 40, 3) := by decide +kernel
theorem dX3_told_36 : decode cX3_told 36 = .ok (.getfield 150, 3) := by decide +kernel
theorem dX3_told_39 : decode cX3_told 39 = .ok (.ireturn, 1) := by decide +kernel
theorem dX3_told_40 : decode cX3_told 40 = .ok (.aload_n 0, 1) := by decide +kernel
theorem dX3_told_41 : decode cX3_told 41 = .ok (.getfield 40, 3) := by decide +kernel
theorem dX3_told_44 : decode cX3_told 44 = .ok (.getfield 153, 3) := by decide +kernel
theorem dX3_told_47 : decode cX3_told 47 = .ok (.ireturn, 1) := by decide +kernel
theorem dX3_told_48 : decode cX3_told 48 = .ok (.aload_n 0, 1) := by decide +kernel
theorem dX3_told_49 : decode cX3_told 49 = .ok (.getfield 40, 3) := by decide +kernel
theorem dX3_told_52 : decode cX3_told 52 = .ok (.getfield 156, 3) := by decide +kernel
theorem dX3_told_55 : decode cX3_told 55 = .ok (.ireturn, 1) := by decide +kernel
theorem dX3_told_56 : decode cX3_told 56 = .ok (.aload_n 0, 1) := by decide +kernel
theorem dX3_told_57 : decode cX3_told 57 = .ok (.getfield 40, 3) := by decide +kernel
theorem dX3_told_60 : decode cX3_told 60 = .ok (.getfield 159, 3) := by decide +kernel
theorem dX3_told_63 : decode cX3_told 63 = .ok (.ireturn, 1) := by decide +kernel
theorem dX3_told_64 : decode cX3_told 64 = .ok (.bipush (-2), 2) := by decide +kernel
theorem dX3_told_66 : decode cX3_told 66 = .ok (.ireturn, 1) := by decide +kernel
theorem dX3_take_0 : decode cX3_take 0 = .ok (.aload_n 0, 1) := by decide +kernel
theorem dX3_take_1 : decode cX3_take 1 = .ok (.getfield 52, 3) := by decide +kernel
theorem dX3_take_4 : decode cX3_take 4 = .ok (.ifCond .ne 6, 3) := by decide +kernel
theorem dX3_take_7 : decode cX3_take 7 = .ok (.bipush (-3), 2) := by decide +kernel
theorem dX3_take_9 : decode cX3_take 9 = .ok (.ireturn, 1) := by decide +kernel
theorem dX3_take_10 : decode cX3_take 10 = .ok (.aload_n 0, 1) := by decide +kernel
theorem dX3_take_11 : decode cX3_take 11 = .ok (.getfield 26, 3) := by decide +kernel
theorem dX3_take_14 : decode cX3_take 14 = .ok (.aload_n 0, 1) := by decide +kernel
theorem dX3_take_15 : decode cX3_take 15 = .ok (.getfield 30, 3) := by decide +kernel
theorem dX3_take_18 : decode cX3_take 18 = .ok (.invokevirtual 146, 3) := by decide +kernel
theorem dX3_take_21 : decode cX3_take 21 = .ok (.aload_n 0, 1) := by decide +kernel
theorem dX3_take_22 : decode cX3_take 22 = .ok (.iconst 0, 1) := by decide +kernel
theorem dX3_take_23 : decode cX3_take 23 = .ok (.invokevirtual 103, 3) := by decide +kernel
theorem dX3_take_26 : decode cX3_take 26 = .ok (.aload_n 0, 1) := by decide +kernel
theorem dX3_take_27 : decode cX3_take 27 = .ok (.getfield 26, 3) := by decide +kernel
theorem dX3_take_30 : decode cX3_take 30 = .ok (.getfield 64, 3) := by decide +kernel
theorem dX3_take_33 : decode cX3_take 33 = .ok (.ireturn, 1) := by decide +kernel
theorem dX3_isOperation_0 : decode cX3_isOperation 0 = .ok (.iload_n 0, 1) := by decide +kernel
theorem dX3_isOperation_1 : decode cX3_isOperation 1 = .ok (.ifCond .lt 13, 3) := by decide +kernel
theorem dX3_isOperation_4 : decode cX3_isOperation 4 = .ok (.iload_n 0, 1) := by decide +kernel
theorem dX3_isOperation_5 : decode cX3_isOperation 5 = .ok (.bipush 13, 2) := by decide +kernel
theorem dX3_isOperation_7 : decode cX3_isOperation 7 = .ok (.if_icmp .ge 7, 3) := by decide +kernel
theorem dX3_isOperation_10 : decode cX3_isOperation 10 = .ok (.iconst 1, 1) := by decide +kernel
theorem dX3_isOperation_11 : decode cX3_isOperation 11 = .ok (.goto 4, 3) := by decide +kernel
theorem dX3_isOperation_14 : decode cX3_isOperation 14 = .ok (.iconst 0, 1) := by decide +kernel
theorem dX3_isOperation_15 : decode cX3_isOperation 15 = .ok (.ireturn, 1) := by decide +kernel
theorem dX3_takesOne_0 : decode cX3_takesOne 0 = .ok (.iload_n 0, 1) := by decide +kernel
theorem dX3_takesOne_1 : decode cX3_takesOne 1 = .ok (.ifCond .eq 8, 3) := by decide +kernel
theorem dX3_takesOne_4 : decode cX3_takesOne 4 = .ok (.iload_n 0, 1) := by decide +kernel
theorem dX3_takesOne_5 : decode cX3_takesOne 5 = .ok (.iconst 1, 1) := by decide +kernel
theorem dX3_takesOne_6 : decode cX3_takesOne 6 = .ok (.if_icmp .ne 7, 3) := by decide +kernel
theorem dX3_takesOne_9 : decode cX3_takesOne 9 = .ok (.iconst 1, 1) := by decide +kernel
theorem dX3_takesOne_10 : decode cX3_takesOne 10 = .ok (.goto 4, 3) := by decide +kernel
theorem dX3_takesOne_13 : decode cX3_takesOne 13 = .ok (.iconst 0, 1) := by decide +kernel
theorem dX3_takesOne_14 : decode cX3_takesOne 14 = .ok (.ireturn, 1) := by decide +kernel
theorem dX3_isOrdered_0 : decode cX3_isOrdered 0 = .ok (.iload_n 0, 1) := by decide +kernel
theorem dX3_isOrdered_1 : decode cX3_isOrdered 1 = .ok (.tableswitch 61 2 12 #[59, 59, 59, 59, 61, 59, 61, 61, 61, 61, 59], 59) := by decide +kernel
theorem dX3_isOrdered_60 : decode cX3_isOrdered 60 = .ok (.iconst 1, 1) := by decide +kernel
theorem dX3_isOrdered_61 : decode cX3_isOrdered 61 = .ok (.ireturn, 1) := by decide +kernel
theorem dX3_isOrdered_62 : decode cX3_isOrdered 62 = .ok (.iconst 0, 1) := by decide +kernel
theorem dX3_isOrdered_63 : decode cX3_isOrdered 63 = .ok (.ireturn, 1) := by decide +kernel
theorem dX3_valueCount_0 : decode cX3_valueCount 0 = .ok (.aload_n 0, 1) := by decide +kernel
theorem dX3_valueCount_1 : decode cX3_valueCount 1 = .ok (.getfield 19, 3) := by decide +kernel
theorem dX3_valueCount_4 : decode cX3_valueCount 4 = .ok (.invokevirtual 73, 3) := by decide +kernel
theorem dX3_valueCount_7 : decode cX3_valueCount 7 = .ok (.aload_n 0, 1) := by decide +kernel
theorem dX3_valueCount_8 : decode cX3_valueCount 8 = .ok (.getfield 26, 3) := by decide +kernel
theorem dX3_valueCount_11 : decode cX3_valueCount 11 = .ok (.getfield 64, 3) := by decide +kernel
theorem dX3_valueCount_14 : decode cX3_valueCount 14 = .ok (.iadd, 1) := by decide +kernel
theorem dX3_valueCount_15 : decode cX3_valueCount 15 = .ok (.ireturn, 1) := by decide +kernel
theorem dX3_isValue_0 : decode cX3_isValue 0 = .ok (.iload_n 1, 1) := by decide +kernel
theorem dX3_isValue_1 : decode cX3_isValue 1 = .ok (.ifCond .lt 15, 3) := by decide +kernel
theorem dX3_isValue_4 : decode cX3_isValue 4 = .ok (.iload_n 1, 1) := by decide +kernel
theorem dX3_isValue_5 : decode cX3_isValue 5 = .ok (.aload_n 0, 1) := by decide +kernel
theorem dX3_isValue_6 : decode cX3_isValue 6 = .ok (.invokevirtual 93, 3) := by decide +kernel
theorem dX3_isValue_9 : decode cX3_isValue 9 = .ok (.if_icmp .ge 7, 3) := by decide +kernel
theorem dX3_isValue_12 : decode cX3_isValue 12 = .ok (.iconst 1, 1) := by decide +kernel
theorem dX3_isValue_13 : decode cX3_isValue 13 = .ok (.goto 4, 3) := by decide +kernel
theorem dX3_isValue_16 : decode cX3_isValue 16 = .ok (.iconst 0, 1) := by decide +kernel
theorem dX3_isValue_17 : decode cX3_isValue 17 = .ok (.ireturn, 1) := by decide +kernel
theorem dX3_programCost_0 : decode cX3_programCost 0 = .ok (.iconst 0, 1) := by decide +kernel
theorem dX3_programCost_1 : decode cX3_programCost 1 = .ok (.istore_n 1, 1) := by decide +kernel
theorem dX3_programCost_2 : decode cX3_programCost 2 = .ok (.iconst 0, 1) := by decide +kernel
theorem dX3_programCost_3 : decode cX3_programCost 3 = .ok (.istore_n 2, 1) := by decide +kernel
theorem dX3_programCost_4 : decode cX3_programCost 4 = .ok (.iload_n 2, 1) := by decide +kernel
theorem dX3_programCost_5 : decode cX3_programCost 5 = .ok (.aload_n 0, 1) := by decide +kernel
theorem dX3_programCost_6 : decode cX3_programCost 6 = .ok (.getfield 26, 3) := by decide +kernel
theorem dX3_programCost_9 : decode cX3_programCost 9 = .ok (.getfield 64, 3) := by decide +kernel
theorem dX3_programCost_12 : decode cX3_programCost 12 = .ok (.if_icmp .ge 26, 3) := by decide +kernel
theorem dX3_programCost_15 : decode cX3_programCost 15 = .ok (.iload_n 1, 1) := by decide +kernel
theorem dX3_programCost_16 : decode cX3_programCost 16 = .ok (.aload_n 0, 1) := by decide +kernel
theorem dX3_programCost_17 : decode cX3_programCost 17 = .ok (.getfield 9, 3) := by decide +kernel
theorem dX3_programCost_20 : decode cX3_programCost 20 = .ok (.aload_n 0, 1) := by decide +kernel
theorem dX3_programCost_21 : decode cX3_programCost 21 = .ok (.getfield 26, 3) := by decide +kernel
theorem dX3_programCost_24 : decode cX3_programCost 24 = .ok (.getfield 106, 3) := by decide +kernel
theorem dX3_programCost_27 : decode cX3_programCost 27 = .ok (.iload_n 2, 1) := by decide +kernel
theorem dX3_programCost_28 : decode cX3_programCost 28 = .ok (.iaload, 1) := by decide +kernel
theorem dX3_programCost_29 : decode cX3_programCost 29 = .ok (.iaload, 1) := by decide +kernel
theorem dX3_programCost_30 : decode cX3_programCost 30 = .ok (.iadd, 1) := by decide +kernel
theorem dX3_programCost_31 : decode cX3_programCost 31 = .ok (.istore_n 1, 1) := by decide +kernel
theorem dX3_programCost_32 : decode cX3_programCost 32 = .ok (.iinc 2 1, 3) := by decide +kernel
theorem dX3_programCost_35 : decode cX3_programCost 35 = .ok (.goto (-31), 3) := by decide +kernel
theorem dX3_programCost_38 : decode cX3_programCost 38 = .ok (.iload_n 1, 1) := by decide +kernel
theorem dX3_programCost_39 : decode cX3_programCost 39 = .ok (.ireturn, 1) := by decide +kernel
theorem dX3_makeFrom_0 : decode cX3_makeFrom 0 = .ok (.aload_n 0, 1) := by decide +kernel
theorem dX3_makeFrom_1 : decode cX3_makeFrom 1 = .ok (.getfield 19, 3) := by decide +kernel
theorem dX3_makeFrom_4 : decode cX3_makeFrom 4 = .ok (.invokevirtual 73, 3) := by decide +kernel
theorem dX3_makeFrom_7 : decode cX3_makeFrom 7 = .ok (.istore_n 2, 1) := by decide +kernel
theorem dX3_makeFrom_8 : decode cX3_makeFrom 8 = .ok (.iload_n 1, 1) := by decide +kernel
theorem dX3_makeFrom_9 : decode cX3_makeFrom 9 = .ok (.istore_n 3, 1) := by decide +kernel
theorem dX3_makeFrom_10 : decode cX3_makeFrom 10 = .ok (.iload_n 3, 1) := by decide +kernel
theorem dX3_makeFrom_11 : decode cX3_makeFrom 11 = .ok (.aload_n 0, 1) := by decide +kernel
theorem dX3_makeFrom_12 : decode cX3_makeFrom 12 = .ok (.getfield 26, 3) := by decide +kernel
theorem dX3_makeFrom_15 : decode cX3_makeFrom 15 = .ok (.getfield 64, 3) := by decide +kernel
theorem dX3_makeFrom_18 : decode cX3_makeFrom 18 = .ok (.if_icmp .ge 46, 3) := by decide +kernel
theorem dX3_makeFrom_21 : decode cX3_makeFrom 21 = .ok (.aload_n 0, 1) := by decide +kernel
theorem dX3_makeFrom_22 : decode cX3_makeFrom 22 = .ok (.getfield 19, 3) := by decide +kernel
theorem dX3_makeFrom_25 : decode cX3_makeFrom 25 = .ok (.iload_n 2, 1) := by decide +kernel
theorem dX3_makeFrom_26 : decode cX3_makeFrom 26 = .ok (.iload_n 3, 1) := by decide +kernel
theorem dX3_makeFrom_27 : decode cX3_makeFrom 27 = .ok (.iadd, 1) := by decide +kernel
theorem dX3_makeFrom_28 : decode cX3_makeFrom 28 = .ok (.aload_n 0, 1) := by decide +kernel
theorem dX3_makeFrom_29 : decode cX3_makeFrom 29 = .ok (.getfield 26, 3) := by decide +kernel
theorem dX3_makeFrom_32 : decode cX3_makeFrom 32 = .ok (.getfield 106, 3) := by decide +kernel
theorem dX3_makeFrom_35 : decode cX3_makeFrom 35 = .ok (.iload_n 3, 1) := by decide +kernel
theorem dX3_makeFrom_36 : decode cX3_makeFrom 36 = .ok (.iaload, 1) := by decide +kernel
theorem dX3_makeFrom_37 : decode cX3_makeFrom 37 = .ok (.aload_n 0, 1) := by decide +kernel
theorem dX3_makeFrom_38 : decode cX3_makeFrom 38 = .ok (.getfield 26, 3) := by decide +kernel
theorem dX3_makeFrom_41 : decode cX3_makeFrom 41 = .ok (.getfield 109, 3) := by decide +kernel
theorem dX3_makeFrom_44 : decode cX3_makeFrom 44 = .ok (.iload_n 3, 1) := by decide +kernel
theorem dX3_makeFrom_45 : decode cX3_makeFrom 45 = .ok (.iaload, 1) := by decide +kernel
theorem dX3_makeFrom_46 : decode cX3_makeFrom 46 = .ok (.aload_n 0, 1) := by decide +kernel
theorem dX3_makeFrom_47 : decode cX3_makeFrom 47 = .ok (.getfield 26, 3) := by decide +kernel
theorem dX3_makeFrom_50 : decode cX3_makeFrom 50 = .ok (.getfield 112, 3) := by decide +kernel
theorem dX3_makeFrom_53 : decode cX3_makeFrom 53 = .ok (.iload_n 3, 1) := by decide +kernel
theorem dX3_makeFrom_54 : decode cX3_makeFrom 54 = .ok (.iaload, 1) := by decide +kernel
theorem dX3_makeFrom_55 : decode cX3_makeFrom 55 = .ok (.invokevirtual 162, 3) := by decide +kernel
theorem dX3_makeFrom_58 : decode cX3_makeFrom 58 = .ok (.iinc 3 1, 3) := by decide +kernel
theorem dX3_makeFrom_61 : decode cX3_makeFrom 61 = .ok (.goto (-51), 3) := by decide +kernel
theorem dX3_makeFrom_64 : decode cX3_makeFrom 64 = .ok (.return_, 1) := by decide +kernel
theorem dX3_takeOutRepeated_0 : decode cX3_takeOutRepeated 0 = .ok (.aload_n 0, 1) := by decide +kernel
theorem dX3_takeOutRepeated_1 : decode cX3_takeOutRepeated 1 = .ok (.getfield 19, 3) := by decide +kernel
theorem dX3_takeOutRepeated_4 : decode cX3_takeOutRepeated 4 = .ok (.invokevirtual 73, 3) := by decide +kernel
theorem dX3_takeOutRepeated_7 : decode cX3_takeOutRepeated 7 = .ok (.istore_n 1, 1) := by decide +kernel
theorem dX3_takeOutRepeated_8 : decode cX3_takeOutRepeated 8 = .ok (.iconst 0, 1) := by decide +kernel
theorem dX3_takeOutRepeated_9 : decode cX3_takeOutRepeated 9 = .ok (.istore_n 2, 1) := by decide +kernel
theorem dX3_takeOutRepeated_10 : decode cX3_takeOutRepeated 10 = .ok (.iload_n 2, 1) := by decide +kernel
theorem dX3_takeOutRepeated_11 : decode cX3_takeOutRepeated 11 = .ok (.aload_n 0, 1) := by decide +kernel
theorem dX3_takeOutRepeated_12 : decode cX3_takeOutRepeated 12 = .ok (.getfield 26, 3) := by decide +kernel
theorem dX3_takeOutRepeated_15 : decode cX3_takeOutRepeated 15 = .ok (.getfield 64, 3) := by decide +kernel
theorem dX3_takeOutRepeated_18 : decode cX3_takeOutRepeated 18 = .ok (.if_icmp .ge 32, 3) := by decide +kernel
theorem dX3_takeOutRepeated_21 : decode cX3_takeOutRepeated 21 = .ok (.aload_n 0, 1) := by decide +kernel
theorem dX3_takeOutRepeated_22 : decode cX3_takeOutRepeated 22 = .ok (.getfield 19, 3) := by decide +kernel
theorem dX3_takeOutRepeated_25 : decode cX3_takeOutRepeated 25 = .ok (.iload_n 1, 1) := by decide +kernel
theorem dX3_takeOutRepeated_26 : decode cX3_takeOutRepeated 26 = .ok (.iload_n 2, 1) := by decide +kernel
theorem dX3_takeOutRepeated_27 : decode cX3_takeOutRepeated 27 = .ok (.iadd, 1) := by decide +kernel
theorem dX3_takeOutRepeated_28 : decode cX3_takeOutRepeated 28 = .ok (.invokevirtual 165, 3) := by decide +kernel
theorem dX3_takeOutRepeated_31 : decode cX3_takeOutRepeated 31 = .ok (.istore_n 3, 1) := by decide +kernel
theorem dX3_takeOutRepeated_32 : decode cX3_takeOutRepeated 32 = .ok (.iload_n 3, 1) := by decide +kernel
theorem dX3_takeOutRepeated_33 : decode cX3_takeOutRepeated 33 = .ok (.ifCond .lt 11, 3) := by decide +kernel
theorem dX3_takeOutRepeated_36 : decode cX3_takeOutRepeated 36 = .ok (.aload_n 0, 1) := by decide +kernel
theorem dX3_takeOutRepeated_37 : decode cX3_takeOutRepeated 37 = .ok (.iload_n 2, 1) := by decide +kernel
theorem dX3_takeOutRepeated_38 : decode cX3_takeOutRepeated 38 = .ok (.iload_n 3, 1) := by decide +kernel
theorem dX3_takeOutRepeated_39 : decode cX3_takeOutRepeated 39 = .ok (.invokevirtual 169, 3) := by decide +kernel
theorem dX3_takeOutRepeated_42 : decode cX3_takeOutRepeated 42 = .ok (.iconst 1, 1) := by decide +kernel
theorem dX3_takeOutRepeated_43 : decode cX3_takeOutRepeated 43 = .ok (.ireturn, 1) := by decide +kernel
theorem dX3_takeOutRepeated_44 : decode cX3_takeOutRepeated 44 = .ok (.iinc 2 1, 3) := by decide +kernel
theorem dX3_takeOutRepeated_47 : decode cX3_takeOutRepeated 47 = .ok (.goto (-37), 3) := by decide +kernel
theorem dX3_takeOutRepeated_50 : decode cX3_takeOutRepeated 50 = .ok (.iconst 0, 1) := by decide +kernel
theorem dX3_takeOutRepeated_51 : decode cX3_takeOutRepeated 51 = .ok (.ireturn, 1) := by decide +kernel
theorem dX3_takeOutNeedless_0 : decode cX3_takeOutNeedless 0 = .ok (.aload_n 0, 1) := by decide +kernel
theorem dX3_takeOutNeedless_1 : decode cX3_takeOutNeedless 1 = .ok (.invokevirtual 172, 3) := by decide +kernel
theorem dX3_takeOutNeedless_4 : decode cX3_takeOutNeedless 4 = .ok (.aload_n 0, 1) := by decide +kernel
theorem dX3_takeOutNeedless_5 : decode cX3_takeOutNeedless 5 = .ok (.getfield 19, 3) := by decide +kernel
theorem dX3_takeOutNeedless_8 : decode cX3_takeOutNeedless 8 = .ok (.invokevirtual 73, 3) := by decide +kernel
theorem dX3_takeOutNeedless_11 : decode cX3_takeOutNeedless 11 = .ok (.istore_n 1, 1) := by decide +kernel
theorem dX3_takeOutNeedless_12 : decode cX3_takeOutNeedless 12 = .ok (.aload_n 0, 1) := by decide +kernel
theorem dX3_takeOutNeedless_13 : decode cX3_takeOutNeedless 13 = .ok (.getfield 26, 3) := by decide +kernel
theorem dX3_takeOutNeedless_16 : decode cX3_takeOutNeedless 16 = .ok (.getfield 64, 3) := by decide +kernel
theorem dX3_takeOutNeedless_19 : decode cX3_takeOutNeedless 19 = .ok (.iconst 1, 1) := by decide +kernel
theorem dX3_takeOutNeedless_20 : decode cX3_takeOutNeedless 20 = .ok (.isub, 1) := by decide +kernel
theorem dX3_takeOutNeedless_21 : decode cX3_takeOutNeedless 21 = .ok (.istore_n 2, 1) := by decide +kernel
theorem dX3_takeOutNeedless_22 : decode cX3_takeOutNeedless 22 = .ok (.iload_n 2, 1) := by decide +kernel
theorem dX3_takeOutNeedless_23 : decode cX3_takeOutNeedless 23 = .ok (.ifCond .lt 28, 3) := by decide +kernel
theorem dX3_takeOutNeedless_26 : decode cX3_takeOutNeedless 26 = .ok (.aload_n 0, 1) := by decide +kernel
theorem dX3_takeOutNeedless_27 : decode cX3_takeOutNeedless 27 = .ok (.getfield 33, 3) := by decide +kernel
theorem dX3_takeOutNeedless_30 : decode cX3_takeOutNeedless 30 = .ok (.iload_n 1, 1) := by decide +kernel
theorem dX3_takeOutNeedless_31 : decode cX3_takeOutNeedless 31 = .ok (.iload_n 2, 1) := by decide +kernel
theorem dX3_takeOutNeedless_32 : decode cX3_takeOutNeedless 32 = .ok (.iadd, 1) := by decide +kernel
theorem dX3_takeOutNeedless_33 : decode cX3_takeOutNeedless 33 = .ok (.baload, 1) := by decide +kernel
theorem dX3_takeOutNeedless_34 : decode cX3_takeOutNeedless 34 = .ok (.ifCond .ne 11, 3) := by decide +kernel
theorem dX3_takeOutNeedless_37 : decode cX3_takeOutNeedless 37 = .ok (.aload_n 0, 1) := by decide +kernel
theorem dX3_takeOutNeedless_38 : decode cX3_takeOutNeedless 38 = .ok (.iload_n 2, 1) := by decide +kernel
theorem dX3_takeOutNeedless_39 : decode cX3_takeOutNeedless 39 = .ok (.iconst 0, 1) := by decide +kernel
theorem dX3_takeOutNeedless_40 : decode cX3_takeOutNeedless 40 = .ok (.invokevirtual 169, 3) := by decide +kernel
theorem dX3_takeOutNeedless_43 : decode cX3_takeOutNeedless 43 = .ok (.iconst 1, 1) := by decide +kernel
theorem dX3_takeOutNeedless_44 : decode cX3_takeOutNeedless 44 = .ok (.ireturn, 1) := by decide +kernel
theorem dX3_takeOutNeedless_45 : decode cX3_takeOutNeedless 45 = .ok (.iinc 2 (-1), 3) := by decide +kernel
theorem dX3_takeOutNeedless_48 : decode cX3_takeOutNeedless 48 = .ok (.goto (-26), 3) := by decide +kernel
theorem dX3_takeOutNeedless_51 : decode cX3_takeOutNeedless 51 = .ok (.iconst 0, 1) := by decide +kernel
theorem dX3_takeOutNeedless_52 : decode cX3_takeOutNeedless 52 = .ok (.ireturn, 1) := by decide +kernel
theorem dX3_takeOut_0 : decode cX3_takeOut 0 = .ok (.aload_n 0, 1) := by decide +kernel
theorem dX3_takeOut_1 : decode cX3_takeOut 1 = .ok (.getfield 26, 3) := by decide +kernel
theorem dX3_takeOut_4 : decode cX3_takeOut 4 = .ok (.iload_n 1, 1) := by decide +kernel
theorem dX3_takeOut_5 : decode cX3_takeOut 5 = .ok (.aload_n 0, 1) := by decide +kernel
theorem dX3_takeOut_6 : decode cX3_takeOut 6 = .ok (.getfield 19, 3) := by decide +kernel
theorem dX3_takeOut_9 : decode cX3_takeOut 9 = .ok (.invokevirtual 73, 3) := by decide +kernel
theorem dX3_takeOut_12 : decode cX3_takeOut 12 = .ok (.iload_n 1, 1) := by decide +kernel
theorem dX3_takeOut_13 : decode cX3_takeOut 13 = .ok (.iadd, 1) := by decide +kernel
theorem dX3_takeOut_14 : decode cX3_takeOut 14 = .ok (.iload_n 2, 1) := by decide +kernel
theorem dX3_takeOut_15 : decode cX3_takeOut 15 = .ok (.invokevirtual 175, 3) := by decide +kernel
theorem dX3_takeOut_18 : decode cX3_takeOut 18 = .ok (.aload_n 0, 1) := by decide +kernel
theorem dX3_takeOut_19 : decode cX3_takeOut 19 = .ok (.iload_n 1, 1) := by decide +kernel
theorem dX3_takeOut_20 : decode cX3_takeOut 20 = .ok (.invokevirtual 103, 3) := by decide +kernel
theorem dX3_takeOut_23 : decode cX3_takeOut 23 = .ok (.return_, 1) := by decide +kernel
theorem dX3_markNeeded_0 : decode cX3_markNeeded 0 = .ok (.iconst 0, 1) := by decide +kernel
theorem dX3_markNeeded_1 : decode cX3_markNeeded 1 = .ok (.istore_n 1, 1) := by decide +kernel
theorem dX3_markNeeded_2 : decode cX3_markNeeded 2 = .ok (.iload_n 1, 1) := by decide +kernel
theorem dX3_markNeeded_3 : decode cX3_markNeeded 3 = .ok (.bipush 18, 2) := by decide +kernel
theorem dX3_markNeeded_5 : decode cX3_markNeeded 5 = .ok (.if_icmp .ge 16, 3) := by decide +kernel
theorem dX3_markNeeded_8 : decode cX3_markNeeded 8 = .ok (.aload_n 0, 1) := by decide +kernel
theorem dX3_markNeeded_9 : decode cX3_markNeeded 9 = .ok (.getfield 33, 3) := by decide +kernel
theorem dX3_markNeeded_12 : decode cX3_markNeeded 12 = .ok (.iload_n 1, 1) := by decide +kernel
theorem dX3_markNeeded_13 : decode cX3_markNeeded 13 = .ok (.iconst 0, 1) := by decide +kernel
theorem dX3_markNeeded_14 : decode cX3_markNeeded 14 = .ok (.bastore, 1) := by decide +kernel
theorem dX3_markNeeded_15 : decode cX3_markNeeded 15 = .ok (.iinc 1 1, 3) := by decide +kernel
theorem dX3_markNeeded_18 : decode cX3_markNeeded 18 = .ok (.goto (-16), 3) := by decide +kernel
theorem dX3_markNeeded_21 : decode cX3_markNeeded 21 = .ok (.aload_n 0, 1) := by decide +kernel
theorem dX3_markNeeded_22 : decode cX3_markNeeded 22 = .ok (.getfield 33, 3) := by decide +kernel
theorem dX3_markNeeded_25 : decode cX3_markNeeded 25 = .ok (.aload_n 0, 1) := by decide +kernel
theorem dX3_markNeeded_26 : decode cX3_markNeeded 26 = .ok (.getfield 26, 3) := by decide +kernel
theorem dX3_markNeeded_29 : decode cX3_markNeeded 29 = .ok (.getfield 87, 3) := by decide +kernel
theorem dX3_markNeeded_32 : decode cX3_markNeeded 32 = .ok (.iconst 1, 1) := by decide +kernel
theorem dX3_markNeeded_33 : decode cX3_markNeeded 33 = .ok (.bastore, 1) := by decide +kernel
theorem dX3_markNeeded_34 : decode cX3_markNeeded 34 = .ok (.aload_n 0, 1) := by decide +kernel
theorem dX3_markNeeded_35 : decode cX3_markNeeded 35 = .ok (.getfield 19, 3) := by decide +kernel
theorem dX3_markNeeded_38 : decode cX3_markNeeded 38 = .ok (.invokevirtual 73, 3) := by decide +kernel
theorem dX3_markNeeded_41 : decode cX3_markNeeded 41 = .ok (.istore_n 1, 1) := by decide +kernel
theorem dX3_markNeeded_42 : decode cX3_markNeeded 42 = .ok (.aload_n 0, 1) := by decide +kernel
theorem dX3_markNeeded_43 : decode cX3_markNeeded 43 = .ok (.getfield 26, 3) := by decide +kernel
theorem dX3_markNeeded_46 : decode cX3_markNeeded 46 = .ok (.getfield 64, 3) := by decide +kernel
theorem dX3_markNeeded_49 : decode cX3_markNeeded 49 = .ok (.iconst 1, 1) := by decide +kernel
theorem dX3_markNeeded_50 : decode cX3_markNeeded 50 = .ok (.isub, 1) := by decide +kernel
theorem dX3_markNeeded_51 : decode cX3_markNeeded 51 = .ok (.istore_n 2, 1) := by decide +kernel
theorem dX3_markNeeded_52 : decode cX3_markNeeded 52 = .ok (.iload_n 2, 1) := by decide +kernel
theorem dX3_markNeeded_53 : decode cX3_markNeeded 53 = .ok (.ifCond .lt 50, 3) := by decide +kernel
theorem dX3_markNeeded_56 : decode cX3_markNeeded 56 = .ok (.aload_n 0, 1) := by decide +kernel
theorem dX3_markNeeded_57 : decode cX3_markNeeded 57 = .ok (.getfield 33, 3) := by decide +kernel
theorem dX3_markNeeded_60 : decode cX3_markNeeded 60 = .ok (.iload_n 1, 1) := by decide +kernel
theorem dX3_markNeeded_61 : decode cX3_markNeeded 61 = .ok (.iload_n 2, 1) := by decide +kernel
theorem dX3_markNeeded_62 : decode cX3_markNeeded 62 = .ok (.iadd, 1) := by decide +kernel
theorem dX3_markNeeded_63 : decode cX3_markNeeded 63 = .ok (.baload, 1) := by decide +kernel
theorem dX3_markNeeded_64 : decode cX3_markNeeded 64 = .ok (.ifCond .eq 33, 3) := by decide +kernel
theorem dX3_markNeeded_67 : decode cX3_markNeeded 67 = .ok (.aload_n 0, 1) := by decide +kernel
theorem dX3_markNeeded_68 : decode cX3_markNeeded 68 = .ok (.getfield 33, 3) := by decide +kernel
theorem dX3_markNeeded_71 : decode cX3_markNeeded 71 = .ok (.aload_n 0, 1) := by decide +kernel
theorem dX3_markNeeded_72 : decode cX3_markNeeded 72 = .ok (.getfield 26, 3) := by decide +kernel
theorem dX3_markNeeded_75 : decode cX3_markNeeded 75 = .ok (.getfield 109, 3) := by decide +kernel
theorem dX3_markNeeded_78 : decode cX3_markNeeded 78 = .ok (.iload_n 2, 1) := by decide +kernel
theorem dX3_markNeeded_79 : decode cX3_markNeeded 79 = .ok (.iaload, 1) := by decide +kernel
theorem dX3_markNeeded_80 : decode cX3_markNeeded 80 = .ok (.iconst 1, 1) := by decide +kernel
theorem dX3_markNeeded_81 : decode cX3_markNeeded 81 = .ok (.bastore, 1) := by decide +kernel
theorem dX3_markNeeded_82 : decode cX3_markNeeded 82 = .ok (.aload_n 0, 1) := by decide +kernel
theorem dX3_markNeeded_83 : decode cX3_markNeeded 83 = .ok (.getfield 33, 3) := by decide +kernel
theorem dX3_markNeeded_86 : decode cX3_markNeeded 86 = .ok (.aload_n 0, 1) := by decide +kernel
theorem dX3_markNeeded_87 : decode cX3_markNeeded 87 = .ok (.getfield 26, 3) := by decide +kernel
theorem dX3_markNeeded_90 : decode cX3_markNeeded 90 = .ok (.getfield 112, 3) := by decide +kernel
theorem dX3_markNeeded_93 : decode cX3_markNeeded 93 = .ok (.iload_n 2, 1) := by decide +kernel
theorem dX3_markNeeded_94 : decode cX3_markNeeded 94 = .ok (.iaload, 1) := by decide +kernel
theorem dX3_markNeeded_95 : decode cX3_markNeeded 95 = .ok (.iconst 1, 1) := by decide +kernel
theorem dX3_markNeeded_96 : decode cX3_markNeeded 96 = .ok (.bastore, 1) := by decide +kernel
theorem dX3_markNeeded_97 : decode cX3_markNeeded 97 = .ok (.iinc 2 (-1), 3) := by decide +kernel
theorem dX3_markNeeded_100 : decode cX3_markNeeded 100 = .ok (.goto (-48), 3) := by decide +kernel
theorem dX3_markNeeded_103 : decode cX3_markNeeded 103 = .ok (.return_, 1) := by decide +kernel
theorem dX4_init_0 : decode cX4_init 0 = .ok (.aload_n 0, 1) := by decide +kernel
theorem dX4_init_1 : decode cX4_init 1 = .ok (.invokespecial 1, 3) := by decide +kernel
theorem dX4_init_4 : decode cX4_init 4 = .ok (.aload_n 0, 1) := by decide +kernel
theorem dX4_init_5 : decode cX4_init 5 = .ok (.iconst 4, 1) := by decide +kernel
theorem dX4_init_6 : decode cX4_init 6 = .ok (.putfield 7, 3) := by decide +kernel
theorem dX4_init_9 : decode cX4_init 9 = .ok (.aload_n 0, 1) := by decide +kernel
theorem dX4_init_10 : decode cX4_init 10 = .ok (.iconst 1, 1) := by decide +kernel
theorem dX4_init_11 : decode cX4_init 11 = .ok (.putfield 13, 3) := by decide +kernel
theorem dX4_init_14 : decode cX4_init 14 = .ok (.aload_n 0, 1) := by decide +kernel
theorem dX4_init_15 : decode cX4_init 15 = .ok (.bipush 15, 2) := by decide +kernel
theorem dX4_init_17 : decode cX4_init 17 = .ok (.putfield 16, 3) := by decide +kernel
theorem dX4_init_20 : decode cX4_init 20 = .ok (.aload_n 0, 1) := by decide +kernel
theorem dX4_init_21 : decode cX4_init 21 = .ok (.bipush 16, 2) := by decide +kernel
theorem dX4_init_23 : decode cX4_init 23 = .ok (.putfield 19, 3) := by decide +kernel
theorem dX4_init_26 : decode cX4_init 26 = .ok (.aload_n 0, 1) := by decide +kernel
theorem dX4_init_27 : decode cX4_init 27 = .ok (.iconst 4, 1) := by decide +kernel
theorem dX4_init_28 : decode cX4_init 28 = .ok (.newarray .int, 2) := by decide +kernel
theorem dX4_init_30 : decode cX4_init 30 = .ok (.putfield 22, 3) := by decide +kernel
theorem dX4_init_33 : decode cX4_init 33 = .ok (.aload_n 0, 1) := by decide +kernel
theorem dX4_init_34 : decode cX4_init 34 = .ok (.bipush 13, 2) := by decide +kernel
theorem dX4_init_36 : decode cX4_init 36 = .ok (.newarray .int, 2) := by decide +kernel
theorem dX4_init_38 : decode cX4_init 38 = .ok (.putfield 26, 3) := by decide +kernel
theorem dX4_init_41 : decode cX4_init 41 = .ok (.aload_n 0, 1) := by decide +kernel
theorem dX4_init_42 : decode cX4_init 42 = .ok (.sipush 256, 3) := by decide +kernel
theorem dX4_init_45 : decode cX4_init 45 = .ok (.newarray .int, 2) := by decide +kernel
theorem dX4_init_47 : decode cX4_init 47 = .ok (.putfield 29, 3) := by decide +kernel
theorem dX4_init_50 : decode cX4_init 50 = .ok (.aload_n 0, 1) := by decide +kernel
theorem dX4_init_51 : decode cX4_init 51 = .ok (.bipush 12, 2) := by decide +kernel
theorem dX4_init_53 : decode cX4_init 53 = .ok (.newarray .int, 2) := by decide +kernel
theorem dX4_init_55 : decode cX4_init 55 = .ok (.putfield 32, 3) := by decide +kernel
theorem dX4_init_58 : decode cX4_init 58 = .ok (.aload_n 0, 1) := by decide +kernel
theorem dX4_init_59 : decode cX4_init 59 = .ok (.bipush 12, 2) := by decide +kernel
theorem dX4_init_61 : decode cX4_init 61 = .ok (.newarray .int, 2) := by decide +kernel
theorem dX4_init_63 : decode cX4_init 63 = .ok (.putfield 35, 3) := by decide +kernel
theorem dX4_init_66 : decode cX4_init 66 = .ok (.aload_n 0, 1) := by decide +kernel
theorem dX4_init_67 : decode cX4_init 67 = .ok (.bipush 12, 2) := by decide +kernel
theorem dX4_init_69 : decode cX4_init 69 = .ok (.newarray .int, 2) := by decide +kernel
theorem dX4_init_71 : decode cX4_init 71 = .ok (.putfield 38, 3) := by decide +kernel
theorem dX4_init_74 : decode cX4_init 74 = .ok (.aload_n 0, 1) := by decide +kernel
theorem dX4_init_75 : decode cX4_init 75 = .ok (.sipush 4608, 3) := by decide +kernel
theorem dX4_init_78 : decode cX4_init 78 = .ok (.newarray .int, 2) := by decide +kernel
theorem dX4_init_80 : decode cX4_init 80 = .ok (.putfield 41, 3) := by decide +kernel
theorem dX4_init_83 : decode cX4_init 83 = .ok (.aload_n 0, 1) := by decide +kernel
theorem dX4_init_84 : decode cX4_init 84 = .ok (.sipush 4608, 3) := by decide +kernel
theorem dX4_init_87 : decode cX4_init 87 = .ok (.newarray .int, 2) := by decide +kernel
theorem dX4_init_89 : decode cX4_init 89 = .ok (.putfield 44, 3) := by decide +kernel
theorem dX4_init_92 : decode cX4_init 92 = .ok (.aload_n 0, 1) := by decide +kernel
theorem dX4_init_93 : decode cX4_init 93 = .ok (.bipush 12, 2) := by decide +kernel
theorem dX4_init_95 : decode cX4_init 95 = .ok (.newarray .int, 2) := by decide +kernel
theorem dX4_init_97 : decode cX4_init 97 = .ok (.putfield 47, 3) := by decide +kernel
theorem dX4_init_100 : decode cX4_init 100 = .ok (.aload_n 0, 1) := by decide +kernel
theorem dX4_init_101 : decode cX4_init 101 = .ok (.bipush 12, 2) := by decide +kernel
theorem dX4_init_103 : decode cX4_init 103 = .ok (.newarray .int, 2) := by decide +kernel
theorem dX4_init_105 : decode cX4_init 105 = .ok (.putfield 50, 3) := by decide +kernel
theorem dX4_init_108 : decode cX4_init 108 = .ok (.aload_n 0, 1) := by decide +kernel
theorem dX4_init_109 : decode cX4_init 109 = .ok (.bipush 12, 2) := by decide +kernel
theorem dX4_init_111 : decode cX4_init 111 = .ok (.newarray .int, 2) := by decide +kernel
theorem dX4_init_113 : decode cX4_init 113 = .ok (.putfield 53, 3) := by decide +kernel
theorem dX4_init_116 : decode cX4_init 116 = .ok (.aload_n 0, 1) := by decide +kernel
theorem dX4_init_117 : decode cX4_init 117 = .ok (.bipush (-3), 2) := by decide +kernel
theorem dX4_init_119 : decode cX4_init 119 = .ok (.putfield 56, 3) := by decide +kernel
theorem dX4_init_122 : decode cX4_init 122 = .ok (.aload_n 0, 1) := by decide +kernel
theorem dX4_init_123 : decode cX4_init 123 = .ok (.bipush 13, 2) := by decide +kernel
theorem dX4_init_125 : decode cX4_init 125 = .ok (.newarray .int, 2) := by decide +kernel
theorem dX4_init_127 : decode cX4_init 127 = .ok (.putfield 59, 3) := by decide +kernel
theorem dX4_init_130 : decode cX4_init 130 = .ok (.aload_n 0, 1) := by decide +kernel
theorem dX4_init_131 : decode cX4_init 131 = .ok (.bipush 13, 2) := by decide +kernel
theorem dX4_init_133 : decode cX4_init 133 = .ok (.newarray .int, 2) := by decide +kernel
theorem dX4_init_135 : decode cX4_init 135 = .ok (.putfield 62, 3) := by decide +kernel
theorem dX4_init_138 : decode cX4_init 138 = .ok (.aload_n 0, 1) := by decide +kernel
theorem dX4_init_139 : decode cX4_init 139 = .ok (.bipush 13, 2) := by decide +kernel
theorem dX4_init_141 : decode cX4_init 141 = .ok (.newarray .int, 2) := by decide +kernel
theorem dX4_init_143 : decode cX4_init 143 = .ok (.putfield 65, 3) := by decide +kernel
theorem dX4_init_146 : decode cX4_init 146 = .ok (.aload_n 0, 1) := by decide +kernel
theorem dX4_init_147 : decode cX4_init 147 = .ok (.bipush 13, 2) := by decide +kernel
theorem dX4_init_149 : decode cX4_init 149 = .ok (.newarray .int, 2) := by decide +kernel
theorem dX4_init_151 : decode cX4_init 151 = .ok (.putfield 68, 3) := by decide +kernel
theorem dX4_init_154 : decode cX4_init 154 = .ok (.aload_n 0, 1) := by decide +kernel
theorem dX4_init_155 : decode cX4_init 155 = .ok (.bipush 12, 2) := by decide +kernel
theorem dX4_init_157 : decode cX4_init 157 = .ok (.newarray .int, 2) := by decide +kernel
theorem dX4_init_159 : decode cX4_init 159 = .ok (.putfield 71, 3) := by decide +kernel
theorem dX4_init_162 : decode cX4_init 162 = .ok (.aload_n 0, 1) := by decide +kernel
theorem dX4_init_163 : decode cX4_init 163 = .ok (.bipush 12, 2) := by decide +kernel
theorem dX4_init_165 : decode cX4_init 165 = .ok (.newarray .int, 2) := by decide +kernel
theorem dX4_init_167 : decode cX4_init 167 = .ok (.putfield 74, 3) := by decide +kernel
theorem dX4_init_170 : decode cX4_init 170 = .ok (.aload_n 0, 1) := by decide +kernel
theorem dX4_init_171 : decode cX4_init 171 = .ok (.bipush 12, 2) := by decide +kernel
theorem dX4_init_173 : decode cX4_init 173 = .ok (.newarray .int, 2) := by decide +kernel
theorem dX4_init_175 : decode cX4_init 175 = .ok (.putfield 77, 3) := by decide +kernel
theorem dX4_init_178 : decode cX4_init 178 = .ok (.iconst 0, 1) := by decide +kernel
theorem dX4_init_179 : decode cX4_init 179 = .ok (.istore_n 1, 1) := by decide +kernel
theorem dX4_init_180 : decode cX4_init 180 = .ok (.iload_n 1, 1) := by decide +kernel
theorem dX4_init_181 : decode cX4_init 181 = .ok (.bipush 13, 2) := by decide +kernel
theorem dX4_init_183 : decode cX4_init 183 = .ok (.if_icmp .ge 16, 3) := by decide +kernel
theorem dX4_init_186 : decode cX4_init 186 = .ok (.aload_n 0, 1) := by decide +kernel
theorem dX4_init_187 : decode cX4_init 187 = .ok (.getfield 26, 3) := by decide +kernel
theorem dX4_init_190 : decode cX4_init 190 = .ok (.iload_n 1, 1) := by decide +kernel
theorem dX4_init_191 : decode cX4_init 191 = .ok (.iconst 1, 1) := by decide +kernel
theorem dX4_init_192 : decode cX4_init 192 = .ok (.iastore, 1) := by decide +kernel
theorem dX4_init_193 : decode cX4_init 193 = .ok (.iinc 1 1, 3) := by decide +kernel
theorem dX4_init_196 : decode cX4_init 196 = .ok (.goto (-16), 3) := by decide +kernel
theorem dX4_init_199 : decode cX4_init 199 = .ok (.aload_n 0, 1) := by decide +kernel
theorem dX4_init_200 : decode cX4_init 200 = .ok (.invokevirtual 80, 3) := by decide +kernel
theorem dX4_init_203 : decode cX4_init 203 = .ok (.return_, 1) := by decide +kernel
theorem dX4_within_0 : decode cX4_within 0 = .ok (.iload_n 0, 1) := by decide +kernel
theorem dX4_within_1 : decode cX4_within 1 = .ok (.iload_n 1, 1) := by decide +kernel
theorem dX4_within_2 : decode cX4_within 2 = .ok (.if_icmp .lt 12, 3) := by decide +kernel
theorem dX4_within_5 : decode cX4_within 5 = .ok (.iload_n 0, 1) := by decide +kernel
theorem dX4_within_6 : decode cX4_within 6 = .ok (.iload_n 2, 1) := by decide +kernel
theorem dX4_within_7 : decode cX4_within 7 = .ok (.if_icmp .gt 7, 3) := by decide +kernel
theorem dX4_within_10 : decode cX4_within 10 = .ok (.iconst 1, 1) := by decide +kernel
theorem dX4_within_11 : decode cX4_within 11 = .ok (.goto 4, 3) := by decide +kernel
theorem dX4_within_14 : decode cX4_within 14 = .ok (.iconst 0, 1) := by decide +kernel
theorem dX4_within_15 : decode cX4_within 15 = .ok (.ireturn, 1) := by decide +kernel
theorem dX4_firsts_0 : decode cX4_firsts 0 = .ok (.aload_n 0, 1) := by decide +kernel
theorem dX4_firsts_1 : decode cX4_firsts 1 = .ok (.getfield 13, 3) := by decide +kernel
theorem dX4_firsts_4 : decode cX4_firsts 4 = .ok (.aload_n 0, 1) := by decide +kernel
theorem dX4_firsts_5 : decode cX4_firsts 5 = .ok (.getfield 83, 3) := by decide +kernel
theorem dX4_firsts_8 : decode cX4_firsts 8 = .ok (.iadd, 1) := by decide +kernel
theorem dX4_firsts_9 : decode cX4_firsts 9 = .ok (.ireturn, 1) := by decide +kernel
theorem dX4_all_0 : decode cX4_all 0 = .ok (.aload_n 0, 1) := by decide +kernel
theorem dX4_all_1 : decode cX4_all 1 = .ok (.invokevirtual 86, 3) := by decide +kernel
theorem dX4_all_4 : decode cX4_all 4 = .ok (.aload_n 0, 1) := by decide +kernel
theorem dX4_all_5 : decode cX4_all 5 = .ok (.getfield 90, 3) := by decide +kernel
theorem dX4_all_8 : decode cX4_all 8 = .ok (.iadd, 1) := by decide +kernel
theorem dX4_all_9 : decode cX4_all 9 = .ok (.ireturn, 1) := by decide +kernel
theorem dX4_reckon_0 : decode cX4_reckon 0 = .ok (.iload_n 3, 1) := by decide +kernel
theorem dX4_reckon_1 : decode cX4_reckon 1 = .ok (.aload_n 0, 1) := by decide +kernel
theorem dX4_reckon_2 : decode cX4_reckon 2 = .ok (.getfield 7, 3) := by decide +kernel
theorem dX4_reckon_5 : decode cX4_reckon 5 = .ok (.irem, 1) := by decide +kernel
theorem dX4_reckon_6 : decode cX4_reckon 6 = .ok (.istore 4, 2) := by decide +kernel
theorem dX4_reckon_8 : decode cX4_reckon 8 = .ok (.iload_n 2, 1) := by decide +kernel
theorem dX4_reckon_9 : decode cX4_reckon 9 = .ok (.aload_n 0, 1) := by decide +kernel
theorem dX4_reckon_10 : decode cX4_reckon 10 = .ok (.getfield 7, 3) := by decide +kernel
theorem dX4_reckon_13 : decode cX4_reckon 13 = .ok (.iconst 1, 1) := by decide +kernel
theorem dX4_reckon_14 : decode cX4_reckon 14 = .ok (.isub, 1) := by decide +kernel
theorem dX4_reckon_15 : decode cX4_reckon 15 = .ok (.ishr, 1) := by decide +kernel
theorem dX4_reckon_16 : decode cX4_reckon 16 = .ok (.iconst 1, 1) := by decide +kernel
theorem dX4_reckon_17 : decode cX4_reckon 17 = .ok (.iand, 1) := by decide +kernel
theorem dX4_reckon_18 : decode cX4_reckon 18 = .ok (.istore 5, 2) := by decide +kernel
theorem dX4_reckon_20 : decode cX4_reckon 20 = .ok (.iload_n 1, 1) := by decide +kernel
theorem dX4_reckon_21 : decode cX4_reckon 21 = .ok (.tableswitch 172 0 11 #[63, 72, 80, 84, 88, 92, 101, 110, 119, 129, 134, 161], 63) := by decide +kernel
theorem dX4_reckon_84 : decode cX4_reckon 84 = .ok (.iload_n 2, 1) := by decide +kernel
theorem dX4_reckon_85 : decode cX4_reckon 85 = .ok (.iconst (-1), 1) := by decide +kernel
theorem dX4_reckon_86 : decode cX4_reckon 86 = .ok (.ixor, 1) := by decide +kernel
theorem dX4_reckon_87 : decode cX4_reckon 87 = .ok (.aload_n 0, 1) := by decide +kernel
theorem dX4_reckon_88 : decode cX4_reckon 88 = .ok (.getfield 16, 3) := by decide +kernel
theorem dX4_reckon_91 : decode cX4_reckon 91 = .ok (.iand, 1) := by decide +kernel
theorem dX4_reckon_92 : decode cX4_reckon 92 = .ok (.ireturn, 1) := by decide +kernel
theorem dX4_reckon_93 : decode cX4_reckon 93 = .ok (.iload_n 2, 1) := by decide +kernel
theorem dX4_reckon_94 : decode cX4_reckon 94 = .ok (.ineg, 1) := by decide +kernel
theorem dX4_reckon_95 : decode cX4_reckon 95 = .ok (.aload_n 0, 1) := by decide +kernel
theorem dX4_reckon_96 : decode cX4_reckon 96 = .ok (.getfield 16, 3) := by decide +kernel
theorem dX4_reckon_99 : decode cX4_reckon 99 = .ok (.iand, 1) := by decide +kernel
theorem dX4_reckon_100 : decode cX4_reckon 100 = .ok (.ireturn, 1) := by decide +kernel
theorem dX4_reckon_101 : decode cX4_reckon 101 = .ok (.iload_n 2, 1) := by decide +kernel
theorem dX4_reckon_102 : decode cX4_reckon 102 = .ok (.iload_n 3, 1) := by decide +kernel
theorem dX4_reckon_103 : decode cX4_reckon 103 = .ok (.iand, 1) := by decide +kernel
theorem dX4_reckon_104 : decode cX4_reckon 104 = .ok (.ireturn, 1) := by decide +kernel
theorem dX4_reckon_105 : decode cX4_reckon 105 = .ok (.iload_n 2, 1) := by decide +kernel
theorem dX4_reckon_106 : decode cX4_reckon 106 = .ok (.iload_n 3, 1) := by decide +kernel
theorem dX4_reckon_107 : decode cX4_reckon 107 = .ok (.ior, 1) := by decide +kernel
theorem dX4_reckon_108 : decode cX4_reckon 108 = .ok (.ireturn, 1) := by decide +kernel
theorem dX4_reckon_109 : decode cX4_reckon 109 = .ok (.iload_n 2, 1) := by decide +kernel
theorem dX4_reckon_110 : decode cX4_reckon 110 = .ok (.iload_n 3, 1) := by decide +kernel
theorem dX4_reckon_111 : decode cX4_reckon 111 = .ok (.ixor, 1) := by decide +kernel
theorem dX4_reckon_112 : decode cX4_reckon 112 = .ok (.ireturn, 1) := by decide +kernel
theorem dX4_reckon_113 : decode cX4_reckon 113 = .ok (.iload_n 2, 1) := by decide +kernel
theorem dX4_reckon_114 : decode cX4_reckon 114 = .ok (.iload_n 3, 1) := by decide +kernel
theorem dX4_reckon_115 : decode cX4_reckon 115 = .ok (.iadd, 1) := by decide +kernel
theorem dX4_reckon_116 : decode cX4_reckon 116 = .ok (.aload_n 0, 1) := by decide +kernel
theorem dX4_reckon_117 : decode cX4_reckon 117 = .ok (.getfield 16, 3) := by decide +kernel
theorem dX4_reckon_120 : decode cX4_reckon 120 = .ok (.iand, 1) := by decide +kernel
theorem dX4_reckon_121 : decode cX4_reckon 121 = .ok (.ireturn, 1) := by decide +kernel
theorem dX4_reckon_122 : decode cX4_reckon 122 = .ok (.iload_n 2, 1) := by decide +kernel
theorem dX4_reckon_123 : decode cX4_reckon 123 = .ok (.iload_n 3, 1) := by decide +kernel
theorem dX4_reckon_124 : decode cX4_reckon 124 = .ok (.isub, 1) := by decide +kernel
theorem dX4_reckon_125 : decode cX4_reckon 125 = .ok (.aload_n 0, 1) := by decide +kernel
theorem dX4_reckon_126 : decode cX4_reckon 126 = .ok (.getfield 16, 3) := by decide +kernel
theorem dX4_reckon_129 : decode cX4_reckon 129 = .ok (.iand, 1) := by decide +kernel
theorem dX4_reckon_130 : decode cX4_reckon 130 = .ok (.ireturn, 1) := by decide +kernel
theorem dX4_reckon_131 : decode cX4_reckon 131 = .ok (.iload_n 2, 1) := by decide +kernel
theorem dX4_reckon_132 : decode cX4_reckon 132 = .ok (.iload_n 3, 1) := by decide +kernel
theorem dX4_reckon_133 : decode cX4_reckon 133 = .ok (.imul, 1) := by decide +kernel
theorem dX4_reckon_134 : decode cX4_reckon 134 = .ok (.aload_n 0, 1) := by decide +kernel
theorem dX4_reckon_135 : decode cX4_reckon 135 = .ok (.getfield 16, 3) := by decide +kernel
theorem dX4_reckon_138 : decode cX4_reckon 138 = .ok (.iand, 1) := by decide +kernel
theorem dX4_reckon_139 : decode cX4_reckon 139 = .ok (.ireturn, 1) := by decide +kernel
theorem dX4_reckon_140 : decode cX4_reckon 140 = .ok (.iload_n 2, 1) := by decide +kernel
theorem dX4_reckon_141 : decode cX4_reckon 141 = .ok (.iload 4, 2) := by decide +kernel
theorem dX4_reckon_143 : decode cX4_reckon 143 = .ok (.ishl, 1) := by decide +kernel
theorem dX4_reckon_144 : decode cX4_reckon 144 = .ok (.aload_n 0, 1) := by decide +kernel
theorem dX4_reckon_145 : decode cX4_reckon 145 = .ok (.getfield 16, 3) := by decide +kernel
theorem dX4_reckon_148 : decode cX4_reckon 148 = .ok (.iand, 1) := by decide +kernel
theorem dX4_reckon_149 : decode cX4_reckon 149 = .ok (.ireturn, 1) := by decide +kernel
theorem dX4_reckon_150 : decode cX4_reckon 150 = .ok (.iload_n 2, 1) := by decide +kernel
theorem dX4_reckon_151 : decode cX4_reckon 151 = .ok (.iload 4, 2) := by decide +kernel
theorem dX4_reckon_153 : decode cX4_reckon 153 = .ok (.ishr, 1) := by decide +kernel
theorem dX4_reckon_154 : decode cX4_reckon 154 = .ok (.ireturn, 1) := by decide +kernel
theorem dX4_reckon_155 : decode cX4_reckon 155 = .ok (.iload_n 2, 1) := by decide +kernel
theorem dX4_reckon_156 : decode cX4_reckon 156 = .ok (.iload 5, 2) := by decide +kernel
theorem dX4_reckon_158 : decode cX4_reckon 158 = .ok (.iconst 1, 1) := by decide +kernel
theorem dX4_reckon_159 : decode cX4_reckon 159 = .ok (.if_icmp .ne 12, 3) := by decide +kernel
theorem dX4_reckon_162 : decode cX4_reckon 162 = .ok (.aload_n 0, 1) := by decide +kernel
theorem dX4_reckon_163 : decode cX4_reckon 163 = .ok (.getfield 16, 3) := by decide +kernel
theorem dX4_reckon_166 : decode cX4_reckon 166 = .ok (.iconst (-1), 1) := by decide +kernel
theorem dX4_reckon_167 : decode cX4_reckon 167 = .ok (.ixor, 1) := by decide +kernel
theorem dX4_reckon_168 : decode cX4_reckon 168 = .ok (.goto 4, 3) := by decide +kernel
theorem dX4_reckon_171 : decode cX4_reckon 171 = .ok (.iconst 0, 1) := by decide +kernel
theorem dX4_reckon_172 : decode cX4_reckon 172 = .ok (.ior, 1) := by decide +kernel
theorem dX4_reckon_173 : decode cX4_reckon 173 = .ok (.iload 4, 2) := by decide +kernel
theorem dX4_reckon_175 : decode cX4_reckon 175 = .ok (.ishr, 1) := by decide +kernel
theorem dX4_reckon_176 : decode cX4_reckon 176 = .ok (.aload_n 0, 1) := by decide +kernel
theorem dX4_reckon_177 : decode cX4_reckon 177 = .ok (.getfield 16, 3) := by decide +kernel
theorem dX4_reckon_180 : decode cX4_reckon 180 = .ok (.iand, 1) := by decide +kernel
theorem dX4_reckon_181 : decode cX4_reckon 181 = .ok (.ireturn, 1) := by decide +kernel
theorem dX4_reckon_182 : decode cX4_reckon 182 = .ok (.iload_n 2, 1) := by decide +kernel
theorem dX4_reckon_183 : decode cX4_reckon 183 = .ok (.iload_n 3, 1) := by decide +kernel
theorem dX4_reckon_184 : decode cX4_reckon 184 = .ok (.if_icmp .ge 7, 3) := by decide +kernel
theorem dX4_reckon_187 : decode cX4_reckon 187 = .ok (.iconst 1, 1) := by decide +kernel
theorem dX4_reckon_188 : decode cX4_reckon 188 = .ok (.goto 4, 3) := by decide +kernel
theorem dX4_reckon_191 : decode cX4_reckon 191 = .ok (.iconst 0, 1) := by decide +kernel
theorem dX4_reckon_192 : decode cX4_reckon 192 = .ok (.ireturn, 1) := by decide +kernel
theorem dX4_reckon_193 : decode cX4_reckon 193 = .ok (.iload_n 2, 1) := by decide +kernel
theorem dX4_reckon_194 : decode cX4_reckon 194 = .ok (.iload_n 3, 1) := by decide +kernel
theorem dX4_reckon_195 : decode cX4_reckon 195 = .ok (.if_icmp .ne 7, 3) := by decide +kernel
theorem dX4_reckon_198 : decode cX4_reckon 198 = .ok (.iconst 1, 1) := by decide +kernel
theorem dX4_reckon_199 : decode cX4_reckon 199 = .ok (.goto 4, 3) := by decide +kernel
theorem dX4_reckon_202 : decode cX4_reckon 202 = .ok (.iconst 0, 1) := by decide +kernel
theorem dX4_reckon_203 : decode cX4_reckon 203 = .ok (.ireturn, 1) := by decide +kernel
theorem dX4_layFirsts_0 : decode cX4_layFirsts 0 = .ok (.iconst 0, 1) := by decide +kernel
theorem dX4_layFirsts_1 : decode cX4_layFirsts 1 = .ok (.istore_n 2, 1) := by decide +kernel
theorem dX4_layFirsts_2 : decode cX4_layFirsts 2 = .ok (.iload_n 2, 1) := by decide +kernel
theorem dX4_layFirsts_3 : decode cX4_layFirsts 3 = .ok (.aload_n 0, 1) := by decide +kernel
theorem dX4_layFirsts_4 : decode cX4_layFirsts 4 = .ok (.getfield 19, 3) := by decide +kernel
theorem dX4_layFirsts_7 : decode cX4_layFirsts 7 = .ok (.if_icmp .ge 83, 3) := by decide +kernel
theorem dX4_layFirsts_10 : decode cX4_layFirsts 10 = .ok (.iconst 0, 1) := by decide +kernel
theorem dX4_layFirsts_11 : decode cX4_layFirsts 11 = .ok (.istore_n 3, 1) := by decide +kernel
theorem dX4_layFirsts_12 : decode cX4_layFirsts 12 = .ok (.iload_n 3, 1) := by decide +kernel
theorem dX4_layFirsts_13 : decode cX4_layFirsts 13 = .ok (.aload_n 0, 1) := by decide +kernel
theorem dX4_layFirsts_14 : decode cX4_layFirsts 14 = .ok (.getfield 13, 3) := by decide +kernel
theorem dX4_layFirsts_17 : decode cX4_layFirsts 17 = .ok (.if_icmp .ge 31, 3) := by decide +kernel
theorem dX4_layFirsts_20 : decode cX4_layFirsts 20 = .ok (.aload_n 1, 1) := by decide +kernel
theorem dX4_layFirsts_21 : decode cX4_layFirsts 21 = .ok (.sipush 256, 3) := by decide +kernel
theorem dX4_layFirsts_24 : decode cX4_layFirsts 24 = .ok (.iload_n 3, 1) := by decide +kernel
theorem dX4_layFirsts_25 : decode cX4_layFirsts 25 = .ok (.imul, 1) := by decide +kernel
theorem dX4_layFirsts_26 : decode cX4_layFirsts 26 = .ok (.iload_n 2, 1) := by decide +kernel
theorem dX4_layFirsts_27 : decode cX4_layFirsts 27 = .ok (.iadd, 1) := by decide +kernel
theorem dX4_layFirsts_28 : decode cX4_layFirsts 28 = .ok (.iload_n 2, 1) := by decide +kernel
theorem dX4_layFirsts_29 : decode cX4_layFirsts 29 = .ok (.aload_n 0, 1) := by decide +kernel
theorem dX4_layFirsts_30 : decode cX4_layFirsts 30 = .ok (.getfield 7, 3) := by decide +kernel
theorem dX4_layFirsts_33 : decode cX4_layFirsts 33 = .ok (.iload_n 3, 1) := by decide +kernel
theorem dX4_layFirsts_34 : decode cX4_layFirsts 34 = .ok (.imul, 1) := by decide +kernel
theorem dX4_layFirsts_35 : decode cX4_layFirsts 35 = .ok (.ishr, 1) := by decide +kernel
theorem dX4_layFirsts_36 : decode cX4_layFirsts 36 = .ok (.aload_n 0, 1) := by decide +kernel
theorem dX4_layFirsts_37 : decode cX4_layFirsts 37 = .ok (.getfield 16, 3) := by decide +kernel
theorem dX4_layFirsts_40 : decode cX4_layFirsts 40 = .ok (.iand, 1) := by decide +kernel
theorem dX4_layFirsts_41 : decode cX4_layFirsts 41 = .ok (.iastore, 1) := by decide +kernel
theorem dX4_layFirsts_42 : decode cX4_layFirsts 42 = .ok (.iinc 3 1, 3) := by decide +kernel
theorem dX4_layFirsts_45 : decode cX4_layFirsts 45 = .ok (.goto (-33), 3) := by decide +kernel
theorem dX4_layFirsts_48 : decode cX4_layFirsts 48 = .ok (.iconst 0, 1) := by decide +kernel
theorem dX4_layFirsts_49 : decode cX4_layFirsts 49 = .ok (.istore_n 3, 1) := by decide +kernel
theorem dX4_layFirsts_50 : decode cX4_layFirsts 50 = .ok (.iload_n 3, 1) := by decide +kernel
theorem dX4_layFirsts_51 : decode cX4_layFirsts 51 = .ok (.aload_n 0, 1) := by decide +kernel
theorem dX4_layFirsts_52 : decode cX4_layFirsts 52 = .ok (.getfield 83, 3) := by decide +kernel
theorem dX4_layFirsts_55 : decode cX4_layFirsts 55 = .ok (.if_icmp .ge 29, 3) := by decide +kernel
theorem dX4_layFirsts_58 : decode cX4_layFirsts 58 = .ok (.aload_n 1, 1) := by decide +kernel
theorem dX4_layFirsts_59 : decode cX4_layFirsts 59 = .ok (.sipush 256, 3) := by decide +kernel
theorem dX4_layFirsts_62 : decode cX4_layFirsts 62 = .ok (.aload_n 0, 1) := by decide +kernel
theorem dX4_layFirsts_63 : decode cX4_layFirsts 63 = .ok (.getfield 13, 3) := by decide +kernel
theorem dX4_layFirsts_66 : decode cX4_layFirsts 66 = .ok (.iload_n 3, 1) := by decide +kernel
end
section
theorem dX4_layFirsts_67 : decode cX4_layFirsts 67 = .ok (.iadd, 1) := by decide +kernel
theorem dX4_layFirsts_68 : decode cX4_layFirsts 68 = .ok (.imul, 1) := by decide +kernel
theorem dX4_layFirsts_69 : decode cX4_layFirsts 69 = .ok (.iload_n 2, 1) := by decide +kernel
theorem dX4_layFirsts_70 : decode cX4_layFirsts 70 = .ok (.iadd, 1) := by decide +kernel
theorem dX4_layFirsts_71 : decode cX4_layFirsts 71 = .ok (.aload_n 0, 1) := by decide +kernel
theorem dX4_layFirsts_72 : decode cX4_layFirsts 72 = .ok (.getfield 22, 3) := by decide +kernel
theorem dX4_layFirsts_75 : decode cX4_layFirsts 75 = .ok (.iload_n 3, 1) := by decide +kernel
theorem dX4_layFirsts_76 : decode cX4_layFirsts 76 = .ok (.iaload, 1) := by decide +kernel
theorem dX4_layFirsts_77 : decode cX4_layFirsts 77 = .ok (.iastore, 1) := by decide +kernel
theorem dX4_layFirsts_78 : decode cX4_layFirsts 78 = .ok (.iinc 3 1, 3) := by decide +kernel
theorem dX4_layFirsts_81 : decode cX4_layFirsts 81 = .ok (.goto (-31), 3) := by decide +kernel
theorem dX4_layFirsts_84 : decode cX4_layFirsts 84 = .ok (.iinc 2 1, 3) := by decide +kernel
theorem dX4_layFirsts_87 : decode cX4_layFirsts 87 = .ok (.goto (-85), 3) := by decide +kernel
theorem dX4_layFirsts_90 : decode cX4_layFirsts 90 = .ok (.return_, 1) := by decide +kernel
theorem dX4_reckonAll_0 : decode cX4_reckonAll 0 = .ok (.aload_n 0, 1) := by decide +kernel
theorem dX4_reckonAll_1 : decode cX4_reckonAll 1 = .ok (.aload_n 0, 1) := by decide +kernel
theorem dX4_reckonAll_2 : decode cX4_reckonAll 2 = .ok (.getfield 41, 3) := by decide +kernel
theorem dX4_reckonAll_5 : decode cX4_reckonAll 5 = .ok (.invokevirtual 93, 3) := by decide +kernel
theorem dX4_reckonAll_8 : decode cX4_reckonAll 8 = .ok (.iconst 0, 1) := by decide +kernel
theorem dX4_reckonAll_9 : decode cX4_reckonAll 9 = .ok (.istore_n 1, 1) := by decide +kernel
theorem dX4_reckonAll_10 : decode cX4_reckonAll 10 = .ok (.iload_n 1, 1) := by decide +kernel
theorem dX4_reckonAll_11 : decode cX4_reckonAll 11 = .ok (.aload_n 0, 1) := by decide +kernel
theorem dX4_reckonAll_12 : decode cX4_reckonAll 12 = .ok (.getfield 90, 3) := by decide +kernel
theorem dX4_reckonAll_15 : decode cX4_reckonAll 15 = .ok (.if_icmp .ge 88, 3) := by decide +kernel
theorem dX4_reckonAll_18 : decode cX4_reckonAll 18 = .ok (.sipush 256, 3) := by decide +kernel
theorem dX4_reckonAll_21 : decode cX4_reckonAll 21 = .ok (.aload_n 0, 1) := by decide +kernel
theorem dX4_reckonAll_22 : decode cX4_reckonAll 22 = .ok (.invokevirtual 86, 3) := by decide +kernel
theorem dX4_reckonAll_25 : decode cX4_reckonAll 25 = .ok (.iload_n 1, 1) := by decide +kernel
theorem dX4_reckonAll_26 : decode cX4_reckonAll 26 = .ok (.iadd, 1) := by decide +kernel
theorem dX4_reckonAll_27 : decode cX4_reckonAll 27 = .ok (.imul, 1) := by decide +kernel
theorem dX4_reckonAll_28 : decode cX4_reckonAll 28 = .ok (.istore_n 2, 1) := by decide +kernel
theorem dX4_reckonAll_29 : decode cX4_reckonAll 29 = .ok (.iconst 0, 1) := by decide +kernel
theorem dX4_reckonAll_30 : decode cX4_reckonAll 30 = .ok (.istore_n 3, 1) := by decide +kernel
theorem dX4_reckonAll_31 : decode cX4_reckonAll 31 = .ok (.iload_n 3, 1) := by decide +kernel
theorem dX4_reckonAll_32 : decode cX4_reckonAll 32 = .ok (.aload_n 0, 1) := by decide +kernel
theorem dX4_reckonAll_33 : decode cX4_reckonAll 33 = .ok (.getfield 19, 3) := by decide +kernel
theorem dX4_reckonAll_36 : decode cX4_reckonAll 36 = .ok (.if_icmp .ge 61, 3) := by decide +kernel
theorem dX4_reckonAll_39 : decode cX4_reckonAll 39 = .ok (.aload_n 0, 1) := by decide +kernel
theorem dX4_reckonAll_40 : decode cX4_reckonAll 40 = .ok (.getfield 41, 3) := by decide +kernel
theorem dX4_reckonAll_43 : decode cX4_reckonAll 43 = .ok (.iload_n 2, 1) := by decide +kernel
theorem dX4_reckonAll_44 : decode cX4_reckonAll 44 = .ok (.iload_n 3, 1) := by decide +kernel
theorem dX4_reckonAll_45 : decode cX4_reckonAll 45 = .ok (.iadd, 1) := by decide +kernel
theorem dX4_reckonAll_46 : decode cX4_reckonAll 46 = .ok (.aload_n 0, 1) := by decide +kernel
theorem dX4_reckonAll_47 : decode cX4_reckonAll 47 = .ok (.aload_n 0, 1) := by decide +kernel
theorem dX4_reckonAll_48 : decode cX4_reckonAll 48 = .ok (.getfield 32, 3) := by decide +kernel
theorem dX4_reckonAll_51 : decode cX4_reckonAll 51 = .ok (.iload_n 1, 1) := by decide +kernel
theorem dX4_reckonAll_52 : decode cX4_reckonAll 52 = .ok (.iaload, 1) := by decide +kernel
theorem dX4_reckonAll_53 : decode cX4_reckonAll 53 = .ok (.aload_n 0, 1) := by decide +kernel
theorem dX4_reckonAll_54 : decode cX4_reckonAll 54 = .ok (.getfield 41, 3) := by decide +kernel
theorem dX4_reckonAll_57 : decode cX4_reckonAll 57 = .ok (.sipush 256, 3) := by decide +kernel
theorem dX4_reckonAll_60 : decode cX4_reckonAll 60 = .ok (.aload_n 0, 1) := by decide +kernel
theorem dX4_reckonAll_61 : decode cX4_reckonAll 61 = .ok (.getfield 35, 3) := by decide +kernel
theorem dX4_reckonAll_64 : decode cX4_reckonAll 64 = .ok (.iload_n 1, 1) := by decide +kernel
theorem dX4_reckonAll_65 : decode cX4_reckonAll 65 = .ok (.iaload, 1) := by decide +kernel
theorem dX4_reckonAll_66 : decode cX4_reckonAll 66 = .ok (.imul, 1) := by decide +kernel
theorem dX4_reckonAll_67 : decode cX4_reckonAll 67 = .ok (.iload_n 3, 1) := by decide +kernel
theorem dX4_reckonAll_68 : decode cX4_reckonAll 68 = .ok (.iadd, 1) := by decide +kernel
theorem dX4_reckonAll_69 : decode cX4_reckonAll 69 = .ok (.iaload, 1) := by decide +kernel
theorem dX4_reckonAll_70 : decode cX4_reckonAll 70 = .ok (.aload_n 0, 1) := by decide +kernel
theorem dX4_reckonAll_71 : decode cX4_reckonAll 71 = .ok (.getfield 41, 3) := by decide +kernel
theorem dX4_reckonAll_74 : decode cX4_reckonAll 74 = .ok (.sipush 256, 3) := by decide +kernel
theorem dX4_reckonAll_77 : decode cX4_reckonAll 77 = .ok (.aload_n 0, 1) := by decide +kernel
theorem dX4_reckonAll_78 : decode cX4_reckonAll 78 = .ok (.getfield 38, 3) := by decide +kernel
theorem dX4_reckonAll_81 : decode cX4_reckonAll 81 = .ok (.iload_n 1, 1) := by decide +kernel
theorem dX4_reckonAll_82 : decode cX4_reckonAll 82 = .ok (.iaload, 1) := by decide +kernel
theorem dX4_reckonAll_83 : decode cX4_reckonAll 83 = .ok (.imul, 1) := by decide +kernel
theorem dX4_reckonAll_84 : decode cX4_reckonAll 84 = .ok (.iload_n 3, 1) := by decide +kernel
theorem dX4_reckonAll_85 : decode cX4_reckonAll 85 = .ok (.iadd, 1) := by decide +kernel
theorem dX4_reckonAll_86 : decode cX4_reckonAll 86 = .ok (.iaload, 1) := by decide +kernel
theorem dX4_reckonAll_87 : decode cX4_reckonAll 87 = .ok (.invokevirtual 97, 3) := by decide +kernel
theorem dX4_reckonAll_90 : decode cX4_reckonAll 90 = .ok (.iastore, 1) := by decide +kernel
theorem dX4_reckonAll_91 : decode cX4_reckonAll 91 = .ok (.iinc 3 1, 3) := by decide +kernel
theorem dX4_reckonAll_94 : decode cX4_reckonAll 94 = .ok (.goto (-63), 3) := by decide +kernel
theorem dX4_reckonAll_97 : decode cX4_reckonAll 97 = .ok (.iinc 1 1, 3) := by decide +kernel
theorem dX4_reckonAll_100 : decode cX4_reckonAll 100 = .ok (.goto (-90), 3) := by decide +kernel
theorem dX4_reckonAll_103 : decode cX4_reckonAll 103 = .ok (.return_, 1) := by decide +kernel
theorem dX4_words_0 : decode cX4_words 0 = .ok (.iload_n 1, 1) := by decide +kernel
theorem dX4_words_1 : decode cX4_words 1 = .ok (.iconst 1, 1) := by decide +kernel
theorem dX4_words_2 : decode cX4_words 2 = .ok (.iconst 4, 1) := by decide +kernel
theorem dX4_words_3 : decode cX4_words 3 = .ok (.invokestatic 101, 3) := by decide +kernel
theorem dX4_words_6 : decode cX4_words 6 = .ok (.ifCond .eq 12, 3) := by decide +kernel
theorem dX4_words_9 : decode cX4_words 9 = .ok (.iload_n 2, 1) := by decide +kernel
theorem dX4_words_10 : decode cX4_words 10 = .ok (.iconst 1, 1) := by decide +kernel
theorem dX4_words_11 : decode cX4_words 11 = .ok (.iconst 2, 1) := by decide +kernel
theorem dX4_words_12 : decode cX4_words 12 = .ok (.invokestatic 101, 3) := by decide +kernel
theorem dX4_words_15 : decode cX4_words 15 = .ok (.ifCond .ne 6, 3) := by decide +kernel
theorem dX4_words_18 : decode cX4_words 18 = .ok (.bipush (-2), 2) := by decide +kernel
theorem dX4_words_20 : decode cX4_words 20 = .ok (.ireturn, 1) := by decide +kernel
theorem dX4_words_21 : decode cX4_words 21 = .ok (.aload_n 0, 1) := by decide +kernel
theorem dX4_words_22 : decode cX4_words 22 = .ok (.iload_n 1, 1) := by decide +kernel
theorem dX4_words_23 : decode cX4_words 23 = .ok (.putfield 7, 3) := by decide +kernel
theorem dX4_words_26 : decode cX4_words 26 = .ok (.aload_n 0, 1) := by decide +kernel
theorem dX4_words_27 : decode cX4_words 27 = .ok (.iload_n 2, 1) := by decide +kernel
theorem dX4_words_28 : decode cX4_words 28 = .ok (.putfield 13, 3) := by decide +kernel
theorem dX4_words_31 : decode cX4_words 31 = .ok (.aload_n 0, 1) := by decide +kernel
theorem dX4_words_32 : decode cX4_words 32 = .ok (.iconst 1, 1) := by decide +kernel
theorem dX4_words_33 : decode cX4_words 33 = .ok (.aload_n 0, 1) := by decide +kernel
theorem dX4_words_34 : decode cX4_words 34 = .ok (.getfield 7, 3) := by decide +kernel
theorem dX4_words_37 : decode cX4_words 37 = .ok (.ishl, 1) := by decide +kernel
theorem dX4_words_38 : decode cX4_words 38 = .ok (.iconst 1, 1) := by decide +kernel
theorem dX4_words_39 : decode cX4_words 39 = .ok (.isub, 1) := by decide +kernel
theorem dX4_words_40 : decode cX4_words 40 = .ok (.putfield 16, 3) := by decide +kernel
theorem dX4_words_43 : decode cX4_words 43 = .ok (.aload_n 0, 1) := by decide +kernel
theorem dX4_words_44 : decode cX4_words 44 = .ok (.iconst 1, 1) := by decide +kernel
theorem dX4_words_45 : decode cX4_words 45 = .ok (.aload_n 0, 1) := by decide +kernel
theorem dX4_words_46 : decode cX4_words 46 = .ok (.getfield 7, 3) := by decide +kernel
theorem dX4_words_49 : decode cX4_words 49 = .ok (.aload_n 0, 1) := by decide +kernel
theorem dX4_words_50 : decode cX4_words 50 = .ok (.getfield 13, 3) := by decide +kernel
theorem dX4_words_53 : decode cX4_words 53 = .ok (.imul, 1) := by decide +kernel
theorem dX4_words_54 : decode cX4_words 54 = .ok (.ishl, 1) := by decide +kernel
theorem dX4_words_55 : decode cX4_words 55 = .ok (.putfield 19, 3) := by decide +kernel
theorem dX4_words_58 : decode cX4_words 58 = .ok (.aload_n 0, 1) := by decide +kernel
theorem dX4_words_59 : decode cX4_words 59 = .ok (.iconst 0, 1) := by decide +kernel
theorem dX4_words_60 : decode cX4_words 60 = .ok (.putfield 83, 3) := by decide +kernel
theorem dX4_words_63 : decode cX4_words 63 = .ok (.aload_n 0, 1) := by decide +kernel
theorem dX4_words_64 : decode cX4_words 64 = .ok (.iconst 0, 1) := by decide +kernel
theorem dX4_words_65 : decode cX4_words 65 = .ok (.putfield 90, 3) := by decide +kernel
theorem dX4_words_68 : decode cX4_words 68 = .ok (.aload_n 0, 1) := by decide +kernel
theorem dX4_words_69 : decode cX4_words 69 = .ok (.iconst 0, 1) := by decide +kernel
theorem dX4_words_70 : decode cX4_words 70 = .ok (.putfield 105, 3) := by decide +kernel
theorem dX4_words_73 : decode cX4_words 73 = .ok (.aload_n 0, 1) := by decide +kernel
theorem dX4_words_74 : decode cX4_words 74 = .ok (.iconst 0, 1) := by decide +kernel
theorem dX4_words_75 : decode cX4_words 75 = .ok (.putfield 108, 3) := by decide +kernel
theorem dX4_words_78 : decode cX4_words 78 = .ok (.iconst 0, 1) := by decide +kernel
theorem dX4_words_79 : decode cX4_words 79 = .ok (.istore_n 3, 1) := by decide +kernel
theorem dX4_words_80 : decode cX4_words 80 = .ok (.iload_n 3, 1) := by decide +kernel
theorem dX4_words_81 : decode cX4_words 81 = .ok (.sipush 256, 3) := by decide +kernel
theorem dX4_words_84 : decode cX4_words 84 = .ok (.if_icmp .ge 16, 3) := by decide +kernel
theorem dX4_words_87 : decode cX4_words 87 = .ok (.aload_n 0, 1) := by decide +kernel
theorem dX4_words_88 : decode cX4_words 88 = .ok (.getfield 29, 3) := by decide +kernel
theorem dX4_words_91 : decode cX4_words 91 = .ok (.iload_n 3, 1) := by decide +kernel
theorem dX4_words_92 : decode cX4_words 92 = .ok (.iconst 0, 1) := by decide +kernel
theorem dX4_words_93 : decode cX4_words 93 = .ok (.iastore, 1) := by decide +kernel
theorem dX4_words_94 : decode cX4_words 94 = .ok (.iinc 3 1, 3) := by decide +kernel
theorem dX4_words_97 : decode cX4_words 97 = .ok (.goto (-17), 3) := by decide +kernel
theorem dX4_words_100 : decode cX4_words 100 = .ok (.aload_n 0, 1) := by decide +kernel
theorem dX4_words_101 : decode cX4_words 101 = .ok (.invokevirtual 80, 3) := by decide +kernel
theorem dX4_words_104 : decode cX4_words 104 = .ok (.aload_n 0, 1) := by decide +kernel
theorem dX4_words_105 : decode cX4_words 105 = .ok (.getfield 19, 3) := by decide +kernel
theorem dX4_words_108 : decode cX4_words 108 = .ok (.ireturn, 1) := by decide +kernel
theorem dX4_constant_0 : decode cX4_constant 0 = .ok (.iload_n 1, 1) := by decide +kernel
theorem dX4_constant_1 : decode cX4_constant 1 = .ok (.iconst 0, 1) := by decide +kernel
theorem dX4_constant_2 : decode cX4_constant 2 = .ok (.aload_n 0, 1) := by decide +kernel
theorem dX4_constant_3 : decode cX4_constant 3 = .ok (.getfield 16, 3) := by decide +kernel
theorem dX4_constant_6 : decode cX4_constant 6 = .ok (.invokestatic 101, 3) := by decide +kernel
theorem dX4_constant_9 : decode cX4_constant 9 = .ok (.ifCond .ne 6, 3) := by decide +kernel
theorem dX4_constant_12 : decode cX4_constant 12 = .ok (.bipush (-2), 2) := by decide +kernel
theorem dX4_constant_14 : decode cX4_constant 14 = .ok (.ireturn, 1) := by decide +kernel
theorem dX4_constant_15 : decode cX4_constant 15 = .ok (.aload_n 0, 1) := by decide +kernel
theorem dX4_constant_16 : decode cX4_constant 16 = .ok (.getfield 90, 3) := by decide +kernel
theorem dX4_constant_19 : decode cX4_constant 19 = .ok (.ifCond .le 6, 3) := by decide +kernel
theorem dX4_constant_22 : decode cX4_constant 22 = .ok (.bipush (-3), 2) := by decide +kernel
theorem dX4_constant_24 : decode cX4_constant 24 = .ok (.ireturn, 1) := by decide +kernel
theorem dX4_constant_25 : decode cX4_constant 25 = .ok (.aload_n 0, 1) := by decide +kernel
theorem dX4_constant_26 : decode cX4_constant 26 = .ok (.getfield 83, 3) := by decide +kernel
theorem dX4_constant_29 : decode cX4_constant 29 = .ok (.iconst 4, 1) := by decide +kernel
theorem dX4_constant_30 : decode cX4_constant 30 = .ok (.if_icmp .ne 6, 3) := by decide +kernel
theorem dX4_constant_33 : decode cX4_constant 33 = .ok (.bipush (-4), 2) := by decide +kernel
theorem dX4_constant_35 : decode cX4_constant 35 = .ok (.ireturn, 1) := by decide +kernel
theorem dX4_constant_36 : decode cX4_constant 36 = .ok (.aload_n 0, 1) := by decide +kernel
theorem dX4_constant_37 : decode cX4_constant 37 = .ok (.getfield 22, 3) := by decide +kernel
theorem dX4_constant_40 : decode cX4_constant 40 = .ok (.aload_n 0, 1) := by decide +kernel
theorem dX4_constant_41 : decode cX4_constant 41 = .ok (.getfield 83, 3) := by decide +kernel
theorem dX4_constant_44 : decode cX4_constant 44 = .ok (.iload_n 1, 1) := by decide +kernel
theorem dX4_constant_45 : decode cX4_constant 45 = .ok (.iastore, 1) := by decide +kernel
theorem dX4_constant_46 : decode cX4_constant 46 = .ok (.aload_n 0, 1) := by decide +kernel
theorem dX4_constant_47 : decode cX4_constant 47 = .ok (.dup, 1) := by decide +kernel
theorem dX4_constant_48 : decode cX4_constant 48 = .ok (.getfield 83, 3) := by decide +kernel
theorem dX4_constant_51 : decode cX4_constant 51 = .ok (.iconst 1, 1) := by decide +kernel
theorem dX4_constant_52 : decode cX4_constant 52 = .ok (.iadd, 1) := by decide +kernel
theorem dX4_constant_53 : decode cX4_constant 53 = .ok (.putfield 83, 3) := by decide +kernel
theorem dX4_constant_56 : decode cX4_constant 56 = .ok (.aload_n 0, 1) := by decide +kernel
theorem dX4_constant_57 : decode cX4_constant 57 = .ok (.iconst 0, 1) := by decide +kernel
theorem dX4_constant_58 : decode cX4_constant 58 = .ok (.putfield 108, 3) := by decide +kernel
theorem dX4_constant_61 : decode cX4_constant 61 = .ok (.aload_n 0, 1) := by decide +kernel
theorem dX4_constant_62 : decode cX4_constant 62 = .ok (.invokevirtual 80, 3) := by decide +kernel
theorem dX4_constant_65 : decode cX4_constant 65 = .ok (.aload_n 0, 1) := by decide +kernel
theorem dX4_constant_66 : decode cX4_constant 66 = .ok (.invokevirtual 86, 3) := by decide +kernel
theorem dX4_constant_69 : decode cX4_constant 69 = .ok (.iconst 1, 1) := by decide +kernel
theorem dX4_constant_70 : decode cX4_constant 70 = .ok (.isub, 1) := by decide +kernel
theorem dX4_constant_71 : decode cX4_constant 71 = .ok (.ireturn, 1) := by decide +kernel
theorem dX4_cost_0 : decode cX4_cost 0 = .ok (.iload_n 1, 1) := by decide +kernel
theorem dX4_cost_1 : decode cX4_cost 1 = .ok (.iconst 0, 1) := by decide +kernel
theorem dX4_cost_2 : decode cX4_cost 2 = .ok (.bipush 12, 2) := by decide +kernel
theorem dX4_cost_4 : decode cX4_cost 4 = .ok (.invokestatic 101, 3) := by decide +kernel
theorem dX4_cost_7 : decode cX4_cost 7 = .ok (.ifCond .ne 5, 3) := by decide +kernel
theorem dX4_cost_10 : decode cX4_cost 10 = .ok (.iconst (-1), 1) := by decide +kernel
theorem dX4_cost_11 : decode cX4_cost 11 = .ok (.ireturn, 1) := by decide +kernel
theorem dX4_cost_12 : decode cX4_cost 12 = .ok (.iload_n 2, 1) := by decide +kernel
theorem dX4_cost_13 : decode cX4_cost 13 = .ok (.iconst 0, 1) := by decide +kernel
theorem dX4_cost_14 : decode cX4_cost 14 = .ok (.bipush 9, 2) := by decide +kernel
theorem dX4_cost_16 : decode cX4_cost 16 = .ok (.invokestatic 101, 3) := by decide +kernel
theorem dX4_cost_19 : decode cX4_cost 19 = .ok (.ifCond .ne 6, 3) := by decide +kernel
theorem dX4_cost_22 : decode cX4_cost 22 = .ok (.bipush (-2), 2) := by decide +kernel
theorem dX4_cost_24 : decode cX4_cost 24 = .ok (.ireturn, 1) := by decide +kernel
theorem dX4_cost_25 : decode cX4_cost 25 = .ok (.aload_n 0, 1) := by decide +kernel
theorem dX4_cost_26 : decode cX4_cost 26 = .ok (.getfield 26, 3) := by decide +kernel
theorem dX4_cost_29 : decode cX4_cost 29 = .ok (.iload_n 1, 1) := by decide +kernel
theorem dX4_cost_30 : decode cX4_cost 30 = .ok (.iaload, 1) := by decide +kernel
theorem dX4_cost_31 : decode cX4_cost 31 = .ok (.istore_n 3, 1) := by decide +kernel
theorem dX4_cost_32 : decode cX4_cost 32 = .ok (.aload_n 0, 1) := by decide +kernel
theorem dX4_cost_33 : decode cX4_cost 33 = .ok (.getfield 26, 3) := by decide +kernel
theorem dX4_cost_36 : decode cX4_cost 36 = .ok (.iload_n 1, 1) := by decide +kernel
theorem dX4_cost_37 : decode cX4_cost 37 = .ok (.iload_n 2, 1) := by decide +kernel
theorem dX4_cost_38 : decode cX4_cost 38 = .ok (.iastore, 1) := by decide +kernel
theorem dX4_cost_39 : decode cX4_cost 39 = .ok (.iload_n 3, 1) := by decide +kernel
theorem dX4_cost_40 : decode cX4_cost 40 = .ok (.ireturn, 1) := by decide +kernel
theorem dX4_isAssignment_0 : decode cX4_isAssignment 0 = .ok (.iload_n 1, 1) := by decide +kernel
theorem dX4_isAssignment_1 : decode cX4_isAssignment 1 = .ok (.iconst 0, 1) := by decide +kernel
theorem dX4_isAssignment_2 : decode cX4_isAssignment 2 = .ok (.aload_n 0, 1) := by decide +kernel
theorem dX4_isAssignment_3 : decode cX4_isAssignment 3 = .ok (.getfield 19, 3) := by decide +kernel
theorem dX4_isAssignment_6 : decode cX4_isAssignment 6 = .ok (.iconst 1, 1) := by decide +kernel
theorem dX4_isAssignment_7 : decode cX4_isAssignment 7 = .ok (.isub, 1) := by decide +kernel
theorem dX4_isAssignment_8 : decode cX4_isAssignment 8 = .ok (.invokestatic 101, 3) := by decide +kernel
theorem dX4_isAssignment_11 : decode cX4_isAssignment 11 = .ok (.ireturn, 1) := by decide +kernel
theorem dX4_target_0 : decode cX4_target 0 = .ok (.aload_n 0, 1) := by decide +kernel
theorem dX4_target_1 : decode cX4_target 1 = .ok (.iload_n 1, 1) := by decide +kernel
theorem dX4_target_2 : decode cX4_target 2 = .ok (.invokevirtual 112, 3) := by decide +kernel
theorem dX4_target_5 : decode cX4_target 5 = .ok (.ifCond .ne 5, 3) := by decide +kernel
theorem dX4_target_8 : decode cX4_target 8 = .ok (.iconst (-1), 1) := by decide +kernel
theorem dX4_target_9 : decode cX4_target 9 = .ok (.ireturn, 1) := by decide +kernel
theorem dX4_target_10 : decode cX4_target 10 = .ok (.iload_n 2, 1) := by decide +kernel
theorem dX4_target_11 : decode cX4_target 11 = .ok (.iconst 0, 1) := by decide +kernel
theorem dX4_target_12 : decode cX4_target 12 = .ok (.aload_n 0, 1) := by decide +kernel
theorem dX4_target_13 : decode cX4_target 13 = .ok (.getfield 16, 3) := by decide +kernel
theorem dX4_target_16 : decode cX4_target 16 = .ok (.invokestatic 101, 3) := by decide +kernel
theorem dX4_target_19 : decode cX4_target 19 = .ok (.ifCond .ne 6, 3) := by decide +kernel
theorem dX4_target_22 : decode cX4_target 22 = .ok (.bipush (-2), 2) := by decide +kernel
theorem dX4_target_24 : decode cX4_target 24 = .ok (.ireturn, 1) := by decide +kernel
theorem dX4_target_25 : decode cX4_target 25 = .ok (.aload_n 0, 1) := by decide +kernel
theorem dX4_target_26 : decode cX4_target 26 = .ok (.getfield 29, 3) := by decide +kernel
theorem dX4_target_29 : decode cX4_target 29 = .ok (.iload_n 1, 1) := by decide +kernel
theorem dX4_target_30 : decode cX4_target 30 = .ok (.iaload, 1) := by decide +kernel
theorem dX4_target_31 : decode cX4_target 31 = .ok (.istore_n 3, 1) := by decide +kernel
theorem dX4_target_32 : decode cX4_target 32 = .ok (.aload_n 0, 1) := by decide +kernel
theorem dX4_target_33 : decode cX4_target 33 = .ok (.getfield 29, 3) := by decide +kernel
theorem dX4_target_36 : decode cX4_target 36 = .ok (.iload_n 1, 1) := by decide +kernel
theorem dX4_target_37 : decode cX4_target 37 = .ok (.iload_n 2, 1) := by decide +kernel
theorem dX4_target_38 : decode cX4_target 38 = .ok (.iastore, 1) := by decide +kernel
theorem dX4_target_39 : decode cX4_target 39 = .ok (.iload_n 3, 1) := by decide +kernel
theorem dX4_target_40 : decode cX4_target 40 = .ok (.ireturn, 1) := by decide +kernel
theorem dX4_aim_0 : decode cX4_aim 0 = .ok (.iconst 0, 1) := by decide +kernel
theorem dX4_aim_1 : decode cX4_aim 1 = .ok (.istore_n 1, 1) := by decide +kernel
theorem dX4_aim_2 : decode cX4_aim 2 = .ok (.iconst 0, 1) := by decide +kernel
theorem dX4_aim_3 : decode cX4_aim 3 = .ok (.istore_n 2, 1) := by decide +kernel
theorem dX4_aim_4 : decode cX4_aim 4 = .ok (.iload_n 2, 1) := by decide +kernel
theorem dX4_aim_5 : decode cX4_aim 5 = .ok (.aload_n 0, 1) := by decide +kernel
theorem dX4_aim_6 : decode cX4_aim 6 = .ok (.getfield 19, 3) := by decide +kernel
theorem dX4_aim_9 : decode cX4_aim 9 = .ok (.if_icmp .ge 50, 3) := by decide +kernel
theorem dX4_aim_12 : decode cX4_aim 12 = .ok (.aload_n 0, 1) := by decide +kernel
theorem dX4_aim_13 : decode cX4_aim 13 = .ok (.getfield 41, 3) := by decide +kernel
theorem dX4_aim_16 : decode cX4_aim 16 = .ok (.sipush 256, 3) := by decide +kernel
theorem dX4_aim_19 : decode cX4_aim 19 = .ok (.aload_n 0, 1) := by decide +kernel
theorem dX4_aim_20 : decode cX4_aim 20 = .ok (.getfield 105, 3) := by decide +kernel
theorem dX4_aim_23 : decode cX4_aim 23 = .ok (.imul, 1) := by decide +kernel
theorem dX4_aim_24 : decode cX4_aim 24 = .ok (.iload_n 2, 1) := by decide +kernel
theorem dX4_aim_25 : decode cX4_aim 25 = .ok (.iadd, 1) := by decide +kernel
theorem dX4_aim_26 : decode cX4_aim 26 = .ok (.iaload, 1) := by decide +kernel
theorem dX4_aim_27 : decode cX4_aim 27 = .ok (.istore_n 3, 1) := by decide +kernel
theorem dX4_aim_28 : decode cX4_aim 28 = .ok (.iload_n 1, 1) := by decide +kernel
theorem dX4_aim_29 : decode cX4_aim 29 = .ok (.aload_n 0, 1) := by decide +kernel
theorem dX4_aim_30 : decode cX4_aim 30 = .ok (.getfield 29, 3) := by decide +kernel
theorem dX4_aim_33 : decode cX4_aim 33 = .ok (.iload_n 2, 1) := by decide +kernel
theorem dX4_aim_34 : decode cX4_aim 34 = .ok (.iaload, 1) := by decide +kernel
theorem dX4_aim_35 : decode cX4_aim 35 = .ok (.iload_n 3, 1) := by decide +kernel
theorem dX4_aim_36 : decode cX4_aim 36 = .ok (.if_icmp .eq 7, 3) := by decide +kernel
theorem dX4_aim_39 : decode cX4_aim 39 = .ok (.iconst 1, 1) := by decide +kernel
theorem dX4_aim_40 : decode cX4_aim 40 = .ok (.goto 4, 3) := by decide +kernel
theorem dX4_aim_43 : decode cX4_aim 43 = .ok (.iconst 0, 1) := by decide +kernel
theorem dX4_aim_44 : decode cX4_aim 44 = .ok (.iadd, 1) := by decide +kernel
theorem dX4_aim_45 : decode cX4_aim 45 = .ok (.istore_n 1, 1) := by decide +kernel
theorem dX4_aim_46 : decode cX4_aim 46 = .ok (.aload_n 0, 1) := by decide +kernel
theorem dX4_aim_47 : decode cX4_aim 47 = .ok (.getfield 29, 3) := by decide +kernel
theorem dX4_aim_50 : decode cX4_aim 50 = .ok (.iload_n 2, 1) := by decide +kernel
theorem dX4_aim_51 : decode cX4_aim 51 = .ok (.iload_n 3, 1) := by decide +kernel
theorem dX4_aim_52 : decode cX4_aim 52 = .ok (.iastore, 1) := by decide +kernel
theorem dX4_aim_53 : decode cX4_aim 53 = .ok (.iinc 2 1, 3) := by decide +kernel
theorem dX4_aim_56 : decode cX4_aim 56 = .ok (.goto (-52), 3) := by decide +kernel
theorem dX4_aim_59 : decode cX4_aim 59 = .ok (.iload_n 1, 1) := by decide +kernel
theorem dX4_aim_60 : decode cX4_aim 60 = .ok (.ireturn, 1) := by decide +kernel
theorem dX4_isValue_0 : decode cX4_isValue 0 = .ok (.iload_n 1, 1) := by decide +kernel
theorem dX4_isValue_1 : decode cX4_isValue 1 = .ok (.iconst 0, 1) := by decide +kernel
theorem dX4_isValue_2 : decode cX4_isValue 2 = .ok (.aload_n 0, 1) := by decide +kernel
theorem dX4_isValue_3 : decode cX4_isValue 3 = .ok (.invokevirtual 116, 3) := by decide +kernel
theorem dX4_isValue_6 : decode cX4_isValue 6 = .ok (.iconst 1, 1) := by decide +kernel
theorem dX4_isValue_7 : decode cX4_isValue 7 = .ok (.isub, 1) := by decide +kernel
theorem dX4_isValue_8 : decode cX4_isValue 8 = .ok (.invokestatic 101, 3) := by decide +kernel
theorem dX4_isValue_11 : decode cX4_isValue 11 = .ok (.ireturn, 1) := by decide +kernel
theorem dX4_add_0 : decode cX4_add 0 = .ok (.iload_n 1, 1) := by decide +kernel
theorem dX4_add_1 : decode cX4_add 1 = .ok (.iconst 0, 1) := by decide +kernel
theorem dX4_add_2 : decode cX4_add 2 = .ok (.bipush 12, 2) := by decide +kernel
theorem dX4_add_4 : decode cX4_add 4 = .ok (.invokestatic 101, 3) := by decide +kernel
theorem dX4_add_7 : decode cX4_add 7 = .ok (.ifCond .eq 19, 3) := by decide +kernel
theorem dX4_add_10 : decode cX4_add 10 = .ok (.aload_n 0, 1) := by decide +kernel
theorem dX4_add_11 : decode cX4_add 11 = .ok (.iload_n 2, 1) := by decide +kernel
theorem dX4_add_12 : decode cX4_add 12 = .ok (.invokevirtual 119, 3) := by decide +kernel
theorem dX4_add_15 : decode cX4_add 15 = .ok (.ifCond .eq 11, 3) := by decide +kernel
theorem dX4_add_18 : decode cX4_add 18 = .ok (.aload_n 0, 1) := by decide +kernel
theorem dX4_add_19 : decode cX4_add 19 = .ok (.iload_n 3, 1) := by decide +kernel
theorem dX4_add_20 : decode cX4_add 20 = .ok (.invokevirtual 119, 3) := by decide +kernel
theorem dX4_add_23 : decode cX4_add 23 = .ok (.ifCond .ne 5, 3) := by decide +kernel
theorem dX4_add_26 : decode cX4_add 26 = .ok (.iconst (-1), 1) := by decide +kernel
theorem dX4_add_27 : decode cX4_add 27 = .ok (.ireturn, 1) := by decide +kernel
theorem dX4_add_28 : decode cX4_add 28 = .ok (.aload_n 0, 1) := by decide +kernel
theorem dX4_add_29 : decode cX4_add 29 = .ok (.getfield 90, 3) := by decide +kernel
theorem dX4_add_32 : decode cX4_add 32 = .ok (.bipush 12, 2) := by decide +kernel
theorem dX4_add_34 : decode cX4_add 34 = .ok (.if_icmp .ne 6, 3) := by decide +kernel
theorem dX4_add_37 : decode cX4_add 37 = .ok (.bipush (-4), 2) := by decide +kernel
theorem dX4_add_39 : decode cX4_add 39 = .ok (.ireturn, 1) := by decide +kernel
theorem dX4_add_40 : decode cX4_add 40 = .ok (.aload_n 0, 1) := by decide +kernel
theorem dX4_add_41 : decode cX4_add 41 = .ok (.getfield 32, 3) := by decide +kernel
theorem dX4_add_44 : decode cX4_add 44 = .ok (.aload_n 0, 1) := by decide +kernel
theorem dX4_add_45 : decode cX4_add 45 = .ok (.getfield 90, 3) := by decide +kernel
theorem dX4_add_48 : decode cX4_add 48 = .ok (.iload_n 1, 1) := by decide +kernel
theorem dX4_add_49 : decode cX4_add 49 = .ok (.iastore, 1) := by decide +kernel
theorem dX4_add_50 : decode cX4_add 50 = .ok (.aload_n 0, 1) := by decide +kernel
theorem dX4_add_51 : decode cX4_add 51 = .ok (.getfield 35, 3) := by decide +kernel
theorem dX4_add_54 : decode cX4_add 54 = .ok (.aload_n 0, 1) := by decide +kernel
theorem dX4_add_55 : decode cX4_add 55 = .ok (.getfield 90, 3) := by decide +kernel
theorem dX4_add_58 : decode cX4_add 58 = .ok (.iload_n 2, 1) := by decide +kernel
theorem dX4_add_59 : decode cX4_add 59 = .ok (.iastore, 1) := by decide +kernel
theorem dX4_add_60 : decode cX4_add 60 = .ok (.aload_n 0, 1) := by decide +kernel
theorem dX4_add_61 : decode cX4_add 61 = .ok (.getfield 38, 3) := by decide +kernel
theorem dX4_add_64 : decode cX4_add 64 = .ok (.aload_n 0, 1) := by decide +kernel
theorem dX4_add_65 : decode cX4_add 65 = .ok (.getfield 90, 3) := by decide +kernel
theorem dX4_add_68 : decode cX4_add 68 = .ok (.iload_n 1, 1) := by decide +kernel
theorem dX4_add_69 : decode cX4_add 69 = .ok (.ifCond .eq 8, 3) := by decide +kernel
theorem dX4_add_72 : decode cX4_add 72 = .ok (.iload_n 1, 1) := by decide +kernel
theorem dX4_add_73 : decode cX4_add 73 = .ok (.iconst 1, 1) := by decide +kernel
theorem dX4_add_74 : decode cX4_add 74 = .ok (.if_icmp .ne 7, 3) := by decide +kernel
theorem dX4_add_77 : decode cX4_add 77 = .ok (.iconst 0, 1) := by decide +kernel
theorem dX4_add_78 : decode cX4_add 78 = .ok (.goto 4, 3) := by decide +kernel
theorem dX4_add_81 : decode cX4_add 81 = .ok (.iload_n 3, 1) := by decide +kernel
theorem dX4_add_82 : decode cX4_add 82 = .ok (.iastore, 1) := by decide +kernel
theorem dX4_add_83 : decode cX4_add 83 = .ok (.aload_n 0, 1) := by decide +kernel
theorem dX4_add_84 : decode cX4_add 84 = .ok (.dup, 1) := by decide +kernel
theorem dX4_add_85 : decode cX4_add 85 = .ok (.getfield 90, 3) := by decide +kernel
theorem dX4_add_88 : decode cX4_add 88 = .ok (.iconst 1, 1) := by decide +kernel
theorem dX4_add_89 : decode cX4_add 89 = .ok (.iadd, 1) := by decide +kernel
theorem dX4_add_90 : decode cX4_add 90 = .ok (.putfield 90, 3) := by decide +kernel
theorem dX4_add_93 : decode cX4_add 93 = .ok (.aload_n 0, 1) := by decide +kernel
theorem dX4_add_94 : decode cX4_add 94 = .ok (.aload_n 0, 1) := by decide +kernel
theorem dX4_add_95 : decode cX4_add 95 = .ok (.invokevirtual 116, 3) := by decide +kernel
theorem dX4_add_98 : decode cX4_add 98 = .ok (.iconst 1, 1) := by decide +kernel
theorem dX4_add_99 : decode cX4_add 99 = .ok (.isub, 1) := by decide +kernel
theorem dX4_add_100 : decode cX4_add 100 = .ok (.putfield 105, 3) := by decide +kernel
theorem dX4_add_103 : decode cX4_add 103 = .ok (.aload_n 0, 1) := by decide +kernel
theorem dX4_add_104 : decode cX4_add 104 = .ok (.invokevirtual 80, 3) := by decide +kernel
theorem dX4_add_107 : decode cX4_add 107 = .ok (.aload_n 0, 1) := by decide +kernel
theorem dX4_add_108 : decode cX4_add 108 = .ok (.getfield 105, 3) := by decide +kernel
theorem dX4_add_111 : decode cX4_add 111 = .ok (.ireturn, 1) := by decide +kernel
theorem dX4_drop_0 : decode cX4_drop 0 = .ok (.aload_n 0, 1) := by decide +kernel
theorem dX4_drop_1 : decode cX4_drop 1 = .ok (.getfield 90, 3) := by decide +kernel
theorem dX4_drop_4 : decode cX4_drop 4 = .ok (.ifCond .ne 6, 3) := by decide +kernel
theorem dX4_drop_7 : decode cX4_drop 7 = .ok (.bipush (-3), 2) := by decide +kernel
theorem dX4_drop_9 : decode cX4_drop 9 = .ok (.ireturn, 1) := by decide +kernel
theorem dX4_drop_10 : decode cX4_drop 10 = .ok (.aload_n 0, 1) := by decide +kernel
theorem dX4_drop_11 : decode cX4_drop 11 = .ok (.getfield 105, 3) := by decide +kernel
theorem dX4_drop_14 : decode cX4_drop 14 = .ok (.aload_n 0, 1) := by decide +kernel
theorem dX4_drop_15 : decode cX4_drop 15 = .ok (.invokevirtual 116, 3) := by decide +kernel
theorem dX4_drop_18 : decode cX4_drop 18 = .ok (.iconst 1, 1) := by decide +kernel
theorem dX4_drop_19 : decode cX4_drop 19 = .ok (.isub, 1) := by decide +kernel
theorem dX4_drop_20 : decode cX4_drop 20 = .ok (.if_icmp .ne 8, 3) := by decide +kernel
theorem dX4_drop_23 : decode cX4_drop 23 = .ok (.aload_n 0, 1) := by decide +kernel
theorem dX4_drop_24 : decode cX4_drop 24 = .ok (.iconst 0, 1) := by decide +kernel
theorem dX4_drop_25 : decode cX4_drop 25 = .ok (.putfield 105, 3) := by decide +kernel
theorem dX4_drop_28 : decode cX4_drop 28 = .ok (.aload_n 0, 1) := by decide +kernel
theorem dX4_drop_29 : decode cX4_drop 29 = .ok (.dup, 1) := by decide +kernel
theorem dX4_drop_30 : decode cX4_drop 30 = .ok (.getfield 90, 3) := by decide +kernel
theorem dX4_drop_33 : decode cX4_drop 33 = .ok (.iconst 1, 1) := by decide +kernel
theorem dX4_drop_34 : decode cX4_drop 34 = .ok (.isub, 1) := by decide +kernel
theorem dX4_drop_35 : decode cX4_drop 35 = .ok (.putfield 90, 3) := by decide +kernel
theorem dX4_drop_38 : decode cX4_drop 38 = .ok (.aload_n 0, 1) := by decide +kernel
theorem dX4_drop_39 : decode cX4_drop 39 = .ok (.getfield 90, 3) := by decide +kernel
theorem dX4_drop_42 : decode cX4_drop 42 = .ok (.ireturn, 1) := by decide +kernel
theorem dX4_result_0 : decode cX4_result 0 = .ok (.aload_n 0, 1) := by decide +kernel
theorem dX4_result_1 : decode cX4_result 1 = .ok (.iload_n 1, 1) := by decide +kernel
theorem dX4_result_2 : decode cX4_result 2 = .ok (.invokevirtual 119, 3) := by decide +kernel
theorem dX4_result_5 : decode cX4_result 5 = .ok (.ifCond .ne 5, 3) := by decide +kernel
theorem dX4_result_8 : decode cX4_result 8 = .ok (.iconst (-1), 1) := by decide +kernel
theorem dX4_result_9 : decode cX4_result 9 = .ok (.ireturn, 1) := by decide +kernel
theorem dX4_result_10 : decode cX4_result 10 = .ok (.aload_n 0, 1) := by decide +kernel
theorem dX4_result_11 : decode cX4_result 11 = .ok (.getfield 105, 3) := by decide +kernel
theorem dX4_result_14 : decode cX4_result 14 = .ok (.istore_n 2, 1) := by decide +kernel
theorem dX4_result_15 : decode cX4_result 15 = .ok (.aload_n 0, 1) := by decide +kernel
theorem dX4_result_16 : decode cX4_result 16 = .ok (.iload_n 1, 1) := by decide +kernel
theorem dX4_result_17 : decode cX4_result 17 = .ok (.putfield 105, 3) := by decide +kernel
theorem dX4_result_20 : decode cX4_result 20 = .ok (.iload_n 2, 1) := by decide +kernel
theorem dX4_result_21 : decode cX4_result 21 = .ok (.ireturn, 1) := by decide +kernel
theorem dX4_instruction_0 : decode cX4_instruction 0 = .ok (.iload_n 1, 1) := by decide +kernel
theorem dX4_instruction_1 : decode cX4_instruction 1 = .ok (.iconst 0, 1) := by decide +kernel
theorem dX4_instruction_2 : decode cX4_instruction 2 = .ok (.aload_n 0, 1) := by decide +kernel
theorem dX4_instruction_3 : decode cX4_instruction 3 = .ok (.getfield 90, 3) := by decide +kernel
theorem dX4_instruction_6 : decode cX4_instruction 6 = .ok (.iconst 1, 1) := by decide +kernel
theorem dX4_instruction_7 : decode cX4_instruction 7 = .ok (.isub, 1) := by decide +kernel
theorem dX4_instruction_8 : decode cX4_instruction 8 = .ok (.invokestatic 101, 3) := by decide +kernel
theorem dX4_instruction_11 : decode cX4_instruction 11 = .ok (.ifCond .ne 5, 3) := by decide +kernel
theorem dX4_instruction_14 : decode cX4_instruction 14 = .ok (.iconst (-1), 1) := by decide +kernel
theorem dX4_instruction_15 : decode cX4_instruction 15 = .ok (.ireturn, 1) := by decide +kernel
theorem dX4_instruction_16 : decode cX4_instruction 16 = .ok (.iload_n 2, 1) := by decide +kernel
theorem dX4_instruction_17 : decode cX4_instruction 17 = .ok (.ifCond .ne 12, 3) := by decide +kernel
theorem dX4_instruction_20 : decode cX4_instruction 20 = .ok (.aload_n 0, 1) := by decide +kernel
theorem dX4_instruction_21 : decode cX4_instruction 21 = .ok (.getfield 32, 3) := by decide +kernel
theorem dX4_instruction_24 : decode cX4_instruction 24 = .ok (.iload_n 1, 1) := by decide +kernel
theorem dX4_instruction_25 : decode cX4_instruction 25 = .ok (.iaload, 1) := by decide +kernel
theorem dX4_instruction_26 : decode cX4_instruction 26 = .ok (.goto 33, 3) := by decide +kernel
theorem dX4_instruction_29 : decode cX4_instruction 29 = .ok (.iload_n 2, 1) := by decide +kernel
theorem dX4_instruction_30 : decode cX4_instruction 30 = .ok (.iconst 1, 1) := by decide +kernel
theorem dX4_instruction_31 : decode cX4_instruction 31 = .ok (.if_icmp .ne 12, 3) := by decide +kernel
theorem dX4_instruction_34 : decode cX4_instruction 34 = .ok (.aload_n 0, 1) := by decide +kernel
theorem dX4_instruction_35 : decode cX4_instruction 35 = .ok (.getfield 35, 3) := by decide +kernel
theorem dX4_instruction_38 : decode cX4_instruction 38 = .ok (.iload_n 1, 1) := by decide +kernel
theorem dX4_instruction_39 : decode cX4_instruction 39 = .ok (.iaload, 1) := by decide +kernel
theorem dX4_instruction_40 : decode cX4_instruction 40 = .ok (.goto 19, 3) := by decide +kernel
theorem dX4_instruction_43 : decode cX4_instruction 43 = .ok (.iload_n 2, 1) := by decide +kernel
theorem dX4_instruction_44 : decode cX4_instruction 44 = .ok (.iconst 2, 1) := by decide +kernel
theorem dX4_instruction_45 : decode cX4_instruction 45 = .ok (.if_icmp .ne 12, 3) := by decide +kernel
theorem dX4_instruction_48 : decode cX4_instruction 48 = .ok (.aload_n 0, 1) := by decide +kernel
theorem dX4_instruction_49 : decode cX4_instruction 49 = .ok (.getfield 38, 3) := by decide +kernel
theorem dX4_instruction_52 : decode cX4_instruction 52 = .ok (.iload_n 1, 1) := by decide +kernel
theorem dX4_instruction_53 : decode cX4_instruction 53 = .ok (.iaload, 1) := by decide +kernel
theorem dX4_instruction_54 : decode cX4_instruction 54 = .ok (.goto 5, 3) := by decide +kernel
theorem dX4_instruction_57 : decode cX4_instruction 57 = .ok (.bipush (-2), 2) := by decide +kernel
theorem dX4_instruction_59 : decode cX4_instruction 59 = .ok (.ireturn, 1) := by decide +kernel
theorem dX4_count_0 : decode cX4_count 0 = .ok (.iconst 0, 1) := by decide +kernel
theorem dX4_count_1 : decode cX4_count 1 = .ok (.istore_n 2, 1) := by decide +kernel
theorem dX4_count_2 : decode cX4_count 2 = .ok (.iconst 0, 1) := by decide +kernel
theorem dX4_count_3 : decode cX4_count 3 = .ok (.istore_n 3, 1) := by decide +kernel
theorem dX4_count_4 : decode cX4_count 4 = .ok (.iload_n 3, 1) := by decide +kernel
theorem dX4_count_5 : decode cX4_count 5 = .ok (.aload_n 0, 1) := by decide +kernel
theorem dX4_count_6 : decode cX4_count 6 = .ok (.getfield 90, 3) := by decide +kernel
theorem dX4_count_9 : decode cX4_count 9 = .ok (.if_icmp .ge 23, 3) := by decide +kernel
theorem dX4_count_12 : decode cX4_count 12 = .ok (.iload_n 2, 1) := by decide +kernel
theorem dX4_count_13 : decode cX4_count 13 = .ok (.aload_n 0, 1) := by decide +kernel
theorem dX4_count_14 : decode cX4_count 14 = .ok (.getfield 26, 3) := by decide +kernel
theorem dX4_count_17 : decode cX4_count 17 = .ok (.aload_n 0, 1) := by decide +kernel
theorem dX4_count_18 : decode cX4_count 18 = .ok (.getfield 32, 3) := by decide +kernel
theorem dX4_count_21 : decode cX4_count 21 = .ok (.iload_n 3, 1) := by decide +kernel
theorem dX4_count_22 : decode cX4_count 22 = .ok (.iaload, 1) := by decide +kernel
theorem dX4_count_23 : decode cX4_count 23 = .ok (.iaload, 1) := by decide +kernel
theorem dX4_count_24 : decode cX4_count 24 = .ok (.iadd, 1) := by decide +kernel
theorem dX4_count_25 : decode cX4_count 25 = .ok (.istore_n 2, 1) := by decide +kernel
theorem dX4_count_26 : decode cX4_count 26 = .ok (.iinc 3 1, 3) := by decide +kernel
theorem dX4_count_29 : decode cX4_count 29 = .ok (.goto (-25), 3) := by decide +kernel
theorem dX4_count_32 : decode cX4_count 32 = .ok (.iload_n 1, 1) := by decide +kernel
theorem dX4_count_33 : decode cX4_count 33 = .ok (.ifCond .ne 10, 3) := by decide +kernel
theorem dX4_count_36 : decode cX4_count 36 = .ok (.aload_n 0, 1) := by decide +kernel
theorem dX4_count_37 : decode cX4_count 37 = .ok (.getfield 7, 3) := by decide +kernel
theorem dX4_count_40 : decode cX4_count 40 = .ok (.goto 62, 3) := by decide +kernel
theorem dX4_count_43 : decode cX4_count 43 = .ok (.iload_n 1, 1) := by decide +kernel
theorem dX4_count_44 : decode cX4_count 44 = .ok (.iconst 1, 1) := by decide +kernel
theorem dX4_count_45 : decode cX4_count 45 = .ok (.if_icmp .ne 10, 3) := by decide +kernel
theorem dX4_count_48 : decode cX4_count 48 = .ok (.aload_n 0, 1) := by decide +kernel
theorem dX4_count_49 : decode cX4_count 49 = .ok (.getfield 13, 3) := by decide +kernel
theorem dX4_count_52 : decode cX4_count 52 = .ok (.goto 50, 3) := by decide +kernel
theorem dX4_count_55 : decode cX4_count 55 = .ok (.iload_n 1, 1) := by decide +kernel
theorem dX4_count_56 : decode cX4_count 56 = .ok (.iconst 2, 1) := by decide +kernel
theorem dX4_count_57 : decode cX4_count 57 = .ok (.if_icmp .ne 10, 3) := by decide +kernel
theorem dX4_count_60 : decode cX4_count 60 = .ok (.aload_n 0, 1) := by decide +kernel
theorem dX4_count_61 : decode cX4_count 61 = .ok (.getfield 83, 3) := by decide +kernel
theorem dX4_count_64 : decode cX4_count 64 = .ok (.goto 38, 3) := by decide +kernel
theorem dX4_count_67 : decode cX4_count 67 = .ok (.iload_n 1, 1) := by decide +kernel
theorem dX4_count_68 : decode cX4_count 68 = .ok (.iconst 3, 1) := by decide +kernel
theorem dX4_count_69 : decode cX4_count 69 = .ok (.if_icmp .ne 10, 3) := by decide +kernel
theorem dX4_count_72 : decode cX4_count 72 = .ok (.aload_n 0, 1) := by decide +kernel
theorem dX4_count_73 : decode cX4_count 73 = .ok (.getfield 90, 3) := by decide +kernel
theorem dX4_count_76 : decode cX4_count 76 = .ok (.goto 26, 3) := by decide +kernel
theorem dX4_count_79 : decode cX4_count 79 = .ok (.iload_n 1, 1) := by decide +kernel
theorem dX4_count_80 : decode cX4_count 80 = .ok (.iconst 4, 1) := by decide +kernel
theorem dX4_count_81 : decode cX4_count 81 = .ok (.if_icmp .ne 10, 3) := by decide +kernel
theorem dX4_count_84 : decode cX4_count 84 = .ok (.aload_n 0, 1) := by decide +kernel
theorem dX4_count_85 : decode cX4_count 85 = .ok (.getfield 105, 3) := by decide +kernel
theorem dX4_count_88 : decode cX4_count 88 = .ok (.goto 14, 3) := by decide +kernel
theorem dX4_count_91 : decode cX4_count 91 = .ok (.iload_n 1, 1) := by decide +kernel
theorem dX4_count_92 : decode cX4_count 92 = .ok (.iconst 5, 1) := by decide +kernel
theorem dX4_count_93 : decode cX4_count 93 = .ok (.if_icmp .ne 7, 3) := by decide +kernel
theorem dX4_count_96 : decode cX4_count 96 = .ok (.iload_n 2, 1) := by decide +kernel
theorem dX4_count_97 : decode cX4_count 97 = .ok (.goto 5, 3) := by decide +kernel
theorem dX4_count_100 : decode cX4_count 100 = .ok (.bipush (-2), 2) := by decide +kernel
theorem dX4_count_102 : decode cX4_count 102 = .ok (.ireturn, 1) := by decide +kernel
theorem dX4_value_0 : decode cX4_value 0 = .ok (.aload_n 0, 1) := by decide +kernel
theorem dX4_value_1 : decode cX4_value 1 = .ok (.iload_n 1, 1) := by decide +kernel
theorem dX4_value_2 : decode cX4_value 2 = .ok (.invokevirtual 119, 3) := by decide +kernel
theorem dX4_value_5 : decode cX4_value 5 = .ok (.ifCond .eq 26, 3) := by decide +kernel
theorem dX4_value_8 : decode cX4_value 8 = .ok (.aload_n 0, 1) := by decide +kernel
theorem dX4_value_9 : decode cX4_value 9 = .ok (.iload_n 2, 1) := by decide +kernel
theorem dX4_value_10 : decode cX4_value 10 = .ok (.invokevirtual 112, 3) := by decide +kernel
theorem dX4_value_13 : decode cX4_value 13 = .ok (.ifCond .eq 18, 3) := by decide +kernel
theorem dX4_value_16 : decode cX4_value 16 = .ok (.aload_n 0, 1) := by decide +kernel
theorem dX4_value_17 : decode cX4_value 17 = .ok (.getfield 41, 3) := by decide +kernel
theorem dX4_value_20 : decode cX4_value 20 = .ok (.sipush 256, 3) := by decide +kernel
theorem dX4_value_23 : decode cX4_value 23 = .ok (.iload_n 1, 1) := by decide +kernel
theorem dX4_value_24 : decode cX4_value 24 = .ok (.imul, 1) := by decide +kernel
theorem dX4_value_25 : decode cX4_value 25 = .ok (.iload_n 2, 1) := by decide +kernel
theorem dX4_value_26 : decode cX4_value 26 = .ok (.iadd, 1) := by decide +kernel
theorem dX4_value_27 : decode cX4_value 27 = .ok (.iaload, 1) := by decide +kernel
theorem dX4_value_28 : decode cX4_value 28 = .ok (.goto 4, 3) := by decide +kernel
theorem dX4_value_31 : decode cX4_value 31 = .ok (.iconst (-1), 1) := by decide +kernel
theorem dX4_value_32 : decode cX4_value 32 = .ok (.ireturn, 1) := by decide +kernel
theorem dX4_differ_0 : decode cX4_differ 0 = .ok (.aload_n 0, 1) := by decide +kernel
theorem dX4_differ_1 : decode cX4_differ 1 = .ok (.iload_n 1, 1) := by decide +kernel
theorem dX4_differ_2 : decode cX4_differ 2 = .ok (.invokevirtual 119, 3) := by decide +kernel
theorem dX4_differ_5 : decode cX4_differ 5 = .ok (.ifCond .eq 17, 3) := by decide +kernel
theorem dX4_differ_8 : decode cX4_differ 8 = .ok (.iload_n 2, 1) := by decide +kernel
theorem dX4_differ_9 : decode cX4_differ 9 = .ok (.bipush (-2), 2) := by decide +kernel
theorem dX4_differ_11 : decode cX4_differ 11 = .ok (.if_icmp .eq 13, 3) := by decide +kernel
theorem dX4_differ_14 : decode cX4_differ 14 = .ok (.aload_n 0, 1) := by decide +kernel
theorem dX4_differ_15 : decode cX4_differ 15 = .ok (.iload_n 2, 1) := by decide +kernel
theorem dX4_differ_16 : decode cX4_differ 16 = .ok (.invokevirtual 119, 3) := by decide +kernel
theorem dX4_differ_19 : decode cX4_differ 19 = .ok (.ifCond .ne 5, 3) := by decide +kernel
theorem dX4_differ_22 : decode cX4_differ 22 = .ok (.iconst (-1), 1) := by decide +kernel
theorem dX4_differ_23 : decode cX4_differ 23 = .ok (.ireturn, 1) := by decide +kernel
theorem dX4_differ_24 : decode cX4_differ 24 = .ok (.iconst 0, 1) := by decide +kernel
theorem dX4_differ_25 : decode cX4_differ 25 = .ok (.istore_n 3, 1) := by decide +kernel
theorem dX4_differ_26 : decode cX4_differ 26 = .ok (.iload_n 3, 1) := by decide +kernel
theorem dX4_differ_27 : decode cX4_differ 27 = .ok (.aload_n 0, 1) := by decide +kernel
theorem dX4_differ_28 : decode cX4_differ 28 = .ok (.getfield 19, 3) := by decide +kernel
theorem dX4_differ_31 : decode cX4_differ 31 = .ok (.if_icmp .ge 57, 3) := by decide +kernel
theorem dX4_differ_34 : decode cX4_differ 34 = .ok (.iload_n 2, 1) := by decide +kernel
theorem dX4_differ_35 : decode cX4_differ 35 = .ok (.bipush (-2), 2) := by decide +kernel
theorem dX4_differ_37 : decode cX4_differ 37 = .ok (.if_icmp .ne 12, 3) := by decide +kernel
theorem dX4_differ_40 : decode cX4_differ 40 = .ok (.aload_n 0, 1) := by decide +kernel
theorem dX4_differ_41 : decode cX4_differ 41 = .ok (.getfield 29, 3) := by decide +kernel
theorem dX4_differ_44 : decode cX4_differ 44 = .ok (.iload_n 3, 1) := by decide +kernel
theorem dX4_differ_45 : decode cX4_differ 45 = .ok (.iaload, 1) := by decide +kernel
theorem dX4_differ_46 : decode cX4_differ 46 = .ok (.goto 15, 3) := by decide +kernel
theorem dX4_differ_49 : decode cX4_differ 49 = .ok (.aload_n 0, 1) := by decide +kernel
theorem dX4_differ_50 : decode cX4_differ 50 = .ok (.getfield 41, 3) := by decide +kernel
theorem dX4_differ_53 : decode cX4_differ 53 = .ok (.sipush 256, 3) := by decide +kernel
theorem dX4_differ_56 : decode cX4_differ 56 = .ok (.iload_n 2, 1) := by decide +kernel
theorem dX4_differ_57 : decode cX4_differ 57 = .ok (.imul, 1) := by decide +kernel
theorem dX4_differ_58 : decode cX4_differ 58 = .ok (.iload_n 3, 1) := by decide +kernel
theorem dX4_differ_59 : decode cX4_differ 59 = .ok (.iadd, 1) := by decide +kernel
theorem dX4_differ_60 : decode cX4_differ 60 = .ok (.iaload, 1) := by decide +kernel
theorem dX4_differ_61 : decode cX4_differ 61 = .ok (.istore 4, 2) := by decide +kernel
theorem dX4_differ_63 : decode cX4_differ 63 = .ok (.aload_n 0, 1) := by decide +kernel
theorem dX4_differ_64 : decode cX4_differ 64 = .ok (.getfield 41, 3) := by decide +kernel
theorem dX4_differ_67 : decode cX4_differ 67 = .ok (.sipush 256, 3) := by decide +kernel
theorem dX4_differ_70 : decode cX4_differ 70 = .ok (.iload_n 1, 1) := by decide +kernel
theorem dX4_differ_71 : decode cX4_differ 71 = .ok (.imul, 1) := by decide +kernel
theorem dX4_differ_72 : decode cX4_differ 72 = .ok (.iload_n 3, 1) := by decide +kernel
theorem dX4_differ_73 : decode cX4_differ 73 = .ok (.iadd, 1) := by decide +kernel
theorem dX4_differ_74 : decode cX4_differ 74 = .ok (.iaload, 1) := by decide +kernel
theorem dX4_differ_75 : decode cX4_differ 75 = .ok (.iload 4, 2) := by decide +kernel
theorem dX4_differ_77 : decode cX4_differ 77 = .ok (.if_icmp .eq 5, 3) := by decide +kernel
theorem dX4_differ_80 : decode cX4_differ 80 = .ok (.iload_n 3, 1) := by decide +kernel
theorem dX4_differ_81 : decode cX4_differ 81 = .ok (.ireturn, 1) := by decide +kernel
theorem dX4_differ_82 : decode cX4_differ 82 = .ok (.iinc 3 1, 3) := by decide +kernel
theorem dX4_differ_85 : decode cX4_differ 85 = .ok (.goto (-59), 3) := by decide +kernel
theorem dX4_differ_88 : decode cX4_differ 88 = .ok (.bipush (-5), 2) := by decide +kernel
theorem dX4_differ_90 : decode cX4_differ 90 = .ok (.ireturn, 1) := by decide +kernel
theorem dX4_isSame_0 : decode cX4_isSame 0 = .ok (.iconst 0, 1) := by decide +kernel
theorem dX4_isSame_1 : decode cX4_isSame 1 = .ok (.istore 4, 2) := by decide +kernel
theorem dX4_isSame_3 : decode cX4_isSame 3 = .ok (.iload 4, 2) := by decide +kernel
theorem dX4_isSame_5 : decode cX4_isSame 5 = .ok (.iload_n 3, 1) := by decide +kernel
theorem dX4_isSame_6 : decode cX4_isSame 6 = .ok (.if_icmp .ge 34, 3) := by decide +kernel
theorem dX4_isSame_9 : decode cX4_isSame 9 = .ok (.aload_n 0, 1) := by decide +kernel
theorem dX4_isSame_10 : decode cX4_isSame 10 = .ok (.sipush 256, 3) := by decide +kernel
theorem dX4_isSame_13 : decode cX4_isSame 13 = .ok (.iload_n 1, 1) := by decide +kernel
theorem dX4_isSame_14 : decode cX4_isSame 14 = .ok (.imul, 1) := by decide +kernel
theorem dX4_isSame_15 : decode cX4_isSame 15 = .ok (.iload 4, 2) := by decide +kernel
theorem dX4_isSame_17 : decode cX4_isSame 17 = .ok (.iadd, 1) := by decide +kernel
theorem dX4_isSame_18 : decode cX4_isSame 18 = .ok (.iaload, 1) := by decide +kernel
theorem dX4_isSame_19 : decode cX4_isSame 19 = .ok (.aload_n 0, 1) := by decide +kernel
theorem dX4_isSame_20 : decode cX4_isSame 20 = .ok (.sipush 256, 3) := by decide +kernel
theorem dX4_isSame_23 : decode cX4_isSame 23 = .ok (.iload_n 2, 1) := by decide +kernel
theorem dX4_isSame_24 : decode cX4_isSame 24 = .ok (.imul, 1) := by decide +kernel
theorem dX4_isSame_25 : decode cX4_isSame 25 = .ok (.iload 4, 2) := by decide +kernel
theorem dX4_isSame_27 : decode cX4_isSame 27 = .ok (.iadd, 1) := by decide +kernel
theorem dX4_isSame_28 : decode cX4_isSame 28 = .ok (.iaload, 1) := by decide +kernel
theorem dX4_isSame_29 : decode cX4_isSame 29 = .ok (.if_icmp .eq 5, 3) := by decide +kernel
theorem dX4_isSame_32 : decode cX4_isSame 32 = .ok (.iconst 0, 1) := by decide +kernel
theorem dX4_isSame_33 : decode cX4_isSame 33 = .ok (.ireturn, 1) := by decide +kernel
theorem dX4_isSame_34 : decode cX4_isSame 34 = .ok (.iinc 4 1, 3) := by decide +kernel
theorem dX4_isSame_37 : decode cX4_isSame 37 = .ok (.goto (-34), 3) := by decide +kernel
theorem dX4_isSame_40 : decode cX4_isSame 40 = .ok (.iconst 1, 1) := by decide +kernel
theorem dX4_isSame_41 : decode cX4_isSame 41 = .ok (.ireturn, 1) := by decide +kernel
theorem dX4_lose_0 : decode cX4_lose 0 = .ok (.aload_n 0, 1) := by decide +kernel
theorem dX4_lose_1 : decode cX4_lose 1 = .ok (.invokevirtual 86, 3) := by decide +kernel
theorem dX4_lose_4 : decode cX4_lose 4 = .ok (.iload_n 1, 1) := by decide +kernel
theorem dX4_lose_5 : decode cX4_lose 5 = .ok (.iadd, 1) := by decide +kernel
theorem dX4_lose_6 : decode cX4_lose 6 = .ok (.istore_n 3, 1) := by decide +kernel
theorem dX4_lose_7 : decode cX4_lose 7 = .ok (.iconst 0, 1) := by decide +kernel
theorem dX4_lose_8 : decode cX4_lose 8 = .ok (.istore 4, 2) := by decide +kernel
theorem dX4_lose_10 : decode cX4_lose 10 = .ok (.iload 4, 2) := by decide +kernel
theorem dX4_lose_12 : decode cX4_lose 12 = .ok (.aload_n 0, 1) := by decide +kernel
theorem dX4_lose_13 : decode cX4_lose 13 = .ok (.getfield 90, 3) := by decide +kernel
theorem dX4_lose_16 : decode cX4_lose 16 = .ok (.if_icmp .ge 67, 3) := by decide +kernel
theorem dX4_lose_19 : decode cX4_lose 19 = .ok (.aload_n 0, 1) := by decide +kernel
theorem dX4_lose_20 : decode cX4_lose 20 = .ok (.getfield 35, 3) := by decide +kernel
theorem dX4_lose_23 : decode cX4_lose 23 = .ok (.iload 4, 2) := by decide +kernel
theorem dX4_lose_25 : decode cX4_lose 25 = .ok (.aload_n 0, 1) := by decide +kernel
theorem dX4_lose_26 : decode cX4_lose 26 = .ok (.getfield 35, 3) := by decide +kernel
theorem dX4_lose_29 : decode cX4_lose 29 = .ok (.iload 4, 2) := by decide +kernel
theorem dX4_lose_31 : decode cX4_lose 31 = .ok (.iaload, 1) := by decide +kernel
theorem dX4_lose_32 : decode cX4_lose 32 = .ok (.iload_n 3, 1) := by decide +kernel
theorem dX4_lose_33 : decode cX4_lose 33 = .ok (.if_icmp .ne 7, 3) := by decide +kernel
theorem dX4_lose_36 : decode cX4_lose 36 = .ok (.iload_n 2, 1) := by decide +kernel
theorem dX4_lose_37 : decode cX4_lose 37 = .ok (.goto 10, 3) := by decide +kernel
theorem dX4_lose_40 : decode cX4_lose 40 = .ok (.aload_n 0, 1) := by decide +kernel
theorem dX4_lose_41 : decode cX4_lose 41 = .ok (.getfield 35, 3) := by decide +kernel
theorem dX4_lose_44 : decode cX4_lose 44 = .ok (.iload 4, 2) := by decide +kernel
theorem dX4_lose_46 : decode cX4_lose 46 = .ok (.iaload, 1) := by decide +kernel
theorem dX4_lose_47 : decode cX4_lose 47 = .ok (.iastore, 1) := by decide +kernel
theorem dX4_lose_48 : decode cX4_lose 48 = .ok (.aload_n 0, 1) := by decide +kernel
theorem dX4_lose_49 : decode cX4_lose 49 = .ok (.getfield 38, 3) := by decide +kernel
theorem dX4_lose_52 : decode cX4_lose 52 = .ok (.iload 4, 2) := by decide +kernel
theorem dX4_lose_54 : decode cX4_lose 54 = .ok (.aload_n 0, 1) := by decide +kernel
theorem dX4_lose_55 : decode cX4_lose 55 = .ok (.getfield 38, 3) := by decide +kernel
theorem dX4_lose_58 : decode cX4_lose 58 = .ok (.iload 4, 2) := by decide +kernel
theorem dX4_lose_60 : decode cX4_lose 60 = .ok (.iaload, 1) := by decide +kernel
theorem dX4_lose_61 : decode cX4_lose 61 = .ok (.iload_n 3, 1) := by decide +kernel
theorem dX4_lose_62 : decode cX4_lose 62 = .ok (.if_icmp .ne 7, 3) := by decide +kernel
theorem dX4_lose_65 : decode cX4_lose 65 = .ok (.iload_n 2, 1) := by decide +kernel
theorem dX4_lose_66 : decode cX4_lose 66 = .ok (.goto 10, 3) := by decide +kernel
theorem dX4_lose_69 : decode cX4_lose 69 = .ok (.aload_n 0, 1) := by decide +kernel
theorem dX4_lose_70 : decode cX4_lose 70 = .ok (.getfield 38, 3) := by decide +kernel
theorem dX4_lose_73 : decode cX4_lose 73 = .ok (.iload 4, 2) := by decide +kernel
theorem dX4_lose_75 : decode cX4_lose 75 = .ok (.iaload, 1) := by decide +kernel
theorem dX4_lose_76 : decode cX4_lose 76 = .ok (.iastore, 1) := by decide +kernel
theorem dX4_lose_77 : decode cX4_lose 77 = .ok (.iinc 4 1, 3) := by decide +kernel
theorem dX4_lose_80 : decode cX4_lose 80 = .ok (.goto (-70), 3) := by decide +kernel
theorem dX4_lose_83 : decode cX4_lose 83 = .ok (.aload_n 0, 1) := by decide +kernel
theorem dX4_lose_84 : decode cX4_lose 84 = .ok (.aload_n 0, 1) := by decide +kernel
theorem dX4_lose_85 : decode cX4_lose 85 = .ok (.getfield 105, 3) := by decide +kernel
theorem dX4_lose_88 : decode cX4_lose 88 = .ok (.iload_n 3, 1) := by decide +kernel
theorem dX4_lose_89 : decode cX4_lose 89 = .ok (.if_icmp .ne 7, 3) := by decide +kernel
theorem dX4_lose_92 : decode cX4_lose 92 = .ok (.iload_n 2, 1) := by decide +kernel
theorem dX4_lose_93 : decode cX4_lose 93 = .ok (.goto 7, 3) := by decide +kernel
theorem dX4_lose_96 : decode cX4_lose 96 = .ok (.aload_n 0, 1) := by decide +kernel
theorem dX4_lose_97 : decode cX4_lose 97 = .ok (.getfield 105, 3) := by decide +kernel
theorem dX4_lose_100 : decode cX4_lose 100 = .ok (.putfield 105, 3) := by decide +kernel
theorem dX4_lose_103 : decode cX4_lose 103 = .ok (.aload_n 0, 1) := by decide +kernel
theorem dX4_lose_104 : decode cX4_lose 104 = .ok (.dup, 1) := by decide +kernel
theorem dX4_lose_105 : decode cX4_lose 105 = .ok (.getfield 90, 3) := by decide +kernel
theorem dX4_lose_108 : decode cX4_lose 108 = .ok (.iconst 1, 1) := by decide +kernel
theorem dX4_lose_109 : decode cX4_lose 109 = .ok (.isub, 1) := by decide +kernel
theorem dX4_lose_110 : decode cX4_lose 110 = .ok (.putfield 90, 3) := by decide +kernel
theorem dX4_lose_113 : decode cX4_lose 113 = .ok (.iload_n 1, 1) := by decide +kernel
theorem dX4_lose_114 : decode cX4_lose 114 = .ok (.istore 4, 2) := by decide +kernel
theorem dX4_lose_116 : decode cX4_lose 116 = .ok (.iload 4, 2) := by decide +kernel
theorem dX4_lose_118 : decode cX4_lose 118 = .ok (.aload_n 0, 1) := by decide +kernel
theorem dX4_lose_119 : decode cX4_lose 119 = .ok (.getfield 90, 3) := by decide +kernel
theorem dX4_lose_122 : decode cX4_lose 122 = .ok (.if_icmp .ge 57, 3) := by decide +kernel
theorem dX4_lose_125 : decode cX4_lose 125 = .ok (.aload_n 0, 1) := by decide +kernel
theorem dX4_lose_126 : decode cX4_lose 126 = .ok (.getfield 32, 3) := by decide +kernel
theorem dX4_lose_129 : decode cX4_lose 129 = .ok (.iload 4, 2) := by decide +kernel
theorem dX4_lose_131 : decode cX4_lose 131 = .ok (.aload_n 0, 1) := by decide +kernel
theorem dX4_lose_132 : decode cX4_lose 132 = .ok (.getfield 32, 3) := by decide +kernel
theorem dX4_lose_135 : decode cX4_lose 135 = .ok (.iload 4, 2) := by decide +kernel
theorem dX4_lose_137 : decode cX4_lose 137 = .ok (.iconst 1, 1) := by decide +kernel
theorem dX4_lose_138 : decode cX4_lose 138 = .ok (.iadd, 1) := by decide +kernel
theorem dX4_lose_139 : decode cX4_lose 139 = .ok (.iaload, 1) := by decide +kernel
theorem dX4_lose_140 : decode cX4_lose 140 = .ok (.iastore, 1) := by decide +kernel
theorem dX4_lose_141 : decode cX4_lose 141 = .ok (.aload_n 0, 1) := by decide +kernel
theorem dX4_lose_142 : decode cX4_lose 142 = .ok (.getfield 35, 3) := by decide +kernel
theorem dX4_lose_145 : decode cX4_lose 145 = .ok (.iload 4, 2) := by decide +kernel
theorem dX4_lose_147 : decode cX4_lose 147 = .ok (.aload_n 0, 1) := by decide +kernel
theorem dX4_lose_148 : decode cX4_lose 148 = .ok (.getfield 35, 3) := by decide +kernel
theorem dX4_lose_151 : decode cX4_lose 151 = .ok (.iload 4, 2) := by decide +kernel
theorem dX4_lose_153 : decode cX4_lose 153 = .ok (.iconst 1, 1) := by decide +kernel
theorem dX4_lose_154 : decode cX4_lose 154 = .ok (.iadd, 1) := by decide +kernel
theorem dX4_lose_155 : decode cX4_lose 155 = .ok (.iaload, 1) := by decide +kernel
theorem dX4_lose_156 : decode cX4_lose 156 = .ok (.iastore, 1) := by decide +kernel
theorem dX4_lose_157 : decode cX4_lose 157 = .ok (.aload_n 0, 1) := by decide +kernel
theorem dX4_lose_158 : decode cX4_lose 158 = .ok (.getfield 38, 3) := by decide +kernel
theorem dX4_lose_161 : decode cX4_lose 161 = .ok (.iload 4, 2) := by decide +kernel
theorem dX4_lose_163 : decode cX4_lose 163 = .ok (.aload_n 0, 1) := by decide +kernel
theorem dX4_lose_164 : decode cX4_lose 164 = .ok (.getfield 38, 3) := by decide +kernel
theorem dX4_lose_167 : decode cX4_lose 167 = .ok (.iload 4, 2) := by decide +kernel
theorem dX4_lose_169 : decode cX4_lose 169 = .ok (.iconst 1, 1) := by decide +kernel
theorem dX4_lose_170 : decode cX4_lose 170 = .ok (.iadd, 1) := by decide +kernel
theorem dX4_lose_171 : decode cX4_lose 171 = .ok (.iaload, 1) := by decide +kernel
theorem dX4_lose_172 : decode cX4_lose 172 = .ok (.iastore, 1) := by decide +kernel
theorem dX4_lose_173 : decode cX4_lose 173 = .ok (.iinc 4 1, 3) := by decide +kernel
theorem dX4_lose_176 : decode cX4_lose 176 = .ok (.goto (-60), 3) := by decide +kernel
theorem dX4_lose_179 : decode cX4_lose 179 = .ok (.iconst 0, 1) := by decide +kernel
theorem dX4_lose_180 : decode cX4_lose 180 = .ok (.istore 4, 2) := by decide +kernel
theorem dX4_lose_182 : decode cX4_lose 182 = .ok (.iload 4, 2) := by decide +kernel
theorem dX4_lose_184 : decode cX4_lose 184 = .ok (.aload_n 0, 1) := by decide +kernel
theorem dX4_lose_185 : decode cX4_lose 185 = .ok (.getfield 90, 3) := by decide +kernel
theorem dX4_lose_188 : decode cX4_lose 188 = .ok (.if_icmp .ge 61, 3) := by decide +kernel
theorem dX4_lose_191 : decode cX4_lose 191 = .ok (.aload_n 0, 1) := by decide +kernel
theorem dX4_lose_192 : decode cX4_lose 192 = .ok (.getfield 35, 3) := by decide +kernel
theorem dX4_lose_195 : decode cX4_lose 195 = .ok (.iload 4, 2) := by decide +kernel
theorem dX4_lose_197 : decode cX4_lose 197 = .ok (.dup2, 1) := by decide +kernel
theorem dX4_lose_198 : decode cX4_lose 198 = .ok (.iaload, 1) := by decide +kernel
theorem dX4_lose_199 : decode cX4_lose 199 = .ok (.aload_n 0, 1) := by decide +kernel
theorem dX4_lose_200 : decode cX4_lose 200 = .ok (.getfield 35, 3) := by decide +kernel
theorem dX4_lose_203 : decode cX4_lose 203 = .ok (.iload 4, 2) := by decide +kernel
theorem dX4_lose_205 : decode cX4_lose 205 = .ok (.iaload, 1) := by decide +kernel
theorem dX4_lose_206 : decode cX4_lose 206 = .ok (.iload_n 3, 1) := by decide +kernel
theorem dX4_lose_207 : decode cX4_lose 207 = .ok (.if_icmp .le 7, 3) := by decide +kernel
theorem dX4_lose_210 : decode cX4_lose 210 = .ok (.iconst 1, 1) := by decide +kernel
theorem dX4_lose_211 : decode cX4_lose 211 = .ok (.goto 4, 3) := by decide +kernel
theorem dX4_lose_214 : decode cX4_lose 214 = .ok (.iconst 0, 1) := by decide +kernel
theorem dX4_lose_215 : decode cX4_lose 215 = .ok (.isub, 1) := by decide +kernel
theorem dX4_lose_216 : decode cX4_lose 216 = .ok (.iastore, 1) := by decide +kernel
theorem dX4_lose_217 : decode cX4_lose 217 = .ok (.aload_n 0, 1) := by decide +kernel
theorem dX4_lose_218 : decode cX4_lose 218 = .ok (.getfield 38, 3) := by decide +kernel
theorem dX4_lose_221 : decode cX4_lose 221 = .ok (.iload 4, 2) := by decide +kernel
theorem dX4_lose_223 : decode cX4_lose 223 = .ok (.dup2, 1) := by decide +kernel
theorem dX4_lose_224 : decode cX4_lose 224 = .ok (.iaload, 1) := by decide +kernel
theorem dX4_lose_225 : decode cX4_lose 225 = .ok (.aload_n 0, 1) := by decide +kernel
theorem dX4_lose_226 : decode cX4_lose 226 = .ok (.getfield 38, 3) := by decide +kernel
theorem dX4_lose_229 : decode cX4_lose 229 = .ok (.iload 4, 2) := by decide +kernel
theorem dX4_lose_231 : decode cX4_lose 231 = .ok (.iaload, 1) := by decide +kernel
theorem dX4_lose_232 : decode cX4_lose 232 = .ok (.iload_n 3, 1) := by decide +kernel
theorem dX4_lose_233 : decode cX4_lose 233 = .ok (.if_icmp .le 7, 3) := by decide +kernel
theorem dX4_lose_236 : decode cX4_lose 236 = .ok (.iconst 1, 1) := by decide +kernel
theorem dX4_lose_237 : decode cX4_lose 237 = .ok (.goto 4, 3) := by decide +kernel
theorem dX4_lose_240 : decode cX4_lose 240 = .ok (.iconst 0, 1) := by decide +kernel
theorem dX4_lose_241 : decode cX4_lose 241 = .ok (.isub, 1) := by decide +kernel
theorem dX4_lose_242 : decode cX4_lose 242 = .ok (.iastore, 1) := by decide +kernel
theorem dX4_lose_243 : decode cX4_lose 243 = .ok (.iinc 4 1, 3) := by decide +kernel
theorem dX4_lose_246 : decode cX4_lose 246 = .ok (.goto (-64), 3) := by decide +kernel
theorem dX4_lose_249 : decode cX4_lose 249 = .ok (.aload_n 0, 1) := by decide +kernel
theorem dX4_lose_250 : decode cX4_lose 250 = .ok (.dup, 1) := by decide +kernel
theorem dX4_lose_251 : decode cX4_lose 251 = .ok (.getfield 105, 3) := by decide +kernel
theorem dX4_lose_254 : decode cX4_lose 254 = .ok (.aload_n 0, 1) := by decide +kernel
theorem dX4_lose_255 : decode cX4_lose 255 = .ok (.getfield 105, 3) := by decide +kernel
theorem dX4_lose_258 : decode cX4_lose 258 = .ok (.iload_n 3, 1) := by decide +kernel
theorem dX4_lose_259 : decode cX4_lose 259 = .ok (.if_icmp .le 7, 3) := by decide +kernel
theorem dX4_lose_262 : decode cX4_lose 262 = .ok (.iconst 1, 1) := by decide +kernel
theorem dX4_lose_263 : decode cX4_lose 263 = .ok (.goto 4, 3) := by decide +kernel
theorem dX4_lose_266 : decode cX4_lose 266 = .ok (.iconst 0, 1) := by decide +kernel
theorem dX4_lose_267 : decode cX4_lose 267 = .ok (.isub, 1) := by decide +kernel
theorem dX4_lose_268 : decode cX4_lose 268 = .ok (.putfield 105, 3) := by decide +kernel
theorem dX4_lose_271 : decode cX4_lose 271 = .ok (.aload_n 0, 1) := by decide +kernel
theorem dX4_lose_272 : decode cX4_lose 272 = .ok (.invokevirtual 80, 3) := by decide +kernel
theorem dX4_lose_275 : decode cX4_lose 275 = .ok (.return_, 1) := by decide +kernel
theorem dX4_loseTwin_0 : decode cX4_loseTwin 0 = .ok (.iconst 0, 1) := by decide +kernel
theorem dX4_loseTwin_1 : decode cX4_loseTwin 1 = .ok (.istore_n 1, 1) := by decide +kernel
theorem dX4_loseTwin_2 : decode cX4_loseTwin 2 = .ok (.iload_n 1, 1) := by decide +kernel
theorem dX4_loseTwin_3 : decode cX4_loseTwin 3 = .ok (.aload_n 0, 1) := by decide +kernel
theorem dX4_loseTwin_4 : decode cX4_loseTwin 4 = .ok (.getfield 90, 3) := by decide +kernel
theorem dX4_loseTwin_7 : decode cX4_loseTwin 7 = .ok (.if_icmp .ge 53, 3) := by decide +kernel
theorem dX4_loseTwin_10 : decode cX4_loseTwin 10 = .ok (.aload_n 0, 1) := by decide +kernel
theorem dX4_loseTwin_11 : decode cX4_loseTwin 11 = .ok (.invokevirtual 86, 3) := by decide +kernel
theorem dX4_loseTwin_14 : decode cX4_loseTwin 14 = .ok (.iload_n 1, 1) := by decide +kernel
theorem dX4_loseTwin_15 : decode cX4_loseTwin 15 = .ok (.iadd, 1) := by decide +kernel
theorem dX4_loseTwin_16 : decode cX4_loseTwin 16 = .ok (.istore_n 2, 1) := by decide +kernel
theorem dX4_loseTwin_17 : decode cX4_loseTwin 17 = .ok (.iconst 0, 1) := by decide +kernel
theorem dX4_loseTwin_18 : decode cX4_loseTwin 18 = .ok (.istore_n 3, 1) := by decide +kernel
theorem dX4_loseTwin_19 : decode cX4_loseTwin 19 = .ok (.iload_n 3, 1) := by decide +kernel
theorem dX4_loseTwin_20 : decode cX4_loseTwin 20 = .ok (.iload_n 2, 1) := by decide +kernel
theorem dX4_loseTwin_21 : decode cX4_loseTwin 21 = .ok (.if_icmp .ge 33, 3) := by decide +kernel
theorem dX4_loseTwin_24 : decode cX4_loseTwin 24 = .ok (.aload_n 0, 1) := by decide +kernel
theorem dX4_loseTwin_25 : decode cX4_loseTwin 25 = .ok (.getfield 41, 3) := by decide +kernel
theorem dX4_loseTwin_28 : decode cX4_loseTwin 28 = .ok (.iload_n 2, 1) := by decide +kernel
theorem dX4_loseTwin_29 : decode cX4_loseTwin 29 = .ok (.iload_n 3, 1) := by decide +kernel
theorem dX4_loseTwin_30 : decode cX4_loseTwin 30 = .ok (.aload_n 0, 1) := by decide +kernel
theorem dX4_loseTwin_31 : decode cX4_loseTwin 31 = .ok (.getfield 19, 3) := by decide +kernel
theorem dX4_loseTwin_34 : decode cX4_loseTwin 34 = .ok (.invokestatic 122, 3) := by decide +kernel
theorem dX4_loseTwin_37 : decode cX4_loseTwin 37 = .ok (.ifCond .eq 11, 3) := by decide +kernel
theorem dX4_loseTwin_40 : decode cX4_loseTwin 40 = .ok (.aload_n 0, 1) := by decide +kernel
theorem dX4_loseTwin_41 : decode cX4_loseTwin 41 = .ok (.iload_n 1, 1) := by decide +kernel
theorem dX4_loseTwin_42 : decode cX4_loseTwin 42 = .ok (.iload_n 3, 1) := by decide +kernel
theorem dX4_loseTwin_43 : decode cX4_loseTwin 43 = .ok (.invokevirtual 126, 3) := by decide +kernel
theorem dX4_loseTwin_46 : decode cX4_loseTwin 46 = .ok (.iconst 1, 1) := by decide +kernel
theorem dX4_loseTwin_47 : decode cX4_loseTwin 47 = .ok (.ireturn, 1) := by decide +kernel
theorem dX4_loseTwin_48 : decode cX4_loseTwin 48 = .ok (.iinc 3 1, 3) := by decide +kernel
theorem dX4_loseTwin_51 : decode cX4_loseTwin 51 = .ok (.goto (-32), 3) := by decide +kernel
theorem dX4_loseTwin_54 : decode cX4_loseTwin 54 = .ok (.iinc 1 1, 3) := by decide +kernel
theorem dX4_loseTwin_57 : decode cX4_loseTwin 57 = .ok (.goto (-55), 3) := by decide +kernel
theorem dX4_loseTwin_60 : decode cX4_loseTwin 60 = .ok (.iconst 0, 1) := by decide +kernel
theorem dX4_loseTwin_61 : decode cX4_loseTwin 61 = .ok (.ireturn, 1) := by decide +kernel
theorem dX4_loseIdle_0 : decode cX4_loseIdle 0 = .ok (.iconst 1, 1) := by decide +kernel
theorem dX4_loseIdle_1 : decode cX4_loseIdle 1 = .ok (.aload_n 0, 1) := by decide +kernel
theorem dX4_loseIdle_2 : decode cX4_loseIdle 2 = .ok (.getfield 105, 3) := by decide +kernel
theorem dX4_loseIdle_5 : decode cX4_loseIdle 5 = .ok (.ishl, 1) := by decide +kernel
theorem dX4_loseIdle_6 : decode cX4_loseIdle 6 = .ok (.istore_n 1, 1) := by decide +kernel
theorem dX4_loseIdle_7 : decode cX4_loseIdle 7 = .ok (.aload_n 0, 1) := by decide +kernel
theorem dX4_loseIdle_8 : decode cX4_loseIdle 8 = .ok (.getfield 90, 3) := by decide +kernel
theorem dX4_loseIdle_11 : decode cX4_loseIdle 11 = .ok (.iconst 1, 1) := by decide +kernel
theorem dX4_loseIdle_12 : decode cX4_loseIdle 12 = .ok (.isub, 1) := by decide +kernel
theorem dX4_loseIdle_13 : decode cX4_loseIdle 13 = .ok (.istore_n 2, 1) := by decide +kernel
theorem dX4_loseIdle_14 : decode cX4_loseIdle 14 = .ok (.iload_n 2, 1) := by decide +kernel
theorem dX4_loseIdle_15 : decode cX4_loseIdle 15 = .ok (.ifCond .lt 73, 3) := by decide +kernel
theorem dX4_loseIdle_18 : decode cX4_loseIdle 18 = .ok (.aload_n 0, 1) := by decide +kernel
theorem dX4_loseIdle_19 : decode cX4_loseIdle 19 = .ok (.invokevirtual 86, 3) := by decide +kernel
theorem dX4_loseIdle_22 : decode cX4_loseIdle 22 = .ok (.iload_n 2, 1) := by decide +kernel
theorem dX4_loseIdle_23 : decode cX4_loseIdle 23 = .ok (.iadd, 1) := by decide +kernel
theorem dX4_loseIdle_24 : decode cX4_loseIdle 24 = .ok (.istore_n 3, 1) := by decide +kernel
theorem dX4_loseIdle_25 : decode cX4_loseIdle 25 = .ok (.iload_n 1, 1) := by decide +kernel
theorem dX4_loseIdle_26 : decode cX4_loseIdle 26 = .ok (.iload_n 3, 1) := by decide +kernel
theorem dX4_loseIdle_27 : decode cX4_loseIdle 27 = .ok (.ishr, 1) := by decide +kernel
theorem dX4_loseIdle_28 : decode cX4_loseIdle 28 = .ok (.iconst 1, 1) := by decide +kernel
theorem dX4_loseIdle_29 : decode cX4_loseIdle 29 = .ok (.iand, 1) := by decide +kernel
theorem dX4_loseIdle_30 : decode cX4_loseIdle 30 = .ok (.ifCond .ne 11, 3) := by decide +kernel
theorem dX4_loseIdle_33 : decode cX4_loseIdle 33 = .ok (.aload_n 0, 1) := by decide +kernel
theorem dX4_loseIdle_34 : decode cX4_loseIdle 34 = .ok (.iload_n 2, 1) := by decide +kernel
theorem dX4_loseIdle_35 : decode cX4_loseIdle 35 = .ok (.iconst 0, 1) := by decide +kernel
theorem dX4_loseIdle_36 : decode cX4_loseIdle 36 = .ok (.invokevirtual 126, 3) := by decide +kernel
theorem dX4_loseIdle_39 : decode cX4_loseIdle 39 = .ok (.iconst 1, 1) := by decide +kernel
theorem dX4_loseIdle_40 : decode cX4_loseIdle 40 = .ok (.ireturn, 1) := by decide +kernel
theorem dX4_loseIdle_41 : decode cX4_loseIdle 41 = .ok (.iload_n 1, 1) := by decide +kernel
theorem dX4_loseIdle_42 : decode cX4_loseIdle 42 = .ok (.iconst 1, 1) := by decide +kernel
theorem dX4_loseIdle_43 : decode cX4_loseIdle 43 = .ok (.aload_n 0, 1) := by decide +kernel
theorem dX4_loseIdle_44 : decode cX4_loseIdle 44 = .ok (.getfield 35, 3) := by decide +kernel
theorem dX4_loseIdle_47 : decode cX4_loseIdle 47 = .ok (.iload_n 2, 1) := by decide +kernel
theorem dX4_loseIdle_48 : decode cX4_loseIdle 48 = .ok (.iaload, 1) := by decide +kernel
theorem dX4_loseIdle_49 : decode cX4_loseIdle 49 = .ok (.ishl, 1) := by decide +kernel
theorem dX4_loseIdle_50 : decode cX4_loseIdle 50 = .ok (.ior, 1) := by decide +kernel
theorem dX4_loseIdle_51 : decode cX4_loseIdle 51 = .ok (.istore_n 1, 1) := by decide +kernel
theorem dX4_loseIdle_52 : decode cX4_loseIdle 52 = .ok (.aload_n 0, 1) := by decide +kernel
theorem dX4_loseIdle_53 : decode cX4_loseIdle 53 = .ok (.getfield 32, 3) := by decide +kernel
theorem dX4_loseIdle_56 : decode cX4_loseIdle 56 = .ok (.iload_n 2, 1) := by decide +kernel
theorem dX4_loseIdle_57 : decode cX4_loseIdle 57 = .ok (.iaload, 1) := by decide +kernel
theorem dX4_loseIdle_58 : decode cX4_loseIdle 58 = .ok (.ifCond .eq 24, 3) := by decide +kernel
theorem dX4_loseIdle_61 : decode cX4_loseIdle 61 = .ok (.aload_n 0, 1) := by decide +kernel
theorem dX4_loseIdle_62 : decode cX4_loseIdle 62 = .ok (.getfield 32, 3) := by decide +kernel
theorem dX4_loseIdle_65 : decode cX4_loseIdle 65 = .ok (.iload_n 2, 1) := by decide +kernel
theorem dX4_loseIdle_66 : decode cX4_loseIdle 66 = .ok (.iaload, 1) := by decide +kernel
theorem dX4_loseIdle_67 : decode cX4_loseIdle 67 = .ok (.iconst 1, 1) := by decide +kernel
theorem dX4_loseIdle_68 : decode cX4_loseIdle 68 = .ok (.if_icmp .eq 14, 3) := by decide +kernel
theorem dX4_loseIdle_71 : decode cX4_loseIdle 71 = .ok (.iload_n 1, 1) := by decide +kernel
theorem dX4_loseIdle_72 : decode cX4_loseIdle 72 = .ok (.iconst 1, 1) := by decide +kernel
theorem dX4_loseIdle_73 : decode cX4_loseIdle 73 = .ok (.aload_n 0, 1) := by decide +kernel
theorem dX4_loseIdle_74 : decode cX4_loseIdle 74 = .ok (.getfield 38, 3) := by decide +kernel
theorem dX4_loseIdle_77 : decode cX4_loseIdle 77 = .ok (.iload_n 2, 1) := by decide +kernel
theorem dX4_loseIdle_78 : decode cX4_loseIdle 78 = .ok (.iaload, 1) := by decide +kernel
theorem dX4_loseIdle_79 : decode cX4_loseIdle 79 = .ok (.ishl, 1) := by decide +kernel
theorem dX4_loseIdle_80 : decode cX4_loseIdle 80 = .ok (.ior, 1) := by decide +kernel
theorem dX4_loseIdle_81 : decode cX4_loseIdle 81 = .ok (.istore_n 1, 1) := by decide +kernel
theorem dX4_loseIdle_82 : decode cX4_loseIdle 82 = .ok (.iinc 2 (-1), 3) := by decide +kernel
theorem dX4_loseIdle_85 : decode cX4_loseIdle 85 = .ok (.goto (-71), 3) := by decide +kernel
theorem dX4_loseIdle_88 : decode cX4_loseIdle 88 = .ok (.iconst 0, 1) := by decide +kernel
theorem dX4_loseIdle_89 : decode cX4_loseIdle 89 = .ok (.ireturn, 1) := by decide +kernel
theorem dX4_clean_0 : decode cX4_clean 0 = .ok (.aload_n 0, 1) := by decide +kernel
theorem dX4_clean_1 : decode cX4_clean 1 = .ok (.getfield 90, 3) := by decide +kernel
theorem dX4_clean_4 : decode cX4_clean 4 = .ok (.istore_n 1, 1) := by decide +kernel
theorem dX4_clean_5 : decode cX4_clean 5 = .ok (.iconst 1, 1) := by decide +kernel
theorem dX4_clean_6 : decode cX4_clean 6 = .ok (.istore_n 2, 1) := by decide +kernel
theorem dX4_clean_7 : decode cX4_clean 7 = .ok (.iload_n 2, 1) := by decide +kernel
theorem dX4_clean_8 : decode cX4_clean 8 = .ok (.ifCond .eq 26, 3) := by decide +kernel
theorem dX4_clean_11 : decode cX4_clean 11 = .ok (.aload_n 0, 1) := by decide +kernel
theorem dX4_clean_12 : decode cX4_clean 12 = .ok (.invokevirtual 130, 3) := by decide +kernel
theorem dX4_clean_15 : decode cX4_clean 15 = .ok (.ifCond .ne 10, 3) := by decide +kernel
theorem dX4_clean_18 : decode cX4_clean 18 = .ok (.aload_n 0, 1) := by decide +kernel
theorem dX4_clean_19 : decode cX4_clean 19 = .ok (.invokevirtual 134, 3) := by decide +kernel
theorem dX4_clean_22 : decode cX4_clean 22 = .ok (.ifCond .eq 7, 3) := by decide +kernel
theorem dX4_clean_25 : decode cX4_clean 25 = .ok (.iconst 1, 1) := by decide +kernel
theorem dX4_clean_26 : decode cX4_clean 26 = .ok (.goto 4, 3) := by decide +kernel
theorem dX4_clean_29 : decode cX4_clean 29 = .ok (.iconst 0, 1) := by decide +kernel
theorem dX4_clean_30 : decode cX4_clean 30 = .ok (.istore_n 2, 1) := by decide +kernel
theorem dX4_clean_31 : decode cX4_clean 31 = .ok (.goto (-24), 3) := by decide +kernel
theorem dX4_clean_34 : decode cX4_clean 34 = .ok (.iload_n 1, 1) := by decide +kernel
theorem dX4_clean_35 : decode cX4_clean 35 = .ok (.aload_n 0, 1) := by decide +kernel
theorem dX4_clean_36 : decode cX4_clean 36 = .ok (.getfield 90, 3) := by decide +kernel
theorem dX4_clean_39 : decode cX4_clean 39 = .ok (.isub, 1) := by decide +kernel
theorem dX4_clean_40 : decode cX4_clean 40 = .ok (.ireturn, 1) := by decide +kernel
theorem dX4_turns_0 : decode cX4_turns 0 = .ok (.iload_n 0, 1) := by decide +kernel
theorem dX4_turns_1 : decode cX4_turns 1 = .ok (.iconst 2, 1) := by decide +kernel
theorem dX4_turns_2 : decode cX4_turns 2 = .ok (.if_icmp .lt 8, 3) := by decide +kernel
theorem dX4_turns_5 : decode cX4_turns 5 = .ok (.iload_n 0, 1) := by decide +kernel
theorem dX4_turns_6 : decode cX4_turns 6 = .ok (.iconst 5, 1) := by decide +kernel
theorem dX4_turns_7 : decode cX4_turns 7 = .ok (.if_icmp .le 15, 3) := by decide +kernel
theorem dX4_turns_10 : decode cX4_turns 10 = .ok (.iload_n 0, 1) := by decide +kernel
theorem dX4_turns_11 : decode cX4_turns 11 = .ok (.bipush 7, 2) := by decide +kernel
theorem dX4_turns_13 : decode cX4_turns 13 = .ok (.if_icmp .eq 9, 3) := by decide +kernel
theorem dX4_turns_16 : decode cX4_turns 16 = .ok (.iload_n 0, 1) := by decide +kernel
theorem dX4_turns_17 : decode cX4_turns 17 = .ok (.bipush 12, 2) := by decide +kernel
theorem dX4_turns_19 : decode cX4_turns 19 = .ok (.if_icmp .ne 7, 3) := by decide +kernel
theorem dX4_turns_22 : decode cX4_turns 22 = .ok (.iconst 1, 1) := by decide +kernel
theorem dX4_turns_23 : decode cX4_turns 23 = .ok (.goto 4, 3) := by decide +kernel
theorem dX4_turns_26 : decode cX4_turns 26 = .ok (.iconst 0, 1) := by decide +kernel
theorem dX4_turns_27 : decode cX4_turns 27 = .ok (.ireturn, 1) := by decide +kernel
theorem dX4_advance_0 : decode cX4_advance 0 = .ok (.aload_n 0, 1) := by decide +kernel
theorem dX4_advance_1 : decode cX4_advance 1 = .ok (.invokevirtual 86, 3) := by decide +kernel
theorem dX4_advance_4 : decode cX4_advance 4 = .ok (.iload_n 1, 1) := by decide +kernel
theorem dX4_advance_5 : decode cX4_advance 5 = .ok (.iadd, 1) := by decide +kernel
theorem dX4_advance_6 : decode cX4_advance 6 = .ok (.istore_n 2, 1) := by decide +kernel
theorem dX4_advance_7 : decode cX4_advance 7 = .ok (.aload_n 0, 1) := by decide +kernel
theorem dX4_advance_8 : decode cX4_advance 8 = .ok (.getfield 59, 3) := by decide +kernel
theorem dX4_advance_11 : decode cX4_advance 11 = .ok (.iload_n 1, 1) := by decide +kernel
theorem dX4_advance_12 : decode cX4_advance 12 = .ok (.iaload, 1) := by decide +kernel
theorem dX4_advance_13 : decode cX4_advance 13 = .ok (.ifCond .eq 13, 3) := by decide +kernel
theorem dX4_advance_16 : decode cX4_advance 16 = .ok (.aload_n 0, 1) := by decide +kernel
theorem dX4_advance_17 : decode cX4_advance 17 = .ok (.getfield 59, 3) := by decide +kernel
theorem dX4_advance_20 : decode cX4_advance 20 = .ok (.iload_n 1, 1) := by decide +kernel
theorem dX4_advance_21 : decode cX4_advance 21 = .ok (.iaload, 1) := by decide +kernel
theorem dX4_advance_22 : decode cX4_advance 22 = .ok (.iconst 1, 1) := by decide +kernel
theorem dX4_advance_23 : decode cX4_advance 23 = .ok (.if_icmp .ne 7, 3) := by decide +kernel
theorem dX4_advance_26 : decode cX4_advance 26 = .ok (.iconst 1, 1) := by decide +kernel
theorem dX4_advance_27 : decode cX4_advance 27 = .ok (.goto 4, 3) := by decide +kernel
theorem dX4_advance_30 : decode cX4_advance 30 = .ok (.iconst 0, 1) := by decide +kernel
theorem dX4_advance_31 : decode cX4_advance 31 = .ok (.istore_n 3, 1) := by decide +kernel
theorem dX4_advance_32 : decode cX4_advance 32 = .ok (.aload_n 0, 1) := by decide +kernel
theorem dX4_advance_33 : decode cX4_advance 33 = .ok (.getfield 65, 3) := by decide +kernel
theorem dX4_advance_36 : decode cX4_advance 36 = .ok (.iload_n 1, 1) := by decide +kernel
theorem dX4_advance_37 : decode cX4_advance 37 = .ok (.dup2, 1) := by decide +kernel
theorem dX4_advance_38 : decode cX4_advance 38 = .ok (.iaload, 1) := by decide +kernel
theorem dX4_advance_39 : decode cX4_advance 39 = .ok (.iconst 1, 1) := by decide +kernel
theorem dX4_advance_40 : decode cX4_advance 40 = .ok (.iadd, 1) := by decide +kernel
theorem dX4_advance_41 : decode cX4_advance 41 = .ok (.iastore, 1) := by decide +kernel
theorem dX4_advance_42 : decode cX4_advance 42 = .ok (.iload_n 3, 1) := by decide +kernel
theorem dX4_advance_43 : decode cX4_advance 43 = .ok (.ifCond .ne 13, 3) := by decide +kernel
theorem dX4_advance_46 : decode cX4_advance 46 = .ok (.aload_n 0, 1) := by decide +kernel
theorem dX4_advance_47 : decode cX4_advance 47 = .ok (.getfield 65, 3) := by decide +kernel
theorem dX4_advance_50 : decode cX4_advance 50 = .ok (.iload_n 1, 1) := by decide +kernel
theorem dX4_advance_51 : decode cX4_advance 51 = .ok (.iaload, 1) := by decide +kernel
theorem dX4_advance_52 : decode cX4_advance 52 = .ok (.iload_n 2, 1) := by decide +kernel
theorem dX4_advance_53 : decode cX4_advance 53 = .ok (.if_icmp .lt 41, 3) := by decide +kernel
theorem dX4_advance_56 : decode cX4_advance 56 = .ok (.aload_n 0, 1) := by decide +kernel
theorem dX4_advance_57 : decode cX4_advance 57 = .ok (.getfield 62, 3) := by decide +kernel
theorem dX4_advance_60 : decode cX4_advance 60 = .ok (.iload_n 1, 1) := by decide +kernel
theorem dX4_advance_61 : decode cX4_advance 61 = .ok (.dup2, 1) := by decide +kernel
theorem dX4_advance_62 : decode cX4_advance 62 = .ok (.iaload, 1) := by decide +kernel
theorem dX4_advance_63 : decode cX4_advance 63 = .ok (.iconst 1, 1) := by decide +kernel
theorem dX4_advance_64 : decode cX4_advance 64 = .ok (.iadd, 1) := by decide +kernel
theorem dX4_advance_65 : decode cX4_advance 65 = .ok (.iastore, 1) := by decide +kernel
theorem dX4_advance_66 : decode cX4_advance 66 = .ok (.aload_n 0, 1) := by decide +kernel
theorem dX4_advance_67 : decode cX4_advance 67 = .ok (.getfield 65, 3) := by decide +kernel
theorem dX4_advance_70 : decode cX4_advance 70 = .ok (.iload_n 1, 1) := by decide +kernel
theorem dX4_advance_71 : decode cX4_advance 71 = .ok (.aload_n 0, 1) := by decide +kernel
theorem dX4_advance_72 : decode cX4_advance 72 = .ok (.getfield 59, 3) := by decide +kernel
theorem dX4_advance_75 : decode cX4_advance 75 = .ok (.iload_n 1, 1) := by decide +kernel
theorem dX4_advance_76 : decode cX4_advance 76 = .ok (.iaload, 1) := by decide +kernel
theorem dX4_advance_77 : decode cX4_advance 77 = .ok (.invokestatic 137, 3) := by decide +kernel
theorem dX4_advance_80 : decode cX4_advance 80 = .ok (.ifCond .eq 12, 3) := by decide +kernel
theorem dX4_advance_83 : decode cX4_advance 83 = .ok (.aload_n 0, 1) := by decide +kernel
theorem dX4_advance_84 : decode cX4_advance 84 = .ok (.getfield 62, 3) := by decide +kernel
theorem dX4_advance_87 : decode cX4_advance 87 = .ok (.iload_n 1, 1) := by decide +kernel
theorem dX4_advance_88 : decode cX4_advance 88 = .ok (.iaload, 1) := by decide +kernel
theorem dX4_advance_89 : decode cX4_advance 89 = .ok (.goto 4, 3) := by decide +kernel
theorem dX4_advance_92 : decode cX4_advance 92 = .ok (.iconst 0, 1) := by decide +kernel
theorem dX4_advance_93 : decode cX4_advance 93 = .ok (.iastore, 1) := by decide +kernel
theorem dX4_advance_94 : decode cX4_advance 94 = .ok (.aload_n 0, 1) := by decide +kernel
theorem dX4_advance_95 : decode cX4_advance 95 = .ok (.getfield 59, 3) := by decide +kernel
theorem dX4_advance_98 : decode cX4_advance 98 = .ok (.iload_n 1, 1) := by decide +kernel
theorem dX4_advance_99 : decode cX4_advance 99 = .ok (.iaload, 1) := by decide +kernel
theorem dX4_advance_100 : decode cX4_advance 100 = .ok (.bipush 13, 2) := by decide +kernel
theorem dX4_advance_102 : decode cX4_advance 102 = .ok (.if_icmp .ge 83, 3) := by decide +kernel
theorem dX4_advance_105 : decode cX4_advance 105 = .ok (.aload_n 0, 1) := by decide +kernel
theorem dX4_advance_106 : decode cX4_advance 106 = .ok (.getfield 59, 3) := by decide +kernel
theorem dX4_advance_109 : decode cX4_advance 109 = .ok (.iload_n 1, 1) := by decide +kernel
theorem dX4_advance_110 : decode cX4_advance 110 = .ok (.iaload, 1) := by decide +kernel
theorem dX4_advance_111 : decode cX4_advance 111 = .ok (.ifCond .lt 47, 3) := by decide +kernel
theorem dX4_advance_114 : decode cX4_advance 114 = .ok (.aload_n 0, 1) := by decide +kernel
theorem dX4_advance_115 : decode cX4_advance 115 = .ok (.getfield 62, 3) := by decide +kernel
theorem dX4_advance_118 : decode cX4_advance 118 = .ok (.iload_n 1, 1) := by decide +kernel
theorem dX4_advance_119 : decode cX4_advance 119 = .ok (.iaload, 1) := by decide +kernel
theorem dX4_advance_120 : decode cX4_advance 120 = .ok (.iload_n 2, 1) := by decide +kernel
theorem dX4_advance_121 : decode cX4_advance 121 = .ok (.if_icmp .ge 37, 3) := by decide +kernel
theorem dX4_advance_124 : decode cX4_advance 124 = .ok (.aload_n 0, 1) := by decide +kernel
theorem dX4_advance_125 : decode cX4_advance 125 = .ok (.getfield 26, 3) := by decide +kernel
theorem dX4_advance_128 : decode cX4_advance 128 = .ok (.aload_n 0, 1) := by decide +kernel
theorem dX4_advance_129 : decode cX4_advance 129 = .ok (.getfield 59, 3) := by decide +kernel
theorem dX4_advance_132 : decode cX4_advance 132 = .ok (.iload_n 1, 1) := by decide +kernel
end
section
theorem dX4_advance_133 : decode cX4_advance 133 = .ok (.iaload, 1) := by decide +kernel
theorem dX4_advance_134 : decode cX4_advance 134 = .ok (.iaload, 1) := by decide +kernel
theorem dX4_advance_135 : decode cX4_advance 135 = .ok (.ifCond .eq 23, 3) := by decide +kernel
theorem dX4_advance_138 : decode cX4_advance 138 = .ok (.aload_n 0, 1) := by decide +kernel
theorem dX4_advance_139 : decode cX4_advance 139 = .ok (.getfield 26, 3) := by decide +kernel
theorem dX4_advance_142 : decode cX4_advance 142 = .ok (.aload_n 0, 1) := by decide +kernel
theorem dX4_advance_143 : decode cX4_advance 143 = .ok (.getfield 59, 3) := by decide +kernel
theorem dX4_advance_146 : decode cX4_advance 146 = .ok (.iload_n 1, 1) := by decide +kernel
theorem dX4_advance_147 : decode cX4_advance 147 = .ok (.iaload, 1) := by decide +kernel
theorem dX4_advance_148 : decode cX4_advance 148 = .ok (.iaload, 1) := by decide +kernel
theorem dX4_advance_149 : decode cX4_advance 149 = .ok (.aload_n 0, 1) := by decide +kernel
theorem dX4_advance_150 : decode cX4_advance 150 = .ok (.getfield 68, 3) := by decide +kernel
theorem dX4_advance_153 : decode cX4_advance 153 = .ok (.iload_n 1, 1) := by decide +kernel
theorem dX4_advance_154 : decode cX4_advance 154 = .ok (.iaload, 1) := by decide +kernel
theorem dX4_advance_155 : decode cX4_advance 155 = .ok (.if_icmp .le 30, 3) := by decide +kernel
theorem dX4_advance_158 : decode cX4_advance 158 = .ok (.aload_n 0, 1) := by decide +kernel
theorem dX4_advance_159 : decode cX4_advance 159 = .ok (.getfield 59, 3) := by decide +kernel
theorem dX4_advance_162 : decode cX4_advance 162 = .ok (.iload_n 1, 1) := by decide +kernel
theorem dX4_advance_163 : decode cX4_advance 163 = .ok (.dup2, 1) := by decide +kernel
theorem dX4_advance_164 : decode cX4_advance 164 = .ok (.iaload, 1) := by decide +kernel
theorem dX4_advance_165 : decode cX4_advance 165 = .ok (.iconst 1, 1) := by decide +kernel
theorem dX4_advance_166 : decode cX4_advance 166 = .ok (.iadd, 1) := by decide +kernel
theorem dX4_advance_167 : decode cX4_advance 167 = .ok (.iastore, 1) := by decide +kernel
theorem dX4_advance_168 : decode cX4_advance 168 = .ok (.aload_n 0, 1) := by decide +kernel
theorem dX4_advance_169 : decode cX4_advance 169 = .ok (.getfield 62, 3) := by decide +kernel
theorem dX4_advance_172 : decode cX4_advance 172 = .ok (.iload_n 1, 1) := by decide +kernel
theorem dX4_advance_173 : decode cX4_advance 173 = .ok (.iconst 0, 1) := by decide +kernel
theorem dX4_advance_174 : decode cX4_advance 174 = .ok (.iastore, 1) := by decide +kernel
theorem dX4_advance_175 : decode cX4_advance 175 = .ok (.aload_n 0, 1) := by decide +kernel
theorem dX4_advance_176 : decode cX4_advance 176 = .ok (.getfield 65, 3) := by decide +kernel
theorem dX4_advance_179 : decode cX4_advance 179 = .ok (.iload_n 1, 1) := by decide +kernel
theorem dX4_advance_180 : decode cX4_advance 180 = .ok (.iconst 0, 1) := by decide +kernel
theorem dX4_advance_181 : decode cX4_advance 181 = .ok (.iastore, 1) := by decide +kernel
theorem dX4_advance_182 : decode cX4_advance 182 = .ok (.goto (-88), 3) := by decide +kernel
theorem dX4_advance_185 : decode cX4_advance 185 = .ok (.aload_n 0, 1) := by decide +kernel
theorem dX4_advance_186 : decode cX4_advance 186 = .ok (.getfield 59, 3) := by decide +kernel
theorem dX4_advance_189 : decode cX4_advance 189 = .ok (.iload_n 1, 1) := by decide +kernel
theorem dX4_advance_190 : decode cX4_advance 190 = .ok (.iaload, 1) := by decide +kernel
theorem dX4_advance_191 : decode cX4_advance 191 = .ok (.bipush 13, 2) := by decide +kernel
theorem dX4_advance_193 : decode cX4_advance 193 = .ok (.if_icmp .ge 7, 3) := by decide +kernel
theorem dX4_advance_196 : decode cX4_advance 196 = .ok (.iconst 1, 1) := by decide +kernel
theorem dX4_advance_197 : decode cX4_advance 197 = .ok (.goto 4, 3) := by decide +kernel
theorem dX4_advance_200 : decode cX4_advance 200 = .ok (.iconst 0, 1) := by decide +kernel
theorem dX4_advance_201 : decode cX4_advance 201 = .ok (.ireturn, 1) := by decide +kernel
theorem dX4_open_0 : decode cX4_open 0 = .ok (.aload_n 0, 1) := by decide +kernel
theorem dX4_open_1 : decode cX4_open 1 = .ok (.getfield 68, 3) := by decide +kernel
theorem dX4_open_4 : decode cX4_open 4 = .ok (.iload_n 1, 1) := by decide +kernel
theorem dX4_open_5 : decode cX4_open 5 = .ok (.iload_n 2, 1) := by decide +kernel
theorem dX4_open_6 : decode cX4_open 6 = .ok (.iastore, 1) := by decide +kernel
theorem dX4_open_7 : decode cX4_open 7 = .ok (.aload_n 0, 1) := by decide +kernel
theorem dX4_open_8 : decode cX4_open 8 = .ok (.getfield 59, 3) := by decide +kernel
theorem dX4_open_11 : decode cX4_open 11 = .ok (.iload_n 1, 1) := by decide +kernel
theorem dX4_open_12 : decode cX4_open 12 = .ok (.iconst (-1), 1) := by decide +kernel
theorem dX4_open_13 : decode cX4_open 13 = .ok (.iastore, 1) := by decide +kernel
theorem dX4_open_14 : decode cX4_open 14 = .ok (.aload_n 0, 1) := by decide +kernel
theorem dX4_open_15 : decode cX4_open 15 = .ok (.getfield 62, 3) := by decide +kernel
theorem dX4_open_18 : decode cX4_open 18 = .ok (.iload_n 1, 1) := by decide +kernel
theorem dX4_open_19 : decode cX4_open 19 = .ok (.iconst 0, 1) := by decide +kernel
theorem dX4_open_20 : decode cX4_open 20 = .ok (.iastore, 1) := by decide +kernel
theorem dX4_open_21 : decode cX4_open 21 = .ok (.aload_n 0, 1) := by decide +kernel
theorem dX4_open_22 : decode cX4_open 22 = .ok (.getfield 65, 3) := by decide +kernel
theorem dX4_open_25 : decode cX4_open 25 = .ok (.iload_n 1, 1) := by decide +kernel
theorem dX4_open_26 : decode cX4_open 26 = .ok (.iconst (-1), 1) := by decide +kernel
theorem dX4_open_27 : decode cX4_open 27 = .ok (.iastore, 1) := by decide +kernel
theorem dX4_open_28 : decode cX4_open 28 = .ok (.return_, 1) := by decide +kernel
theorem dX4_isTarget_0 : decode cX4_isTarget 0 = .ok (.iconst 0, 1) := by decide +kernel
theorem dX4_isTarget_1 : decode cX4_isTarget 1 = .ok (.istore_n 2, 1) := by decide +kernel
theorem dX4_isTarget_2 : decode cX4_isTarget 2 = .ok (.iload_n 2, 1) := by decide +kernel
theorem dX4_isTarget_3 : decode cX4_isTarget 3 = .ok (.aload_n 0, 1) := by decide +kernel
theorem dX4_isTarget_4 : decode cX4_isTarget 4 = .ok (.getfield 19, 3) := by decide +kernel
theorem dX4_isTarget_7 : decode cX4_isTarget 7 = .ok (.if_icmp .ge 32, 3) := by decide +kernel
theorem dX4_isTarget_10 : decode cX4_isTarget 10 = .ok (.aload_n 0, 1) := by decide +kernel
theorem dX4_isTarget_11 : decode cX4_isTarget 11 = .ok (.getfield 44, 3) := by decide +kernel
theorem dX4_isTarget_14 : decode cX4_isTarget 14 = .ok (.sipush 256, 3) := by decide +kernel
theorem dX4_isTarget_17 : decode cX4_isTarget 17 = .ok (.iload_n 1, 1) := by decide +kernel
theorem dX4_isTarget_18 : decode cX4_isTarget 18 = .ok (.imul, 1) := by decide +kernel
theorem dX4_isTarget_19 : decode cX4_isTarget 19 = .ok (.iload_n 2, 1) := by decide +kernel
theorem dX4_isTarget_20 : decode cX4_isTarget 20 = .ok (.iadd, 1) := by decide +kernel
theorem dX4_isTarget_21 : decode cX4_isTarget 21 = .ok (.iaload, 1) := by decide +kernel
theorem dX4_isTarget_22 : decode cX4_isTarget 22 = .ok (.aload_n 0, 1) := by decide +kernel
theorem dX4_isTarget_23 : decode cX4_isTarget 23 = .ok (.getfield 29, 3) := by decide +kernel
theorem dX4_isTarget_26 : decode cX4_isTarget 26 = .ok (.iload_n 2, 1) := by decide +kernel
theorem dX4_isTarget_27 : decode cX4_isTarget 27 = .ok (.iaload, 1) := by decide +kernel
theorem dX4_isTarget_28 : decode cX4_isTarget 28 = .ok (.if_icmp .eq 5, 3) := by decide +kernel
theorem dX4_isTarget_31 : decode cX4_isTarget 31 = .ok (.iconst 0, 1) := by decide +kernel
theorem dX4_isTarget_32 : decode cX4_isTarget 32 = .ok (.ireturn, 1) := by decide +kernel
theorem dX4_isTarget_33 : decode cX4_isTarget 33 = .ok (.iinc 2 1, 3) := by decide +kernel
theorem dX4_isTarget_36 : decode cX4_isTarget 36 = .ok (.goto (-34), 3) := by decide +kernel
theorem dX4_isTarget_39 : decode cX4_isTarget 39 = .ok (.iconst 1, 1) := by decide +kernel
theorem dX4_isTarget_40 : decode cX4_isTarget 40 = .ok (.ireturn, 1) := by decide +kernel
theorem dX4_isNew_0 : decode cX4_isNew 0 = .ok (.iconst 0, 1) := by decide +kernel
theorem dX4_isNew_1 : decode cX4_isNew 1 = .ok (.istore_n 2, 1) := by decide +kernel
theorem dX4_isNew_2 : decode cX4_isNew 2 = .ok (.iload_n 2, 1) := by decide +kernel
theorem dX4_isNew_3 : decode cX4_isNew 3 = .ok (.iload_n 1, 1) := by decide +kernel
theorem dX4_isNew_4 : decode cX4_isNew 4 = .ok (.if_icmp .ge 27, 3) := by decide +kernel
theorem dX4_isNew_7 : decode cX4_isNew 7 = .ok (.aload_n 0, 1) := by decide +kernel
theorem dX4_isNew_8 : decode cX4_isNew 8 = .ok (.getfield 44, 3) := by decide +kernel
theorem dX4_isNew_11 : decode cX4_isNew 11 = .ok (.iload_n 1, 1) := by decide +kernel
theorem dX4_isNew_12 : decode cX4_isNew 12 = .ok (.iload_n 2, 1) := by decide +kernel
theorem dX4_isNew_13 : decode cX4_isNew 13 = .ok (.aload_n 0, 1) := by decide +kernel
theorem dX4_isNew_14 : decode cX4_isNew 14 = .ok (.getfield 19, 3) := by decide +kernel
theorem dX4_isNew_17 : decode cX4_isNew 17 = .ok (.invokestatic 122, 3) := by decide +kernel
theorem dX4_isNew_20 : decode cX4_isNew 20 = .ok (.ifCond .eq 5, 3) := by decide +kernel
theorem dX4_isNew_23 : decode cX4_isNew 23 = .ok (.iconst 0, 1) := by decide +kernel
theorem dX4_isNew_24 : decode cX4_isNew 24 = .ok (.ireturn, 1) := by decide +kernel
theorem dX4_isNew_25 : decode cX4_isNew 25 = .ok (.iinc 2 1, 3) := by decide +kernel
theorem dX4_isNew_28 : decode cX4_isNew 28 = .ok (.goto (-26), 3) := by decide +kernel
theorem dX4_isNew_31 : decode cX4_isNew 31 = .ok (.iconst 1, 1) := by decide +kernel
theorem dX4_isNew_32 : decode cX4_isNew 32 = .ok (.ireturn, 1) := by decide +kernel
theorem dX4_note_0 : decode cX4_note 0 = .ok (.aload_n 0, 1) := by decide +kernel
theorem dX4_note_1 : decode cX4_note 1 = .ok (.getfield 140, 3) := by decide +kernel
theorem dX4_note_4 : decode cX4_note 4 = .ok (.ifCond .ne 59, 3) := by decide +kernel
theorem dX4_note_7 : decode cX4_note 7 = .ok (.aload_n 0, 1) := by decide +kernel
theorem dX4_note_8 : decode cX4_note 8 = .ok (.iload_n 1, 1) := by decide +kernel
theorem dX4_note_9 : decode cX4_note 9 = .ok (.iconst 1, 1) := by decide +kernel
theorem dX4_note_10 : decode cX4_note 10 = .ok (.iadd, 1) := by decide +kernel
theorem dX4_note_11 : decode cX4_note 11 = .ok (.putfield 143, 3) := by decide +kernel
theorem dX4_note_14 : decode cX4_note 14 = .ok (.iconst 0, 1) := by decide +kernel
theorem dX4_note_15 : decode cX4_note 15 = .ok (.istore_n 2, 1) := by decide +kernel
theorem dX4_note_16 : decode cX4_note 16 = .ok (.iload_n 2, 1) := by decide +kernel
theorem dX4_note_17 : decode cX4_note 17 = .ok (.iload_n 1, 1) := by decide +kernel
theorem dX4_note_18 : decode cX4_note 18 = .ok (.if_icmp .gt 45, 3) := by decide +kernel
theorem dX4_note_21 : decode cX4_note 21 = .ok (.aload_n 0, 1) := by decide +kernel
theorem dX4_note_22 : decode cX4_note 22 = .ok (.getfield 71, 3) := by decide +kernel
theorem dX4_note_25 : decode cX4_note 25 = .ok (.iload_n 2, 1) := by decide +kernel
theorem dX4_note_26 : decode cX4_note 26 = .ok (.aload_n 0, 1) := by decide +kernel
theorem dX4_note_27 : decode cX4_note 27 = .ok (.getfield 59, 3) := by decide +kernel
theorem dX4_note_30 : decode cX4_note 30 = .ok (.iload_n 2, 1) := by decide +kernel
theorem dX4_note_31 : decode cX4_note 31 = .ok (.iaload, 1) := by decide +kernel
theorem dX4_note_32 : decode cX4_note 32 = .ok (.iastore, 1) := by decide +kernel
theorem dX4_note_33 : decode cX4_note 33 = .ok (.aload_n 0, 1) := by decide +kernel
theorem dX4_note_34 : decode cX4_note 34 = .ok (.getfield 74, 3) := by decide +kernel
theorem dX4_note_37 : decode cX4_note 37 = .ok (.iload_n 2, 1) := by decide +kernel
theorem dX4_note_38 : decode cX4_note 38 = .ok (.aload_n 0, 1) := by decide +kernel
theorem dX4_note_39 : decode cX4_note 39 = .ok (.getfield 62, 3) := by decide +kernel
theorem dX4_note_42 : decode cX4_note 42 = .ok (.iload_n 2, 1) := by decide +kernel
theorem dX4_note_43 : decode cX4_note 43 = .ok (.iaload, 1) := by decide +kernel
theorem dX4_note_44 : decode cX4_note 44 = .ok (.iastore, 1) := by decide +kernel
theorem dX4_note_45 : decode cX4_note 45 = .ok (.aload_n 0, 1) := by decide +kernel
theorem dX4_note_46 : decode cX4_note 46 = .ok (.getfield 77, 3) := by decide +kernel
theorem dX4_note_49 : decode cX4_note 49 = .ok (.iload_n 2, 1) := by decide +kernel
theorem dX4_note_50 : decode cX4_note 50 = .ok (.aload_n 0, 1) := by decide +kernel
theorem dX4_note_51 : decode cX4_note 51 = .ok (.getfield 65, 3) := by decide +kernel
theorem dX4_note_54 : decode cX4_note 54 = .ok (.iload_n 2, 1) := by decide +kernel
theorem dX4_note_55 : decode cX4_note 55 = .ok (.iaload, 1) := by decide +kernel
theorem dX4_note_56 : decode cX4_note 56 = .ok (.iastore, 1) := by decide +kernel
theorem dX4_note_57 : decode cX4_note 57 = .ok (.iinc 2 1, 3) := by decide +kernel
theorem dX4_note_60 : decode cX4_note 60 = .ok (.goto (-44), 3) := by decide +kernel
theorem dX4_note_63 : decode cX4_note 63 = .ok (.aload_n 0, 1) := by decide +kernel
theorem dX4_note_64 : decode cX4_note 64 = .ok (.dup, 1) := by decide +kernel
theorem dX4_note_65 : decode cX4_note 65 = .ok (.getfield 140, 3) := by decide +kernel
theorem dX4_note_68 : decode cX4_note 68 = .ok (.iconst 1, 1) := by decide +kernel
theorem dX4_note_69 : decode cX4_note 69 = .ok (.iadd, 1) := by decide +kernel
theorem dX4_note_70 : decode cX4_note 70 = .ok (.putfield 140, 3) := by decide +kernel
theorem dX4_note_73 : decode cX4_note 73 = .ok (.return_, 1) := by decide +kernel
theorem dX4_round_0 : decode cX4_round 0 = .ok (.iconst 0, 1) := by decide +kernel
theorem dX4_round_1 : decode cX4_round 1 = .ok (.istore 4, 2) := by decide +kernel
theorem dX4_round_3 : decode cX4_round 3 = .ok (.aload_n 0, 1) := by decide +kernel
theorem dX4_round_4 : decode cX4_round 4 = .ok (.iconst 0, 1) := by decide +kernel
theorem dX4_round_5 : decode cX4_round 5 = .ok (.iload_n 1, 1) := by decide +kernel
theorem dX4_round_6 : decode cX4_round 6 = .ok (.invokevirtual 146, 3) := by decide +kernel
theorem dX4_round_9 : decode cX4_round 9 = .ok (.iload 4, 2) := by decide +kernel
theorem dX4_round_11 : decode cX4_round 11 = .ok (.ifCond .lt 209, 3) := by decide +kernel
theorem dX4_round_14 : decode cX4_round 14 = .ok (.aload_n 0, 1) := by decide +kernel
theorem dX4_round_15 : decode cX4_round 15 = .ok (.iload 4, 2) := by decide +kernel
theorem dX4_round_17 : decode cX4_round 17 = .ok (.invokevirtual 149, 3) := by decide +kernel
theorem dX4_round_20 : decode cX4_round 20 = .ok (.ifCond .ne 9, 3) := by decide +kernel
theorem dX4_round_23 : decode cX4_round 23 = .ok (.iinc 4 (-1), 3) := by decide +kernel
theorem dX4_round_26 : decode cX4_round 26 = .ok (.goto (-17), 3) := by decide +kernel
theorem dX4_round_29 : decode cX4_round 29 = .ok (.aload_n 0, 1) := by decide +kernel
theorem dX4_round_30 : decode cX4_round 30 = .ok (.getfield 152, 3) := by decide +kernel
theorem dX4_round_33 : decode cX4_round 33 = .ok (.iload_n 2, 1) := by decide +kernel
theorem dX4_round_34 : decode cX4_round 34 = .ok (.if_icmp .ne 6, 3) := by decide +kernel
theorem dX4_round_37 : decode cX4_round 37 = .ok (.bipush (-6), 2) := by decide +kernel
theorem dX4_round_39 : decode cX4_round 39 = .ok (.ireturn, 1) := by decide +kernel
theorem dX4_round_40 : decode cX4_round 40 = .ok (.aload_n 0, 1) := by decide +kernel
theorem dX4_round_41 : decode cX4_round 41 = .ok (.dup, 1) := by decide +kernel
theorem dX4_round_42 : decode cX4_round 42 = .ok (.getfield 152, 3) := by decide +kernel
theorem dX4_round_45 : decode cX4_round 45 = .ok (.iconst 1, 1) := by decide +kernel
theorem dX4_round_46 : decode cX4_round 46 = .ok (.iadd, 1) := by decide +kernel
theorem dX4_round_47 : decode cX4_round 47 = .ok (.putfield 152, 3) := by decide +kernel
theorem dX4_round_50 : decode cX4_round 50 = .ok (.aload_n 0, 1) := by decide +kernel
theorem dX4_round_51 : decode cX4_round 51 = .ok (.invokevirtual 86, 3) := by decide +kernel
theorem dX4_round_54 : decode cX4_round 54 = .ok (.iload 4, 2) := by decide +kernel
theorem dX4_round_56 : decode cX4_round 56 = .ok (.iadd, 1) := by decide +kernel
theorem dX4_round_57 : decode cX4_round 57 = .ok (.istore 5, 2) := by decide +kernel
theorem dX4_round_59 : decode cX4_round 59 = .ok (.iconst 0, 1) := by decide +kernel
theorem dX4_round_60 : decode cX4_round 60 = .ok (.istore 6, 2) := by decide +kernel
theorem dX4_round_62 : decode cX4_round 62 = .ok (.iload 6, 2) := by decide +kernel
theorem dX4_round_64 : decode cX4_round 64 = .ok (.aload_n 0, 1) := by decide +kernel
theorem dX4_round_65 : decode cX4_round 65 = .ok (.getfield 19, 3) := by decide +kernel
theorem dX4_round_68 : decode cX4_round 68 = .ok (.if_icmp .ge 72, 3) := by decide +kernel
theorem dX4_round_71 : decode cX4_round 71 = .ok (.aload_n 0, 1) := by decide +kernel
theorem dX4_round_72 : decode cX4_round 72 = .ok (.getfield 44, 3) := by decide +kernel
theorem dX4_round_75 : decode cX4_round 75 = .ok (.sipush 256, 3) := by decide +kernel
theorem dX4_round_78 : decode cX4_round 78 = .ok (.iload 5, 2) := by decide +kernel
theorem dX4_round_80 : decode cX4_round 80 = .ok (.imul, 1) := by decide +kernel
theorem dX4_round_81 : decode cX4_round 81 = .ok (.iload 6, 2) := by decide +kernel
theorem dX4_round_83 : decode cX4_round 83 = .ok (.iadd, 1) := by decide +kernel
theorem dX4_round_84 : decode cX4_round 84 = .ok (.aload_n 0, 1) := by decide +kernel
theorem dX4_round_85 : decode cX4_round 85 = .ok (.aload_n 0, 1) := by decide +kernel
theorem dX4_round_86 : decode cX4_round 86 = .ok (.getfield 59, 3) := by decide +kernel
theorem dX4_round_89 : decode cX4_round 89 = .ok (.iload 4, 2) := by decide +kernel
theorem dX4_round_91 : decode cX4_round 91 = .ok (.iaload, 1) := by decide +kernel
theorem dX4_round_92 : decode cX4_round 92 = .ok (.aload_n 0, 1) := by decide +kernel
theorem dX4_round_93 : decode cX4_round 93 = .ok (.getfield 44, 3) := by decide +kernel
theorem dX4_round_96 : decode cX4_round 96 = .ok (.sipush 256, 3) := by decide +kernel
theorem dX4_round_99 : decode cX4_round 99 = .ok (.aload_n 0, 1) := by decide +kernel
theorem dX4_round_100 : decode cX4_round 100 = .ok (.getfield 62, 3) := by decide +kernel
theorem dX4_round_103 : decode cX4_round 103 = .ok (.iload 4, 2) := by decide +kernel
theorem dX4_round_105 : decode cX4_round 105 = .ok (.iaload, 1) := by decide +kernel
theorem dX4_round_106 : decode cX4_round 106 = .ok (.imul, 1) := by decide +kernel
theorem dX4_round_107 : decode cX4_round 107 = .ok (.iload 6, 2) := by decide +kernel
theorem dX4_round_109 : decode cX4_round 109 = .ok (.iadd, 1) := by decide +kernel
theorem dX4_round_110 : decode cX4_round 110 = .ok (.iaload, 1) := by decide +kernel
theorem dX4_round_111 : decode cX4_round 111 = .ok (.aload_n 0, 1) := by decide +kernel
theorem dX4_round_112 : decode cX4_round 112 = .ok (.getfield 44, 3) := by decide +kernel
theorem dX4_round_115 : decode cX4_round 115 = .ok (.sipush 256, 3) := by decide +kernel
theorem dX4_round_118 : decode cX4_round 118 = .ok (.aload_n 0, 1) := by decide +kernel
theorem dX4_round_119 : decode cX4_round 119 = .ok (.getfield 65, 3) := by decide +kernel
theorem dX4_round_122 : decode cX4_round 122 = .ok (.iload 4, 2) := by decide +kernel
theorem dX4_round_124 : decode cX4_round 124 = .ok (.iaload, 1) := by decide +kernel
theorem dX4_round_125 : decode cX4_round 125 = .ok (.imul, 1) := by decide +kernel
theorem dX4_round_126 : decode cX4_round 126 = .ok (.iload 6, 2) := by decide +kernel
theorem dX4_round_128 : decode cX4_round 128 = .ok (.iadd, 1) := by decide +kernel
theorem dX4_round_129 : decode cX4_round 129 = .ok (.iaload, 1) := by decide +kernel
theorem dX4_round_130 : decode cX4_round 130 = .ok (.invokevirtual 97, 3) := by decide +kernel
theorem dX4_round_133 : decode cX4_round 133 = .ok (.iastore, 1) := by decide +kernel
theorem dX4_round_134 : decode cX4_round 134 = .ok (.iinc 6 1, 3) := by decide +kernel
theorem dX4_round_137 : decode cX4_round 137 = .ok (.goto (-75), 3) := by decide +kernel
theorem dX4_round_140 : decode cX4_round 140 = .ok (.aload_n 0, 1) := by decide +kernel
theorem dX4_round_141 : decode cX4_round 141 = .ok (.getfield 68, 3) := by decide +kernel
theorem dX4_round_144 : decode cX4_round 144 = .ok (.iload 4, 2) := by decide +kernel
theorem dX4_round_146 : decode cX4_round 146 = .ok (.iaload, 1) := by decide +kernel
theorem dX4_round_147 : decode cX4_round 147 = .ok (.aload_n 0, 1) := by decide +kernel
theorem dX4_round_148 : decode cX4_round 148 = .ok (.getfield 26, 3) := by decide +kernel
theorem dX4_round_151 : decode cX4_round 151 = .ok (.aload_n 0, 1) := by decide +kernel
theorem dX4_round_152 : decode cX4_round 152 = .ok (.getfield 59, 3) := by decide +kernel
theorem dX4_round_155 : decode cX4_round 155 = .ok (.iload 4, 2) := by decide +kernel
theorem dX4_round_157 : decode cX4_round 157 = .ok (.iaload, 1) := by decide +kernel
theorem dX4_round_158 : decode cX4_round 158 = .ok (.iaload, 1) := by decide +kernel
theorem dX4_round_159 : decode cX4_round 159 = .ok (.isub, 1) := by decide +kernel
theorem dX4_round_160 : decode cX4_round 160 = .ok (.istore 6, 2) := by decide +kernel
theorem dX4_round_162 : decode cX4_round 162 = .ok (.iload 6, 2) := by decide +kernel
theorem dX4_round_164 : decode cX4_round 164 = .ok (.ifCond .ne 24, 3) := by decide +kernel
theorem dX4_round_167 : decode cX4_round 167 = .ok (.aload_n 0, 1) := by decide +kernel
theorem dX4_round_168 : decode cX4_round 168 = .ok (.iload 5, 2) := by decide +kernel
theorem dX4_round_170 : decode cX4_round 170 = .ok (.invokevirtual 155, 3) := by decide +kernel
theorem dX4_round_173 : decode cX4_round 173 = .ok (.ifCond .eq 44, 3) := by decide +kernel
theorem dX4_round_176 : decode cX4_round 176 = .ok (.aload_n 0, 1) := by decide +kernel
theorem dX4_round_177 : decode cX4_round 177 = .ok (.iload 4, 2) := by decide +kernel
theorem dX4_round_179 : decode cX4_round 179 = .ok (.invokevirtual 158, 3) := by decide +kernel
theorem dX4_round_182 : decode cX4_round 182 = .ok (.iload_n 3, 1) := by decide +kernel
theorem dX4_round_183 : decode cX4_round 183 = .ok (.ifCond .ne 34, 3) := by decide +kernel
theorem dX4_round_186 : decode cX4_round 186 = .ok (.iconst 0, 1) := by decide +kernel
theorem dX4_round_187 : decode cX4_round 187 = .ok (.ireturn, 1) := by decide +kernel
theorem dX4_round_188 : decode cX4_round 188 = .ok (.iload 4, 2) := by decide +kernel
theorem dX4_round_190 : decode cX4_round 190 = .ok (.iconst 1, 1) := by decide +kernel
theorem dX4_round_191 : decode cX4_round 191 = .ok (.iadd, 1) := by decide +kernel
theorem dX4_round_192 : decode cX4_round 192 = .ok (.bipush 12, 2) := by decide +kernel
theorem dX4_round_194 : decode cX4_round 194 = .ok (.if_icmp .ge 23, 3) := by decide +kernel
theorem dX4_round_197 : decode cX4_round 197 = .ok (.aload_n 0, 1) := by decide +kernel
theorem dX4_round_198 : decode cX4_round 198 = .ok (.iload 5, 2) := by decide +kernel
theorem dX4_round_200 : decode cX4_round 200 = .ok (.invokevirtual 162, 3) := by decide +kernel
theorem dX4_round_203 : decode cX4_round 203 = .ok (.ifCond .eq 14, 3) := by decide +kernel
theorem dX4_round_206 : decode cX4_round 206 = .ok (.iinc 4 1, 3) := by decide +kernel
theorem dX4_round_209 : decode cX4_round 209 = .ok (.aload_n 0, 1) := by decide +kernel
theorem dX4_round_210 : decode cX4_round 210 = .ok (.iload 4, 2) := by decide +kernel
theorem dX4_round_212 : decode cX4_round 212 = .ok (.iload 6, 2) := by decide +kernel
theorem dX4_round_214 : decode cX4_round 214 = .ok (.invokevirtual 146, 3) := by decide +kernel
theorem dX4_round_217 : decode cX4_round 217 = .ok (.goto (-208), 3) := by decide +kernel
theorem dX4_round_220 : decode cX4_round 220 = .ok (.iconst 0, 1) := by decide +kernel
theorem dX4_round_221 : decode cX4_round 221 = .ok (.ireturn, 1) := by decide +kernel
theorem dX4_keepFirst_0 : decode cX4_keepFirst 0 = .ok (.aload_n 0, 1) := by decide +kernel
theorem dX4_keepFirst_1 : decode cX4_keepFirst 1 = .ok (.iconst 1, 1) := by decide +kernel
theorem dX4_keepFirst_2 : decode cX4_keepFirst 2 = .ok (.putfield 108, 3) := by decide +kernel
theorem dX4_keepFirst_5 : decode cX4_keepFirst 5 = .ok (.aload_n 0, 1) := by decide +kernel
theorem dX4_keepFirst_6 : decode cX4_keepFirst 6 = .ok (.aload_n 0, 1) := by decide +kernel
theorem dX4_keepFirst_7 : decode cX4_keepFirst 7 = .ok (.getfield 143, 3) := by decide +kernel
theorem dX4_keepFirst_10 : decode cX4_keepFirst 10 = .ok (.putfield 165, 3) := by decide +kernel
theorem dX4_keepFirst_13 : decode cX4_keepFirst 13 = .ok (.iconst 0, 1) := by decide +kernel
theorem dX4_keepFirst_14 : decode cX4_keepFirst 14 = .ok (.istore_n 2, 1) := by decide +kernel
theorem dX4_keepFirst_15 : decode cX4_keepFirst 15 = .ok (.iload_n 2, 1) := by decide +kernel
theorem dX4_keepFirst_16 : decode cX4_keepFirst 16 = .ok (.aload_n 0, 1) := by decide +kernel
theorem dX4_keepFirst_17 : decode cX4_keepFirst 17 = .ok (.getfield 143, 3) := by decide +kernel
theorem dX4_keepFirst_20 : decode cX4_keepFirst 20 = .ok (.if_icmp .ge 45, 3) := by decide +kernel
theorem dX4_keepFirst_23 : decode cX4_keepFirst 23 = .ok (.aload_n 0, 1) := by decide +kernel
theorem dX4_keepFirst_24 : decode cX4_keepFirst 24 = .ok (.getfield 47, 3) := by decide +kernel
theorem dX4_keepFirst_27 : decode cX4_keepFirst 27 = .ok (.iload_n 2, 1) := by decide +kernel
theorem dX4_keepFirst_28 : decode cX4_keepFirst 28 = .ok (.aload_n 0, 1) := by decide +kernel
theorem dX4_keepFirst_29 : decode cX4_keepFirst 29 = .ok (.getfield 71, 3) := by decide +kernel
theorem dX4_keepFirst_32 : decode cX4_keepFirst 32 = .ok (.iload_n 2, 1) := by decide +kernel
theorem dX4_keepFirst_33 : decode cX4_keepFirst 33 = .ok (.iaload, 1) := by decide +kernel
theorem dX4_keepFirst_34 : decode cX4_keepFirst 34 = .ok (.iastore, 1) := by decide +kernel
theorem dX4_keepFirst_35 : decode cX4_keepFirst 35 = .ok (.aload_n 0, 1) := by decide +kernel
theorem dX4_keepFirst_36 : decode cX4_keepFirst 36 = .ok (.getfield 50, 3) := by decide +kernel
theorem dX4_keepFirst_39 : decode cX4_keepFirst 39 = .ok (.iload_n 2, 1) := by decide +kernel
theorem dX4_keepFirst_40 : decode cX4_keepFirst 40 = .ok (.aload_n 0, 1) := by decide +kernel
theorem dX4_keepFirst_41 : decode cX4_keepFirst 41 = .ok (.getfield 74, 3) := by decide +kernel
theorem dX4_keepFirst_44 : decode cX4_keepFirst 44 = .ok (.iload_n 2, 1) := by decide +kernel
theorem dX4_keepFirst_45 : decode cX4_keepFirst 45 = .ok (.iaload, 1) := by decide +kernel
theorem dX4_keepFirst_46 : decode cX4_keepFirst 46 = .ok (.iastore, 1) := by decide +kernel
theorem dX4_keepFirst_47 : decode cX4_keepFirst 47 = .ok (.aload_n 0, 1) := by decide +kernel
theorem dX4_keepFirst_48 : decode cX4_keepFirst 48 = .ok (.getfield 53, 3) := by decide +kernel
theorem dX4_keepFirst_51 : decode cX4_keepFirst 51 = .ok (.iload_n 2, 1) := by decide +kernel
theorem dX4_keepFirst_52 : decode cX4_keepFirst 52 = .ok (.aload_n 0, 1) := by decide +kernel
theorem dX4_keepFirst_53 : decode cX4_keepFirst 53 = .ok (.getfield 77, 3) := by decide +kernel
theorem dX4_keepFirst_56 : decode cX4_keepFirst 56 = .ok (.iload_n 2, 1) := by decide +kernel
theorem dX4_keepFirst_57 : decode cX4_keepFirst 57 = .ok (.iaload, 1) := by decide +kernel
theorem dX4_keepFirst_58 : decode cX4_keepFirst 58 = .ok (.iastore, 1) := by decide +kernel
theorem dX4_keepFirst_59 : decode cX4_keepFirst 59 = .ok (.iinc 2 1, 3) := by decide +kernel
theorem dX4_keepFirst_62 : decode cX4_keepFirst 62 = .ok (.goto (-47), 3) := by decide +kernel
theorem dX4_keepFirst_65 : decode cX4_keepFirst 65 = .ok (.aload_n 0, 1) := by decide +kernel
theorem dX4_keepFirst_66 : decode cX4_keepFirst 66 = .ok (.aload_n 0, 1) := by decide +kernel
theorem dX4_keepFirst_67 : decode cX4_keepFirst 67 = .ok (.invokevirtual 86, 3) := by decide +kernel
theorem dX4_keepFirst_70 : decode cX4_keepFirst 70 = .ok (.aload_n 0, 1) := by decide +kernel
theorem dX4_keepFirst_71 : decode cX4_keepFirst 71 = .ok (.getfield 143, 3) := by decide +kernel
theorem dX4_keepFirst_74 : decode cX4_keepFirst 74 = .ok (.iadd, 1) := by decide +kernel
theorem dX4_keepFirst_75 : decode cX4_keepFirst 75 = .ok (.iconst 1, 1) := by decide +kernel
theorem dX4_keepFirst_76 : decode cX4_keepFirst 76 = .ok (.isub, 1) := by decide +kernel
theorem dX4_keepFirst_77 : decode cX4_keepFirst 77 = .ok (.putfield 168, 3) := by decide +kernel
theorem dX4_keepFirst_80 : decode cX4_keepFirst 80 = .ok (.aload_n 0, 1) := by decide +kernel
theorem dX4_keepFirst_81 : decode cX4_keepFirst 81 = .ok (.iload_n 1, 1) := by decide +kernel
theorem dX4_keepFirst_82 : decode cX4_keepFirst 82 = .ok (.putfield 56, 3) := by decide +kernel
theorem dX4_keepFirst_85 : decode cX4_keepFirst 85 = .ok (.return_, 1) := by decide +kernel
theorem dX4_search_0 : decode cX4_search 0 = .ok (.iload_n 1, 1) := by decide +kernel
theorem dX4_search_1 : decode cX4_search 1 = .ok (.iconst 0, 1) := by decide +kernel
theorem dX4_search_2 : decode cX4_search 2 = .ok (.bipush 30, 2) := by decide +kernel
theorem dX4_search_4 : decode cX4_search 4 = .ok (.invokestatic 101, 3) := by decide +kernel
theorem dX4_search_7 : decode cX4_search 7 = .ok (.ifCond .eq 23, 3) := by decide +kernel
theorem dX4_search_10 : decode cX4_search 10 = .ok (.iload_n 2, 1) := by decide +kernel
theorem dX4_search_11 : decode cX4_search 11 = .ok (.iconst 0, 1) := by decide +kernel
theorem dX4_search_12 : decode cX4_search 12 = .ok (.sipush 30000, 3) := by decide +kernel
theorem dX4_search_15 : decode cX4_search 15 = .ok (.invokestatic 101, 3) := by decide +kernel
theorem dX4_search_18 : decode cX4_search 18 = .ok (.ifCond .eq 12, 3) := by decide +kernel
theorem dX4_search_21 : decode cX4_search 21 = .ok (.iload_n 3, 1) := by decide +kernel
theorem dX4_search_22 : decode cX4_search 22 = .ok (.iconst 0, 1) := by decide +kernel
theorem dX4_search_23 : decode cX4_search 23 = .ok (.iconst 1, 1) := by decide +kernel
theorem dX4_search_24 : decode cX4_search 24 = .ok (.invokestatic 101, 3) := by decide +kernel
theorem dX4_search_27 : decode cX4_search 27 = .ok (.ifCond .ne 6, 3) := by decide +kernel
theorem dX4_search_30 : decode cX4_search 30 = .ok (.bipush (-2), 2) := by decide +kernel
theorem dX4_search_32 : decode cX4_search 32 = .ok (.ireturn, 1) := by decide +kernel
theorem dX4_search_33 : decode cX4_search 33 = .ok (.aload_n 0, 1) := by decide +kernel
theorem dX4_search_34 : decode cX4_search 34 = .ok (.iconst 0, 1) := by decide +kernel
theorem dX4_search_35 : decode cX4_search 35 = .ok (.putfield 152, 3) := by decide +kernel
theorem dX4_search_38 : decode cX4_search 38 = .ok (.aload_n 0, 1) := by decide +kernel
theorem dX4_search_39 : decode cX4_search 39 = .ok (.iconst 0, 1) := by decide +kernel
theorem dX4_search_40 : decode cX4_search 40 = .ok (.putfield 171, 3) := by decide +kernel
theorem dX4_search_43 : decode cX4_search 43 = .ok (.aload_n 0, 1) := by decide +kernel
theorem dX4_search_44 : decode cX4_search 44 = .ok (.iconst 0, 1) := by decide +kernel
theorem dX4_search_45 : decode cX4_search 45 = .ok (.putfield 140, 3) := by decide +kernel
theorem dX4_search_48 : decode cX4_search 48 = .ok (.aload_n 0, 1) := by decide +kernel
theorem dX4_search_49 : decode cX4_search 49 = .ok (.aload_n 0, 1) := by decide +kernel
theorem dX4_search_50 : decode cX4_search 50 = .ok (.getfield 44, 3) := by decide +kernel
theorem dX4_search_53 : decode cX4_search 53 = .ok (.invokevirtual 93, 3) := by decide +kernel
theorem dX4_search_56 : decode cX4_search 56 = .ok (.iconst 0, 1) := by decide +kernel
theorem dX4_search_57 : decode cX4_search 57 = .ok (.istore 4, 2) := by decide +kernel
theorem dX4_search_59 : decode cX4_search 59 = .ok (.iload 4, 2) := by decide +kernel
theorem dX4_search_61 : decode cX4_search 61 = .ok (.aload_n 0, 1) := by decide +kernel
theorem dX4_search_62 : decode cX4_search 62 = .ok (.invokevirtual 86, 3) := by decide +kernel
theorem dX4_search_65 : decode cX4_search 65 = .ok (.if_icmp .ge 49, 3) := by decide +kernel
theorem dX4_search_68 : decode cX4_search 68 = .ok (.aload_n 0, 1) := by decide +kernel
theorem dX4_search_69 : decode cX4_search 69 = .ok (.iload 4, 2) := by decide +kernel
theorem dX4_search_71 : decode cX4_search 71 = .ok (.invokevirtual 155, 3) := by decide +kernel
theorem dX4_search_74 : decode cX4_search 74 = .ok (.ifCond .eq 34, 3) := by decide +kernel
theorem dX4_search_77 : decode cX4_search 77 = .ok (.aload_n 0, 1) := by decide +kernel
theorem dX4_search_78 : decode cX4_search 78 = .ok (.iconst 1, 1) := by decide +kernel
theorem dX4_search_79 : decode cX4_search 79 = .ok (.putfield 140, 3) := by decide +kernel
theorem dX4_search_82 : decode cX4_search 82 = .ok (.aload_n 0, 1) := by decide +kernel
theorem dX4_search_83 : decode cX4_search 83 = .ok (.iconst 1, 1) := by decide +kernel
theorem dX4_search_84 : decode cX4_search 84 = .ok (.putfield 108, 3) := by decide +kernel
theorem dX4_search_87 : decode cX4_search 87 = .ok (.aload_n 0, 1) := by decide +kernel
theorem dX4_search_88 : decode cX4_search 88 = .ok (.iconst 0, 1) := by decide +kernel
theorem dX4_search_89 : decode cX4_search 89 = .ok (.putfield 165, 3) := by decide +kernel
theorem dX4_search_92 : decode cX4_search 92 = .ok (.aload_n 0, 1) := by decide +kernel
theorem dX4_search_93 : decode cX4_search 93 = .ok (.iload 4, 2) := by decide +kernel
theorem dX4_search_95 : decode cX4_search 95 = .ok (.putfield 168, 3) := by decide +kernel
theorem dX4_search_98 : decode cX4_search 98 = .ok (.aload_n 0, 1) := by decide +kernel
theorem dX4_search_99 : decode cX4_search 99 = .ok (.iconst 0, 1) := by decide +kernel
theorem dX4_search_100 : decode cX4_search 100 = .ok (.putfield 56, 3) := by decide +kernel
theorem dX4_search_103 : decode cX4_search 103 = .ok (.aload_n 0, 1) := by decide +kernel
theorem dX4_search_104 : decode cX4_search 104 = .ok (.getfield 56, 3) := by decide +kernel
theorem dX4_search_107 : decode cX4_search 107 = .ok (.ireturn, 1) := by decide +kernel
theorem dX4_search_108 : decode cX4_search 108 = .ok (.iinc 4 1, 3) := by decide +kernel
theorem dX4_search_111 : decode cX4_search 111 = .ok (.goto (-52), 3) := by decide +kernel
theorem dX4_search_114 : decode cX4_search 114 = .ok (.aload_n 0, 1) := by decide +kernel
theorem dX4_search_115 : decode cX4_search 115 = .ok (.bipush (-5), 2) := by decide +kernel
theorem dX4_search_117 : decode cX4_search 117 = .ok (.putfield 56, 3) := by decide +kernel
theorem dX4_search_120 : decode cX4_search 120 = .ok (.iconst 1, 1) := by decide +kernel
theorem dX4_search_121 : decode cX4_search 121 = .ok (.istore 4, 2) := by decide +kernel
theorem dX4_search_123 : decode cX4_search 123 = .ok (.iload 4, 2) := by decide +kernel
theorem dX4_search_125 : decode cX4_search 125 = .ok (.iload_n 1, 1) := by decide +kernel
theorem dX4_search_126 : decode cX4_search 126 = .ok (.if_icmp .gt 70, 3) := by decide +kernel
theorem dX4_search_129 : decode cX4_search 129 = .ok (.aload_n 0, 1) := by decide +kernel
theorem dX4_search_130 : decode cX4_search 130 = .ok (.getfield 56, 3) := by decide +kernel
theorem dX4_search_133 : decode cX4_search 133 = .ok (.bipush (-5), 2) := by decide +kernel
theorem dX4_search_135 : decode cX4_search 135 = .ok (.if_icmp .ne 61, 3) := by decide +kernel
theorem dX4_search_138 : decode cX4_search 138 = .ok (.aload_n 0, 1) := by decide +kernel
theorem dX4_search_139 : decode cX4_search 139 = .ok (.dup, 1) := by decide +kernel
theorem dX4_search_140 : decode cX4_search 140 = .ok (.getfield 171, 3) := by decide +kernel
theorem dX4_search_143 : decode cX4_search 143 = .ok (.iconst 1, 1) := by decide +kernel
theorem dX4_search_144 : decode cX4_search 144 = .ok (.iadd, 1) := by decide +kernel
theorem dX4_search_145 : decode cX4_search 145 = .ok (.putfield 171, 3) := by decide +kernel
theorem dX4_search_148 : decode cX4_search 148 = .ok (.aload_n 0, 1) := by decide +kernel
theorem dX4_search_149 : decode cX4_search 149 = .ok (.iload 4, 2) := by decide +kernel
theorem dX4_search_151 : decode cX4_search 151 = .ok (.iload_n 2, 1) := by decide +kernel
theorem dX4_search_152 : decode cX4_search 152 = .ok (.iload_n 3, 1) := by decide +kernel
theorem dX4_search_153 : decode cX4_search 153 = .ok (.iconst 1, 1) := by decide +kernel
theorem dX4_search_154 : decode cX4_search 154 = .ok (.if_icmp .ne 7, 3) := by decide +kernel
theorem dX4_search_157 : decode cX4_search 157 = .ok (.iconst 1, 1) := by decide +kernel
theorem dX4_search_158 : decode cX4_search 158 = .ok (.goto 4, 3) := by decide +kernel
theorem dX4_search_161 : decode cX4_search 161 = .ok (.iconst 0, 1) := by decide +kernel
theorem dX4_search_162 : decode cX4_search 162 = .ok (.invokevirtual 174, 3) := by decide +kernel
theorem dX4_search_165 : decode cX4_search 165 = .ok (.ifCond .eq 12, 3) := by decide +kernel
theorem dX4_search_168 : decode cX4_search 168 = .ok (.aload_n 0, 1) := by decide +kernel
theorem dX4_search_169 : decode cX4_search 169 = .ok (.bipush (-6), 2) := by decide +kernel
theorem dX4_search_171 : decode cX4_search 171 = .ok (.putfield 56, 3) := by decide +kernel
theorem dX4_search_174 : decode cX4_search 174 = .ok (.goto 16, 3) := by decide +kernel
theorem dX4_search_177 : decode cX4_search 177 = .ok (.aload_n 0, 1) := by decide +kernel
theorem dX4_search_178 : decode cX4_search 178 = .ok (.getfield 140, 3) := by decide +kernel
theorem dX4_search_181 : decode cX4_search 181 = .ok (.ifCond .le 9, 3) := by decide +kernel
theorem dX4_search_184 : decode cX4_search 184 = .ok (.aload_n 0, 1) := by decide +kernel
theorem dX4_search_185 : decode cX4_search 185 = .ok (.iload 4, 2) := by decide +kernel
theorem dX4_search_187 : decode cX4_search 187 = .ok (.invokevirtual 178, 3) := by decide +kernel
theorem dX4_search_190 : decode cX4_search 190 = .ok (.iinc 4 1, 3) := by decide +kernel
theorem dX4_search_193 : decode cX4_search 193 = .ok (.goto (-70), 3) := by decide +kernel
theorem dX4_search_196 : decode cX4_search 196 = .ok (.aload_n 0, 1) := by decide +kernel
theorem dX4_search_197 : decode cX4_search 197 = .ok (.getfield 56, 3) := by decide +kernel
theorem dX4_search_200 : decode cX4_search 200 = .ok (.ireturn, 1) := by decide +kernel
theorem dX4_told_0 : decode cX4_told 0 = .ok (.iload_n 1, 1) := by decide +kernel
theorem dX4_told_1 : decode cX4_told 1 = .ok (.ifCond .ne 10, 3) := by decide +kernel
theorem dX4_told_4 : decode cX4_told 4 = .ok (.aload_n 0, 1) := by decide +kernel
theorem dX4_told_5 : decode cX4_told 5 = .ok (.getfield 152, 3) := by decide +kernel
theorem dX4_told_8 : decode cX4_told 8 = .ok (.goto 41, 3) := by decide +kernel
theorem dX4_told_11 : decode cX4_told 11 = .ok (.iload_n 1, 1) := by decide +kernel
theorem dX4_told_12 : decode cX4_told 12 = .ok (.iconst 1, 1) := by decide +kernel
theorem dX4_told_13 : decode cX4_told 13 = .ok (.if_icmp .ne 10, 3) := by decide +kernel
theorem dX4_told_16 : decode cX4_told 16 = .ok (.aload_n 0, 1) := by decide +kernel
theorem dX4_told_17 : decode cX4_told 17 = .ok (.getfield 171, 3) := by decide +kernel
theorem dX4_told_20 : decode cX4_told 20 = .ok (.goto 29, 3) := by decide +kernel
theorem dX4_told_23 : decode cX4_told 23 = .ok (.iload_n 1, 1) := by decide +kernel
theorem dX4_told_24 : decode cX4_told 24 = .ok (.iconst 2, 1) := by decide +kernel
theorem dX4_told_25 : decode cX4_told 25 = .ok (.if_icmp .ne 10, 3) := by decide +kernel
theorem dX4_told_28 : decode cX4_told 28 = .ok (.aload_n 0, 1) := by decide +kernel
theorem dX4_told_29 : decode cX4_told 29 = .ok (.getfield 140, 3) := by decide +kernel
theorem dX4_told_32 : decode cX4_told 32 = .ok (.goto 17, 3) := by decide +kernel
theorem dX4_told_35 : decode cX4_told 35 = .ok (.iload_n 1, 1) := by decide +kernel
theorem dX4_told_36 : decode cX4_told 36 = .ok (.iconst 3, 1) := by decide +kernel
theorem dX4_told_37 : decode cX4_told 37 = .ok (.if_icmp .ne 10, 3) := by decide +kernel
theorem dX4_told_40 : decode cX4_told 40 = .ok (.aload_n 0, 1) := by decide +kernel
theorem dX4_told_41 : decode cX4_told 41 = .ok (.getfield 56, 3) := by decide +kernel
theorem dX4_told_44 : decode cX4_told 44 = .ok (.goto 5, 3) := by decide +kernel
theorem dX4_told_47 : decode cX4_told 47 = .ok (.bipush (-2), 2) := by decide +kernel
theorem dX4_told_49 : decode cX4_told 49 = .ok (.ireturn, 1) := by decide +kernel
theorem dX4_take_0 : decode cX4_take 0 = .ok (.aload_n 0, 1) := by decide +kernel
theorem dX4_take_1 : decode cX4_take 1 = .ok (.getfield 108, 3) := by decide +kernel
theorem dX4_take_4 : decode cX4_take 4 = .ok (.ifCond .ne 6, 3) := by decide +kernel
theorem dX4_take_7 : decode cX4_take 7 = .ok (.bipush (-3), 2) := by decide +kernel
theorem dX4_take_9 : decode cX4_take 9 = .ok (.ireturn, 1) := by decide +kernel
theorem dX4_take_10 : decode cX4_take 10 = .ok (.aload_n 0, 1) := by decide +kernel
theorem dX4_take_11 : decode cX4_take 11 = .ok (.aload_n 0, 1) := by decide +kernel
theorem dX4_take_12 : decode cX4_take 12 = .ok (.getfield 165, 3) := by decide +kernel
theorem dX4_take_15 : decode cX4_take 15 = .ok (.putfield 90, 3) := by decide +kernel
theorem dX4_take_18 : decode cX4_take 18 = .ok (.iconst 0, 1) := by decide +kernel
theorem dX4_take_19 : decode cX4_take 19 = .ok (.istore_n 1, 1) := by decide +kernel
theorem dX4_take_20 : decode cX4_take 20 = .ok (.iload_n 1, 1) := by decide +kernel
theorem dX4_take_21 : decode cX4_take 21 = .ok (.aload_n 0, 1) := by decide +kernel
theorem dX4_take_22 : decode cX4_take 22 = .ok (.getfield 90, 3) := by decide +kernel
theorem dX4_take_25 : decode cX4_take 25 = .ok (.if_icmp .ge 45, 3) := by decide +kernel
theorem dX4_take_28 : decode cX4_take 28 = .ok (.aload_n 0, 1) := by decide +kernel
theorem dX4_take_29 : decode cX4_take 29 = .ok (.getfield 32, 3) := by decide +kernel
theorem dX4_take_32 : decode cX4_take 32 = .ok (.iload_n 1, 1) := by decide +kernel
theorem dX4_take_33 : decode cX4_take 33 = .ok (.aload_n 0, 1) := by decide +kernel
theorem dX4_take_34 : decode cX4_take 34 = .ok (.getfield 47, 3) := by decide +kernel
theorem dX4_take_37 : decode cX4_take 37 = .ok (.iload_n 1, 1) := by decide +kernel
theorem dX4_take_38 : decode cX4_take 38 = .ok (.iaload, 1) := by decide +kernel
theorem dX4_take_39 : decode cX4_take 39 = .ok (.iastore, 1) := by decide +kernel
theorem dX4_take_40 : decode cX4_take 40 = .ok (.aload_n 0, 1) := by decide +kernel
theorem dX4_take_41 : decode cX4_take 41 = .ok (.getfield 35, 3) := by decide +kernel
theorem dX4_take_44 : decode cX4_take 44 = .ok (.iload_n 1, 1) := by decide +kernel
theorem dX4_take_45 : decode cX4_take 45 = .ok (.aload_n 0, 1) := by decide +kernel
theorem dX4_take_46 : decode cX4_take 46 = .ok (.getfield 50, 3) := by decide +kernel
theorem dX4_take_49 : decode cX4_take 49 = .ok (.iload_n 1, 1) := by decide +kernel
theorem dX4_take_50 : decode cX4_take 50 = .ok (.iaload, 1) := by decide +kernel
theorem dX4_take_51 : decode cX4_take 51 = .ok (.iastore, 1) := by decide +kernel
theorem dX4_take_52 : decode cX4_take 52 = .ok (.aload_n 0, 1) := by decide +kernel
theorem dX4_take_53 : decode cX4_take 53 = .ok (.getfield 38, 3) := by decide +kernel
theorem dX4_take_56 : decode cX4_take 56 = .ok (.iload_n 1, 1) := by decide +kernel
theorem dX4_take_57 : decode cX4_take 57 = .ok (.aload_n 0, 1) := by decide +kernel
theorem dX4_take_58 : decode cX4_take 58 = .ok (.getfield 53, 3) := by decide +kernel
theorem dX4_take_61 : decode cX4_take 61 = .ok (.iload_n 1, 1) := by decide +kernel
theorem dX4_take_62 : decode cX4_take 62 = .ok (.iaload, 1) := by decide +kernel
theorem dX4_take_63 : decode cX4_take 63 = .ok (.iastore, 1) := by decide +kernel
theorem dX4_take_64 : decode cX4_take 64 = .ok (.iinc 1 1, 3) := by decide +kernel
theorem dX4_take_67 : decode cX4_take 67 = .ok (.goto (-47), 3) := by decide +kernel
theorem dX4_take_70 : decode cX4_take 70 = .ok (.aload_n 0, 1) := by decide +kernel
theorem dX4_take_71 : decode cX4_take 71 = .ok (.aload_n 0, 1) := by decide +kernel
theorem dX4_take_72 : decode cX4_take 72 = .ok (.getfield 168, 3) := by decide +kernel
theorem dX4_take_75 : decode cX4_take 75 = .ok (.putfield 105, 3) := by decide +kernel
theorem dX4_take_78 : decode cX4_take 78 = .ok (.aload_n 0, 1) := by decide +kernel
theorem dX4_take_79 : decode cX4_take 79 = .ok (.invokevirtual 80, 3) := by decide +kernel
theorem dX4_take_82 : decode cX4_take 82 = .ok (.aload_n 0, 1) := by decide +kernel
theorem dX4_take_83 : decode cX4_take 83 = .ok (.getfield 90, 3) := by decide +kernel
theorem dX4_take_86 : decode cX4_take 86 = .ok (.ireturn, 1) := by decide +kernel
theorem dL_law_0 : decode cL_law 0 = .ok (.new 7, 3) := by decide +kernel
theorem dL_law_3 : decode cL_law 3 = .ok (.dup, 1) := by decide +kernel
theorem dL_law_4 : decode cL_law 4 = .ok (.invokespecial 9, 3) := by decide +kernel
theorem dL_law_7 : decode cL_law 7 = .ok (.astore_n 1, 1) := by decide +kernel
theorem dL_law_8 : decode cL_law 8 = .ok (.new 10, 3) := by decide +kernel
theorem dL_law_11 : decode cL_law 11 = .ok (.dup, 1) := by decide +kernel
theorem dL_law_12 : decode cL_law 12 = .ok (.invokespecial 12, 3) := by decide +kernel
theorem dL_law_15 : decode cL_law 15 = .ok (.astore_n 2, 1) := by decide +kernel
theorem dL_law_16 : decode cL_law 16 = .ok (.iconst 0, 1) := by decide +kernel
theorem dL_law_17 : decode cL_law 17 = .ok (.istore_n 3, 1) := by decide +kernel
theorem dL_law_18 : decode cL_law 18 = .ok (.iload_n 3, 1) := by decide +kernel
theorem dL_law_19 : decode cL_law 19 = .ok (.aload_n 0, 1) := by decide +kernel
theorem dL_law_20 : decode cL_law 20 = .ok (.arraylength, 1) := by decide +kernel
theorem dL_law_21 : decode cL_law 21 = .ok (.iconst 4, 1) := by decide +kernel
theorem dL_law_22 : decode cL_law 22 = .ok (.isub, 1) := by decide +kernel
theorem dL_law_23 : decode cL_law 23 = .ok (.if_icmp .gt 523, 3) := by decide +kernel
theorem dL_law_26 : decode cL_law 26 = .ok (.aload_n 0, 1) := by decide +kernel
theorem dL_law_27 : decode cL_law 27 = .ok (.iload_n 3, 1) := by decide +kernel
theorem dL_law_28 : decode cL_law 28 = .ok (.iaload, 1) := by decide +kernel
theorem dL_law_29 : decode cL_law 29 = .ok (.bipush 15, 2) := by decide +kernel
theorem dL_law_31 : decode cL_law 31 = .ok (.iand, 1) := by decide +kernel
theorem dL_law_32 : decode cL_law 32 = .ok (.tableswitch 508 0 15 #[80, 113, 136, 169, 202, 215, 258, 271, 294, 327, 350, 383, 416, 429, 472, 495], 80) := by decide +kernel
theorem dL_law_112 : decode cL_law 112 = .ok (.aload_n 1, 1) := by decide +kernel
theorem dL_law_113 : decode cL_law 113 = .ok (.aload_n 0, 1) := by decide +kernel
theorem dL_law_114 : decode cL_law 114 = .ok (.iload_n 3, 1) := by decide +kernel
theorem dL_law_115 : decode cL_law 115 = .ok (.iconst 1, 1) := by decide +kernel
theorem dL_law_116 : decode cL_law 116 = .ok (.iadd, 1) := by decide +kernel
theorem dL_law_117 : decode cL_law 117 = .ok (.iaload, 1) := by decide +kernel
theorem dL_law_118 : decode cL_law 118 = .ok (.aload_n 0, 1) := by decide +kernel
theorem dL_law_119 : decode cL_law 119 = .ok (.iload_n 3, 1) := by decide +kernel
theorem dL_law_120 : decode cL_law 120 = .ok (.iconst 2, 1) := by decide +kernel
theorem dL_law_121 : decode cL_law 121 = .ok (.iadd, 1) := by decide +kernel
theorem dL_law_122 : decode cL_law 122 = .ok (.iaload, 1) := by decide +kernel
theorem dL_law_123 : decode cL_law 123 = .ok (.invokevirtual 13, 3) := by decide +kernel
theorem dL_law_126 : decode cL_law 126 = .ok (.aload_n 2, 1) := by decide +kernel
theorem dL_law_127 : decode cL_law 127 = .ok (.aload_n 0, 1) := by decide +kernel
theorem dL_law_128 : decode cL_law 128 = .ok (.iload_n 3, 1) := by decide +kernel
theorem dL_law_129 : decode cL_law 129 = .ok (.iconst 1, 1) := by decide +kernel
theorem dL_law_130 : decode cL_law 130 = .ok (.iadd, 1) := by decide +kernel
theorem dL_law_131 : decode cL_law 131 = .ok (.iaload, 1) := by decide +kernel
theorem dL_law_132 : decode cL_law 132 = .ok (.aload_n 0, 1) := by decide +kernel
theorem dL_law_133 : decode cL_law 133 = .ok (.iload_n 3, 1) := by decide +kernel
theorem dL_law_134 : decode cL_law 134 = .ok (.iconst 2, 1) := by decide +kernel
theorem dL_law_135 : decode cL_law 135 = .ok (.iadd, 1) := by decide +kernel
theorem dL_law_136 : decode cL_law 136 = .ok (.iaload, 1) := by decide +kernel
theorem dL_law_137 : decode cL_law 137 = .ok (.invokevirtual 17, 3) := by decide +kernel
theorem dL_law_140 : decode cL_law 140 = .ok (.if_icmp .eq 400, 3) := by decide +kernel
theorem dL_law_143 : decode cL_law 143 = .ok (.iconst 0, 1) := by decide +kernel
theorem dL_law_144 : decode cL_law 144 = .ok (.ireturn, 1) := by decide +kernel
theorem dL_law_145 : decode cL_law 145 = .ok (.aload_n 1, 1) := by decide +kernel
theorem dL_law_146 : decode cL_law 146 = .ok (.aload_n 0, 1) := by decide +kernel
theorem dL_law_147 : decode cL_law 147 = .ok (.iload_n 3, 1) := by decide +kernel
theorem dL_law_148 : decode cL_law 148 = .ok (.iconst 1, 1) := by decide +kernel
theorem dL_law_149 : decode cL_law 149 = .ok (.iadd, 1) := by decide +kernel
theorem dL_law_150 : decode cL_law 150 = .ok (.iaload, 1) := by decide +kernel
theorem dL_law_151 : decode cL_law 151 = .ok (.invokevirtual 18, 3) := by decide +kernel
theorem dL_law_154 : decode cL_law 154 = .ok (.aload_n 2, 1) := by decide +kernel
theorem dL_law_155 : decode cL_law 155 = .ok (.aload_n 0, 1) := by decide +kernel
theorem dL_law_156 : decode cL_law 156 = .ok (.iload_n 3, 1) := by decide +kernel
theorem dL_law_157 : decode cL_law 157 = .ok (.iconst 1, 1) := by decide +kernel
theorem dL_law_158 : decode cL_law 158 = .ok (.iadd, 1) := by decide +kernel
theorem dL_law_159 : decode cL_law 159 = .ok (.iaload, 1) := by decide +kernel
theorem dL_law_160 : decode cL_law 160 = .ok (.invokevirtual 22, 3) := by decide +kernel
theorem dL_law_163 : decode cL_law 163 = .ok (.if_icmp .eq 377, 3) := by decide +kernel
theorem dL_law_166 : decode cL_law 166 = .ok (.iconst 0, 1) := by decide +kernel
theorem dL_law_167 : decode cL_law 167 = .ok (.ireturn, 1) := by decide +kernel
theorem dL_law_168 : decode cL_law 168 = .ok (.aload_n 1, 1) := by decide +kernel
theorem dL_law_169 : decode cL_law 169 = .ok (.aload_n 0, 1) := by decide +kernel
theorem dL_law_170 : decode cL_law 170 = .ok (.iload_n 3, 1) := by decide +kernel
theorem dL_law_171 : decode cL_law 171 = .ok (.iconst 1, 1) := by decide +kernel
theorem dL_law_172 : decode cL_law 172 = .ok (.iadd, 1) := by decide +kernel
theorem dL_law_173 : decode cL_law 173 = .ok (.iaload, 1) := by decide +kernel
theorem dL_law_174 : decode cL_law 174 = .ok (.aload_n 0, 1) := by decide +kernel
theorem dL_law_175 : decode cL_law 175 = .ok (.iload_n 3, 1) := by decide +kernel
theorem dL_law_176 : decode cL_law 176 = .ok (.iconst 2, 1) := by decide +kernel
theorem dL_law_177 : decode cL_law 177 = .ok (.iadd, 1) := by decide +kernel
theorem dL_law_178 : decode cL_law 178 = .ok (.iaload, 1) := by decide +kernel
theorem dL_law_179 : decode cL_law 179 = .ok (.invokevirtual 23, 3) := by decide +kernel
theorem dL_law_182 : decode cL_law 182 = .ok (.aload_n 2, 1) := by decide +kernel
theorem dL_law_183 : decode cL_law 183 = .ok (.aload_n 0, 1) := by decide +kernel
theorem dL_law_184 : decode cL_law 184 = .ok (.iload_n 3, 1) := by decide +kernel
theorem dL_law_185 : decode cL_law 185 = .ok (.iconst 1, 1) := by decide +kernel
theorem dL_law_186 : decode cL_law 186 = .ok (.iadd, 1) := by decide +kernel
theorem dL_law_187 : decode cL_law 187 = .ok (.iaload, 1) := by decide +kernel
theorem dL_law_188 : decode cL_law 188 = .ok (.aload_n 0, 1) := by decide +kernel
theorem dL_law_189 : decode cL_law 189 = .ok (.iload_n 3, 1) := by decide +kernel
theorem dL_law_190 : decode cL_law 190 = .ok (.iconst 2, 1) := by decide +kernel
theorem dL_law_191 : decode cL_law 191 = .ok (.iadd, 1) := by decide +kernel
theorem dL_law_192 : decode cL_law 192 = .ok (.iaload, 1) := by decide +kernel
theorem dL_law_193 : decode cL_law 193 = .ok (.invokevirtual 26, 3) := by decide +kernel
theorem dL_law_196 : decode cL_law 196 = .ok (.if_icmp .eq 344, 3) := by decide +kernel
theorem dL_law_199 : decode cL_law 199 = .ok (.iconst 0, 1) := by decide +kernel
theorem dL_law_200 : decode cL_law 200 = .ok (.ireturn, 1) := by decide +kernel
theorem dL_law_201 : decode cL_law 201 = .ok (.aload_n 1, 1) := by decide +kernel
theorem dL_law_202 : decode cL_law 202 = .ok (.aload_n 0, 1) := by decide +kernel
theorem dL_law_203 : decode cL_law 203 = .ok (.iload_n 3, 1) := by decide +kernel
theorem dL_law_204 : decode cL_law 204 = .ok (.iconst 1, 1) := by decide +kernel
theorem dL_law_205 : decode cL_law 205 = .ok (.iadd, 1) := by decide +kernel
theorem dL_law_206 : decode cL_law 206 = .ok (.iaload, 1) := by decide +kernel
theorem dL_law_207 : decode cL_law 207 = .ok (.aload_n 0, 1) := by decide +kernel
theorem dL_law_208 : decode cL_law 208 = .ok (.iload_n 3, 1) := by decide +kernel
theorem dL_law_209 : decode cL_law 209 = .ok (.iconst 2, 1) := by decide +kernel
theorem dL_law_210 : decode cL_law 210 = .ok (.iadd, 1) := by decide +kernel
theorem dL_law_211 : decode cL_law 211 = .ok (.iaload, 1) := by decide +kernel
theorem dL_law_212 : decode cL_law 212 = .ok (.invokevirtual 27, 3) := by decide +kernel
theorem dL_law_215 : decode cL_law 215 = .ok (.aload_n 2, 1) := by decide +kernel
theorem dL_law_216 : decode cL_law 216 = .ok (.aload_n 0, 1) := by decide +kernel
theorem dL_law_217 : decode cL_law 217 = .ok (.iload_n 3, 1) := by decide +kernel
theorem dL_law_218 : decode cL_law 218 = .ok (.iconst 1, 1) := by decide +kernel
theorem dL_law_219 : decode cL_law 219 = .ok (.iadd, 1) := by decide +kernel
theorem dL_law_220 : decode cL_law 220 = .ok (.iaload, 1) := by decide +kernel
theorem dL_law_221 : decode cL_law 221 = .ok (.aload_n 0, 1) := by decide +kernel
theorem dL_law_222 : decode cL_law 222 = .ok (.iload_n 3, 1) := by decide +kernel
theorem dL_law_223 : decode cL_law 223 = .ok (.iconst 2, 1) := by decide +kernel
theorem dL_law_224 : decode cL_law 224 = .ok (.iadd, 1) := by decide +kernel
theorem dL_law_225 : decode cL_law 225 = .ok (.iaload, 1) := by decide +kernel
theorem dL_law_226 : decode cL_law 226 = .ok (.invokevirtual 30, 3) := by decide +kernel
theorem dL_law_229 : decode cL_law 229 = .ok (.if_icmp .eq 311, 3) := by decide +kernel
theorem dL_law_232 : decode cL_law 232 = .ok (.iconst 0, 1) := by decide +kernel
theorem dL_law_233 : decode cL_law 233 = .ok (.ireturn, 1) := by decide +kernel
theorem dL_law_234 : decode cL_law 234 = .ok (.aload_n 1, 1) := by decide +kernel
theorem dL_law_235 : decode cL_law 235 = .ok (.invokevirtual 31, 3) := by decide +kernel
theorem dL_law_238 : decode cL_law 238 = .ok (.aload_n 2, 1) := by decide +kernel
theorem dL_law_239 : decode cL_law 239 = .ok (.invokevirtual 35, 3) := by decide +kernel
theorem dL_law_242 : decode cL_law 242 = .ok (.if_icmp .eq 298, 3) := by decide +kernel
theorem dL_law_245 : decode cL_law 245 = .ok (.iconst 0, 1) := by decide +kernel
theorem dL_law_246 : decode cL_law 246 = .ok (.ireturn, 1) := by decide +kernel
theorem dL_law_247 : decode cL_law 247 = .ok (.aload_n 1, 1) := by decide +kernel
theorem dL_law_248 : decode cL_law 248 = .ok (.aload_n 0, 1) := by decide +kernel
theorem dL_law_249 : decode cL_law 249 = .ok (.iload_n 3, 1) := by decide +kernel
theorem dL_law_250 : decode cL_law 250 = .ok (.iconst 1, 1) := by decide +kernel
theorem dL_law_251 : decode cL_law 251 = .ok (.iadd, 1) := by decide +kernel
theorem dL_law_252 : decode cL_law 252 = .ok (.iaload, 1) := by decide +kernel
theorem dL_law_253 : decode cL_law 253 = .ok (.aload_n 0, 1) := by decide +kernel
theorem dL_law_254 : decode cL_law 254 = .ok (.iload_n 3, 1) := by decide +kernel
theorem dL_law_255 : decode cL_law 255 = .ok (.iconst 2, 1) := by decide +kernel
theorem dL_law_256 : decode cL_law 256 = .ok (.iadd, 1) := by decide +kernel
theorem dL_law_257 : decode cL_law 257 = .ok (.iaload, 1) := by decide +kernel
theorem dL_law_258 : decode cL_law 258 = .ok (.aload_n 0, 1) := by decide +kernel
theorem dL_law_259 : decode cL_law 259 = .ok (.iload_n 3, 1) := by decide +kernel
theorem dL_law_260 : decode cL_law 260 = .ok (.iconst 3, 1) := by decide +kernel
theorem dL_law_261 : decode cL_law 261 = .ok (.iadd, 1) := by decide +kernel
theorem dL_law_262 : decode cL_law 262 = .ok (.iaload, 1) := by decide +kernel
theorem dL_law_263 : decode cL_law 263 = .ok (.invokevirtual 36, 3) := by decide +kernel
theorem dL_law_266 : decode cL_law 266 = .ok (.aload_n 2, 1) := by decide +kernel
theorem dL_law_267 : decode cL_law 267 = .ok (.aload_n 0, 1) := by decide +kernel
theorem dL_law_268 : decode cL_law 268 = .ok (.iload_n 3, 1) := by decide +kernel
theorem dL_law_269 : decode cL_law 269 = .ok (.iconst 1, 1) := by decide +kernel
theorem dL_law_270 : decode cL_law 270 = .ok (.iadd, 1) := by decide +kernel
theorem dL_law_271 : decode cL_law 271 = .ok (.iaload, 1) := by decide +kernel
theorem dL_law_272 : decode cL_law 272 = .ok (.aload_n 0, 1) := by decide +kernel
theorem dL_law_273 : decode cL_law 273 = .ok (.iload_n 3, 1) := by decide +kernel
theorem dL_law_274 : decode cL_law 274 = .ok (.iconst 2, 1) := by decide +kernel
theorem dL_law_275 : decode cL_law 275 = .ok (.iadd, 1) := by decide +kernel
theorem dL_law_276 : decode cL_law 276 = .ok (.iaload, 1) := by decide +kernel
theorem dL_law_277 : decode cL_law 277 = .ok (.aload_n 0, 1) := by decide +kernel
theorem dL_law_278 : decode cL_law 278 = .ok (.iload_n 3, 1) := by decide +kernel
theorem dL_law_279 : decode cL_law 279 = .ok (.iconst 3, 1) := by decide +kernel
theorem dL_law_280 : decode cL_law 280 = .ok (.iadd, 1) := by decide +kernel
theorem dL_law_281 : decode cL_law 281 = .ok (.iaload, 1) := by decide +kernel
theorem dL_law_282 : decode cL_law 282 = .ok (.invokevirtual 40, 3) := by decide +kernel
theorem dL_law_285 : decode cL_law 285 = .ok (.if_icmp .eq 255, 3) := by decide +kernel
theorem dL_law_288 : decode cL_law 288 = .ok (.iconst 0, 1) := by decide +kernel
theorem dL_law_289 : decode cL_law 289 = .ok (.ireturn, 1) := by decide +kernel
theorem dL_law_290 : decode cL_law 290 = .ok (.aload_n 1, 1) := by decide +kernel
theorem dL_law_291 : decode cL_law 291 = .ok (.invokevirtual 41, 3) := by decide +kernel
theorem dL_law_294 : decode cL_law 294 = .ok (.aload_n 2, 1) := by decide +kernel
theorem dL_law_295 : decode cL_law 295 = .ok (.invokevirtual 44, 3) := by decide +kernel
theorem dL_law_298 : decode cL_law 298 = .ok (.if_icmp .eq 242, 3) := by decide +kernel
theorem dL_law_301 : decode cL_law 301 = .ok (.iconst 0, 1) := by decide +kernel
theorem dL_law_302 : decode cL_law 302 = .ok (.ireturn, 1) := by decide +kernel
theorem dL_law_303 : decode cL_law 303 = .ok (.aload_n 1, 1) := by decide +kernel
theorem dL_law_304 : decode cL_law 304 = .ok (.aload_n 0, 1) := by decide +kernel
theorem dL_law_305 : decode cL_law 305 = .ok (.iload_n 3, 1) := by decide +kernel
theorem dL_law_306 : decode cL_law 306 = .ok (.iconst 1, 1) := by decide +kernel
theorem dL_law_307 : decode cL_law 307 = .ok (.iadd, 1) := by decide +kernel
theorem dL_law_308 : decode cL_law 308 = .ok (.iaload, 1) := by decide +kernel
theorem dL_law_309 : decode cL_law 309 = .ok (.invokevirtual 45, 3) := by decide +kernel
theorem dL_law_312 : decode cL_law 312 = .ok (.aload_n 2, 1) := by decide +kernel
theorem dL_law_313 : decode cL_law 313 = .ok (.aload_n 0, 1) := by decide +kernel
theorem dL_law_314 : decode cL_law 314 = .ok (.iload_n 3, 1) := by decide +kernel
theorem dL_law_315 : decode cL_law 315 = .ok (.iconst 1, 1) := by decide +kernel
theorem dL_law_316 : decode cL_law 316 = .ok (.iadd, 1) := by decide +kernel
theorem dL_law_317 : decode cL_law 317 = .ok (.iaload, 1) := by decide +kernel
theorem dL_law_318 : decode cL_law 318 = .ok (.invokevirtual 48, 3) := by decide +kernel
theorem dL_law_321 : decode cL_law 321 = .ok (.if_icmp .eq 219, 3) := by decide +kernel
theorem dL_law_324 : decode cL_law 324 = .ok (.iconst 0, 1) := by decide +kernel
theorem dL_law_325 : decode cL_law 325 = .ok (.ireturn, 1) := by decide +kernel
theorem dL_law_326 : decode cL_law 326 = .ok (.aload_n 1, 1) := by decide +kernel
theorem dL_law_327 : decode cL_law 327 = .ok (.aload_n 0, 1) := by decide +kernel
theorem dL_law_328 : decode cL_law 328 = .ok (.iload_n 3, 1) := by decide +kernel
theorem dL_law_329 : decode cL_law 329 = .ok (.iconst 1, 1) := by decide +kernel
theorem dL_law_330 : decode cL_law 330 = .ok (.iadd, 1) := by decide +kernel
theorem dL_law_331 : decode cL_law 331 = .ok (.iaload, 1) := by decide +kernel
theorem dL_law_332 : decode cL_law 332 = .ok (.aload_n 0, 1) := by decide +kernel
theorem dL_law_333 : decode cL_law 333 = .ok (.iload_n 3, 1) := by decide +kernel
theorem dL_law_334 : decode cL_law 334 = .ok (.iconst 2, 1) := by decide +kernel
theorem dL_law_335 : decode cL_law 335 = .ok (.iadd, 1) := by decide +kernel
theorem dL_law_336 : decode cL_law 336 = .ok (.iaload, 1) := by decide +kernel
theorem dL_law_337 : decode cL_law 337 = .ok (.invokevirtual 49, 3) := by decide +kernel
theorem dL_law_340 : decode cL_law 340 = .ok (.aload_n 2, 1) := by decide +kernel
theorem dL_law_341 : decode cL_law 341 = .ok (.aload_n 0, 1) := by decide +kernel
theorem dL_law_342 : decode cL_law 342 = .ok (.iload_n 3, 1) := by decide +kernel
theorem dL_law_343 : decode cL_law 343 = .ok (.iconst 1, 1) := by decide +kernel
theorem dL_law_344 : decode cL_law 344 = .ok (.iadd, 1) := by decide +kernel
theorem dL_law_345 : decode cL_law 345 = .ok (.iaload, 1) := by decide +kernel
theorem dL_law_346 : decode cL_law 346 = .ok (.aload_n 0, 1) := by decide +kernel
theorem dL_law_347 : decode cL_law 347 = .ok (.iload_n 3, 1) := by decide +kernel
theorem dL_law_348 : decode cL_law 348 = .ok (.iconst 2, 1) := by decide +kernel
theorem dL_law_349 : decode cL_law 349 = .ok (.iadd, 1) := by decide +kernel
theorem dL_law_350 : decode cL_law 350 = .ok (.iaload, 1) := by decide +kernel
theorem dL_law_351 : decode cL_law 351 = .ok (.invokevirtual 52, 3) := by decide +kernel
theorem dL_law_354 : decode cL_law 354 = .ok (.if_icmp .eq 186, 3) := by decide +kernel
theorem dL_law_357 : decode cL_law 357 = .ok (.iconst 0, 1) := by decide +kernel
theorem dL_law_358 : decode cL_law 358 = .ok (.ireturn, 1) := by decide +kernel
theorem dL_law_359 : decode cL_law 359 = .ok (.aload_n 1, 1) := by decide +kernel
theorem dL_law_360 : decode cL_law 360 = .ok (.aload_n 0, 1) := by decide +kernel
theorem dL_law_361 : decode cL_law 361 = .ok (.iload_n 3, 1) := by decide +kernel
theorem dL_law_362 : decode cL_law 362 = .ok (.iconst 1, 1) := by decide +kernel
theorem dL_law_363 : decode cL_law 363 = .ok (.iadd, 1) := by decide +kernel
theorem dL_law_364 : decode cL_law 364 = .ok (.iaload, 1) := by decide +kernel
theorem dL_law_365 : decode cL_law 365 = .ok (.invokevirtual 53, 3) := by decide +kernel
theorem dL_law_368 : decode cL_law 368 = .ok (.aload_n 2, 1) := by decide +kernel
theorem dL_law_369 : decode cL_law 369 = .ok (.aload_n 0, 1) := by decide +kernel
theorem dL_law_370 : decode cL_law 370 = .ok (.iload_n 3, 1) := by decide +kernel
theorem dL_law_371 : decode cL_law 371 = .ok (.iconst 1, 1) := by decide +kernel
theorem dL_law_372 : decode cL_law 372 = .ok (.iadd, 1) := by decide +kernel
theorem dL_law_373 : decode cL_law 373 = .ok (.iaload, 1) := by decide +kernel
theorem dL_law_374 : decode cL_law 374 = .ok (.invokevirtual 56, 3) := by decide +kernel
theorem dL_law_377 : decode cL_law 377 = .ok (.if_icmp .eq 163, 3) := by decide +kernel
theorem dL_law_380 : decode cL_law 380 = .ok (.iconst 0, 1) := by decide +kernel
theorem dL_law_381 : decode cL_law 381 = .ok (.ireturn, 1) := by decide +kernel
theorem dL_law_382 : decode cL_law 382 = .ok (.aload_n 1, 1) := by decide +kernel
theorem dL_law_383 : decode cL_law 383 = .ok (.aload_n 0, 1) := by decide +kernel
theorem dL_law_384 : decode cL_law 384 = .ok (.iload_n 3, 1) := by decide +kernel
theorem dL_law_385 : decode cL_law 385 = .ok (.iconst 1, 1) := by decide +kernel
theorem dL_law_386 : decode cL_law 386 = .ok (.iadd, 1) := by decide +kernel
theorem dL_law_387 : decode cL_law 387 = .ok (.iaload, 1) := by decide +kernel
theorem dL_law_388 : decode cL_law 388 = .ok (.aload_n 0, 1) := by decide +kernel
theorem dL_law_389 : decode cL_law 389 = .ok (.iload_n 3, 1) := by decide +kernel
theorem dL_law_390 : decode cL_law 390 = .ok (.iconst 2, 1) := by decide +kernel
theorem dL_law_391 : decode cL_law 391 = .ok (.iadd, 1) := by decide +kernel
theorem dL_law_392 : decode cL_law 392 = .ok (.iaload, 1) := by decide +kernel
theorem dL_law_393 : decode cL_law 393 = .ok (.invokevirtual 57, 3) := by decide +kernel
theorem dL_law_396 : decode cL_law 396 = .ok (.aload_n 2, 1) := by decide +kernel
theorem dL_law_397 : decode cL_law 397 = .ok (.aload_n 0, 1) := by decide +kernel
theorem dL_law_398 : decode cL_law 398 = .ok (.iload_n 3, 1) := by decide +kernel
theorem dL_law_399 : decode cL_law 399 = .ok (.iconst 1, 1) := by decide +kernel
theorem dL_law_400 : decode cL_law 400 = .ok (.iadd, 1) := by decide +kernel
theorem dL_law_401 : decode cL_law 401 = .ok (.iaload, 1) := by decide +kernel
theorem dL_law_402 : decode cL_law 402 = .ok (.aload_n 0, 1) := by decide +kernel
theorem dL_law_403 : decode cL_law 403 = .ok (.iload_n 3, 1) := by decide +kernel
theorem dL_law_404 : decode cL_law 404 = .ok (.iconst 2, 1) := by decide +kernel
theorem dL_law_405 : decode cL_law 405 = .ok (.iadd, 1) := by decide +kernel
theorem dL_law_406 : decode cL_law 406 = .ok (.iaload, 1) := by decide +kernel
theorem dL_law_407 : decode cL_law 407 = .ok (.invokevirtual 60, 3) := by decide +kernel
theorem dL_law_410 : decode cL_law 410 = .ok (.if_icmp .eq 130, 3) := by decide +kernel
theorem dL_law_413 : decode cL_law 413 = .ok (.iconst 0, 1) := by decide +kernel
theorem dL_law_414 : decode cL_law 414 = .ok (.ireturn, 1) := by decide +kernel
theorem dL_law_415 : decode cL_law 415 = .ok (.aload_n 1, 1) := by decide +kernel
theorem dL_law_416 : decode cL_law 416 = .ok (.aload_n 0, 1) := by decide +kernel
theorem dL_law_417 : decode cL_law 417 = .ok (.iload_n 3, 1) := by decide +kernel
theorem dL_law_418 : decode cL_law 418 = .ok (.iconst 1, 1) := by decide +kernel
theorem dL_law_419 : decode cL_law 419 = .ok (.iadd, 1) := by decide +kernel
theorem dL_law_420 : decode cL_law 420 = .ok (.iaload, 1) := by decide +kernel
theorem dL_law_421 : decode cL_law 421 = .ok (.aload_n 0, 1) := by decide +kernel
theorem dL_law_422 : decode cL_law 422 = .ok (.iload_n 3, 1) := by decide +kernel
theorem dL_law_423 : decode cL_law 423 = .ok (.iconst 2, 1) := by decide +kernel
theorem dL_law_424 : decode cL_law 424 = .ok (.iadd, 1) := by decide +kernel
theorem dL_law_425 : decode cL_law 425 = .ok (.iaload, 1) := by decide +kernel
theorem dL_law_426 : decode cL_law 426 = .ok (.invokevirtual 61, 3) := by decide +kernel
theorem dL_law_429 : decode cL_law 429 = .ok (.aload_n 2, 1) := by decide +kernel
theorem dL_law_430 : decode cL_law 430 = .ok (.aload_n 0, 1) := by decide +kernel
theorem dL_law_431 : decode cL_law 431 = .ok (.iload_n 3, 1) := by decide +kernel
theorem dL_law_432 : decode cL_law 432 = .ok (.iconst 1, 1) := by decide +kernel
theorem dL_law_433 : decode cL_law 433 = .ok (.iadd, 1) := by decide +kernel
theorem dL_law_434 : decode cL_law 434 = .ok (.iaload, 1) := by decide +kernel
theorem dL_law_435 : decode cL_law 435 = .ok (.aload_n 0, 1) := by decide +kernel
theorem dL_law_436 : decode cL_law 436 = .ok (.iload_n 3, 1) := by decide +kernel
theorem dL_law_437 : decode cL_law 437 = .ok (.iconst 2, 1) := by decide +kernel
theorem dL_law_438 : decode cL_law 438 = .ok (.iadd, 1) := by decide +kernel
theorem dL_law_439 : decode cL_law 439 = .ok (.iaload, 1) := by decide +kernel
theorem dL_law_440 : decode cL_law 440 = .ok (.invokevirtual 64, 3) := by decide +kernel
theorem dL_law_443 : decode cL_law 443 = .ok (.if_icmp .eq 97, 3) := by decide +kernel
theorem dL_law_446 : decode cL_law 446 = .ok (.iconst 0, 1) := by decide +kernel
theorem dL_law_447 : decode cL_law 447 = .ok (.ireturn, 1) := by decide +kernel
theorem dL_law_448 : decode cL_law 448 = .ok (.aload_n 1, 1) := by decide +kernel
theorem dL_law_449 : decode cL_law 449 = .ok (.invokevirtual 65, 3) := by decide +kernel
theorem dL_law_452 : decode cL_law 452 = .ok (.aload_n 2, 1) := by decide +kernel
theorem dL_law_453 : decode cL_law 453 = .ok (.invokevirtual 68, 3) := by decide +kernel
theorem dL_law_456 : decode cL_law 456 = .ok (.if_icmp .eq 84, 3) := by decide +kernel
theorem dL_law_459 : decode cL_law 459 = .ok (.iconst 0, 1) := by decide +kernel
theorem dL_law_460 : decode cL_law 460 = .ok (.ireturn, 1) := by decide +kernel
theorem dL_law_461 : decode cL_law 461 = .ok (.aload_n 1, 1) := by decide +kernel
theorem dL_law_462 : decode cL_law 462 = .ok (.aload_n 0, 1) := by decide +kernel
theorem dL_law_463 : decode cL_law 463 = .ok (.iload_n 3, 1) := by decide +kernel
theorem dL_law_464 : decode cL_law 464 = .ok (.iconst 1, 1) := by decide +kernel
theorem dL_law_465 : decode cL_law 465 = .ok (.iadd, 1) := by decide +kernel
theorem dL_law_466 : decode cL_law 466 = .ok (.iaload, 1) := by decide +kernel
theorem dL_law_467 : decode cL_law 467 = .ok (.aload_n 0, 1) := by decide +kernel
theorem dL_law_468 : decode cL_law 468 = .ok (.iload_n 3, 1) := by decide +kernel
theorem dL_law_469 : decode cL_law 469 = .ok (.iconst 2, 1) := by decide +kernel
theorem dL_law_470 : decode cL_law 470 = .ok (.iadd, 1) := by decide +kernel
theorem dL_law_471 : decode cL_law 471 = .ok (.iaload, 1) := by decide +kernel
theorem dL_law_472 : decode cL_law 472 = .ok (.aload_n 0, 1) := by decide +kernel
theorem dL_law_473 : decode cL_law 473 = .ok (.iload_n 3, 1) := by decide +kernel
theorem dL_law_474 : decode cL_law 474 = .ok (.iconst 3, 1) := by decide +kernel
theorem dL_law_475 : decode cL_law 475 = .ok (.iadd, 1) := by decide +kernel
theorem dL_law_476 : decode cL_law 476 = .ok (.iaload, 1) := by decide +kernel
theorem dL_law_477 : decode cL_law 477 = .ok (.invokevirtual 69, 3) := by decide +kernel
theorem dL_law_480 : decode cL_law 480 = .ok (.aload_n 2, 1) := by decide +kernel
theorem dL_law_481 : decode cL_law 481 = .ok (.aload_n 0, 1) := by decide +kernel
theorem dL_law_482 : decode cL_law 482 = .ok (.iload_n 3, 1) := by decide +kernel
theorem dL_law_483 : decode cL_law 483 = .ok (.iconst 1, 1) := by decide +kernel
theorem dL_law_484 : decode cL_law 484 = .ok (.iadd, 1) := by decide +kernel
theorem dL_law_485 : decode cL_law 485 = .ok (.iaload, 1) := by decide +kernel
theorem dL_law_486 : decode cL_law 486 = .ok (.aload_n 0, 1) := by decide +kernel
theorem dL_law_487 : decode cL_law 487 = .ok (.iload_n 3, 1) := by decide +kernel
theorem dL_law_488 : decode cL_law 488 = .ok (.iconst 2, 1) := by decide +kernel
theorem dL_law_489 : decode cL_law 489 = .ok (.iadd, 1) := by decide +kernel
theorem dL_law_490 : decode cL_law 490 = .ok (.iaload, 1) := by decide +kernel
theorem dL_law_491 : decode cL_law 491 = .ok (.aload_n 0, 1) := by decide +kernel
theorem dL_law_492 : decode cL_law 492 = .ok (.iload_n 3, 1) := by decide +kernel
theorem dL_law_493 : decode cL_law 493 = .ok (.iconst 3, 1) := by decide +kernel
theorem dL_law_494 : decode cL_law 494 = .ok (.iadd, 1) := by decide +kernel
theorem dL_law_495 : decode cL_law 495 = .ok (.iaload, 1) := by decide +kernel
theorem dL_law_496 : decode cL_law 496 = .ok (.invokevirtual 72, 3) := by decide +kernel
theorem dL_law_499 : decode cL_law 499 = .ok (.if_icmp .eq 41, 3) := by decide +kernel
theorem dL_law_502 : decode cL_law 502 = .ok (.iconst 0, 1) := by decide +kernel
theorem dL_law_503 : decode cL_law 503 = .ok (.ireturn, 1) := by decide +kernel
theorem dL_law_504 : decode cL_law 504 = .ok (.aload_n 1, 1) := by decide +kernel
theorem dL_law_505 : decode cL_law 505 = .ok (.aload_n 0, 1) := by decide +kernel
theorem dL_law_506 : decode cL_law 506 = .ok (.iload_n 3, 1) := by decide +kernel
theorem dL_law_507 : decode cL_law 507 = .ok (.iconst 1, 1) := by decide +kernel
theorem dL_law_508 : decode cL_law 508 = .ok (.iadd, 1) := by decide +kernel
theorem dL_law_509 : decode cL_law 509 = .ok (.iaload, 1) := by decide +kernel
theorem dL_law_510 : decode cL_law 510 = .ok (.invokevirtual 73, 3) := by decide +kernel
theorem dL_law_513 : decode cL_law 513 = .ok (.aload_n 2, 1) := by decide +kernel
theorem dL_law_514 : decode cL_law 514 = .ok (.aload_n 0, 1) := by decide +kernel
theorem dL_law_515 : decode cL_law 515 = .ok (.iload_n 3, 1) := by decide +kernel
theorem dL_law_516 : decode cL_law 516 = .ok (.iconst 1, 1) := by decide +kernel
theorem dL_law_517 : decode cL_law 517 = .ok (.iadd, 1) := by decide +kernel
theorem dL_law_518 : decode cL_law 518 = .ok (.iaload, 1) := by decide +kernel
theorem dL_law_519 : decode cL_law 519 = .ok (.invokevirtual 76, 3) := by decide +kernel
theorem dL_law_522 : decode cL_law 522 = .ok (.if_icmp .eq 18, 3) := by decide +kernel
theorem dL_law_525 : decode cL_law 525 = .ok (.iconst 0, 1) := by decide +kernel
theorem dL_law_526 : decode cL_law 526 = .ok (.ireturn, 1) := by decide +kernel
theorem dL_law_527 : decode cL_law 527 = .ok (.aload_n 1, 1) := by decide +kernel
theorem dL_law_528 : decode cL_law 528 = .ok (.invokevirtual 77, 3) := by decide +kernel
theorem dL_law_531 : decode cL_law 531 = .ok (.aload_n 2, 1) := by decide +kernel
theorem dL_law_532 : decode cL_law 532 = .ok (.invokevirtual 80, 3) := by decide +kernel
theorem dL_law_535 : decode cL_law 535 = .ok (.if_icmp .eq 5, 3) := by decide +kernel
theorem dL_law_538 : decode cL_law 538 = .ok (.iconst 0, 1) := by decide +kernel
theorem dL_law_539 : decode cL_law 539 = .ok (.ireturn, 1) := by decide +kernel
theorem dL_law_540 : decode cL_law 540 = .ok (.iinc 3 4, 3) := by decide +kernel
theorem dL_law_543 : decode cL_law 543 = .ok (.goto (-525), 3) := by decide +kernel
theorem dL_law_546 : decode cL_law 546 = .ok (.iconst 1, 1) := by decide +kernel
theorem dL_law_547 : decode cL_law 547 = .ok (.ireturn, 1) := by decide +kernel
end
section
/-! the words that a frame carries -/
def eg_gw : List Cond := lw_tbl.filter goodWord
theorem eg_gw_good : ∀ w ∈ eg_gw, goodWord w = true := fun _ h => (List.mem_filter.mp h).2
theorem eg_gw_tbl : ∀ w ∈ eg_gw, w ∈ lw_tbl := fun _ h => (List.mem_filter.mp h).1
theorem eg_in {w : Cond} (h : w ∈ lw_tbl) (g : goodWord w = true) : w ∈ eg_gw := List.mem_filter.mpr ⟨h, g⟩
theorem eg_inT {w : Cond} {i : Nat} (h : tables_1[i]? = some w) (g : goodWord w = true) : w ∈ eg_gw := eg_in (List.mem_append_right _ (List.mem_of_getElem? h)) g
theorem eg_inP {q : MethodName × Nat} {i : Nat} (h : lw_privs[i]? = some q) : Cond.selects q.1.cls q.1 q.1 ∈ eg_gw := eg_in (List.mem_append_left _ (List.mem_map.mpr ⟨q, List.mem_of_getElem? h, rfl⟩)) rfl
def eg_nest (w : Cond) : Bool := match w with
  | .fieldLinkNest _ _ _ _ _ _ => true
  | .methodLinkNest _ _ _ _ => true
  | _ => false
def eg_nw : List Cond := tables_1.filter eg_nest
theorem eg_nw_nest : ∀ w ∈ eg_nw, eg_nest w = true := fun _ h => (List.mem_filter.mp h).2
theorem eg_inN {w : Cond} {i : Nat} (h : tables_1[i]? = some w) (g : eg_nest w = true) : w ∈ eg_nw := List.mem_filter.mpr ⟨List.mem_of_getElem? h, g⟩
theorem eg_fty_ok : ∀ c j, eg_fty c j ≠ .long ∧ eg_fty c j ≠ .float ∧ eg_fty c j ≠ .double := by
  intro c j
  unfold eg_fty
  split <;> first | (unfold tyX0; split <;> decide) | (unfold tyX1; split <;> decide) | (unfold tyX2; split <;> decide) | (unfold tyX3; split <;> decide) | (unfold tyX4; split <;> decide) | exact ⟨by simp, by simp, by simp⟩
set_option maxRecDepth 20000 in
theorem eg_in_c0 : ∀ w ∈ u_ws RX0 TX0 12, w ∈ eg_gw := by
  intro w hw
  obtain ⟨k, hk, rfl⟩ := List.mem_map.mp hw
  have hk := List.mem_range.mp hk
  match k, hk with
  | 0, _ => exact eg_inT (i := 104) rfl rfl
  | 1, _ => exact eg_inT (i := 106) rfl rfl
  | 2, _ => exact eg_inT (i := 108) rfl rfl
  | 3, _ => exact eg_inT (i := 110) rfl rfl
  | 4, _ => exact eg_inT (i := 112) rfl rfl
  | 5, _ => exact eg_inT (i := 114) rfl rfl
  | 6, _ => exact eg_inT (i := 116) rfl rfl
  | 7, _ => exact eg_inT (i := 118) rfl rfl
  | 8, _ => exact eg_inT (i := 120) rfl rfl
  | 9, _ => exact eg_inT (i := 122) rfl rfl
  | 10, _ => exact eg_inT (i := 124) rfl rfl
  | 11, _ => exact eg_inT (i := 126) rfl rfl
  | k + 12, hk => exact absurd hk (by omega)
set_option maxRecDepth 20000 in
theorem eg_in_c1 : ∀ w ∈ u_ws RX1 TX1 5, w ∈ eg_gw := by
  intro w hw
  obtain ⟨k, hk, rfl⟩ := List.mem_map.mp hw
  have hk := List.mem_range.mp hk
  match k, hk with
  | 0, _ => exact eg_inT (i := 66) rfl rfl
  | 1, _ => exact eg_inT (i := 68) rfl rfl
  | 2, _ => exact eg_inT (i := 70) rfl rfl
  | 3, _ => exact eg_inT (i := 72) rfl rfl
  | 4, _ => exact eg_inT (i := 74) rfl rfl
  | k + 5, hk => exact absurd hk (by omega)
set_option maxRecDepth 20000 in
theorem eg_in_c2 : ∀ w ∈ u_ws RX2 TX2 6, w ∈ eg_gw := by
  intro w hw
  obtain ⟨k, hk, rfl⟩ := List.mem_map.mp hw
  have hk := List.mem_range.mp hk
  match k, hk with
  | 0, _ => exact eg_inT (i := 34) rfl rfl
  | 1, _ => exact eg_inT (i := 36) rfl rfl
  | 2, _ => exact eg_inT (i := 38) rfl rfl
  | 3, _ => exact eg_inT (i := 40) rfl rfl
  | 4, _ => exact eg_inT (i := 42) rfl rfl
  | 5, _ => exact eg_inT (i := 44) rfl rfl
  | k + 6, hk => exact absurd hk (by omega)
set_option maxRecDepth 20000 in
theorem eg_in_c3 : ∀ w ∈ u_ws RX3 TX3 8, w ∈ eg_gw := by
  intro w hw
  obtain ⟨k, hk, rfl⟩ := List.mem_map.mp hw
  have hk := List.mem_range.mp hk
  match k, hk with
  | 0, _ => exact eg_inT (i := 142) rfl rfl
  | 1, _ => exact eg_inT (i := 144) rfl rfl
  | 2, _ => exact eg_inT (i := 146) rfl rfl
  | 3, _ => exact eg_inT (i := 148) rfl rfl
  | 4, _ => exact eg_inT (i := 150) rfl rfl
  | 5, _ => exact eg_inT (i := 152) rfl rfl
  | 6, _ => exact eg_inT (i := 154) rfl rfl
  | 7, _ => exact eg_inT (i := 156) rfl rfl
  | k + 8, hk => exact absurd hk (by omega)
set_option maxRecDepth 20000 in
theorem eg_in_c4 : ∀ w ∈ u_ws RX4 TX4 33, w ∈ eg_gw := by
  intro w hw
  obtain ⟨k, hk, rfl⟩ := List.mem_map.mp hw
  have hk := List.mem_range.mp hk
  match k, hk with
  | 0, _ => exact eg_inT (i := 437) rfl rfl
  | 1, _ => exact eg_inT (i := 439) rfl rfl
  | 2, _ => exact eg_inT (i := 441) rfl rfl
  | 3, _ => exact eg_inT (i := 443) rfl rfl
  | 4, _ => exact eg_inT (i := 445) rfl rfl
  | 5, _ => exact eg_inT (i := 447) rfl rfl
  | 6, _ => exact eg_inT (i := 449) rfl rfl
  | 7, _ => exact eg_inT (i := 451) rfl rfl
  | 8, _ => exact eg_inT (i := 453) rfl rfl
  | 9, _ => exact eg_inT (i := 455) rfl rfl
  | 10, _ => exact eg_inT (i := 457) rfl rfl
  | 11, _ => exact eg_inT (i := 459) rfl rfl
  | 12, _ => exact eg_inT (i := 461) rfl rfl
  | 13, _ => exact eg_inT (i := 463) rfl rfl
  | 14, _ => exact eg_inT (i := 465) rfl rfl
  | 15, _ => exact eg_inT (i := 467) rfl rfl
  | 16, _ => exact eg_inT (i := 469) rfl rfl
  | 17, _ => exact eg_inT (i := 471) rfl rfl
  | 18, _ => exact eg_inT (i := 473) rfl rfl
  | 19, _ => exact eg_inT (i := 475) rfl rfl
  | 20, _ => exact eg_inT (i := 477) rfl rfl
  | 21, _ => exact eg_inT (i := 479) rfl rfl
  | 22, _ => exact eg_inT (i := 481) rfl rfl
  | 23, _ => exact eg_inT (i := 483) rfl rfl
  | 24, _ => exact eg_inT (i := 485) rfl rfl
  | 25, _ => exact eg_inT (i := 487) rfl rfl
  | 26, _ => exact eg_inT (i := 489) rfl rfl
  | 27, _ => exact eg_inT (i := 491) rfl rfl
  | 28, _ => exact eg_inT (i := 493) rfl rfl
  | 29, _ => exact eg_inT (i := 495) rfl rfl
  | 30, _ => exact eg_inT (i := 497) rfl rfl
  | 31, _ => exact eg_inT (i := 499) rfl rfl
  | 32, _ => exact eg_inT (i := 501) rfl rfl
  | k + 33, hk => exact absurd hk (by omega)
theorem eg_cl_ok : ∀ (c : Nat) (q : vw_C), classes[c]? = some q → (∀ w ∈ u_ws q.1 q.2.1 q.2.2, w ∈ eg_gw) ∧ (∀ k, k < q.2.2 → parseFieldDescriptor (q.2.1 k).2.2.1 = some (eg_fty c k)) ∧ (∀ a, a < q.2.2 → ∀ b, b < q.2.2 → a ≠ b → (q.2.1 a).2.1 ≠ (q.2.1 b).2.1) := by
  intro c q hq
  match c, hq with
  | 0, hq => cases hq; exact ⟨eg_in_c0, tyX0_ok, nmX0⟩
  | 1, hq => cases hq; exact ⟨eg_in_c1, tyX1_ok, nmX1⟩
  | 2, hq => cases hq; exact ⟨eg_in_c2, tyX2_ok, nmX2⟩
  | 3, hq => cases hq; exact ⟨eg_in_c3, tyX3_ok, nmX3⟩
  | 4, hq => cases hq; exact ⟨eg_in_c4, tyX4_ok, nmX4⟩
  | c + 5, hq => simp [classes] at hq
end
section
/-! THE ENGINE, 1: typed memory, the judgement -/
/-- size, what stands at an address (an object of class number c, an array of a type and a length), references -/
abbrev eg_G : Type := Nat × (Nat → Option (Nat ⊕ (FieldType × Nat))) × (Nat → Nat → Option Nat)
/-- ints: of fields and of array elements -/
abbrev eg_I : Type := Nat → Nat → Int32
/-- class numbers and slots; array classes; first address of ours; the script: address, length, contents -/
abbrev eg_E : Type := va_G × (FieldType → ClassId) × Nat × Nat × Nat × (Nat → Int32)
def eg_v (ty : FieldType) (r : Option Nat) (x : Int32) : Value := if ty.isReference = true then va_rf r else .int x
def eg_set (M : eg_I) (a j : Nat) (x : Int32) : eg_I := fun q i => if q = a ∧ i = j then x else M q i
def eg_setr (G : eg_G) (a j : Nat) (x : Option Nat) : eg_G := (G.1, G.2.1, fun q i => if q = a ∧ i = j then x else G.2.2 q i)
def eg_R (E : eg_E) (G : eg_G) (M : eg_I) (H : Heap) : Prop :=
  G.1 = H.size ∧ (∀ a c, G.2.1 a = some (.inl c) → E.2.2.1 ≤ a ∧ ∃ r : vw_C, classes[c]? = some r ∧ t_OB a (E.1.1 c) r.2.2 (E.1.2 c) H (fun k => eg_v (eg_fty c k) (G.2.2 a k) (M a k))) ∧
  (∀ a ty n, G.2.1 a = some (.inr (ty, n)) → E.2.2.1 ≤ a ∧ ty ∈ eg_atys ∧ H[a]? = some (arrV (E.2.1 ty) n (fun j => eg_v ty (G.2.2 a j) (M a j))))
theorem eg_R.lt {E : eg_E} {G : eg_G} {M : eg_I} {H : Heap} (h : eg_R E G M H) {a : Nat} {x : Nat ⊕ (FieldType × Nat)} (ha : G.2.1 a = some x) : a < H.size := by
  rcases x with c | ⟨ty, n⟩
  · obtain ⟨-, r, -, cell, h1, -⟩ := h.2.1 a c ha
    exact (Array.getElem?_eq_some_iff.mp h1).1
  · exact (Array.getElem?_eq_some_iff.mp (h.2.2 a ty n ha).2.2).1
/-- one cell changes -/
theorem eg_R.one {E : eg_E} {G G' : eg_G} {M M' : eg_I} {H H' : Heap} {a : Nat} (h : eg_R E G M H) (hz : H'.size = H.size) (ho : ∀ q, q ≠ a → H'[q]? = H[q]?)
    (e1 : G'.1 = G.1) (e2 : G'.2.1 = G.2.1) (e3 : ∀ q, q ≠ a → G'.2.2 q = G.2.2 q) (e4 : ∀ q, q ≠ a → M' q = M q)
    (hc : ∀ c, G.2.1 a = some (.inl c) → ∃ r : vw_C, classes[c]? = some r ∧ t_OB a (E.1.1 c) r.2.2 (E.1.2 c) H' (fun k => eg_v (eg_fty c k) (G'.2.2 a k) (M' a k)))
    (ha : ∀ ty n, G.2.1 a = some (.inr (ty, n)) → H'[a]? = some (arrV (E.2.1 ty) n (fun j => eg_v ty (G'.2.2 a j) (M' a j)))) : eg_R E G' M' H' := by
  refine ⟨by rw [e1, hz]; exact h.1, fun q c hq => ?_, fun q ty n hq => ?_⟩
  · rw [e2] at hq
    obtain ⟨b1, r, b2, b3⟩ := h.2.1 q c hq
    by_cases hqa : q = a
    · subst hqa
      exact ⟨b1, hc c hq⟩
    · refine ⟨b1, r, b2, ?_⟩
      rw [e3 q hqa, e4 q hqa]
      exact b3.kept (ho q hqa)
  · rw [e2] at hq
    obtain ⟨b1, b2, b3⟩ := h.2.2 q ty n hq
    by_cases hqa : q = a
    · subst hqa
      exact ⟨b1, b2, ha ty n hq⟩
    · refine ⟨b1, b2, ?_⟩
      rw [e3 q hqa, e4 q hqa, ho q hqa]
      exact b3
/-- a cell comes -/
def eg_new (G : eg_G) (x : Nat ⊕ (FieldType × Nat)) : eg_G := (G.1 + 1, fun q => if q = G.1 then some x else G.2.1 q, fun q => if q = G.1 then (fun _ => none) else G.2.2 q)
def eg_zero (M : eg_I) (a : Nat) : eg_I := fun q => if q = a then (fun _ => 0) else M q
theorem eg_R.push {E : eg_E} {G : eg_G} {M : eg_I} {H H' : Heap} {x : Nat ⊕ (FieldType × Nat)} (h : eg_R E G M H) (hB : E.2.2.1 ≤ H.size) (hz : H'.size = H.size + 1) (ho : ∀ q, q < H.size → H'[q]? = H[q]?)
    (hc : ∀ c, x = .inl c → ∃ r : vw_C, classes[c]? = some r ∧ t_OB H.size (E.1.1 c) r.2.2 (E.1.2 c) H' (fun k => eg_v (eg_fty c k) none 0))
    (ha : ∀ ty n, x = .inr (ty, n) → ty ∈ eg_atys ∧ H'[H.size]? = some (arrV (E.2.1 ty) n (fun _ => eg_v ty none 0))) : eg_R E (eg_new G x) (eg_zero M H.size) H' := by
  have hs : G.1 = H.size := h.1
  refine ⟨by show G.1 + 1 = _; rw [hs, hz], fun q c hq => ?_, fun q ty n hq => ?_⟩
  · by_cases e : q = H.size
    · subst e
      have hx : x = .inl c := by simpa [eg_new, hs] using hq
      obtain ⟨r, b1, b2⟩ := hc c hx
      refine ⟨hB, r, b1, ?_⟩
      simpa [eg_new, eg_zero, hs] using b2
    · have hq' : G.2.1 q = some (.inl c) := by simpa [eg_new, hs, e] using hq
      obtain ⟨b1, r, b2, b3⟩ := h.2.1 q c hq'
      refine ⟨b1, r, b2, ?_⟩
      have := b3.kept (ho q (h.lt hq'))
      simpa [eg_new, eg_zero, hs, e] using this
  · by_cases e : q = H.size
    · subst e
      have hx : x = .inr (ty, n) := by simpa [eg_new, hs] using hq
      obtain ⟨b1, b2⟩ := ha ty n hx
      refine ⟨hB, b1, ?_⟩
      simpa [eg_new, eg_zero, hs] using b2
    · have hq' : G.2.1 q = some (.inr (ty, n)) := by simpa [eg_new, hs, e] using hq
      obtain ⟨b1, b2, b3⟩ := h.2.2 q ty n hq'
      refine ⟨b1, b2, ?_⟩
      rw [ho q (h.lt hq')]
      simpa [eg_new, eg_zero, hs, e] using b3
theorem eg_nest_warm {w : Cond} (hw : eg_nest w = true) {s U : State} (hW : s.WarmedH U.vm) (h : va_Nw w s) : va_Nw w U := by
  unfold eg_nest at hw
  split at hw
  · exact va_Nw.warmF hW h
  · exact va_Nw.warmM hW h
  · cases hw
def eg_T (E : eg_E) (s : State) : Prop :=
  va_K E.1 classes [] s ∧ (∀ ty, ty ∈ eg_atys → ArrOfT s (E.2.1 ty) ty ∧ s.vm.findClass ("[" ++ ty.toString) = some (E.2.1 ty)) ∧ (∀ w ∈ eg_nw, va_Nw w s) ∧ E.2.2.1 ≤ s.heap.size ∧ va_X E.2.2.2.1 E.2.2.2.2.1 E.2.2.2.2.2 s s.heap ∧ E.2.2.2.1 < E.2.2.1 ∧ ∃ k : Class, s.vm.classes[E.2.1 (.array .int)]? = some k ∧ k.kind = .array (E.2.1 .int) (.array .int)
theorem eg_T.moved {E : eg_E} {s U : State} (h : eg_T E s) (hW : s.WarmedH U.vm) (hB : E.2.2.1 ≤ U.heap.size) (hq : ∀ q, q < E.2.2.1 → U.heap[q]? = s.heap[q]?) : eg_T E U := by
  obtain ⟨h1, h2, h3, h4, h5, h6, k, h7, h8⟩ := h
  obtain ⟨k', h9, h10⟩ := hW.alike.2.2 _ _ h7
  refine ⟨va_K.moved hW.alike h1, fun ty hty => ⟨arrOfT_moved hW.alike (h2 ty hty).1, ?_⟩, fun w hw => eg_nest_warm (eg_nw_nest w hw) hW (h3 w hw), hB, (h5.moved hW.alike).kept (hq _ h6), h6, k', h9, by rw [h10]; exact h8⟩
  rw [hW.alike.findClass]
  exact (h2 ty hty).2
theorem eg_T.calling {E : eg_E} {U : State} {g : JFrame} {mk : MethodId} {a : Array Value} (h : eg_T E U) : eg_T E (U.calling g mk a) := by
  obtain ⟨h1, h2, h3, h4, h5, h6, h7⟩ := h
  refine ⟨va_K.moved (u := U) (U := U.calling g mk a) (Vm.Alike.refl U.vm) h1, fun ty hty => ⟨arrOfT_moved (u := U) (E := U.calling g mk a) (Vm.Alike.refl U.vm) (h2 ty hty).1, (h2 ty hty).2⟩, fun w hw => va_Nw.same ?_ (rfl : U.vm = (U.calling g mk a).vm) (h3 w hw), h4, h5.moved (U := U.calling g mk a) (Vm.Alike.refl U.vm), h6, h7⟩
  have hn := eg_nw_nest w hw
  unfold eg_nest at hn
  split at hn
  · rfl
  · rfl
  · cases hn
/-- locals, by their places -/
def eg_lo : Nat → List (Option Value) → List (Nat × Value)
  | _, [] => []
  | i, none :: r => eg_lo (i + 1) r
  | i, some v :: r => (i, v) :: eg_lo (i + 1) r
theorem eg_lo_mem {q : Nat × Value} : ∀ (lo : List (Option Value)) (i : Nat), q ∈ eg_lo i lo ↔ ∃ k, lo[k]? = some (some q.2) ∧ q.1 = i + k
  | [], i => by simp [eg_lo]
  | none :: r, i => by
    rw [eg_lo, eg_lo_mem r (i + 1)]
    constructor
    · rintro ⟨k, h1, h2⟩
      exact ⟨k + 1, by simpa using h1, by omega⟩
    · rintro ⟨k, h1, h2⟩
      cases k with
      | zero => simp at h1
      | succ k => exact ⟨k, by simpa using h1, by omega⟩
  | some v :: r, i => by
    rw [eg_lo, List.mem_cons, eg_lo_mem r (i + 1)]
    constructor
    · rintro (h | ⟨k, h1, h2⟩)
      · subst h
        exact ⟨0, by simp, by simp⟩
      · exact ⟨k + 1, by simpa using h1, by omega⟩
    · rintro ⟨k, h1, h2⟩
      cases k with
      | zero =>
        left
        obtain ⟨q1, q2⟩ := q
        simp at h1 h2
        rw [h1, h2]
      | succ k => exact Or.inr ⟨k, by simpa using h1, by omega⟩
def eg_has (ls : Array Slot) (nL : Nat) (lo : List (Option Value)) : Prop := lv_has ls nL (eg_lo 0 lo) ∧ (∀ v, some v ∈ lo → v.category = 1) ∧ lo.length = nL
theorem eg_has.get {ls : Array Slot} {nL k : Nat} {lo : List (Option Value)} {v : Value} (h : eg_has ls nL lo) (hk : lo[k]? = some (some v)) : ls[k]? = some (.val v) := h.1.2.2 (k, v) ((eg_lo_mem lo 0).mpr ⟨k, hk, by simp⟩)
theorem eg_has.put {ls : Array Slot} {nL i : Nat} {lo : List (Option Value)} {v : Value} (h : eg_has ls nL lo) (hv : v.category = 1) {ls' : Array Slot} (hi : i < nL) (h' : lv_has ls' nL ((i, v) :: (eg_lo 0 lo).filter (fun q => !(q.1 == i) && !(q.1 + 1 == i && q.2.category == 2)))) : eg_has ls' nL (lo.set i (some v)) := by
  refine ⟨⟨h'.1, h'.2.1, fun q hq => h'.2.2 q ?_⟩, fun w hw => ?_, by rw [List.length_set]; exact h.2.2⟩
  · obtain ⟨k, h1, h2⟩ := (eg_lo_mem _ 0).mp hq
    rw [List.getElem?_set] at h1
    by_cases e : i = k
    · subst e
      have hlt : i < lo.length := by rw [h.2.2]; exact hi
      simp [hlt] at h1
      obtain ⟨q1, q2⟩ := q
      simp at h2 h1
      subst h2; subst h1
      exact List.mem_cons_self
    · rw [if_neg e] at h1
      refine List.mem_cons_of_mem _ (List.mem_filter.mpr ⟨(eg_lo_mem lo 0).mpr ⟨k, h1, h2⟩, ?_⟩)
      have hc : q.2.category = 1 := h.2.1 _ (List.mem_of_getElem? h1)
      have : ¬ q.1 = i := by omega
      simp [this, hc]
  · rcases List.mem_or_eq_of_mem_set hw with h1 | h1
    · exact h.2.1 w h1
    · cases h1
      exact hv
/-- what holds in a frame of method y -/
def eg_F (E : eg_E) (p : Program) (s : State) (m : MethodId) (args : Array Value) (meth : Method) (c : Code) (y : eg_Mt) : Prop :=
  p.tables.exec = Jvm.exec ∧ c.code = y.2.1 ∧ meth.sig.returnType = y.2.2.2 ∧ c.maxLocals = y.2.2.1 ∧ s.vm.findClass y.1.cls = some m.cls ∧ meth.locks = false ∧ meth.name = y.1.name ∧ (∀ w ∈ eg_gw, w.before args s = true) ∧ eg_T E s
def eg_Qc (E : eg_E) (Q : Option Value → eg_G → eg_I → Prop) : Array Value → State → Outcome → State → Prop := fun _ s o t =>
  ∃ (r : Option Value) (G : eg_G) (M : eg_I), o = .returned r ∧ eg_R E G M t.heap ∧ Q r G M ∧ (∀ q, q < E.2.2.1 → t.heap[q]? = s.heap[q]?) ∧ E.2.2.1 ≤ t.heap.size
def eg_J (l : Launch) (E : eg_E) (y : eg_Mt) (d k n : Nat) (Q : Option Value → eg_G → eg_I → Prop) (pc : Nat) (lo : List (Option Value)) (st : List Value) (G : eg_G) (M : eg_I) : Prop :=
  ∀ (p : Program) (e : Env) (R : Room) (s : State) (m : MethodId) (args : Array Value) (below : List Frame) (meth : Method) (c : Code) (H : Heap) (locs : List Loc) (cells slots mc ms : Nat) (ls : Array Slot),
    eg_F E p s m args meth c y → eg_R E G M H → (∀ q, q < E.2.2.1 → H[q]? = s.heap[q]?) → E.2.2.1 ≤ H.size → (∀ q ∈ locs, E.2.2.1 ≤ q.base) → eg_has ls y.2.2.1 lo →
    d ≤ R.frames → d * 64 ≤ R.locals → mc ≤ R.cells → ms ≤ R.slots → cells + k ≤ mc → slots + n ≤ ms →
    W p l e R s m args below meth c H locs cells slots (MQ below (eg_Qc E Q) args s mc ms (fun q => E.2.2.1 ≤ q)) (F0 m pc ls st)
end
section
/-! THE ENGINE, 2: instructions that leave the memory alone -/
theorem eg_iconst {l : Launch} {E : eg_E} {y : eg_Mt} {d k n pc : Nat} {Q : Option Value → eg_G → eg_I → Prop} {lo : List (Option Value)} {st : List Value} {G : eg_G} {M : eg_I} {j : Int} {v : Int32} (hd : decode y.2.1 pc = .ok (.iconst j, 1)) (hv : Int32.ofInt j = v) (kk : eg_J l E y d k n Q (pc + 1) lo (.int v :: st) G M) : eg_J l E y d k n Q (pc) lo (st) G M := by
  intro p e R s m args below meth c H locs cells slots mc ms ls hF hR hQ hz hL hl h1 h2 h3 h4 h5 h6
  exact lv_iconst hF.1 hF.2.1 hd hv (kk p e R s m args below meth c H locs cells slots mc ms ls hF hR hQ hz hL hl h1 h2 h3 h4 h5 h6)
theorem eg_bipush {l : Launch} {E : eg_E} {y : eg_Mt} {d k n pc : Nat} {Q : Option Value → eg_G → eg_I → Prop} {lo : List (Option Value)} {st : List Value} {G : eg_G} {M : eg_I} {j : Int} {v : Int32} (hd : decode y.2.1 pc = .ok (.bipush j, 2)) (hv : (Int8.ofInt j).toInt32 = v) (kk : eg_J l E y d k n Q (pc + 2) lo (.int v :: st) G M) : eg_J l E y d k n Q (pc) lo (st) G M := by
  intro p e R s m args below meth c H locs cells slots mc ms ls hF hR hQ hz hL hl h1 h2 h3 h4 h5 h6
  exact lv_bipush hF.1 hF.2.1 hd hv (kk p e R s m args below meth c H locs cells slots mc ms ls hF hR hQ hz hL hl h1 h2 h3 h4 h5 h6)
theorem eg_sipush {l : Launch} {E : eg_E} {y : eg_Mt} {d k n pc : Nat} {Q : Option Value → eg_G → eg_I → Prop} {lo : List (Option Value)} {st : List Value} {G : eg_G} {M : eg_I} {j : Int} {v : Int32} (hd : decode y.2.1 pc = .ok (.sipush j, 3)) (hv : (Int16.ofInt j).toInt32 = v) (kk : eg_J l E y d k n Q (pc + 3) lo (.int v :: st) G M) : eg_J l E y d k n Q (pc) lo (st) G M := by
  intro p e R s m args below meth c H locs cells slots mc ms ls hF hR hQ hz hL hl h1 h2 h3 h4 h5 h6
  exact lv_sipush hF.1 hF.2.1 hd hv (kk p e R s m args below meth c H locs cells slots mc ms ls hF hR hQ hz hL hl h1 h2 h3 h4 h5 h6)
theorem eg_null {l : Launch} {E : eg_E} {y : eg_Mt} {d k n pc : Nat} {Q : Option Value → eg_G → eg_I → Prop} {lo : List (Option Value)} {st : List Value} {G : eg_G} {M : eg_I}  (hd : decode y.2.1 pc = .ok (.aconst_null, 1))  (kk : eg_J l E y d k n Q (pc + 1) lo (.null :: st) G M) : eg_J l E y d k n Q (pc) lo (st) G M := by
  intro p e R s m args below meth c H locs cells slots mc ms ls hF hR hQ hz hL hl h1 h2 h3 h4 h5 h6
  exact lv_null hF.1 hF.2.1 hd  (kk p e R s m args below meth c H locs cells slots mc ms ls hF hR hQ hz hL hl h1 h2 h3 h4 h5 h6)
theorem eg_iload_n {l : Launch} {E : eg_E} {y : eg_Mt} {d k n pc : Nat} {Q : Option Value → eg_G → eg_I → Prop} {lo : List (Option Value)} {st : List Value} {G : eg_G} {M : eg_I} {j : Fin 4} {i : Nat} {x : Int32} (hd : decode y.2.1 pc = .ok (.iload_n j, 1)) (hi : (j : Nat) = i) (hx : lo[i]? = some (some (.int x))) (kk : eg_J l E y d k n Q (pc + 1) lo (.int x :: st) G M) : eg_J l E y d k n Q (pc) lo (st) G M := by
  intro p e R s m args below meth c H locs cells slots mc ms ls hF hR hQ hz hL hl h1 h2 h3 h4 h5 h6
  exact lv_iload_n hF.1 hF.2.1 hd hi (hl.get hx) (kk p e R s m args below meth c H locs cells slots mc ms ls hF hR hQ hz hL hl h1 h2 h3 h4 h5 h6)
theorem eg_iload {l : Launch} {E : eg_E} {y : eg_Mt} {d k n pc : Nat} {Q : Option Value → eg_G → eg_I → Prop} {lo : List (Option Value)} {st : List Value} {G : eg_G} {M : eg_I} {i : Nat} {x : Int32} (hd : decode y.2.1 pc = .ok (.iload i, 2)) (hx : lo[i]? = some (some (.int x))) (kk : eg_J l E y d k n Q (pc + 2) lo (.int x :: st) G M) : eg_J l E y d k n Q (pc) lo (st) G M := by
  intro p e R s m args below meth c H locs cells slots mc ms ls hF hR hQ hz hL hl h1 h2 h3 h4 h5 h6
  exact lv_iload hF.1 hF.2.1 hd (hl.get hx) (kk p e R s m args below meth c H locs cells slots mc ms ls hF hR hQ hz hL hl h1 h2 h3 h4 h5 h6)
theorem eg_istore_n {l : Launch} {E : eg_E} {y : eg_Mt} {d k n pc : Nat} {Q : Option Value → eg_G → eg_I → Prop} {lo : List (Option Value)} {st : List Value} {G : eg_G} {M : eg_I} {j : Fin 4} {i : Nat} {x : Int32} {lo' : List (Option Value)} (hd : decode y.2.1 pc = .ok (.istore_n j, 1)) (hi : (j : Nat) = i) (hn : i < y.2.2.1) (hs : lo.set i (some (.int x)) = lo') (kk : eg_J l E y d k n Q (pc + 1) lo' (st) G M) : eg_J l E y d k n Q (pc) lo (.int x :: st) G M := by
  intro p e R s m args below meth c H locs cells slots mc ms ls hF hR hQ hz hL hl h1 h2 h3 h4 h5 h6
  subst hs
  exact lv_istore_n hF.1 hF.2.1 hd hi hl.1 hn rfl (fun ls' hl' => kk p e R s m args below meth c H locs cells slots mc ms _ hF hR hQ hz hL (hl.put rfl hn hl') h1 h2 h3 h4 h5 h6)
theorem eg_istore {l : Launch} {E : eg_E} {y : eg_Mt} {d k n pc : Nat} {Q : Option Value → eg_G → eg_I → Prop} {lo : List (Option Value)} {st : List Value} {G : eg_G} {M : eg_I} {i : Nat} {x : Int32} {lo' : List (Option Value)} (hd : decode y.2.1 pc = .ok (.istore i, 2)) (hn : i < y.2.2.1) (hs : lo.set i (some (.int x)) = lo') (kk : eg_J l E y d k n Q (pc + 2) lo' (st) G M) : eg_J l E y d k n Q (pc) lo (.int x :: st) G M := by
  intro p e R s m args below meth c H locs cells slots mc ms ls hF hR hQ hz hL hl h1 h2 h3 h4 h5 h6
  subst hs
  exact lv_istore hF.1 hF.2.1 hd hl.1 hn rfl (fun ls' hl' => kk p e R s m args below meth c H locs cells slots mc ms _ hF hR hQ hz hL (hl.put rfl hn hl') h1 h2 h3 h4 h5 h6)
theorem eg_aload_n {l : Launch} {E : eg_E} {y : eg_Mt} {d k n pc : Nat} {Q : Option Value → eg_G → eg_I → Prop} {lo : List (Option Value)} {st : List Value} {G : eg_G} {M : eg_I} {j : Fin 4} {i : Nat} {x : Nat} (hd : decode y.2.1 pc = .ok (.aload_n j, 1)) (hi : (j : Nat) = i) (hx : lo[i]? = some (some (.ref x))) (kk : eg_J l E y d k n Q (pc + 1) lo (.ref x :: st) G M) : eg_J l E y d k n Q (pc) lo (st) G M := by
  intro p e R s m args below meth c H locs cells slots mc ms ls hF hR hQ hz hL hl h1 h2 h3 h4 h5 h6
  exact lv_aload_n hF.1 hF.2.1 hd hi (hl.get hx) (kk p e R s m args below meth c H locs cells slots mc ms ls hF hR hQ hz hL hl h1 h2 h3 h4 h5 h6)
theorem eg_aload {l : Launch} {E : eg_E} {y : eg_Mt} {d k n pc : Nat} {Q : Option Value → eg_G → eg_I → Prop} {lo : List (Option Value)} {st : List Value} {G : eg_G} {M : eg_I} {i : Nat} {x : Nat} (hd : decode y.2.1 pc = .ok (.aload i, 2)) (hx : lo[i]? = some (some (.ref x))) (kk : eg_J l E y d k n Q (pc + 2) lo (.ref x :: st) G M) : eg_J l E y d k n Q (pc) lo (st) G M := by
  intro p e R s m args below meth c H locs cells slots mc ms ls hF hR hQ hz hL hl h1 h2 h3 h4 h5 h6
  exact lv_aload hF.1 hF.2.1 hd (hl.get hx) (kk p e R s m args below meth c H locs cells slots mc ms ls hF hR hQ hz hL hl h1 h2 h3 h4 h5 h6)
theorem eg_astore_n {l : Launch} {E : eg_E} {y : eg_Mt} {d k n pc : Nat} {Q : Option Value → eg_G → eg_I → Prop} {lo : List (Option Value)} {st : List Value} {G : eg_G} {M : eg_I} {j : Fin 4} {i : Nat} {x : Nat} {lo' : List (Option Value)} (hd : decode y.2.1 pc = .ok (.astore_n j, 1)) (hi : (j : Nat) = i) (hn : i < y.2.2.1) (hs : lo.set i (some (.ref x)) = lo') (kk : eg_J l E y d k n Q (pc + 1) lo' (st) G M) : eg_J l E y d k n Q (pc) lo (.ref x :: st) G M := by
  intro p e R s m args below meth c H locs cells slots mc ms ls hF hR hQ hz hL hl h1 h2 h3 h4 h5 h6
  subst hs
  exact lv_astore_n hF.1 hF.2.1 hd hi hl.1 hn rfl (fun ls' hl' => kk p e R s m args below meth c H locs cells slots mc ms _ hF hR hQ hz hL (hl.put rfl hn hl') h1 h2 h3 h4 h5 h6)
theorem eg_astore {l : Launch} {E : eg_E} {y : eg_Mt} {d k n pc : Nat} {Q : Option Value → eg_G → eg_I → Prop} {lo : List (Option Value)} {st : List Value} {G : eg_G} {M : eg_I} {i : Nat} {x : Nat} {lo' : List (Option Value)} (hd : decode y.2.1 pc = .ok (.astore i, 2)) (hn : i < y.2.2.1) (hs : lo.set i (some (.ref x)) = lo') (kk : eg_J l E y d k n Q (pc + 2) lo' (st) G M) : eg_J l E y d k n Q (pc) lo (.ref x :: st) G M := by
  intro p e R s m args below meth c H locs cells slots mc ms ls hF hR hQ hz hL hl h1 h2 h3 h4 h5 h6
  subst hs
  exact lv_astore hF.1 hF.2.1 hd hl.1 hn rfl (fun ls' hl' => kk p e R s m args below meth c H locs cells slots mc ms _ hF hR hQ hz hL (hl.put rfl hn hl') h1 h2 h3 h4 h5 h6)
theorem eg_iinc {l : Launch} {E : eg_E} {y : eg_Mt} {d k n pc : Nat} {Q : Option Value → eg_G → eg_I → Prop} {lo : List (Option Value)} {st : List Value} {G : eg_G} {M : eg_I} {i : Nat} {j : Int} {x v : Int32} {lo' : List (Option Value)} (hd : decode y.2.1 pc = .ok (.iinc i j, 3)) (hn : i < y.2.2.1) (hx : lo[i]? = some (some (.int x))) (hv : x + Int32.ofInt j = v) (hs : lo.set i (some (.int v)) = lo') (kk : eg_J l E y d k n Q (pc + 3) lo' (st) G M) : eg_J l E y d k n Q (pc) lo (st) G M := by
  intro p e R s m args below meth c H locs cells slots mc ms ls hF hR hQ hz hL hl h1 h2 h3 h4 h5 h6
  subst hs
  obtain ⟨i0, hi0⟩ := List.getElem?_of_mem ((eg_lo_mem (q := (i, .int x)) lo 0).mpr ⟨i, hx, by simp⟩)
  exact lv_iinc hF.1 hF.2.1 hd hl.1 hi0 hv hn rfl (fun ls' hl' => kk p e R s m args below meth c H locs cells slots mc ms _ hF hR hQ hz hL (hl.put rfl hn hl') h1 h2 h3 h4 h5 h6)
theorem eg_iadd {l : Launch} {E : eg_E} {y : eg_Mt} {d k n pc : Nat} {Q : Option Value → eg_G → eg_I → Prop} {lo : List (Option Value)} {st : List Value} {G : eg_G} {M : eg_I} {x z : Int32} (hd : decode y.2.1 pc = .ok (.iadd, 1))  (kk : eg_J l E y d k n Q (pc + 1) lo (.int (x + z) :: st) G M) : eg_J l E y d k n Q (pc) lo (.int z :: .int x :: st) G M := by
  intro p e R s m args below meth c H locs cells slots mc ms ls hF hR hQ hz hL hl h1 h2 h3 h4 h5 h6
  exact lv_iadd hF.1 hF.2.1 hd  (kk p e R s m args below meth c H locs cells slots mc ms ls hF hR hQ hz hL hl h1 h2 h3 h4 h5 h6)
theorem eg_isub {l : Launch} {E : eg_E} {y : eg_Mt} {d k n pc : Nat} {Q : Option Value → eg_G → eg_I → Prop} {lo : List (Option Value)} {st : List Value} {G : eg_G} {M : eg_I} {x z : Int32} (hd : decode y.2.1 pc = .ok (.isub, 1))  (kk : eg_J l E y d k n Q (pc + 1) lo (.int (x - z) :: st) G M) : eg_J l E y d k n Q (pc) lo (.int z :: .int x :: st) G M := by
  intro p e R s m args below meth c H locs cells slots mc ms ls hF hR hQ hz hL hl h1 h2 h3 h4 h5 h6
  exact lv_isub hF.1 hF.2.1 hd  (kk p e R s m args below meth c H locs cells slots mc ms ls hF hR hQ hz hL hl h1 h2 h3 h4 h5 h6)
theorem eg_imul {l : Launch} {E : eg_E} {y : eg_Mt} {d k n pc : Nat} {Q : Option Value → eg_G → eg_I → Prop} {lo : List (Option Value)} {st : List Value} {G : eg_G} {M : eg_I} {x z : Int32} (hd : decode y.2.1 pc = .ok (.imul, 1))  (kk : eg_J l E y d k n Q (pc + 1) lo (.int (x * z) :: st) G M) : eg_J l E y d k n Q (pc) lo (.int z :: .int x :: st) G M := by
  intro p e R s m args below meth c H locs cells slots mc ms ls hF hR hQ hz hL hl h1 h2 h3 h4 h5 h6
  exact lv_imul hF.1 hF.2.1 hd  (kk p e R s m args below meth c H locs cells slots mc ms ls hF hR hQ hz hL hl h1 h2 h3 h4 h5 h6)
theorem eg_iand {l : Launch} {E : eg_E} {y : eg_Mt} {d k n pc : Nat} {Q : Option Value → eg_G → eg_I → Prop} {lo : List (Option Value)} {st : List Value} {G : eg_G} {M : eg_I} {x z : Int32} (hd : decode y.2.1 pc = .ok (.iand, 1))  (kk : eg_J l E y d k n Q (pc + 1) lo (.int (x &&& z) :: st) G M) : eg_J l E y d k n Q (pc) lo (.int z :: .int x :: st) G M := by
  intro p e R s m args below meth c H locs cells slots mc ms ls hF hR hQ hz hL hl h1 h2 h3 h4 h5 h6
  exact lv_iand hF.1 hF.2.1 hd  (kk p e R s m args below meth c H locs cells slots mc ms ls hF hR hQ hz hL hl h1 h2 h3 h4 h5 h6)
theorem eg_ior {l : Launch} {E : eg_E} {y : eg_Mt} {d k n pc : Nat} {Q : Option Value → eg_G → eg_I → Prop} {lo : List (Option Value)} {st : List Value} {G : eg_G} {M : eg_I} {x z : Int32} (hd : decode y.2.1 pc = .ok (.ior, 1))  (kk : eg_J l E y d k n Q (pc + 1) lo (.int (x ||| z) :: st) G M) : eg_J l E y d k n Q (pc) lo (.int z :: .int x :: st) G M := by
  intro p e R s m args below meth c H locs cells slots mc ms ls hF hR hQ hz hL hl h1 h2 h3 h4 h5 h6
  exact lv_ior hF.1 hF.2.1 hd  (kk p e R s m args below meth c H locs cells slots mc ms ls hF hR hQ hz hL hl h1 h2 h3 h4 h5 h6)
theorem eg_ixor {l : Launch} {E : eg_E} {y : eg_Mt} {d k n pc : Nat} {Q : Option Value → eg_G → eg_I → Prop} {lo : List (Option Value)} {st : List Value} {G : eg_G} {M : eg_I} {x z : Int32} (hd : decode y.2.1 pc = .ok (.ixor, 1))  (kk : eg_J l E y d k n Q (pc + 1) lo (.int (x ^^^ z) :: st) G M) : eg_J l E y d k n Q (pc) lo (.int z :: .int x :: st) G M := by
  intro p e R s m args below meth c H locs cells slots mc ms ls hF hR hQ hz hL hl h1 h2 h3 h4 h5 h6
  exact lv_ixor hF.1 hF.2.1 hd  (kk p e R s m args below meth c H locs cells slots mc ms ls hF hR hQ hz hL hl h1 h2 h3 h4 h5 h6)
theorem eg_ishl {l : Launch} {E : eg_E} {y : eg_Mt} {d k n pc : Nat} {Q : Option Value → eg_G → eg_I → Prop} {lo : List (Option Value)} {st : List Value} {G : eg_G} {M : eg_I} {x z : Int32} (hd : decode y.2.1 pc = .ok (.ishl, 1))  (kk : eg_J l E y d k n Q (pc + 1) lo (.int (x <<< (z &&& 31)) :: st) G M) : eg_J l E y d k n Q (pc) lo (.int z :: .int x :: st) G M := by
  intro p e R s m args below meth c H locs cells slots mc ms ls hF hR hQ hz hL hl h1 h2 h3 h4 h5 h6
  exact lv_ishl hF.1 hF.2.1 hd  (kk p e R s m args below meth c H locs cells slots mc ms ls hF hR hQ hz hL hl h1 h2 h3 h4 h5 h6)
theorem eg_ishr {l : Launch} {E : eg_E} {y : eg_Mt} {d k n pc : Nat} {Q : Option Value → eg_G → eg_I → Prop} {lo : List (Option Value)} {st : List Value} {G : eg_G} {M : eg_I} {x z : Int32} (hd : decode y.2.1 pc = .ok (.ishr, 1))  (kk : eg_J l E y d k n Q (pc + 1) lo (.int (x >>> (z &&& 31)) :: st) G M) : eg_J l E y d k n Q (pc) lo (.int z :: .int x :: st) G M := by
  intro p e R s m args below meth c H locs cells slots mc ms ls hF hR hQ hz hL hl h1 h2 h3 h4 h5 h6
  exact lv_ishr hF.1 hF.2.1 hd  (kk p e R s m args below meth c H locs cells slots mc ms ls hF hR hQ hz hL hl h1 h2 h3 h4 h5 h6)
theorem eg_iushr {l : Launch} {E : eg_E} {y : eg_Mt} {d k n pc : Nat} {Q : Option Value → eg_G → eg_I → Prop} {lo : List (Option Value)} {st : List Value} {G : eg_G} {M : eg_I} {x z : Int32} (hd : decode y.2.1 pc = .ok (.iushr, 1))  (kk : eg_J l E y d k n Q (pc + 1) lo (.int ((x.toUInt32 >>> (z.toUInt32 &&& Int32.toUInt32 31)).toInt32) :: st) G M) : eg_J l E y d k n Q (pc) lo (.int z :: .int x :: st) G M := by
  intro p e R s m args below meth c H locs cells slots mc ms ls hF hR hQ hz hL hl h1 h2 h3 h4 h5 h6
  exact lv_iushr hF.1 hF.2.1 hd rfl (kk p e R s m args below meth c H locs cells slots mc ms ls hF hR hQ hz hL hl h1 h2 h3 h4 h5 h6)
theorem eg_idiv {l : Launch} {E : eg_E} {y : eg_Mt} {d k n pc : Nat} {Q : Option Value → eg_G → eg_I → Prop} {lo : List (Option Value)} {st : List Value} {G : eg_G} {M : eg_I} {x z : Int32} (hd : decode y.2.1 pc = .ok (.idiv, 1)) (hne : ¬ z = 0) (kk : eg_J l E y d k n Q (pc + 1) lo (.int (x / z) :: st) G M) : eg_J l E y d k n Q (pc) lo (.int z :: .int x :: st) G M := by
  intro p e R s m args below meth c H locs cells slots mc ms ls hF hR hQ hz hL hl h1 h2 h3 h4 h5 h6
  exact lv_idiv hF.1 hF.2.1 hd hne (kk p e R s m args below meth c H locs cells slots mc ms ls hF hR hQ hz hL hl h1 h2 h3 h4 h5 h6)
theorem eg_irem {l : Launch} {E : eg_E} {y : eg_Mt} {d k n pc : Nat} {Q : Option Value → eg_G → eg_I → Prop} {lo : List (Option Value)} {st : List Value} {G : eg_G} {M : eg_I} {x z : Int32} (hd : decode y.2.1 pc = .ok (.irem, 1)) (hne : ¬ z = 0) (kk : eg_J l E y d k n Q (pc + 1) lo (.int (x - x / z * z) :: st) G M) : eg_J l E y d k n Q (pc) lo (.int z :: .int x :: st) G M := by
  intro p e R s m args below meth c H locs cells slots mc ms ls hF hR hQ hz hL hl h1 h2 h3 h4 h5 h6
  exact lv_irem hF.1 hF.2.1 hd hne (kk p e R s m args below meth c H locs cells slots mc ms ls hF hR hQ hz hL hl h1 h2 h3 h4 h5 h6)
theorem eg_ineg {l : Launch} {E : eg_E} {y : eg_Mt} {d k n pc : Nat} {Q : Option Value → eg_G → eg_I → Prop} {lo : List (Option Value)} {st : List Value} {G : eg_G} {M : eg_I} {x : Int32} (hd : decode y.2.1 pc = .ok (.ineg, 1))  (kk : eg_J l E y d k n Q (pc + 1) lo (.int (-x) :: st) G M) : eg_J l E y d k n Q (pc) lo (.int x :: st) G M := by
  intro p e R s m args below meth c H locs cells slots mc ms ls hF hR hQ hz hL hl h1 h2 h3 h4 h5 h6
  exact lv_ineg hF.1 hF.2.1 hd  (kk p e R s m args below meth c H locs cells slots mc ms ls hF hR hQ hz hL hl h1 h2 h3 h4 h5 h6)
theorem eg_dup {l : Launch} {E : eg_E} {y : eg_Mt} {d k n pc : Nat} {Q : Option Value → eg_G → eg_I → Prop} {lo : List (Option Value)} {st : List Value} {G : eg_G} {M : eg_I} {va : Value} (hd : decode y.2.1 pc = .ok (.dup, 1)) (hva : va.category = 1) (kk : eg_J l E y d k n Q (pc + 1) lo (va :: va :: st) G M) : eg_J l E y d k n Q (pc) lo (va :: st) G M := by
  intro p e R s m args below meth c H locs cells slots mc ms ls hF hR hQ hz hL hl h1 h2 h3 h4 h5 h6
  exact lv_dup hF.1 hF.2.1 hd hva (kk p e R s m args below meth c H locs cells slots mc ms ls hF hR hQ hz hL hl h1 h2 h3 h4 h5 h6)
theorem eg_pop {l : Launch} {E : eg_E} {y : eg_Mt} {d k n pc : Nat} {Q : Option Value → eg_G → eg_I → Prop} {lo : List (Option Value)} {st : List Value} {G : eg_G} {M : eg_I} {va : Value} (hd : decode y.2.1 pc = .ok (.pop, 1)) (hva : va.category = 1) (kk : eg_J l E y d k n Q (pc + 1) lo (st) G M) : eg_J l E y d k n Q (pc) lo (va :: st) G M := by
  intro p e R s m args below meth c H locs cells slots mc ms ls hF hR hQ hz hL hl h1 h2 h3 h4 h5 h6
  exact lv_pop hF.1 hF.2.1 hd hva (kk p e R s m args below meth c H locs cells slots mc ms ls hF hR hQ hz hL hl h1 h2 h3 h4 h5 h6)
theorem eg_dup_x1 {l : Launch} {E : eg_E} {y : eg_Mt} {d k n pc : Nat} {Q : Option Value → eg_G → eg_I → Prop} {lo : List (Option Value)} {st : List Value} {G : eg_G} {M : eg_I} {va vb : Value} (hd : decode y.2.1 pc = .ok (.dup_x1, 1)) (hva : va.category = 1) (hvb : vb.category = 1) (kk : eg_J l E y d k n Q (pc + 1) lo (va :: vb :: va :: st) G M) : eg_J l E y d k n Q (pc) lo (va :: vb :: st) G M := by
  intro p e R s m args below meth c H locs cells slots mc ms ls hF hR hQ hz hL hl h1 h2 h3 h4 h5 h6
  exact lv_dup_x1 hF.1 hF.2.1 hd hva hvb (kk p e R s m args below meth c H locs cells slots mc ms ls hF hR hQ hz hL hl h1 h2 h3 h4 h5 h6)
theorem eg_dup_x2 {l : Launch} {E : eg_E} {y : eg_Mt} {d k n pc : Nat} {Q : Option Value → eg_G → eg_I → Prop} {lo : List (Option Value)} {st : List Value} {G : eg_G} {M : eg_I} {va vb vd : Value} (hd : decode y.2.1 pc = .ok (.dup_x2, 1)) (hva : va.category = 1) (hvb : vb.category = 1) (hvd : vd.category = 1) (kk : eg_J l E y d k n Q (pc + 1) lo (va :: vb :: vd :: va :: st) G M) : eg_J l E y d k n Q (pc) lo (va :: vb :: vd :: st) G M := by
  intro p e R s m args below meth c H locs cells slots mc ms ls hF hR hQ hz hL hl h1 h2 h3 h4 h5 h6
  exact lv_dup_x2 hF.1 hF.2.1 hd hva hvb hvd (kk p e R s m args below meth c H locs cells slots mc ms ls hF hR hQ hz hL hl h1 h2 h3 h4 h5 h6)
theorem eg_dup2 {l : Launch} {E : eg_E} {y : eg_Mt} {d k n pc : Nat} {Q : Option Value → eg_G → eg_I → Prop} {lo : List (Option Value)} {st : List Value} {G : eg_G} {M : eg_I} {va vb : Value} (hd : decode y.2.1 pc = .ok (.dup2, 1)) (hva : va.category = 1) (hvb : vb.category = 1) (kk : eg_J l E y d k n Q (pc + 1) lo (va :: vb :: va :: vb :: st) G M) : eg_J l E y d k n Q (pc) lo (va :: vb :: st) G M := by
  intro p e R s m args below meth c H locs cells slots mc ms ls hF hR hQ hz hL hl h1 h2 h3 h4 h5 h6
  exact lv_dup2_11 hF.1 hF.2.1 hd hva hvb (kk p e R s m args below meth c H locs cells slots mc ms ls hF hR hQ hz hL hl h1 h2 h3 h4 h5 h6)
theorem eg_if_eq {l : Launch} {E : eg_E} {y : eg_Mt} {d k n pc : Nat} {Q : Option Value → eg_G → eg_I → Prop} {lo : List (Option Value)} {st : List Value} {G : eg_G} {M : eg_I} {x : Int32} {off : Int} (tgt : Nat) (hd : decode y.2.1 pc = .ok (.ifCond .eq off, 3)) (ht : (pc : Int) + off = (tgt : Int)) (kt : x = 0 → eg_J l E y d k n Q (tgt) lo (st) G M) (kf : ¬ (x = 0) → eg_J l E y d k n Q (pc + 3) lo (st) G M) : eg_J l E y d k n Q (pc) lo (.int x :: st) G M := by
  intro p e R s m args below meth c H locs cells slots mc ms ls hF hR hQ hz hL hl h1 h2 h3 h4 h5 h6
  exact lv_if_eq hF.1 hF.2.1 hd ht (fun hc => kt hc p e R s m args below meth c H locs cells slots mc ms ls hF hR hQ hz hL hl h1 h2 h3 h4 h5 h6) (fun hc => kf hc p e R s m args below meth c H locs cells slots mc ms ls hF hR hQ hz hL hl h1 h2 h3 h4 h5 h6)
theorem eg_icmp_eq {l : Launch} {E : eg_E} {y : eg_Mt} {d k n pc : Nat} {Q : Option Value → eg_G → eg_I → Prop} {lo : List (Option Value)} {st : List Value} {G : eg_G} {M : eg_I} {x z : Int32} {off : Int} (tgt : Nat) (hd : decode y.2.1 pc = .ok (.if_icmp .eq off, 3)) (ht : (pc : Int) + off = (tgt : Int)) (kt : x = z → eg_J l E y d k n Q (tgt) lo (st) G M) (kf : ¬ (x = z) → eg_J l E y d k n Q (pc + 3) lo (st) G M) : eg_J l E y d k n Q (pc) lo (.int z :: .int x :: st) G M := by
  intro p e R s m args below meth c H locs cells slots mc ms ls hF hR hQ hz hL hl h1 h2 h3 h4 h5 h6
  exact lv_icmp_eq hF.1 hF.2.1 hd ht (fun hc => kt hc p e R s m args below meth c H locs cells slots mc ms ls hF hR hQ hz hL hl h1 h2 h3 h4 h5 h6) (fun hc => kf hc p e R s m args below meth c H locs cells slots mc ms ls hF hR hQ hz hL hl h1 h2 h3 h4 h5 h6)
theorem eg_if_ne {l : Launch} {E : eg_E} {y : eg_Mt} {d k n pc : Nat} {Q : Option Value → eg_G → eg_I → Prop} {lo : List (Option Value)} {st : List Value} {G : eg_G} {M : eg_I} {x : Int32} {off : Int} (tgt : Nat) (hd : decode y.2.1 pc = .ok (.ifCond .ne off, 3)) (ht : (pc : Int) + off = (tgt : Int)) (kt : ¬ x = 0 → eg_J l E y d k n Q (tgt) lo (st) G M) (kf : x = 0 → eg_J l E y d k n Q (pc + 3) lo (st) G M) : eg_J l E y d k n Q (pc) lo (.int x :: st) G M := by
  intro p e R s m args below meth c H locs cells slots mc ms ls hF hR hQ hz hL hl h1 h2 h3 h4 h5 h6
  exact lv_if_ne hF.1 hF.2.1 hd ht (fun hc => kt hc p e R s m args below meth c H locs cells slots mc ms ls hF hR hQ hz hL hl h1 h2 h3 h4 h5 h6) (fun hc => kf hc p e R s m args below meth c H locs cells slots mc ms ls hF hR hQ hz hL hl h1 h2 h3 h4 h5 h6)
theorem eg_icmp_ne {l : Launch} {E : eg_E} {y : eg_Mt} {d k n pc : Nat} {Q : Option Value → eg_G → eg_I → Prop} {lo : List (Option Value)} {st : List Value} {G : eg_G} {M : eg_I} {x z : Int32} {off : Int} (tgt : Nat) (hd : decode y.2.1 pc = .ok (.if_icmp .ne off, 3)) (ht : (pc : Int) + off = (tgt : Int)) (kt : ¬ x = z → eg_J l E y d k n Q (tgt) lo (st) G M) (kf : x = z → eg_J l E y d k n Q (pc + 3) lo (st) G M) : eg_J l E y d k n Q (pc) lo (.int z :: .int x :: st) G M := by
  intro p e R s m args below meth c H locs cells slots mc ms ls hF hR hQ hz hL hl h1 h2 h3 h4 h5 h6
  exact lv_icmp_ne hF.1 hF.2.1 hd ht (fun hc => kt hc p e R s m args below meth c H locs cells slots mc ms ls hF hR hQ hz hL hl h1 h2 h3 h4 h5 h6) (fun hc => kf hc p e R s m args below meth c H locs cells slots mc ms ls hF hR hQ hz hL hl h1 h2 h3 h4 h5 h6)
theorem eg_if_lt {l : Launch} {E : eg_E} {y : eg_Mt} {d k n pc : Nat} {Q : Option Value → eg_G → eg_I → Prop} {lo : List (Option Value)} {st : List Value} {G : eg_G} {M : eg_I} {x : Int32} {off : Int} (tgt : Nat) (hd : decode y.2.1 pc = .ok (.ifCond .lt off, 3)) (ht : (pc : Int) + off = (tgt : Int)) (kt : x < 0 → eg_J l E y d k n Q (tgt) lo (st) G M) (kf : ¬ (x < 0) → eg_J l E y d k n Q (pc + 3) lo (st) G M) : eg_J l E y d k n Q (pc) lo (.int x :: st) G M := by
  intro p e R s m args below meth c H locs cells slots mc ms ls hF hR hQ hz hL hl h1 h2 h3 h4 h5 h6
  exact lv_if_lt hF.1 hF.2.1 hd ht (fun hc => kt hc p e R s m args below meth c H locs cells slots mc ms ls hF hR hQ hz hL hl h1 h2 h3 h4 h5 h6) (fun hc => kf hc p e R s m args below meth c H locs cells slots mc ms ls hF hR hQ hz hL hl h1 h2 h3 h4 h5 h6)
theorem eg_icmp_lt {l : Launch} {E : eg_E} {y : eg_Mt} {d k n pc : Nat} {Q : Option Value → eg_G → eg_I → Prop} {lo : List (Option Value)} {st : List Value} {G : eg_G} {M : eg_I} {x z : Int32} {off : Int} (tgt : Nat) (hd : decode y.2.1 pc = .ok (.if_icmp .lt off, 3)) (ht : (pc : Int) + off = (tgt : Int)) (kt : x < z → eg_J l E y d k n Q (tgt) lo (st) G M) (kf : ¬ (x < z) → eg_J l E y d k n Q (pc + 3) lo (st) G M) : eg_J l E y d k n Q (pc) lo (.int z :: .int x :: st) G M := by
  intro p e R s m args below meth c H locs cells slots mc ms ls hF hR hQ hz hL hl h1 h2 h3 h4 h5 h6
  exact lv_icmp_lt hF.1 hF.2.1 hd ht (fun hc => kt hc p e R s m args below meth c H locs cells slots mc ms ls hF hR hQ hz hL hl h1 h2 h3 h4 h5 h6) (fun hc => kf hc p e R s m args below meth c H locs cells slots mc ms ls hF hR hQ hz hL hl h1 h2 h3 h4 h5 h6)
theorem eg_if_ge {l : Launch} {E : eg_E} {y : eg_Mt} {d k n pc : Nat} {Q : Option Value → eg_G → eg_I → Prop} {lo : List (Option Value)} {st : List Value} {G : eg_G} {M : eg_I} {x : Int32} {off : Int} (tgt : Nat) (hd : decode y.2.1 pc = .ok (.ifCond .ge off, 3)) (ht : (pc : Int) + off = (tgt : Int)) (kt : 0 ≤ x → eg_J l E y d k n Q (tgt) lo (st) G M) (kf : ¬ (0 ≤ x) → eg_J l E y d k n Q (pc + 3) lo (st) G M) : eg_J l E y d k n Q (pc) lo (.int x :: st) G M := by
  intro p e R s m args below meth c H locs cells slots mc ms ls hF hR hQ hz hL hl h1 h2 h3 h4 h5 h6
  exact lv_if_ge hF.1 hF.2.1 hd ht (fun hc => kt hc p e R s m args below meth c H locs cells slots mc ms ls hF hR hQ hz hL hl h1 h2 h3 h4 h5 h6) (fun hc => kf hc p e R s m args below meth c H locs cells slots mc ms ls hF hR hQ hz hL hl h1 h2 h3 h4 h5 h6)
theorem eg_icmp_ge {l : Launch} {E : eg_E} {y : eg_Mt} {d k n pc : Nat} {Q : Option Value → eg_G → eg_I → Prop} {lo : List (Option Value)} {st : List Value} {G : eg_G} {M : eg_I} {x z : Int32} {off : Int} (tgt : Nat) (hd : decode y.2.1 pc = .ok (.if_icmp .ge off, 3)) (ht : (pc : Int) + off = (tgt : Int)) (kt : z ≤ x → eg_J l E y d k n Q (tgt) lo (st) G M) (kf : ¬ (z ≤ x) → eg_J l E y d k n Q (pc + 3) lo (st) G M) : eg_J l E y d k n Q (pc) lo (.int z :: .int x :: st) G M := by
  intro p e R s m args below meth c H locs cells slots mc ms ls hF hR hQ hz hL hl h1 h2 h3 h4 h5 h6
  exact lv_icmp_ge hF.1 hF.2.1 hd ht (fun hc => kt hc p e R s m args below meth c H locs cells slots mc ms ls hF hR hQ hz hL hl h1 h2 h3 h4 h5 h6) (fun hc => kf hc p e R s m args below meth c H locs cells slots mc ms ls hF hR hQ hz hL hl h1 h2 h3 h4 h5 h6)
theorem eg_if_gt {l : Launch} {E : eg_E} {y : eg_Mt} {d k n pc : Nat} {Q : Option Value → eg_G → eg_I → Prop} {lo : List (Option Value)} {st : List Value} {G : eg_G} {M : eg_I} {x : Int32} {off : Int} (tgt : Nat) (hd : decode y.2.1 pc = .ok (.ifCond .gt off, 3)) (ht : (pc : Int) + off = (tgt : Int)) (kt : 0 < x → eg_J l E y d k n Q (tgt) lo (st) G M) (kf : ¬ (0 < x) → eg_J l E y d k n Q (pc + 3) lo (st) G M) : eg_J l E y d k n Q (pc) lo (.int x :: st) G M := by
  intro p e R s m args below meth c H locs cells slots mc ms ls hF hR hQ hz hL hl h1 h2 h3 h4 h5 h6
  exact lv_if_gt hF.1 hF.2.1 hd ht (fun hc => kt hc p e R s m args below meth c H locs cells slots mc ms ls hF hR hQ hz hL hl h1 h2 h3 h4 h5 h6) (fun hc => kf hc p e R s m args below meth c H locs cells slots mc ms ls hF hR hQ hz hL hl h1 h2 h3 h4 h5 h6)
theorem eg_icmp_gt {l : Launch} {E : eg_E} {y : eg_Mt} {d k n pc : Nat} {Q : Option Value → eg_G → eg_I → Prop} {lo : List (Option Value)} {st : List Value} {G : eg_G} {M : eg_I} {x z : Int32} {off : Int} (tgt : Nat) (hd : decode y.2.1 pc = .ok (.if_icmp .gt off, 3)) (ht : (pc : Int) + off = (tgt : Int)) (kt : z < x → eg_J l E y d k n Q (tgt) lo (st) G M) (kf : ¬ (z < x) → eg_J l E y d k n Q (pc + 3) lo (st) G M) : eg_J l E y d k n Q (pc) lo (.int z :: .int x :: st) G M := by
  intro p e R s m args below meth c H locs cells slots mc ms ls hF hR hQ hz hL hl h1 h2 h3 h4 h5 h6
  exact lv_icmp_gt hF.1 hF.2.1 hd ht (fun hc => kt hc p e R s m args below meth c H locs cells slots mc ms ls hF hR hQ hz hL hl h1 h2 h3 h4 h5 h6) (fun hc => kf hc p e R s m args below meth c H locs cells slots mc ms ls hF hR hQ hz hL hl h1 h2 h3 h4 h5 h6)
theorem eg_if_le {l : Launch} {E : eg_E} {y : eg_Mt} {d k n pc : Nat} {Q : Option Value → eg_G → eg_I → Prop} {lo : List (Option Value)} {st : List Value} {G : eg_G} {M : eg_I} {x : Int32} {off : Int} (tgt : Nat) (hd : decode y.2.1 pc = .ok (.ifCond .le off, 3)) (ht : (pc : Int) + off = (tgt : Int)) (kt : x ≤ 0 → eg_J l E y d k n Q (tgt) lo (st) G M) (kf : ¬ (x ≤ 0) → eg_J l E y d k n Q (pc + 3) lo (st) G M) : eg_J l E y d k n Q (pc) lo (.int x :: st) G M := by
  intro p e R s m args below meth c H locs cells slots mc ms ls hF hR hQ hz hL hl h1 h2 h3 h4 h5 h6
  exact lv_if_le hF.1 hF.2.1 hd ht (fun hc => kt hc p e R s m args below meth c H locs cells slots mc ms ls hF hR hQ hz hL hl h1 h2 h3 h4 h5 h6) (fun hc => kf hc p e R s m args below meth c H locs cells slots mc ms ls hF hR hQ hz hL hl h1 h2 h3 h4 h5 h6)
theorem eg_icmp_le {l : Launch} {E : eg_E} {y : eg_Mt} {d k n pc : Nat} {Q : Option Value → eg_G → eg_I → Prop} {lo : List (Option Value)} {st : List Value} {G : eg_G} {M : eg_I} {x z : Int32} {off : Int} (tgt : Nat) (hd : decode y.2.1 pc = .ok (.if_icmp .le off, 3)) (ht : (pc : Int) + off = (tgt : Int)) (kt : x ≤ z → eg_J l E y d k n Q (tgt) lo (st) G M) (kf : ¬ (x ≤ z) → eg_J l E y d k n Q (pc + 3) lo (st) G M) : eg_J l E y d k n Q (pc) lo (.int z :: .int x :: st) G M := by
  intro p e R s m args below meth c H locs cells slots mc ms ls hF hR hQ hz hL hl h1 h2 h3 h4 h5 h6
  exact lv_icmp_le hF.1 hF.2.1 hd ht (fun hc => kt hc p e R s m args below meth c H locs cells slots mc ms ls hF hR hQ hz hL hl h1 h2 h3 h4 h5 h6) (fun hc => kf hc p e R s m args below meth c H locs cells slots mc ms ls hF hR hQ hz hL hl h1 h2 h3 h4 h5 h6)
theorem eg_goto {l : Launch} {E : eg_E} {y : eg_Mt} {d k n pc : Nat} {Q : Option Value → eg_G → eg_I → Prop} {lo : List (Option Value)} {st : List Value} {G : eg_G} {M : eg_I} {off : Int} (tgt : Nat) (hd : decode y.2.1 pc = .ok (.goto off, 3)) (ht : (pc : Int) + off = (tgt : Int)) (kk : eg_J l E y d k n Q (tgt) lo (st) G M) : eg_J l E y d k n Q (pc) lo (st) G M := by
  intro p e R s m args below meth c H locs cells slots mc ms ls hF hR hQ hz hL hl h1 h2 h3 h4 h5 h6
  exact lv_goto hF.1 hF.2.1 hd ht (kk p e R s m args below meth c H locs cells slots mc ms ls hF hR hQ hz hL hl h1 h2 h3 h4 h5 h6)
theorem eg_tableOut {l : Launch} {E : eg_E} {y : eg_Mt} {d k n pc : Nat} {Q : Option Value → eg_G → eg_I → Prop} {lo : List (Option Value)} {st : List Value} {G : eg_G} {M : eg_I} {dflt lw hi : Int} {offs : Array Int} {len : Nat} {x : Int32} (tgt : Nat) (hd : decode y.2.1 pc = .ok (.tableswitch dflt lw hi offs, len)) (h : x.toInt < lw ∨ hi < x.toInt) (ht : (pc : Int) + dflt = (tgt : Int)) (kk : eg_J l E y d k n Q (tgt) lo (st) G M) : eg_J l E y d k n Q (pc) lo (.int x :: st) G M := by
  intro p e R s m args below meth c H locs cells slots mc ms ls hF hR hQ hz hL hl h1 h2 h3 h4 h5 h6
  exact lv_tableOut hF.1 hF.2.1 hd h ht (kk p e R s m args below meth c H locs cells slots mc ms ls hF hR hQ hz hL hl h1 h2 h3 h4 h5 h6)
theorem eg_tableIn {l : Launch} {E : eg_E} {y : eg_Mt} {d k n pc : Nat} {Q : Option Value → eg_G → eg_I → Prop} {lo : List (Option Value)} {st : List Value} {G : eg_G} {M : eg_I} {dflt lw hi : Int} {offs : Array Int} {len : Nat} {x : Int32} {off : Int} (tgt : Nat) (hd : decode y.2.1 pc = .ok (.tableswitch dflt lw hi offs, len)) (g1 : ¬ x.toInt < lw) (g2 : ¬ hi < x.toInt) (ho : offs[(x.toInt - lw).toNat]? = some off) (ht : (pc : Int) + off = (tgt : Int)) (kk : eg_J l E y d k n Q (tgt) lo (st) G M) : eg_J l E y d k n Q (pc) lo (.int x :: st) G M := by
  intro p e R s m args below meth c H locs cells slots mc ms ls hF hR hQ hz hL hl h1 h2 h3 h4 h5 h6
  exact lv_tableIn hF.1 hF.2.1 hd g1 g2 ho ht (kk p e R s m args below meth c H locs cells slots mc ms ls hF hR hQ hz hL hl h1 h2 h3 h4 h5 h6)
theorem eg_lookup {l : Launch} {E : eg_E} {y : eg_Mt} {d k n pc : Nat} {Q : Option Value → eg_G → eg_I → Prop} {lo : List (Option Value)} {st : List Value} {G : eg_G} {M : eg_I} {dflt : Int} {ps : Array (Int × Int)} {len : Nat} {x : Int32} {off : Int} (tgt : Nat) (hd : decode y.2.1 pc = .ok (.lookupswitch dflt ps, len)) (hp : (ps.toList.zip (ps.toList.drop 1)).all (fun (a, next) => a.1 < next.1) = true) (ho : Op.lookupswitch.offset ps.toList dflt x.toInt = off) (ht : (pc : Int) + off = (tgt : Int)) (kk : eg_J l E y d k n Q (tgt) lo (st) G M) : eg_J l E y d k n Q (pc) lo (.int x :: st) G M := by
  intro p e R s m args below meth c H locs cells slots mc ms ls hF hR hQ hz hL hl h1 h2 h3 h4 h5 h6
  exact lv_lookup hF.1 hF.2.1 hd hp ho ht (kk p e R s m args below meth c H locs cells slots mc ms ls hF hR hQ hz hL hl h1 h2 h3 h4 h5 h6)
end
section
/-! THE ENGINE, 3: memory, returns -/
def eg_FL (own : String) (idx ci fi : Nat) (fin : Bool) : Prop := ∃ (C : String) (T : u_T) (N : Nat), classes[ci]? = some (C, T, N) ∧ fi < N ∧ (T fi).2.2.2 = fin ∧ (fin = true → (T fi).1 = own) ∧
  (Cond.fieldLink own idx (T fi).1 (T fi).2.1 (T fi).2.2.1 ∈ eg_gw ∨ (fin = false ∧ ∃ host, Cond.fieldLinkNest own idx (T fi).1 (T fi).2.1 (T fi).2.2.1 host ∈ eg_nw))
def eg_FG (own : String) (idx ci fi : Nat) : Prop := ∃ (C : String) (T : u_T) (N : Nat), classes[ci]? = some (C, T, N) ∧ fi < N ∧
  (Cond.fieldLink own idx (T fi).1 (T fi).2.1 (T fi).2.2.1 ∈ eg_gw ∨ ∃ host, Cond.fieldLinkNest own idx (T fi).1 (T fi).2.1 (T fi).2.2.1 host ∈ eg_nw)
theorem eg_v_int {ty : FieldType} {r : Option Nat} {x : Int32} (h : ty.isReference = false) : eg_v ty r x = .int x := by simp [eg_v, h]
theorem eg_v_ref {ty : FieldType} {r : Option Nat} {x : Int32} (h : ty.isReference = true) : eg_v ty r x = va_rf r := by simp [eg_v, h]
theorem eg_set_ne {M : eg_I} {a j : Nat} {x : Int32} {q : Nat} (h : q ≠ a) : eg_set M a j x q = M q := by funext i; simp [eg_set, h]
theorem eg_setr_ne {G : eg_G} {a j : Nat} {x : Option Nat} {q : Nat} (h : q ≠ a) : (eg_setr G a j x).2.2 q = G.2.2 q := by funext i; simp [eg_setr, h]
theorem eg_getf {l : Launch} {E : eg_E} {y : eg_Mt} {d k n pc : Nat} {Q : Option Value → eg_G → eg_I → Prop} {lo : List (Option Value)} {st : List Value} {G : eg_G} {M : eg_I} {idx ci fi a : Nat} {v : Value} (hfl : eg_FG y.1.cls idx ci fi) (ha : G.2.1 a = some (.inl ci)) (hd : decode y.2.1 pc = .ok (.getfield idx, 3)) (hv : eg_v (eg_fty ci fi) (G.2.2 a fi) (M a fi) = v) (kk : eg_J l E y d k n Q (pc + 3) lo (v :: st) G M) : eg_J l E y d k n Q (pc) lo (.ref a :: st) G M := by
  intro p e R s m args below meth c H locs cells slots mc ms ls hF hR hQ hz hL hl h1 h2 h3 h4 h5 h6
  obtain ⟨C, T, N, hc, hk, hlk⟩ := hfl
  obtain ⟨hx, hb, hr, hml, hown, hlk0, hnm, hgw, hT⟩ := id hF
  obtain ⟨-, r, hr1, cell, q1, q2, q3, q4⟩ := hR.2.1 a ci ha
  have hrr : r = (C, T, N) := Option.some.inj (hr1.symm.trans hc)
  subst hrr
  obtain ⟨hS, hfc, kC, hkC, hkind⟩ := hT.1.1 ci _ hc
  obtain ⟨cf, kf, i1, f, hi, hsl⟩ := hS fi hk
  have hst := (u_facts hfc hkC (u_lays hgw (eg_cl_ok ci _ hc).1 hk) hi).1
  have hslot : cell.slots[f.slot]? = some v := by rw [hsl, ← hv]; exact q4 fi hk
  have hkn : cell.vm ≠ .unknown := by rw [q3]; exact fun h => by cases h
  rcases hlk with hlk | ⟨host, hlk⟩
  · exact W.getf hx hb hown (hgw _ hlk) hi hst q1 hkn hslot rfl rfl hd (kk p e R s m args below meth c H locs cells slots mc ms ls hF hR hQ hz hL hl h1 h2 h3 h4 h5 h6)
  · exact va_Wgetf hx hb hown (va_Nw.use rfl (hT.2.2.1 _ hlk)) hi hst q1 hkn hslot rfl rfl hd (kk p e R s m args below meth c H locs cells slots mc ms ls hF hR hQ hz hL hl h1 h2 h3 h4 h5 h6)
theorem eg_getI {l : Launch} {E : eg_E} {y : eg_Mt} {d k n pc : Nat} {Q : Option Value → eg_G → eg_I → Prop} {lo : List (Option Value)} {st : List Value} {G : eg_G} {M : eg_I} {idx ci fi a : Nat} (hfl : eg_FG y.1.cls idx ci fi) (hty : (eg_fty ci fi).isReference = false) (ha : G.2.1 a = some (.inl ci)) (hd : decode y.2.1 pc = .ok (.getfield idx, 3)) (kk : eg_J l E y d k n Q (pc + 3) lo (.int (M a fi) :: st) G M) : eg_J l E y d k n Q (pc) lo (.ref a :: st) G M := eg_getf hfl ha hd (eg_v_int hty) kk
theorem eg_getR {l : Launch} {E : eg_E} {y : eg_Mt} {d k n pc : Nat} {Q : Option Value → eg_G → eg_I → Prop} {lo : List (Option Value)} {st : List Value} {G : eg_G} {M : eg_I} {idx ci fi a b : Nat} (hfl : eg_FG y.1.cls idx ci fi) (hty : (eg_fty ci fi).isReference = true) (ha : G.2.1 a = some (.inl ci)) (hr : G.2.2 a fi = some b) (hd : decode y.2.1 pc = .ok (.getfield idx, 3)) (kk : eg_J l E y d k n Q (pc + 3) lo (.ref b :: st) G M) : eg_J l E y d k n Q (pc) lo (.ref a :: st) G M := eg_getf hfl ha hd (by rw [eg_v_ref hty, hr]; rfl) kk
theorem eg_putf {l : Launch} {E : eg_E} {y : eg_Mt} {d k n pc : Nat} {Q : Option Value → eg_G → eg_I → Prop} {lo : List (Option Value)} {st : List Value} {G : eg_G} {M : eg_I} {idx ci fi a : Nat} {fin : Bool} {v : Value} {G' : eg_G} {M' : eg_I} (hfl : eg_FL y.1.cls idx ci fi fin) (hin : fin = true → y.1.name = "<init>") (hn : narrow (eg_fty ci fi) v = v) (hfit : fits (eg_fty ci fi) v = true) (ha : G.2.1 a = some (.inl ci)) (hd : decode y.2.1 pc = .ok (.putfield idx, 3))
    (e1 : G'.1 = G.1) (e2 : G'.2.1 = G.2.1) (e3 : ∀ q, q ≠ a → G'.2.2 q = G.2.2 q) (e4 : ∀ q, q ≠ a → M' q = M q) (e5 : ∀ j, eg_v (eg_fty ci j) (G'.2.2 a j) (M' a j) = if j = fi then v else eg_v (eg_fty ci j) (G.2.2 a j) (M a j))
    (kk : eg_J l E y d k n Q (pc + 3) lo (st) G' M') : eg_J l E y d k n Q (pc) lo (v :: .ref a :: st) G M := by
  intro p e R s m args below meth c H locs cells slots mc ms ls hF hR hQ hz hL hl h1 h2 h3 h4 h5 h6
  obtain ⟨C, T, N, hc, hk, hfin, hdecl, hlk⟩ := hfl
  obtain ⟨hx, hb, hr, hml, hown, hlk0, hnm, hgw, hT⟩ := id hF
  obtain ⟨hB, r, hr1, cell, q1, q2, q3, q4⟩ := hR.2.1 a ci ha
  have hrr : r = (C, T, N) := Option.some.inj (hr1.symm.trans hc)
  subst hrr
  obtain ⟨w1, w2, w3⟩ := eg_cl_ok ci _ hc
  have hap := va_apart (own := y.1.cls) hgw w1 (eg_fty ci) w2 w3 hT.1 hc
  obtain ⟨hS, hfc, kC, hkC, hkind⟩ := hT.1.1 ci _ hc
  obtain ⟨cf, kf, i1, f, hi, hsl⟩ := hS fi hk
  have hst := (u_facts hfc hkC (u_lays hgw w1 hk) hi).1
  have hlay := hgw _ (w1 _ (u_in_lay hk))
  have fin' : ∀ H' : Heap, H'[a]? = some (cell.setSlot f.slot v) → H'.size = H.size → (∀ q, q ≠ a → H'[q]? = H[q]?) →
      W p l e R s m args below meth c H' (locs ++ [⟨a, f.slot⟩]) cells slots (MQ below (eg_Qc E Q) args s mc ms (fun q => E.2.2.1 ≤ q)) (F0 m (pc + 3) ls st) := by
    intro H' g1 g2 g3
    rw [hsl] at g1
    refine kk p e R s m args below meth c H' _ cells slots mc ms ls hF ?_ (fun q hq => ?_) (by rw [g2]; exact hz) (t_lc hL hB) hl h1 h2 h3 h4 h5 h6
    · refine hR.one g2 g3 e1 e2 e3 e4 (fun c2 hc2 => ?_) (fun ty n hc2 => ?_)
      · have : c2 = ci := by rw [ha] at hc2; cases hc2; rfl
        subst this
        refine ⟨_, hc, (show t_OB a _ N _ H' (updV _ fi v) from ⟨_, g1, q2, q3, t_set q4 hap hk v⟩).to fun j _ => ?_⟩
        rw [e5 j]
        rfl
      · rw [ha] at hc2; cases hc2
    · rw [g3 q (by omega)]
      exact hQ q hq
  unfold u_lay at hlay
  cases fin with
  | false =>
    rw [if_neg (by rw [hfin]; decide)] at hlay
    have h6' := u_store hfc hkC hkind hlay hi (w2 fi hk) hn hfit
    rcases hlk with hlk | ⟨-, host, hlk⟩
    · exact W.putK hx hb (f := f) ⟨hown, hgw _ hlk, ⟨_, _, _, hi⟩, hst⟩ (by rw [q2]; exact h6') q1 q3 (by rw [hsl]; exact k2_hasslot (q4 fi hk)) rfl rfl hd fin'
    · exact va_WputK hx hb (f := f) hown (va_Nw.use rfl (hT.2.2.1 _ hlk)) hi hst (by rw [q2]; exact h6') q1 q3 (by rw [hsl]; exact k2_hasslot (q4 fi hk)) rfl rfl hd fin'
  | true =>
    rw [if_pos hfin] at hlay
    have hcf : m.cls = cf := by
      obtain ⟨_, _, c', _, _, _, -, -, hf', -, -, -, hown2, -⟩ := Cond.laysFinal_spec hlay
      have e1 : c' = cf := by have := hi.symm.trans hf'; simp at this; exact this.1.symm
      rw [hdecl rfl] at hown2
      rw [← e1]; exact Option.some.inj (hown.symm.trans hown2)
    have h6' := u_fits hfc hkC hkind (Or.inr hlay) hi (w2 fi hk) hn hfit
    rcases hlk with hlk | ⟨h0, -⟩
    · exact W.putFinK hx hb hown (hgw _ hlk) hi hst hcf (by rw [hnm]; exact hin rfl) (by rw [q2]; exact h6') q1 q3 (by rw [hsl]; exact k2_hasslot (q4 fi hk)) rfl rfl hd fin'
    · cases h0
theorem eg_putI {l : Launch} {E : eg_E} {y : eg_Mt} {d k n pc : Nat} {Q : Option Value → eg_G → eg_I → Prop} {lo : List (Option Value)} {st : List Value} {G : eg_G} {M : eg_I} {idx ci fi a : Nat} {fin : Bool} {x : Int32} (hfl : eg_FL y.1.cls idx ci fi fin) (hin : fin = true → y.1.name = "<init>") (hty : (eg_fty ci fi).isReference = false) (hn : narrow (eg_fty ci fi) (.int x) = .int x) (hfit : fits (eg_fty ci fi) (.int x) = true) (ha : G.2.1 a = some (.inl ci)) (hd : decode y.2.1 pc = .ok (.putfield idx, 3))
    (kk : eg_J l E y d k n Q (pc + 3) lo (st) G (eg_set M a fi x)) : eg_J l E y d k n Q (pc) lo (.int x :: .ref a :: st) G M := by
  refine eg_putf hfl hin hn hfit ha hd rfl rfl (fun _ _ => rfl) (fun q h => eg_set_ne h) (fun j => ?_) kk
  by_cases e : j = fi
  · subst e
    simp [eg_set, eg_v_int hty]
  · simp [eg_set, e]
theorem eg_putR {l : Launch} {E : eg_E} {y : eg_Mt} {d k n pc : Nat} {Q : Option Value → eg_G → eg_I → Prop} {lo : List (Option Value)} {st : List Value} {G : eg_G} {M : eg_I} {idx ci fi a b : Nat} {fin : Bool} (hfl : eg_FL y.1.cls idx ci fi fin) (hin : fin = true → y.1.name = "<init>") (hty : (eg_fty ci fi).isReference = true) (ha : G.2.1 a = some (.inl ci)) (hd : decode y.2.1 pc = .ok (.putfield idx, 3))
    (kk : eg_J l E y d k n Q (pc + 3) lo (st) (eg_setr G a fi (some b)) M) : eg_J l E y d k n Q (pc) lo (.ref b :: .ref a :: st) G M := by
  refine eg_putf (G' := eg_setr G a fi (some b)) (M' := M) hfl hin ?_ ?_ ha hd rfl rfl (fun q h => eg_setr_ne h) (fun _ _ => rfl) (fun j => ?_) kk
  · cases hq : eg_fty ci fi <;> rw [hq] at hty <;> first | rfl | cases hty
  · cases hq : eg_fty ci fi <;> rw [hq] at hty <;> first | rfl | cases hty
  · by_cases e : j = fi
    · subst e
      simp [eg_setr, eg_v_ref hty, va_rf]
    · simp [eg_setr, e]
theorem eg_iald {l : Launch} {E : eg_E} {y : eg_Mt} {d k n pc : Nat} {Q : Option Value → eg_G → eg_I → Prop} {lo : List (Option Value)} {st : List Value} {G : eg_G} {M : eg_I} {a N : Nat} {i : Int32} (ha : G.2.1 a = some (.inr (.int, N))) (hin : vp_in i N) (hd : decode y.2.1 pc = .ok (.iaload, 1)) (kk : eg_J l E y d k n Q (pc + 1) lo (.int (M a i.toNatClampNeg) :: st) G M) : eg_J l E y d k n Q (pc) lo (.int i :: .ref a :: st) G M := by
  intro p e R s m args below meth c H locs cells slots mc ms ls hF hR hQ hz hL hl h1 h2 h3 h4 h5 h6
  obtain ⟨hB, hat, hc⟩ := hR.2.2 a _ N ha
  have hlt : i.toNatClampNeg < N := Nat.not_le.mp fun q => hin (Or.inr q)
  exact W.iald (v := .int (M a i.toNatClampNeg)) hF.1 hF.2.1 hc ((hF.2.2.2.2.2.2.2.2.2.1 _ hat).1 N _) (fun q => by cases q) (by rw [arrV_size]; exact hin) (by rw [arrV_read _ _ hlt, eg_v_int rfl]) rfl rfl hd (kk p e R s m args below meth c H locs cells slots mc ms ls hF hR hQ hz hL hl h1 h2 h3 h4 h5 h6)
theorem eg_zald {l : Launch} {E : eg_E} {y : eg_Mt} {d k n pc : Nat} {Q : Option Value → eg_G → eg_I → Prop} {lo : List (Option Value)} {st : List Value} {G : eg_G} {M : eg_I} {a N : Nat} {i : Int32} (ha : G.2.1 a = some (.inr (.boolean, N))) (hin : vp_in i N) (hd : decode y.2.1 pc = .ok (.baload, 1)) (kk : eg_J l E y d k n Q (pc + 1) lo (.int (M a i.toNatClampNeg) :: st) G M) : eg_J l E y d k n Q (pc) lo (.int i :: .ref a :: st) G M := by
  intro p e R s m args below meth c H locs cells slots mc ms ls hF hR hQ hz hL hl h1 h2 h3 h4 h5 h6
  obtain ⟨hB, hat, hc⟩ := hR.2.2 a _ N ha
  have hlt : i.toNatClampNeg < N := Nat.not_le.mp fun q => hin (Or.inr q)
  exact W.zald (v := .int (M a i.toNatClampNeg)) hF.1 hF.2.1 hc ((hF.2.2.2.2.2.2.2.2.2.1 _ hat).1 N _) (fun q => by cases q) (by rw [arrV_size]; exact hin) (by rw [arrV_read _ _ hlt, eg_v_int rfl]) rfl rfl hd (kk p e R s m args below meth c H locs cells slots mc ms ls hF hR hQ hz hL hl h1 h2 h3 h4 h5 h6)
theorem eg_aald {l : Launch} {E : eg_E} {y : eg_Mt} {d k n pc : Nat} {Q : Option Value → eg_G → eg_I → Prop} {lo : List (Option Value)} {st : List Value} {G : eg_G} {M : eg_I} {a b N : Nat} {i : Int32} {ty : FieldType} (hty : ty.isReference = true) (ha : G.2.1 a = some (.inr (ty, N))) (hin : vp_in i N) (hr : G.2.2 a i.toNatClampNeg = some b) (hd : decode y.2.1 pc = .ok (.aaload, 1)) (kk : eg_J l E y d k n Q (pc + 1) lo (.ref b :: st) G M) : eg_J l E y d k n Q (pc) lo (.int i :: .ref a :: st) G M := by
  intro p e R s m args below meth c H locs cells slots mc ms ls hF hR hQ hz hL hl h1 h2 h3 h4 h5 h6
  obtain ⟨hB, hat, hc⟩ := hR.2.2 a _ N ha
  have hlt : i.toNatClampNeg < N := Nat.not_le.mp fun q => hin (Or.inr q)
  exact W.aald (v := .ref b) hF.1 hF.2.1 hc ((hF.2.2.2.2.2.2.2.2.2.1 _ hat).1 N _) hty (fun q => by cases q) (by rw [arrV_size]; exact hin) (by rw [arrV_read _ _ hlt, eg_v_ref hty, hr]; rfl) rfl rfl hd (kk p e R s m args below meth c H locs cells slots mc ms ls hF hR hQ hz hL hl h1 h2 h3 h4 h5 h6)
theorem eg_alen {l : Launch} {E : eg_E} {y : eg_Mt} {d k n pc : Nat} {Q : Option Value → eg_G → eg_I → Prop} {lo : List (Option Value)} {st : List Value} {G : eg_G} {M : eg_I} {a N : Nat} {ty : FieldType} (ha : G.2.1 a = some (.inr (ty, N))) (hd : decode y.2.1 pc = .ok (.arraylength, 1)) (kk : eg_J l E y d k n Q (pc + 1) lo (.int (nI N) :: st) G M) : eg_J l E y d k n Q (pc) lo (.ref a :: st) G M := by
  intro p e R s m args below meth c H locs cells slots mc ms ls hF hR hQ hz hL hl h1 h2 h3 h4 h5 h6
  obtain ⟨hB, hat, hc⟩ := hR.2.2 a _ N ha
  exact W.alen (n := nI N) hF.1 hF.2.1 hc ((hF.2.2.2.2.2.2.2.2.2.1 _ hat).1 N _) (by rw [arrV_size]; rfl) rfl rfl hd (kk p e R s m args below meth c H locs cells slots mc ms ls hF hR hQ hz hL hl h1 h2 h3 h4 h5 h6)
theorem eg_sld {l : Launch} {E : eg_E} {y : eg_Mt} {d k n pc : Nat} {Q : Option Value → eg_G → eg_I → Prop} {lo : List (Option Value)} {st : List Value} {G : eg_G} {M : eg_I} {i : Int32} (hin : vp_in i E.2.2.2.2.1) (hd : decode y.2.1 pc = .ok (.iaload, 1)) (kk : eg_J l E y d k n Q (pc + 1) lo (.int (E.2.2.2.2.2 i.toNatClampNeg) :: st) G M) : eg_J l E y d k n Q (pc) lo (.int i :: .ref E.2.2.2.1 :: st) G M := by
  intro p e R s m args below meth c H locs cells slots mc ms ls hF hR hQ hz hL hl h1 h2 h3 h4 h5 h6
  obtain ⟨-, -, -, -, hX, hlt0, -⟩ := hF.2.2.2.2.2.2.2.2
  obtain ⟨scr, x1, x2, x3, x4, x5⟩ := hX
  have hlt : i.toNatClampNeg < E.2.2.2.2.1 := Nat.not_le.mp fun q => hin (Or.inr q)
  exact W.iald (v := .int (E.2.2.2.2.2 i.toNatClampNeg)) hF.1 hF.2.1 (by rw [hQ _ hlt0]; exact x1) x2 x3 (by rw [x4]; exact hin) (x5 _ hlt) rfl rfl hd (kk p e R s m args below meth c H locs cells slots mc ms ls hF hR hQ hz hL hl h1 h2 h3 h4 h5 h6)
theorem eg_slen {l : Launch} {E : eg_E} {y : eg_Mt} {d k n pc : Nat} {Q : Option Value → eg_G → eg_I → Prop} {lo : List (Option Value)} {st : List Value} {G : eg_G} {M : eg_I} (hd : decode y.2.1 pc = .ok (.arraylength, 1)) (kk : eg_J l E y d k n Q (pc + 1) lo (.int (nI E.2.2.2.2.1) :: st) G M) : eg_J l E y d k n Q (pc) lo (.ref E.2.2.2.1 :: st) G M := by
  intro p e R s m args below meth c H locs cells slots mc ms ls hF hR hQ hz hL hl h1 h2 h3 h4 h5 h6
  obtain ⟨-, -, -, -, hX, hlt0, -⟩ := hF.2.2.2.2.2.2.2.2
  obtain ⟨scr, x1, x2, x3, x4, x5⟩ := hX
  exact W.alen (n := nI E.2.2.2.2.1) hF.1 hF.2.1 (by rw [hQ _ hlt0]; exact x1) x2 (by rw [x4]; rfl) rfl rfl hd (kk p e R s m args below meth c H locs cells slots mc ms ls hF hR hQ hz hL hl h1 h2 h3 h4 h5 h6)
theorem eg_iast {l : Launch} {E : eg_E} {y : eg_Mt} {d k n pc : Nat} {Q : Option Value → eg_G → eg_I → Prop} {lo : List (Option Value)} {st : List Value} {G : eg_G} {M : eg_I} {a N : Nat} {i x : Int32} (ha : G.2.1 a = some (.inr (.int, N))) (hin : vp_in i N)  (hd : decode y.2.1 pc = .ok (.iastore, 1)) (kk : eg_J l E y d k n Q (pc + 1) lo (st) G (eg_set M a i.toNatClampNeg x)) : eg_J l E y d k n Q (pc) lo (.int x :: .int i :: .ref a :: st) G M := by
  intro p e R s m args below meth c H locs cells slots mc ms ls hF hR hQ hz hL hl h1 h2 h3 h4 h5 h6
  obtain ⟨hB, hat, hc⟩ := hR.2.2 a _ N ha
  refine W.iast hF.1 hF.2.1 hc ((hF.2.2.2.2.2.2.2.2.2.1 _ hat).1 N _) (fun q => by cases q) (by rw [arrV_size]; exact hin) rfl rfl hd (fun H' g1 g2 g3 => ?_)
  refine kk p e R s m args below meth c H' _ cells slots mc ms ls hF ?_ (fun q hq => ?_) (by rw [g2]; exact hz) (t_lc hL hB) hl h1 h2 h3 h4 h5 h6
  · refine hR.one g2 g3 rfl rfl (fun _ _ => rfl) (fun q h => eg_set_ne h) (fun c2 hc2 => ?_) (fun ty n hc2 => ?_)
    · rw [ha] at hc2; cases hc2
    · rw [ha] at hc2
      cases hc2
      rw [g1, arrV_store]
      congr 2
      funext q
      by_cases hq : q = i.toNatClampNeg
      · subst hq
        simp [updV, eg_set, eg_v, FieldType.isReference]
      · simp [updV, eg_set, eg_v, FieldType.isReference, hq]
  · rw [g3 q (Nat.ne_of_lt (Nat.lt_of_lt_of_le hq hB))]
    exact hQ q hq
theorem eg_zast {l : Launch} {E : eg_E} {y : eg_Mt} {d k n pc : Nat} {Q : Option Value → eg_G → eg_I → Prop} {lo : List (Option Value)} {st : List Value} {G : eg_G} {M : eg_I} {a N : Nat} {i x : Int32} (ha : G.2.1 a = some (.inr (.boolean, N))) (hin : vp_in i N) (hnx : narrow .boolean (.int x) = .int x) (hd : decode y.2.1 pc = .ok (.bastore, 1)) (kk : eg_J l E y d k n Q (pc + 1) lo (st) G (eg_set M a i.toNatClampNeg x)) : eg_J l E y d k n Q (pc) lo (.int x :: .int i :: .ref a :: st) G M := by
  intro p e R s m args below meth c H locs cells slots mc ms ls hF hR hQ hz hL hl h1 h2 h3 h4 h5 h6
  obtain ⟨hB, hat, hc⟩ := hR.2.2 a _ N ha
  refine W.zast hF.1 hF.2.1 hc ((hF.2.2.2.2.2.2.2.2.2.1 _ hat).1 N _) (fun q => by cases q) (by rw [arrV_size]; exact hin) rfl rfl hd (fun H' g1 g2 g3 => ?_)
  refine kk p e R s m args below meth c H' _ cells slots mc ms ls hF ?_ (fun q hq => ?_) (by rw [g2]; exact hz) (t_lc hL hB) hl h1 h2 h3 h4 h5 h6
  · refine hR.one g2 g3 rfl rfl (fun _ _ => rfl) (fun q h => eg_set_ne h) (fun c2 hc2 => ?_) (fun ty n hc2 => ?_)
    · rw [ha] at hc2; cases hc2
    · rw [ha] at hc2
      cases hc2
      rw [g1, hnx, arrV_store]
      congr 2
      funext q
      by_cases hq : q = i.toNatClampNeg
      · subst hq
        simp [updV, eg_set, eg_v, FieldType.isReference]
      · simp [updV, eg_set, eg_v, FieldType.isReference, hq]
  · rw [g3 q (Nat.ne_of_lt (Nat.lt_of_lt_of_le hq hB))]
    exact hQ q hq
theorem eg_iret {l : Launch} {E : eg_E} {y : eg_Mt} {d k n pc : Nat} {Q : Option Value → eg_G → eg_I → Prop} {lo : List (Option Value)} {G : eg_G} {M : eg_I} {x : Int32} (hr : y.2.2.2 = some .int) (hd : decode y.2.1 pc = .ok (.ireturn, 1)) (hq : Q (some (.int x)) G M) : eg_J l E y d k n Q (pc) lo ([.int x]) G M := by
  intro p e R s m args below meth c H locs cells slots mc ms ls hF hR hQ hz hL hl h1 h2 h3 h4 h5 h6
  have hlocks : meth.locks = false := hF.2.2.2.2.2.1
  refine W.widen (k := mc) (n := ms) (by omega) (by omega) ?_
  exact W.iret hF.1 hF.2.1 (hF.2.2.1.trans hr) (fun t ht hW => ⟨_, G, M, rfl, by rw [ht]; exact hR, hq, fun q hq => by rw [ht]; exact hQ q hq, by rw [ht]; exact hz⟩) hL hd hlocks
theorem eg_zret {l : Launch} {E : eg_E} {y : eg_Mt} {d k n pc : Nat} {Q : Option Value → eg_G → eg_I → Prop} {lo : List (Option Value)} {G : eg_G} {M : eg_I} {x : Int32} (hr : y.2.2.2 = some .boolean) (hnx : narrow .boolean (.int x) = .int x) (hd : decode y.2.1 pc = .ok (.ireturn, 1)) (hq : Q (some (.int x)) G M) : eg_J l E y d k n Q (pc) lo ([.int x]) G M := by
  intro p e R s m args below meth c H locs cells slots mc ms ls hF hR hQ hz hL hl h1 h2 h3 h4 h5 h6
  have hlocks : meth.locks = false := hF.2.2.2.2.2.1
  refine W.widen (k := mc) (n := ms) (by omega) (by omega) ?_
  exact W.zret (ty := .boolean) hF.1 hF.2.1 (hF.2.2.1.trans hr) hnx (fun t ht hW => ⟨_, G, M, rfl, by rw [ht]; exact hR, hq, fun q hq => by rw [ht]; exact hQ q hq, by rw [ht]; exact hz⟩) hL hd hlocks
theorem eg_vret {l : Launch} {E : eg_E} {y : eg_Mt} {d k n pc : Nat} {Q : Option Value → eg_G → eg_I → Prop} {lo : List (Option Value)} {G : eg_G} {M : eg_I}  (hr : y.2.2.2 = none) (hd : decode y.2.1 pc = .ok (.return_, 1)) (hq : Q none G M) : eg_J l E y d k n Q (pc) lo ([]) G M := by
  intro p e R s m args below meth c H locs cells slots mc ms ls hF hR hQ hz hL hl h1 h2 h3 h4 h5 h6
  have hlocks : meth.locks = false := hF.2.2.2.2.2.1
  refine W.widen (k := mc) (n := ms) (by omega) (by omega) ?_
  exact W.vret hF.1 hF.2.1 (hF.2.2.1.trans hr) (fun t ht hW => ⟨_, G, M, rfl, by rw [ht]; exact hR, hq, fun q hq => by rw [ht]; exact hQ q hq, by rw [ht]; exact hz⟩) hL hd hlocks
theorem eg_aret {l : Launch} {E : eg_E} {y : eg_Mt} {d k n pc : Nat} {Q : Option Value → eg_G → eg_I → Prop} {lo : List (Option Value)} {G : eg_G} {M : eg_I} {b : Nat} {rt : FieldType} (hr : y.2.2.2 = some rt) (hrt : (∃ n, rt = .object n) ∨ ∃ t, rt = .array t) (hd : decode y.2.1 pc = .ok (.areturn, 1)) (hq : Q (some (.ref b)) G M) : eg_J l E y d k n Q (pc) lo ([.ref b]) G M := by
  intro p e R s m args below meth c H locs cells slots mc ms ls hF hR hQ hz hL hl h1 h2 h3 h4 h5 h6
  have hlocks : meth.locks = false := hF.2.2.2.2.2.1
  refine W.widen (k := mc) (n := ms) (by omega) (by omega) ?_
  exact W.aret hF.1 hF.2.1 (hF.2.2.1.trans hr) hrt (Or.inr ⟨b, rfl⟩) (fun t ht hW => ⟨_, G, M, rfl, by rw [ht]; exact hR, hq, fun q hq => by rw [ht]; exact hQ q hq, by rw [ht]; exact hz⟩) hL hd hlocks
theorem eg_new_ {l : Launch} {E : eg_E} {y : eg_Mt} {d k n pc : Nat} {Q : Option Value → eg_G → eg_I → Prop} {lo : List (Option Value)} {st : List Value} {G : eg_G} {M : eg_I} {idx ci N : Nat} {C : String} {T : u_T} (hc : classes[ci]? = some (C, T, N)) (hw : Cond.classLink y.1.cls idx C ∈ eg_gw ∧ Cond.instantiable C N ∈ eg_gw ∧ Cond.initialized C ∈ eg_gw) (hk1 : 1 ≤ k) (hn1 : N ≤ n) (hd : decode y.2.1 pc = .ok (.new idx, 3))
    (kk : eg_J l E y d (k - 1) (n - N) Q (pc + 3) lo (.ref G.1 :: st) (eg_new G (.inl ci)) (eg_zero M G.1)) : eg_J l E y d k n Q (pc) lo (st) G M := by
  intro p e R s m args below meth c H locs cells slots mc ms ls hF hR hQ hz hL hl h1 h2 h3 h4 h5 h6
  obtain ⟨hx, hb, hr, hml, hown, hlk0, hnm, hgw, hT⟩ := id hF
  obtain ⟨w1, w2, w3⟩ := eg_cl_ok ci _ hc
  have hKn := hT.1.1 ci _ hc
  have hs : G.1 = H.size := hR.1
  refine W.newcK hx hb hown (hgw _ hw.1) (hgw _ hw.2.1) (hgw _ hw.2.2) rfl hd (by omega) (by omega) hKn.2.1 rfl fun H1 kC hkC e1 z1 o1 => ?_
  rw [hs] at kk
  refine kk p e R s m args below meth c H1 _ _ _ mc ms ls hF ?_ (fun q hq => by rw [o1 q (by omega)]; exact hQ q hq) (by omega) hL hl h1 h2 h3 h4 (by omega) (by omega)
  refine hR.push hz z1 o1 (fun c2 hc2 => ?_) (fun ty n hc2 => by cases hc2)
  cases hc2
  refine ⟨_, hc, (u_born (eg_fty ci) hgw w1 hKn hkC e1 w2).to fun j _ => ?_⟩
  cases hq : eg_fty ci j <;> first | rfl | exact absurd hq (eg_fty_ok ci j).1 | exact absurd hq (eg_fty_ok ci j).2.1 | exact absurd hq (eg_fty_ok ci j).2.2
theorem eg_newa {l : Launch} {E : eg_E} {y : eg_Mt} {d k n pc : Nat} {Q : Option Value → eg_G → eg_I → Prop} {lo : List (Option Value)} {st : List Value} {G : eg_G} {M : eg_I} {atype : ArrayType} {ty : FieldType} {N : Nat} (hty : newarray.typeOf atype = ty) (hin : ty ∈ eg_atys) (hdv : defaultValue ty = .int 0) (hnr : ty.isReference = false) (hw : Cond.arrayClass ty ∈ eg_gw) (hk1 : 1 ≤ k) (hn1 : N ≤ n) (hN : N ≤ 65536) (hcb : componentBytes ty ≤ 8) (hd : decode y.2.1 pc = .ok (.newarray atype, 2))
    (kk : eg_J l E y d (k - 1) (n - N) Q (pc + 2) lo (.ref G.1 :: st) (eg_new G (.inr (ty, N))) (eg_zero M G.1)) : eg_J l E y d k n Q (pc) lo (.int (nI N) :: st) G M := by
  intro p e R s m args below meth c H locs cells slots mc ms ls hF hR hQ hz hL hl h1 h2 h3 h4 h5 h6
  subst hty
  obtain ⟨hx, hb, hr, hml, hown, hlk0, hnm, hgw, hT⟩ := id hF
  have hs : G.1 = H.size := hR.1
  refine va_newaK hx hb (hgw _ hw) rfl hd rfl (nI_pos (by omega)) (nI_clamp (by omega)) (Nat.le_trans (Nat.mul_le_mul hN hcb) (by decide)) (by omega) (by omega) rfl fun H1 cA' e1 z1 o1 hAr hNm => ?_
  have hcA : cA' = E.2.1 (newarray.typeOf atype) := Option.some.inj (hNm.symm.trans (hT.2.1 _ hin).2)
  subst hcA
  rw [hs] at kk
  refine kk p e R s m args below meth c H1 _ _ _ mc ms ls hF ?_ (fun q hq => by rw [o1 q (by omega)]; exact hQ q hq) (by omega) hL hl h1 h2 h3 h4 (by omega) (by omega)
  refine hR.push hz z1 o1 (fun c2 hc2 => by cases hc2) (fun ty n hc2 => ?_)
  cases hc2
  refine ⟨hin, ?_⟩
  rw [e1, hdv]
  congr 2
  funext j
  rw [eg_v_int hnr]
theorem eg_objInit {l : Launch} {E : eg_E} {y : eg_Mt} {d k n pc : Nat} {Q : Option Value → eg_G → eg_I → Prop} {lo : List (Option Value)} {st : List Value} {G : eg_G} {M : eg_I} {idx a : Nat} (hw : Cond.methodLink y.1.cls idx Lib.objectInit ∈ eg_gw ∧ Cond.instanceMethod Lib.objectInit ∈ eg_gw ∧ Cond.code Lib.objectInit ⟨#[0xb1]⟩ 1 none ∈ eg_gw) (hsum : (st.map fun v => v.category).sum ≤ 8) (hd1 : 1 ≤ d) (hd : decode y.2.1 pc = .ok (.invokespecial idx, 3)) (kk : eg_J l E y d k n Q (pc + 3) lo (st) G M) : eg_J l E y d k n Q (pc) lo (.ref a :: st) G M := by
  intro p e R s m args below meth c H locs cells slots mc ms ls hF hR hQ hz hL hl h1 h2 h3 h4 h5 h6
  obtain ⟨hx, hb, hr, hml, hown, hlk0, hnm, hgw, hT⟩ := id hF
  have hrm : 2 * (F0 m pc ls (.ref a :: st)).monitorRoom + (st.map fun v => v.category).sum ≤ 8 := lv_room hsum
  exact W.objInit hx hb hown (hgw _ hw.1) (hgw _ hw.2.1) (hgw _ hw.2.2) rfl (by rw [hml]; exact hl.1.1) rfl hd (by omega) (by omega) (kk p e R s m args below meth c H locs cells slots mc ms ls hF hR hQ hz hL hl h1 h2 h3 h4 h5 h6)
end
section
/-! THE ENGINE, 4: calls -/
def eg_args (As : List Value) (n : Nat) : List (Option Value) := As.map some ++ List.replicate (n - As.length) none
theorem eg_sl_map : ∀ As : List Value, (As.all fun v => v.category == 1) = true → lg_sl As = As.map Slot.val
  | [], _ => rfl
  | v :: r, h => by
    rw [List.all_cons, Bool.and_eq_true] at h
    have h1 : v.category = 1 := by simpa using h.1
    have h2 := eg_sl_map r h.2
    show (if v.category = 2 then [Slot.val v, Slot.second] else [Slot.val v]) ++ lg_sl r = _
    rw [if_neg (by omega), h2]
    rfl
theorem eg_args_in : ∀ (As : List Value) (i k : Nat) (v : Value), (As.all fun v => v.category == 1) = true → As[k]? = some v → (i + k, v) ∈ lv_args i As
  | [], i, k, v, _, hk => by simp at hk
  | w :: r, i, k, v, h, hk => by
    rw [List.all_cons, Bool.and_eq_true] at h
    have h1 : w.category = 1 := by simpa using h.1
    rw [lv_args, if_neg (by omega)]
    cases k with
    | zero =>
      simp at hk
      subst hk
      exact List.mem_cons_self
    | succ k =>
      have := eg_args_in r (i + 1) k v h.2 (by simpa using hk)
      rw [show i + (k + 1) = i + 1 + k by omega]
      exact List.mem_cons_of_mem _ this
theorem eg_entry {As : List Value} {n : Nat} (hc : (As.all fun v => v.category == 1) = true) (hn : As.length ≤ n) : eg_has ((lg_sl As ++ List.replicate (n - (lg_sl As).length) Slot.unset).toArray) n (eg_args As n) := by
  have hsl : (lg_sl As).length = As.length := by rw [eg_sl_map As hc, List.length_map]
  have h0 := lv_entry As (n := n) (by rw [hsl]; exact hn)
  have key : ∀ (k : Nat) (v : Value), (eg_args As n)[k]? = some (some v) → As[k]? = some v := by
    intro k v hk
    unfold eg_args at hk
    by_cases hlt : k < As.length
    · rw [List.getElem?_append_left (by simpa using hlt), List.getElem?_map] at hk
      cases hq : As[k]? with
      | none => rw [hq] at hk; cases hk
      | some w => rw [hq] at hk; simpa using hk
    · rw [List.getElem?_append_right (by simpa using hlt), List.getElem?_replicate] at hk
      split at hk
      · cases hk
      · cases hk
  refine ⟨⟨h0.1, h0.2.1, fun q hq => h0.2.2 q ?_⟩, fun v hv => ?_, by simp [eg_args]; omega⟩
  · obtain ⟨k, g1, g2⟩ := (eg_lo_mem _ 0).mp hq
    have := eg_args_in As 0 k q.2 hc (key k q.2 g1)
    obtain ⟨q1, q2⟩ := q
    simp at g2 this
    subst g2
    exact this
  · obtain ⟨k, hk⟩ := List.getElem?_of_mem hv
    have := List.mem_of_getElem? (key k v hk)
    have h2 := List.all_eq_true.mp hc v this
    simpa using h2
def eg_ws (y : eg_Mt) : List Cond := Cond.code y.1 y.2.1 y.2.2.1 y.2.2.2 :: eg_gw
def eg_YOK (y : eg_Mt) (np : Nat) : Prop := Cond.code y.1 y.2.1 y.2.2.1 y.2.2.2 ∈ eg_gw ∧ Cond.initialized y.1.cls ∈ eg_gw ∧ (y.1.cls ≠ "java/lang/invoke/MethodHandle" ∧ y.1.cls ≠ "java/lang/invoke/VarHandle") ∧ plainName y.1.cls = true ∧ y.2.2.1 ≤ 40 ∧ (parseMethodDescriptor y.1.desc).map (fun d => d.parameters.length) = some np
theorem eg_ws_good {y : eg_Mt} {np : Nat} (h : eg_YOK y np) {args : Array Value} {s : State} (hgw : ∀ w ∈ eg_gw, w.before args s = true) : ∀ w ∈ eg_ws y, ∀ (a' : Array Value) (U : State), s.WarmedH U.vm → w.before a' U = true := by
  refine pay_in hgw (fun w hw => ?_)
  have hin : w ∈ eg_gw := by
    rcases List.mem_cons.mp hw with rfl | hw
    · exact h.1
    · exact hw
  exact ⟨hin, good_of_word (eg_gw_good w hin)⟩
theorem eg_met {l : Launch} {E : eg_E} {y : eg_Mt} {d k n np : Nat} {Q : Option Value → eg_G → eg_I → Prop} {As : List Value} {G : eg_G} {M : eg_I} (hy : eg_YOK y np) (hc : (As.all fun v => v.category == 1) = true) (hn : As.length ≤ y.2.2.1)
    (hJ : eg_J l E y d k n Q 0 (eg_args As y.2.2.1) [] G M) : Met l y.1 (eg_ws y) { frames := d, cells := k, slots := n, locals := d * 64 } (fun a U => a = As.toArray ∧ eg_R E G M U.heap ∧ eg_T E U) (eg_Qc E Q) k n (fun q => E.2.2.1 ≤ q) := by
  refine Met.ofW (cc := y.2.1) (maxL := y.2.2.1) (ret := y.2.2.2) hy.2.2.2.1 rfl ?_
  intro p e s m args below meth c s₁ B hml hv
  obtain ⟨rfl, hR, hT⟩ := hv
  have hgw : ∀ w ∈ eg_gw, w.before As.toArray s = true := fun w hw => atoms_spec (ws := eg_ws y) B.pre w (List.mem_cons_of_mem _ hw)
  have hnm := name_of_methodNamed B.named B.method
  rw [lg_entry_eq]
  exact hJ p e _ s m _ below meth c s.heap [] 0 0 k n _ ⟨B.exec, B.bytes, B.returns, hml, findClass_of_methodNamed B.named, B.notSynchronized, hnm.1, hgw, hT⟩ hR (fun _ _ => rfl) hT.2.2.2.1 (fun _ h => by cases h) (eg_entry hc hn) (Nat.le_refl _) (Nat.le_refl _) (Nat.le_refl _) (Nat.le_refl _) (by omega) (by omega)
theorem eg_blind {E : eg_E} {As : List Value} {G : eg_G} {M : eg_I} : FrameBlind (fun a U => a = As.toArray ∧ eg_R E G M U.heap ∧ eg_T E U) := fun a U g mk h => ⟨h.1, h.2.1, h.2.2.calling⟩
theorem eg_pre {E : eg_E} {As : List Value} {G : eg_G} {M : eg_I} {s : State} {H : Heap} (hR : eg_R E G M H) (hT : eg_T E s) (hz : E.2.2.1 ≤ H.size) (hQ : ∀ q, q < E.2.2.1 → H[q]? = s.heap[q]?) : ∀ U : State, U.heap = H → s.WarmedH U.vm → (fun (a : Array Value) (U : State) => a = As.toArray ∧ eg_R E G M U.heap ∧ eg_T E U) As.toArray U :=
  fun U hU hW => ⟨rfl, by rw [hU]; exact hR, hT.moved hW (by rw [hU]; exact hz) (fun q hq => by rw [hU]; exact hQ q hq)⟩
/-- behind a call -/
theorem eg_back {l : Launch} {E : eg_E} {y : eg_Mt} {d k n k' n' pc : Nat} {Q : Option Value → eg_G → eg_I → Prop} {lo : List (Option Value)} {st stk : List Value} {p : Program} {e : Env} {R : Room} {s : State} {m : MethodId} {args : Array Value} {below : List Frame} {meth : Method} {c : Code} {H : Heap} {locs : List Loc} {cells slots mc ms : Nat} {ls : Array Slot} {aa : Array Value}
    (hF : eg_F E p s m args meth c y) (hQ : ∀ q, q < E.2.2.1 → H[q]? = s.heap[q]?) (hL : ∀ q ∈ locs, E.2.2.1 ≤ q.base) (hl : eg_has ls y.2.2.1 lo) (h1 : d ≤ R.frames) (h2 : d * 64 ≤ R.locals) (h3 : mc ≤ R.cells) (h4 : ms ≤ R.slots) (h5 : cells + k ≤ mc) (h6 : slots + n ≤ ms) (hk : k' ≤ k) (hn : n' ≤ n)
    (hrun : va_Run p l e R s m args below meth c H locs cells slots k' n' (F0 m pc ls stk) st (eg_Qc E (fun r G' M' => eg_J l E y d (k - k') (n - n') Q (pc + 3) lo (r.toList ++ st) G' M') aa) (fun q => E.2.2.1 ≤ q)) :
    W p l e R s m args below meth c H locs cells slots (MQ below (eg_Qc E Q) args s mc ms (fun q => E.2.2.1 ≤ q)) (F0 m pc ls stk) := by
  intro T hT X
  obtain ⟨v, st₀, t, T', L, h0, X', hL', e1, e2, ⟨r, G', M', hv, hR', hQ', hq', hz'⟩, stp⟩ := hrun T hT X
  cases hv
  have := hQ' p e R s m args below meth c T'.heap (locs ++ L) (cells + k') (slots + n') mc ms ls hF (by rw [e1]; exact hR') (fun q hq => by rw [e1, hq' q hq, h0]; exact hQ q hq) (by rw [e1]; exact hz') (t_lL hL hL') hl h1 h2 h3 h4 (by omega) (by omega)
  obtain ⟨t2, a1, b1⟩ := this T' rfl X'
  exact ⟨t2, stp t2 a1, b1⟩
theorem eg_callV {l : Launch} {E : eg_E} {y : eg_Mt} {d k n pc : Nat} {Q : Option Value → eg_G → eg_I → Prop} {lo : List (Option Value)} {st : List Value} {G : eg_G} {M : eg_I} {y' : eg_Mt} {idx np b : Nat} {As stk : List Value} {ci N : Nat} {Tt : u_T} (k' n' : Nat) (hy : eg_YOK y' np) (hin : Cond.instanceMethod y'.1 ∈ eg_gw ∧ Cond.selects y'.1.cls y'.1 y'.1 ∈ eg_gw) (hb0 : G.2.1 b = some (.inl ci)) (hC : classes[ci]? = some (y'.1.cls, Tt, N)) (hlk : Cond.methodLink y.1.cls idx y'.1 ∈ eg_gw ∨ ∃ host, Cond.methodLinkNest y.1.cls idx y'.1 host ∈ eg_nw) (hAs : (As.all fun v => v.category == 1) = true) (hnp : As.length = np) (hmx : (.ref b :: As).length ≤ y'.2.2.1) (hs : stk = As.reverse ++ .ref b :: st) (hsum : (st.map fun v => v.category).sum ≤ 8) (hk' : k' ≤ k) (hn' : n' ≤ n) (hd1 : 1 ≤ d) (hd : decode y.2.1 pc = .ok (.invokevirtual idx, 3))
    (kk : eg_J l E y' (d - 1) k' n' (fun r G' M' => eg_J l E y d (k - k') (n - n') Q (pc + 3) lo (r.toList ++ st) G' M') 0 (eg_args (.ref b :: As) y'.2.2.1) [] G M) : eg_J l E y d k n Q pc lo stk G M := by
  intro p e R s m args below meth c H locs cells slots mc ms ls hF hR hQ hz hL hl h1 h2 h3 h4 h5 h6
  obtain ⟨hx, hb, hr, hml, hown, hlk0, hnm, hgw, hT⟩ := id hF
  have hM := eg_met (As := .ref b :: As) hy (by simpa [Value.category] using hAs) hmx kk
  have hmxl : _ ≤ 40 := hy.2.2.2.2.1
  have hpl : ∀ sig, parseMethodDescriptor y'.1.desc = some sig → np = sig.parameters.length := fun sig hsg => by
    have h2 := hy.2.2.2.2.2
    rw [hsg] at h2
    exact (Option.some.inj h2).symm
  have hws := eg_ws_good hy (args := args) (s := s) hgw
  refine eg_back (st := st) hF hQ hL hl h1 h2 h3 h4 h5 h6 hk' hn' (aa := (.ref b :: As).toArray) ?_
  rcases hlk with hlk | ⟨host, hlk⟩
  · exact va_runV (C := y'.1.cls) (nL := y.2.2.1) (Ts := eg_gw) ⟨hx, hb, hml, hown, hgw⟩ hM ⟨⟨rfl, rfl, by show d - 1 + 1 ≤ _; omega, by show _ + (d - 1) * 64 ≤ _; omega, hws, List.mem_cons_self, hgw _ hy.1, hgw _ hy.2.1, hy.2.2.1, hpl, hgw _ hlk⟩, hgw _ hin.1, hgw _ hin.2⟩ ⟨eg_blind, (by obtain ⟨-, r, hr1, cell, q1, q2, q3, q4⟩ := hR.2.1 b ci hb0; cases hr1.symm.trans hC; exact ⟨cell, q1, by rw [q3]; rfl, by rw [q2]; exact (hT.1.1 ci _ hC).2.1⟩), eg_pre hR hT hz hQ⟩ rfl hnp hl.1.1 hs (lv_room hsum) hd ⟨by omega, by omega⟩
  · exact va_runVN (C := y'.1.cls) (nL := y.2.2.1) (Ts := eg_gw) ⟨hx, hb, hml, hown, hgw⟩ hM ⟨⟨⟨rfl, rfl, by show d - 1 + 1 ≤ _; omega, by show _ + (d - 1) * 64 ≤ _; omega, hws, List.mem_cons_self⟩, hgw _ hy.1, hgw _ hy.2.1, hy.2.2.1, hpl, va_Nw.use rfl (hT.2.2.1 _ hlk)⟩, hgw _ hin.1, hgw _ hin.2⟩ ⟨eg_blind, (by obtain ⟨-, r, hr1, cell, q1, q2, q3, q4⟩ := hR.2.1 b ci hb0; cases hr1.symm.trans hC; exact ⟨cell, q1, by rw [q3]; rfl, by rw [q2]; exact (hT.1.1 ci _ hC).2.1⟩), eg_pre hR hT hz hQ⟩ rfl hnp hl.1.1 hs (lv_room hsum) hd ⟨by omega, by omega⟩
theorem eg_callS {l : Launch} {E : eg_E} {y : eg_Mt} {d k n pc : Nat} {Q : Option Value → eg_G → eg_I → Prop} {lo : List (Option Value)} {st : List Value} {G : eg_G} {M : eg_I} {y' : eg_Mt} {idx np b : Nat} {As stk : List Value}  (k' n' : Nat) (hy : eg_YOK y' np) (hin : Cond.static y'.1 ∈ eg_gw) (hlk : Cond.methodLink y.1.cls idx y'.1 ∈ eg_gw ∨ ∃ host, Cond.methodLinkNest y.1.cls idx y'.1 host ∈ eg_nw) (hAs : (As.all fun v => v.category == 1) = true) (hnp : As.length = np) (hmx : (As).length ≤ y'.2.2.1) (hs : stk = As.reverse ++ st) (hsum : (st.map fun v => v.category).sum ≤ 8) (hk' : k' ≤ k) (hn' : n' ≤ n) (hd1 : 1 ≤ d) (hd : decode y.2.1 pc = .ok (.invokestatic idx, 3))
    (kk : eg_J l E y' (d - 1) k' n' (fun r G' M' => eg_J l E y d (k - k') (n - n') Q (pc + 3) lo (r.toList ++ st) G' M') 0 (eg_args (As) y'.2.2.1) [] G M) : eg_J l E y d k n Q pc lo stk G M := by
  intro p e R s m args below meth c H locs cells slots mc ms ls hF hR hQ hz hL hl h1 h2 h3 h4 h5 h6
  obtain ⟨hx, hb, hr, hml, hown, hlk0, hnm, hgw, hT⟩ := id hF
  have hM := eg_met (As := As) hy (by exact hAs) hmx kk
  have hmxl : _ ≤ 40 := hy.2.2.2.2.1
  have hpl : ∀ sig, parseMethodDescriptor y'.1.desc = some sig → np = sig.parameters.length := fun sig hsg => by
    have h2 := hy.2.2.2.2.2
    rw [hsg] at h2
    exact (Option.some.inj h2).symm
  have hws := eg_ws_good hy (args := args) (s := s) hgw
  refine eg_back (st := st) hF hQ hL hl h1 h2 h3 h4 h5 h6 hk' hn' (aa := (As).toArray) ?_
  rcases hlk with hlk | ⟨host, hlk⟩
  · exact va_runS (nL := y.2.2.1) (Ts := eg_gw) ⟨hx, hb, hml, hown, hgw⟩ hM ⟨⟨rfl, rfl, by show d - 1 + 1 ≤ _; omega, by show _ + (d - 1) * 64 ≤ _; omega, hws, List.mem_cons_self, hgw _ hy.1, hgw _ hy.2.1, hy.2.2.1, hpl, hgw _ hlk⟩, hgw _ hin⟩ ⟨eg_blind, eg_pre hR hT hz hQ⟩ rfl hnp hl.1.1 hs (lv_room hsum) hd ⟨by omega, by omega⟩
  · exact va_runSN (nL := y.2.2.1) (Ts := eg_gw) ⟨hx, hb, hml, hown, hgw⟩ hM ⟨⟨⟨rfl, rfl, by show d - 1 + 1 ≤ _; omega, by show _ + (d - 1) * 64 ≤ _; omega, hws, List.mem_cons_self⟩, hgw _ hy.1, hgw _ hy.2.1, hy.2.2.1, hpl, va_Nw.use rfl (hT.2.2.1 _ hlk)⟩, hgw _ hin, trivial⟩ ⟨eg_blind, eg_pre hR hT hz hQ⟩ rfl hnp hl.1.1 hs (lv_room hsum) hd ⟨by omega, by omega⟩
theorem eg_callI {l : Launch} {E : eg_E} {y : eg_Mt} {d k n pc : Nat} {Q : Option Value → eg_G → eg_I → Prop} {lo : List (Option Value)} {st : List Value} {G : eg_G} {M : eg_I} {y' : eg_Mt} {idx np b : Nat} {As stk : List Value}  (k' n' : Nat) (hy : eg_YOK y' np) (hin : Cond.instanceMethod y'.1 ∈ eg_gw ∧ y'.1.name = "<init>") (hrt : y'.2.2.2 = none) (hlk : Cond.methodLink y.1.cls idx y'.1 ∈ eg_gw ∨ ∃ host, Cond.methodLinkNest y.1.cls idx y'.1 host ∈ eg_nw) (hAs : (As.all fun v => v.category == 1) = true) (hnp : As.length = np) (hmx : (.ref b :: As).length ≤ y'.2.2.1) (hs : stk = As.reverse ++ .ref b :: st) (hsum : (st.map fun v => v.category).sum ≤ 8) (hk' : k' ≤ k) (hn' : n' ≤ n) (hd1 : 1 ≤ d) (hd : decode y.2.1 pc = .ok (.invokespecial idx, 3))
    (kk : eg_J l E y' (d - 1) k' n' (fun r G' M' => eg_J l E y d (k - k') (n - n') Q (pc + 3) lo (r.toList ++ st) G' M') 0 (eg_args (.ref b :: As) y'.2.2.1) [] G M) : eg_J l E y d k n Q pc lo stk G M := by
  obtain ⟨ym, yb, yx, yr⟩ := y'
  dsimp only at hrt
  subst hrt
  intro p e R s m args below meth c H locs cells slots mc ms ls hF hR hQ hz hL hl h1 h2 h3 h4 h5 h6
  obtain ⟨hx, hb, hr, hml, hown, hlk0, hnm, hgw, hT⟩ := id hF
  have hM := eg_met (As := .ref b :: As) hy (by simpa [Value.category] using hAs) hmx kk
  have hmxl : _ ≤ 40 := hy.2.2.2.2.1
  have hpl : ∀ sig, parseMethodDescriptor ym.desc = some sig → np = sig.parameters.length := fun sig hsg => by
    have h2 := hy.2.2.2.2.2
    rw [hsg] at h2
    exact (Option.some.inj h2).symm
  have hws := eg_ws_good hy (args := args) (s := s) hgw
  refine eg_back (st := st) hF hQ hL hl h1 h2 h3 h4 h5 h6 hk' hn' (aa := (.ref b :: As).toArray) ?_
  rcases hlk with hlk | ⟨host, hlk⟩
  · exact va_runI (nL := y.2.2.1) (Ts := eg_gw) ⟨hx, hb, hml, hown, hgw⟩ hM ⟨⟨rfl, rfl, by show d - 1 + 1 ≤ _; omega, by show _ + (d - 1) * 64 ≤ _; omega, hws, List.mem_cons_self, hgw _ hy.1, hgw _ hy.2.1, hy.2.2.1, hpl, hgw _ hlk⟩, hin.2, hgw _ hin.1⟩ ⟨eg_blind, eg_pre hR hT hz hQ⟩ rfl hnp hl.1.1 hs (lv_room hsum) hd ⟨by omega, by omega⟩
  · exact va_runIN (nL := y.2.2.1) (Ts := eg_gw) ⟨hx, hb, hml, hown, hgw⟩ hM ⟨⟨⟨rfl, rfl, by show d - 1 + 1 ≤ _; omega, by show _ + (d - 1) * 64 ≤ _; omega, hws, List.mem_cons_self⟩, hgw _ hy.1, hgw _ hy.2.1, hy.2.2.1, hpl, va_Nw.use rfl (hT.2.2.1 _ hlk)⟩, hin.2, hgw _ hin.1⟩ ⟨eg_blind, eg_pre hR hT hz hQ⟩ rfl hnp hl.1.1 hs (lv_room hsum) hd ⟨by omega, by omega⟩
end
section
/-! System.arraycopy of ints from place 0 to place 0 -/
def eg_cpy (M : eg_I) (src dst cnt : Nat) : eg_I := fun q j => if q = dst ∧ j < cnt then M src j else M q j
theorem eg_copy0 {l : Launch} {E : eg_E} {y : eg_Mt} {d k n pc : Nat} {Q : Option Value → eg_G → eg_I → Prop} {lo : List (Option Value)} {st : List Value} {G : eg_G} {M : eg_I} {src dst N0 N1 cnt idx : Nat}
    (hw : Cond.methodLink y.1.cls idx arraycopyName ∈ eg_gw ∧ Cond.native arraycopyName ∈ eg_gw ∧ Cond.static arraycopyName ∈ eg_gw ∧ Cond.initialized "java/lang/System" ∈ eg_gw)
    (g0 : G.2.1 src = some (.inr (.int, N0))) (g1 : G.2.1 dst = some (.inr (.int, N1))) (c0 : cnt ≤ N0) (c1 : cnt ≤ N1) (hN : cnt < 65536) (hsum : (st.map fun v => v.category).sum ≤ 8) (hd1 : 1 ≤ d) (hd : decode y.2.1 pc = .ok (.invokestatic idx, 3))
    (kk : eg_J l E y d k n Q (pc + 3) lo st G (eg_cpy M src dst cnt)) : eg_J l E y d k n Q pc lo (.int (nI cnt) :: .int 0 :: .ref dst :: .int 0 :: .ref src :: st) G M := by
  intro p e R s m args below meth c H locs cells slots mc ms ls hF hR hQ hz hL hl h1 h2 h3 h4 h5 h6
  obtain ⟨hx, hb, hr, hml, hown, hlk0, hnm, hgw, hT⟩ := id hF
  obtain ⟨hB0, ha0, hc0⟩ := hR.2.2 src _ N0 g0
  obtain ⟨hB1, ha1, hc1⟩ := hR.2.2 dst _ N1 g1
  have e0 : (fun j => eg_v .int (G.2.2 src j) (M src j)) = fun j => Value.int (M src j) := by funext j; exact eg_v_int rfl
  have e1 : (fun j => eg_v .int (G.2.2 dst j) (M dst j)) = fun j => Value.int (M dst j) := by funext j; exact eg_v_int rfl
  rw [e0] at hc0
  rw [e1] at hc1
  have z0 : (0 : Int32).toNatClampNeg = 0 := rfl
  have zc : (nI cnt).toNatClampNeg = cnt := nI_clamp (by omega)
  intro T hT X
  obtain ⟨-, k0, hk0, cm0, hkk0⟩ := (hF.2.2.2.2.2.2.2.2.2.1 _ ha0).1 N0 (fun j => .int (M src j))
  obtain ⟨-, k1, hk1, cm1, hkk1⟩ := (hF.2.2.2.2.2.2.2.2.2.1 _ ha1).1 N1 (fun j => .int (M dst j))
  have hnf : nativeFrameWords "java/lang/System" "arraycopy" 5 ≤ 40 := by decide +kernel
  obtain ⟨vm', X', step⟩ := X.arraycopy hx hown (hgw _ hw.1) (hgw _ hw.2.1) (hgw _ hw.2.2.1) (hgw _ hw.2.2.2) (src := src) (dst := dst) (cs := arrV (E.2.1 .int) N0 (fun j => .int (M src j))) (cd := arrV (E.2.1 .int) N1 (fun j => .int (M dst j))) (srcPos := 0) (destPos := 0) (n := nI cnt) (by rw [hT]; exact hc0) (by rw [hT]; exact hc1)
    (fun _ h => by cases h) (fun _ h => by cases h) (fun h => by cases h) (fun h => by cases h) hk0 hk1 hkk0 hkk1 (by decide) (by decide) (by decide) (nI_pos (by omega))
    (by rw [arrV_size, nI_toInt (by omega)]; show ¬ ((0 : Int) + _ > _); omega) (by rw [arrV_size, nI_toInt (by omega)]; show ¬ ((0 : Int) + _ > _); omega)
    (fun vm₁ _ i hi => by
      rw [zc] at hi
      have e : (arrV (E.2.1 .int) N0 (fun j => .int (M src j))).slots.getD ((0 : Int32).toNatClampNeg + i) .null = .int (M src i) := by
        rw [z0, Nat.zero_add, Array.getD_eq_getD_getElem?, arrV_read _ _ (by omega)]
        rfl
      rw [e]
      exact ⟨rfl, trivial⟩)
    (g := F0 m pc ls (.int (nI cnt) :: .int 0 :: .ref dst :: .int 0 :: .ref src :: st)) rfl (by show ls.size = _; rw [hml]; exact hl.1.1) (rest := st) rfl (by rw [hb]; exact hd) (by omega) (by show 2 * 0 + _ + _ ≤ _; omega)
  have e2 : copied (arrV (E.2.1 .int) N0 (fun j => .int (M src j))) (arrV (E.2.1 .int) N1 (fun j => .int (M dst j))) 0 0 (nI cnt) = arrV (E.2.1 .int) N1 (fun j => .int (va_cpy (M src) (M dst) 0 0 cnt j)) := by
    have := va_copied (fun z => Value.int z) (E.2.1 .int) (E.2.1 .int) (n0 := N0) (n1 := N1) (sp := 0) (dp := 0) (n := cnt) (M src) (M dst) (by omega)
    unfold copied
    rw [z0, zc]
    exact this
  rw [e2] at X' step
  have hl1 : dst < H.size := (Array.getElem?_eq_some_iff.mp hc1).1
  generalize hce : arrV (E.2.1 .int) N1 (fun j => Value.int (va_cpy (M src) (M dst) 0 0 cnt j)) = ce at X' step
  have hheap : ((T.setVm vm').setCell dst ce).heap = H.setIfInBounds dst ce := by rw [← hT]; rfl
  have oq : ∀ q : Nat, q ≠ dst → (H.setIfInBounds dst ce)[q]? = H[q]? := fun q hq => by simp [Array.getElem?_setIfInBounds, Ne.symm hq]
  have od : (H.setIfInBounds dst ce)[dst]? = some ce := by simp [Array.getElem?_setIfInBounds, hl1]
  have oz : (H.setIfInBounds dst ce).size = H.size := by simp
  obtain ⟨t, a1, b1⟩ := kk p e R s m args below meth c (H.setIfInBounds dst ce) _ cells slots mc ms ls hF
    (hR.one (G' := G) (M' := eg_cpy M src dst cnt) oz oq rfl rfl (fun _ _ => rfl) (fun q h => by funext j; simp [eg_cpy, h]) (fun c2 hc2 => by rw [g1] at hc2; cases hc2) (fun ty n2 hc2 => by
      rw [g1] at hc2
      cases hc2
      rw [od, ← hce]
      congr 2
      funext j
      rw [eg_v_int rfl]
      by_cases hj : j < cnt
      · simp [eg_cpy, va_cpy, hj]
      · simp [eg_cpy, va_cpy, hj]))
    (fun q hq => by rw [oq q (by omega)]; exact hQ q hq) (by rw [oz]; exact hz) (t_lL hL (fun q hq => by
      obtain ⟨w, -, hw⟩ := List.mem_map.mp hq
      rw [← hw]
      exact hB1)) hl h1 h2 h3 h4 h5 h6 _ hheap X'
  exact ⟨t, step t a1, b1⟩
end
section
/-! new int[N][K] -/
def mg_out (N h0 i : Nat) : Nat → Value := fun j => if j < i then .ref (h0 + 1 + j) else .null
def mg_fill (s : State) (cA cI : ClassId) (N K : Nat) : Nat → State
  | 0 => s.pushCell (arrV cA N (mg_out N s.heap.size 0))
  | i + 1 => ((mg_fill s cA cI N K i).pushCell (arrV cI K (fun _ => .int 0))).setCell s.heap.size (arrV cA N (mg_out N s.heap.size (i + 1)))
theorem mg_facts (s : State) (cA cI : ClassId) (N K : Nat) : ∀ i, (mg_fill s cA cI N K i).heap.size = s.heap.size + 1 + i ∧ (mg_fill s cA cI N K i).heap[s.heap.size]? = some (arrV cA N (mg_out N s.heap.size i)) ∧ (mg_fill s cA cI N K i).vm = s.vm ∧ (mg_fill s cA cI N K i).slotsUsed = s.slotsUsed + N + i * K
  | 0 => ⟨by simp [mg_fill], by simp [mg_fill], rfl, by simp [mg_fill, arrV]⟩
  | i + 1 => by
    obtain ⟨a, b, c, u⟩ := mg_facts s cA cI N K i
    have hlt : s.heap.size < (mg_fill s cA cI N K i).heap.size := by omega
    have hb : ((mg_fill s cA cI N K i).pushCell (arrV cI K (fun _ => .int 0))).heap[s.heap.size]? = some (arrV cA N (mg_out N s.heap.size i)) := by rw [State.heap_pushCell_of_lt (h := hlt)]; exact b
    refine ⟨?_, State.heap_setCell_self hb, by simp [mg_fill, c], ?_⟩
    · simp [mg_fill, State.setCell, a]; omega
    · simp [mg_fill, u, arrV, Nat.succ_mul]; omega
theorem mg_setTop (s : State) (f : JFrame) (cA cI : ClassId) (N K : Nat) : ∀ i, mg_fill (s.setTop f) cA cI N K i = (mg_fill s cA cI N K i).setTop f
  | 0 => rfl
  | i + 1 => by simp only [mg_fill, mg_setTop s f cA cI N K i, State.heap_setTop, State.pushCell_setTop, State.setCell_setTop]
theorem mg_old (s : State) (cA cI : ClassId) (N K : Nat) {a : Addr} (ha : a < s.heap.size) : ∀ i, (mg_fill s cA cI N K i).heap[a]? = s.heap[a]?
  | 0 => State.heap_pushCell_of_lt _ _ ha
  | i + 1 => by
    have f1 := (mg_facts s cA cI N K i).1
    have hlt : a < (mg_fill s cA cI N K i).heap.size := Nat.lt_of_lt_of_le ha (by rw [f1]; omega)
    show (((mg_fill s cA cI N K i).pushCell _).setCell s.heap.size _).heap[a]? = _
    rw [State.heap_setCell_other (Nat.ne_of_gt ha), State.heap_pushCell_of_lt (h := hlt)]
    exact mg_old s cA cI N K ha i
theorem mg_inner (s : State) (cA cI : ClassId) (N K : Nat) : ∀ i j, j < i → (mg_fill s cA cI N K i).heap[s.heap.size + 1 + j]? = some (arrV cI K (fun _ => .int 0))
  | 0, _, h => absurd h (Nat.not_lt_zero _)
  | i + 1, j, h => by
    have f1 := (mg_facts s cA cI N K i).1
    show (((mg_fill s cA cI N K i).pushCell _).setCell s.heap.size _).heap[s.heap.size + 1 + j]? = _
    rw [State.heap_setCell_other (show s.heap.size ≠ s.heap.size + 1 + j by omega)]
    rcases Nat.lt_or_ge j i with hj | hj
    · have hlt : s.heap.size + 1 + j < (mg_fill s cA cI N K i).heap.size := by rw [f1]; omega
      rw [State.heap_pushCell_of_lt (h := hlt)]
      exact mg_inner s cA cI N K i j hj
    · have e : j = i := by omega
      subst e
      rw [← f1]
      exact State.heap_pushCell_size _ _
theorem mg_next (cA : ClassId) (N h0 i : Nat) : (arrV cA N (mg_out N h0 i)).setSlot i (.ref (h0 + 1 + i)) = arrV cA N (mg_out N h0 (i + 1)) := by
  rw [arrV_store]
  congr 1
  funext j
  unfold updV mg_out
  by_cases e : j = i
  · subst e; simp
  · by_cases h : j < i
    · simp [e, h, Nat.lt_succ_of_lt h]
    · simp [e, h, show ¬ j < i + 1 by omega]
section MG
variable {E : CtlPost} {e : Env} {d : Bool} {acts : List Action} {s : State}
theorem mg_newArray {c comp : ClassId} {k : Class} {type : FieldType} {len : Nat} {init : Value} (hk : s.vm.classes[c]? = some k) (hkind : k.kind = .array comp type)
    (hlimit : ¬ len > e.platform.arrayLengthLimit) (hheap : ¬ len * componentBytes type > e.platform.maxHeapBytes) (hfit : fits type init = true) (hdef : init.isDefault = true) {Q : Addr → Pre}
    (h1 : s.heap.size < e.platform.maxCells) (h2 : s.slotsUsed + len ≤ e.platform.maxSlots) (hq : Q s.heap.size d acts (s.pushCell (arrV c len (fun _ => init)))) : wp (Jvm.newArray c len init) Q E e d acts s := by
  have hfits : ∀ i v, (Array.replicate len init)[i]? = some v → s.fitsSlot c .none i v = true := by
    intro i v hv
    rw [Array.getElem?_replicate] at hv
    split at hv
    · cases hv
      simp [State.fitsSlot, State.slotType?, hk, hkind, hfit]
    · cases hv
  have hda : allocActs (Array.replicate len init) s.heap.size acts = acts := by
    have hall : ((Array.replicate len init).all (·.isDefault)) = true := by
      rw [Array.all_replicate]
      split <;> simp [hdef]
    unfold allocActs
    rw [if_pos hall]
  rw [← arrV_new] at hq
  simp only [Jvm.newArray, Jvm.arrayFits, wp_bind', W.ask, W.ite, hlimit, if_false, wp_pure', W.theClass, hk, hkind, hheap, W.alloc, W.stop, Option.some.injEq, exists_eq_left', Array.size_replicate, hda]
  rw [if_neg (by omega)]
  exact ⟨h1, h2, hfits, hq⟩
theorem mg_make2 {cA cI cc : ClassId} {k kc : Class} {n m : Int32} (hk : s.vm.classes[cA]? = some k) (hkind : k.kind = .array cI (.array .int)) (hkc : s.vm.classes[cI]? = some kc) (hkindc : kc.kind = .array cc .int) (hn : ¬ n < 0) (hm : ¬ m < 0)
    (hl1 : ¬ n.toNatClampNeg > e.platform.arrayLengthLimit) (hh1 : ¬ n.toNatClampNeg * componentBytes (.array .int) > e.platform.maxHeapBytes) (hl2 : ¬ m.toNatClampNeg > e.platform.arrayLengthLimit) (hh2 : ¬ m.toNatClampNeg * componentBytes .int > e.platform.maxHeapBytes)
    (hc : s.heap.size + 1 + n.toNatClampNeg ≤ e.platform.maxCells) (hs : s.slotsUsed + n.toNatClampNeg + n.toNatClampNeg * m.toNatClampNeg ≤ e.platform.maxSlots)
    {Q : Addr → Pre} (hq : ∀ d' acts', Q s.heap.size d' acts' (mg_fill s cA cI n.toNatClampNeg m.toNatClampNeg n.toNatClampNeg)) : wp (multianewarray.make cA [n, m]) Q E e d acts s := by
  have hfind : ([m].find? (· < 0)) = none := by simp [hm]
  rw [multianewarray.make]
  simp only [wp_bind', W.ite, hn, if_false, wp_pure', W.theClass, hk, hkind, Option.some.injEq, exists_eq_left']
  refine mg_newArray hk hkind hl1 hh1 rfl rfl (by omega) (by have := Nat.zero_le (n.toNatClampNeg * m.toNatClampNeg); omega) ?_
  simp only [hfind]
  rw [ite_self, wp_bind', Std.Legacy.Range.forIn_eq_forIn_range']
  have hsz : ([:n.toNatClampNeg] : Std.Legacy.Range).size = n.toNatClampNeg := by simp [Std.Legacy.Range.size]
  rw [hsz]
  show wp (forIn (List.range' 0 n.toNatClampNeg 1) PUnit.unit _) _ E e d acts _
  refine wp_forIn_inv (fun rest s' => ∃ i, i ≤ n.toNatClampNeg ∧ rest = List.range' i (n.toNatClampNeg - i) ∧ s' = mg_fill s cA cI n.toNatClampNeg m.toNatClampNeg i) _ _ ⟨0, Nat.zero_le _, rfl, rfl⟩ ?_ ?_
  · rintro x rest s' d' acts' Q' ⟨i, hi, hl, rfl⟩ hnext
    have hlt : i < n.toNatClampNeg := by
      rcases Nat.lt_or_ge i n.toNatClampNeg with h | h
      · exact h
      · rw [show n.toNatClampNeg - i = 0 from by omega] at hl
        simp at hl
    obtain ⟨rfl, hrest⟩ : x = i ∧ rest = List.range' (i + 1) (n.toNatClampNeg - (i + 1)) := by
      rw [show n.toNatClampNeg - i = (n.toNatClampNeg - (i + 1)) + 1 from by omega, List.range'_succ] at hl
      exact ⟨(List.cons.inj hl).1, (List.cons.inj hl).2⟩
    obtain ⟨f1, f2, f3, f4⟩ := mg_facts s cA cI n.toNatClampNeg m.toNatClampNeg x
    have hmul : x * m.toNatClampNeg + m.toNatClampNeg ≤ n.toNatClampNeg * m.toNatClampNeg := by
      have := Nat.mul_le_mul_right m.toNatClampNeg (show x + 1 ≤ n.toNatClampNeg from hlt)
      rw [Nat.succ_mul] at this
      exact this
    simp only [wp_bind']
    rw [multianewarray.make]
    simp only [wp_bind', W.ite, hm, if_false, wp_pure', W.theClass, f3, hkc, hkindc, Option.some.injEq, exists_eq_left']
    refine mg_newArray (by rw [f3]; exact hkc) hkindc hl2 hh2 rfl rfl (by rw [f1]; omega) (by rw [f4]; omega) ?_
    have hlt0 : s.heap.size < (mg_fill s cA cI n.toNatClampNeg m.toNatClampNeg x).heap.size := by rw [f1]; omega
    simp only [wp_bind', W.writeLoc, wp_pure']
    refine ⟨arrV cA n.toNatClampNeg (mg_out n.toNatClampNeg s.heap.size x), by rw [State.heap_pushCell_of_lt (h := hlt0)]; exact f2, by simp [arrV], by rw [arrV_size]; exact hlt, ?_, hnext _ _ _ ⟨x + 1, hlt, hrest, ?_⟩⟩
    · simp [State.fitsSlot, State.slotType?, f3, hk, hkind, arrV, fits]
    · rw [f1, mg_next]
      rfl
  · rintro s' d' acts' ⟨i, hi, hl, rfl⟩
    have hiN : i = n.toNatClampNeg := by
      rcases Nat.lt_or_ge i n.toNatClampNeg with h | h
      · rw [show n.toNatClampNeg - i = (n.toNatClampNeg - (i + 1)) + 1 from by omega, List.range'_succ] at hl
        cases hl
      · omega
    subst hiN
    simp only [wp_pure']
    exact hq _ _
end MG
section MGS
variable {p : Program} {l : Launch} {e : Env} {R : Room} {s : State} {m : MethodId} {args : Array Value} {below : List Frame} {meth : Method} {c : Code} {T : State} {locs : List Loc} {cells slots : Nat}
theorem mg_stand (X : Stand p l e R s m args below meth c T locs cells slots) (cA cI : ClassId) (N K : Nat) : ∀ i, Stand p l e R s m args below meth c (mg_fill T cA cI N K i) (locs ++ (List.range i).map fun j => ⟨T.heap.size, j⟩) (cells + 1 + i) (slots + N + i * K)
  | 0 => by
    have h := X.pushed (arrV cA N (mg_out N T.heap.size 0))
    rw [arrV_size] at h
    simpa [mg_fill] using h
  | i + 1 => by
    have Xi := mg_stand X cA cI N K i
    obtain ⟨f1, f2, f3, f4⟩ := mg_facts T cA cI N K i
    have hlt0 : T.heap.size < (mg_fill T cA cI N K i).heap.size := by rw [f1]; omega
    have hcell : ((mg_fill T cA cI N K i).pushCell (arrV cI K (fun _ => .int 0))).heap[T.heap.size]? = some (arrV cA N (mg_out N T.heap.size i)) := by rw [State.heap_pushCell_of_lt (h := hlt0)]; exact f2
    have h := (Xi.pushed (arrV cI K (fun _ => .int 0))).stored hcell i (.ref (T.heap.size + 1 + i))
    rw [arrV_size, mg_next] at h
    have e2 : (locs ++ (List.range (i + 1)).map fun j => (⟨T.heap.size, j⟩ : Loc)) = (locs ++ (List.range i).map fun j => (⟨T.heap.size, j⟩ : Loc)) ++ [⟨T.heap.size, i⟩] := by simp [List.range_succ, List.append_assoc]
    have e3 : slots + N + (i + 1) * K = slots + N + i * K + K := by rw [Nat.succ_mul]; omega
    rw [e2, e3]
    exact h
theorem mg_run (X : Stand p l e R s m args below meth c T locs cells slots) (hexec : p.tables.exec = Jvm.exec) {own : String} {index : Nat} {cA cI cc : ClassId} {kA kI : Class} (hown : s.vm.findClass own = some m.cls) (hclink : (Cond.classLink own index "[[I").before args s = true)
    (hnA : s.vm.findClass "[[I" = some cA) (hkA : s.vm.classes[cA]? = some kA) (hkindA : kA.kind = .array cI (.array .int)) (hkI : s.vm.classes[cI]? = some kI) (hkindI : kI.kind = .array cc .int)
    {g : JFrame} (hg : g.method = m) (hdg : decode c.code g.pc = .ok (.multianewarray index 2, 4)) {n k : Int32} {rest : List Value} (hstack : g.stack = .int k :: .int n :: rest)
    (hn : ¬ n < 0) (hk : ¬ k < 0) (hb1 : n.toNatClampNeg ≤ 65536) (hb2 : k.toNatClampNeg ≤ 65536) (hcells : cells + (1 + n.toNatClampNeg) ≤ R.cells) (hslots : slots + (n.toNatClampNeg + n.toNatClampNeg * k.toNatClampNeg) ≤ R.slots) :
    ∃ vm₁ : Vm, s.WarmedH vm₁ ∧ Stand p l e R s m args below meth c (mg_fill (T.setVm vm₁) cA cI n.toNatClampNeg k.toNatClampNeg n.toNatClampNeg) (locs ++ (List.range n.toNatClampNeg).map fun j => ⟨T.heap.size, j⟩) (cells + 1 + n.toNatClampNeg) (slots + n.toNatClampNeg + n.toNatClampNeg * k.toNatClampNeg) ∧
      ∀ target, Steps p.tables e below ((mg_fill (T.setVm vm₁) cA cI n.toNatClampNeg k.toNatClampNeg n.toNatClampNeg).setTop { g with pc := g.pc + 4, stack := .ref T.heap.size :: rest }) target → Steps p.tables e below (T.setTop g) target := by
  subst hg
  have hpl : e.platform.magicAccessors = ({} : Platform).magicAccessors := by rw [X.admits.platform]
  obtain ⟨c0, hfc0, hcl⟩ := Cond.classLink_spec hown hclink e.platform hpl
  cases hnA.symm.trans hfc0
  obtain ⟨hg₁, hwarm₁, hready₁⟩ := State.classEntry (e := e) X.warmed hcl
  generalize T.vm.noted g.method.cls index (.cls cA) = vm₁ at hg₁ hwarm₁ hready₁
  have hal : s.vm.Alike vm₁ := hwarm₁.alike
  obtain ⟨kA₁, hkA₁, heA⟩ := hal.2.2 _ _ hkA
  obtain ⟨kI₁, hkI₁, heI⟩ := hal.2.2 _ _ hkI
  have hkindA₁ : kA₁.kind = .array cI (.array .int) := by rw [heA]; exact hkindA
  have hkindI₁ : kI₁.kind = .array cc .int := by rw [heI]; exact hkindI
  have X₁ := X.noted hwarm₁
  obtain ⟨hr1, hr2⟩ := X.roomAbove hcells hslots
  refine ⟨vm₁, hwarm₁, mg_stand X₁ cA cI _ _ _, fun target hrest => ?_⟩
  have hl1 : ¬ n.toNatClampNeg > e.platform.arrayLengthLimit := by rw [Launch.admits_arrayLengthLimit X.admits]; omega
  have hh1 : ¬ n.toNatClampNeg * componentBytes (.array .int) > e.platform.maxHeapBytes := by rw [Launch.admits_maxHeapBytes X.admits]; show ¬ n.toNatClampNeg * 4 > 536870912; omega
  have hl2 : ¬ k.toNatClampNeg > e.platform.arrayLengthLimit := by rw [Launch.admits_arrayLengthLimit X.admits]; omega
  have hh2 : ¬ k.toNatClampNeg * componentBytes .int > e.platform.maxHeapBytes := by rw [Launch.admits_maxHeapBytes X.admits]; show ¬ k.toNatClampNeg * 4 > 536870912; omega
  jvm_step X.here [hexec, hdg]
  simp only [multianewarray.sem, wp_bind', W.resolveClassAt_links (State.method?_setTop g X.here.top) hg₁]
  rw [W.popN, if_neg (by decide)]
  refine ⟨g, State.topJava?_setTop' (s := T.setVm vm₁) g X.here.top, [.int n, .int k], rest, rfl, hstack, ?_⟩
  simp only [List.mapM_cons, List.mapM_nil, wp_bind', wp_pure']
  refine mg_make2 (k := kA₁) (kc := kI₁) (cc := cc) hkA₁ hkindA₁ hkI₁ hkindI₁ hn hk hl1 hh1 hl2 hh2 (by show T.heap.size + 1 + _ ≤ _; omega) (by show T.slotsUsed + _ + _ ≤ _; omega) (fun d' acts' => ?_)
  have XF := mg_stand X₁ cA cI n.toNatClampNeg k.toNatClampNeg n.toNatClampNeg
  have eS : ((T.setTop g).setVm vm₁).setTop { g with stack := rest } = (T.setVm vm₁).setTop { g with stack := rest } := by
    show ((T.setVm vm₁).setTop g).setTop _ = _
    rw [State.setTop_setTop]
  rw [eS, mg_setTop]
  simp only [wp_bind', W.mark, W.pushRef, State.topJava?_setTop' _ XF.here.top, Option.some.injEq, exists_eq_left', State.setTop_setTop, State.heap_setTop]
  intro acts
  simp [jvm, XF.here.top]
  exact hrest
end MGS
/-- the memory behind new int[N][K] -/
def eg_gridG (G : eg_G) (N K : Nat) : eg_G := (G.1 + 1 + N, fun q => if q = G.1 then some (.inr (.array .int, N)) else if G.1 < q ∧ q ≤ G.1 + N then some (.inr (.int, K)) else G.2.1 q, fun q j => if q = G.1 then (if j < N then some (G.1 + 1 + j) else none) else G.2.2 q j)
def eg_gridM (M : eg_I) (a N : Nat) : eg_I := fun q j => if a ≤ q ∧ q ≤ a + N then 0 else M q j
theorem eg_mna {l : Launch} {E : eg_E} {y : eg_Mt} {d k n pc : Nat} {Q : Option Value → eg_G → eg_I → Prop} {lo : List (Option Value)} {st : List Value} {G : eg_G} {M : eg_I} {N K idx : Nat}
    (hw : Cond.classLink y.1.cls idx "[[I" ∈ eg_gw) (hN : N ≤ 65536) (hK : K ≤ 65536) (hk1 : 1 + N ≤ k) (hn1 : N + N * K ≤ n) (hd : decode y.2.1 pc = .ok (.multianewarray idx 2, 4))
    (kk : eg_J l E y d (k - (1 + N)) (n - (N + N * K)) Q (pc + 4) lo (.ref G.1 :: st) (eg_gridG G N K) (eg_gridM M G.1 N)) : eg_J l E y d k n Q pc lo (.int (nI K) :: .int (nI N) :: st) G M := by
  intro p e R s m args below meth c H locs cells slots mc ms ls hF hR hQ hz hL hl h1 h2 h3 h4 h5 h6
  obtain ⟨hx, hb, hr, hml, hown, hlk0, hnm, hgw, hT⟩ := id hF
  obtain ⟨-, hT2, -, -, -, -, kA, hkA, hkindA⟩ := hT
  obtain ⟨-, kI, hkI, cc, hkindI⟩ := (hT2 .int (by decide)).1 0 (fun _ => .int 0)
  have hnA : s.vm.findClass "[[I" = some (E.2.1 (.array .int)) := (hT2 (.array .int) (by decide)).2
  have zN : (nI N).toNatClampNeg = N := nI_clamp (by omega)
  have zK : (nI K).toNatClampNeg = K := nI_clamp (by omega)
  have hs : G.1 = H.size := hR.1
  intro T hTh X
  obtain ⟨vm₁, hW, X', step⟩ := mg_run X hx hown (hgw _ hw) hnA hkA hkindA hkI hkindI (g := F0 m pc ls (.int (nI K) :: .int (nI N) :: st)) rfl (by rw [hb]; exact hd) rfl (nI_pos (by omega)) (nI_pos (by omega)) (by rw [zN]; exact hN) (by rw [zK]; exact hK) (by rw [zN]; omega) (by rw [zN, zK]; omega)
  rw [zN, zK] at X' step
  have hTv : (T.setVm vm₁).heap = H := hTh
  obtain ⟨f1, f2, -, -⟩ := mg_facts (T.setVm vm₁) (E.2.1 (.array .int)) (E.2.1 .int) N K N
  have fo : ∀ q : Nat, q < H.size → (mg_fill (T.setVm vm₁) (E.2.1 (.array .int)) (E.2.1 .int) N K N).heap[q]? = H[q]? := fun q hq => by
    rw [mg_old _ _ _ _ _ (by rw [hTv]; exact hq), hTv]
  have fi : ∀ j : Nat, j < N → (mg_fill (T.setVm vm₁) (E.2.1 (.array .int)) (E.2.1 .int) N K N).heap[H.size + 1 + j]? = some (arrV (E.2.1 .int) K (fun _ => .int 0)) := fun j hj => by
    have := mg_inner (T.setVm vm₁) (E.2.1 (.array .int)) (E.2.1 .int) N K N j hj
    rw [hTv] at this
    exact this
  rw [hTv] at f1 f2
  generalize mg_fill (T.setVm vm₁) (E.2.1 (.array .int)) (E.2.1 .int) N K N = F at X' step f1 f2 fo fi
  have hRF : eg_R E (eg_gridG G N K) (eg_gridM M G.1 N) F.heap := by
    refine ⟨by show G.1 + 1 + N = _; rw [f1, hs], fun q ci hq => ?_, fun q ty nn hq => ?_⟩
    · have hq' : (if q = G.1 then some (Sum.inr (FieldType.array FieldType.int, N)) else if G.1 < q ∧ q ≤ G.1 + N then some (Sum.inr (FieldType.int, K)) else G.2.1 q) = some (.inl ci) := hq
      by_cases e1 : q = G.1
      · rw [if_pos e1] at hq'; cases hq'
      · rw [if_neg e1] at hq'
        by_cases e2 : G.1 < q ∧ q ≤ G.1 + N
        · rw [if_pos e2] at hq'; cases hq'
        · rw [if_neg e2] at hq'
          obtain ⟨b1, r, b2, b3⟩ := hR.2.1 q ci hq'
          have hlt := hR.lt hq'
          refine ⟨b1, r, b2, ?_⟩
          have := b3.kept (fo q hlt)
          simpa [eg_gridG, eg_gridM, e1, show ¬ (G.1 ≤ q ∧ q ≤ G.1 + N) by omega] using this
    · have hq' : (if q = G.1 then some (Sum.inr (FieldType.array FieldType.int, N)) else if G.1 < q ∧ q ≤ G.1 + N then some (Sum.inr (FieldType.int, K)) else G.2.1 q) = some (.inr (ty, nn)) := hq
      by_cases e1 : q = G.1
      · rw [if_pos e1] at hq'
        cases hq'
        refine ⟨by omega, by decide, ?_⟩
        rw [e1, hs, f2]
        congr 2
        funext j
        simp only [eg_gridG, hs]
        rw [eg_v_ref rfl]
        unfold mg_out
        by_cases hj : j < N
        · simp [hj, va_rf]
        · simp [hj, va_rf]
      · rw [if_neg e1] at hq'
        by_cases e2 : G.1 < q ∧ q ≤ G.1 + N
        · rw [if_pos e2] at hq'
          cases hq'
          refine ⟨by omega, by decide, ?_⟩
          have := fi (q - (H.size + 1)) (by omega)
          rw [show H.size + 1 + (q - (H.size + 1)) = q by omega] at this
          rw [this]
          congr 2
          funext j
          rw [eg_v_int rfl]
          simp [eg_gridM, show G.1 ≤ q ∧ q ≤ G.1 + N by omega]
        · rw [if_neg e2] at hq'
          obtain ⟨b1, b2, b3⟩ := hR.2.2 q ty nn hq'
          have hlt := hR.lt hq'
          refine ⟨b1, b2, ?_⟩
          rw [fo q hlt]
          simpa [eg_gridG, eg_gridM, e1, show ¬ (G.1 ≤ q ∧ q ≤ G.1 + N) by omega] using b3
  obtain ⟨t, a1, b1⟩ := kk p e R s m args below meth c F.heap _ (cells + 1 + N) (slots + N + N * K) mc ms ls hF hRF (fun q hq => by rw [fo q (by omega)]; exact hQ q hq) (by rw [f1]; omega) (t_lL hL (fun q hq => by
    obtain ⟨w, -, hw⟩ := List.mem_map.mp hq
    rw [← hw]
    show E.2.2.1 ≤ T.heap.size
    rw [hTh]
    exact hz)) hl h1 h2 h3 h4 (by omega) (by omega) F rfl X'
  refine ⟨t, step t ?_, b1⟩
  have e : T.heap.size = G.1 := by rw [hTh, hs]
  rw [e]
  exact a1
end
section
/-! handier forms of the rules -/
theorem eg_topi {l : Launch} {E : eg_E} {y : eg_Mt} {d k n pc : Nat} {Q : Option Value → eg_G → eg_I → Prop} {lo : List (Option Value)} {st : List Value} {G : eg_G} {M : eg_I} {x x' : Int32} (h : x = x') (kk : eg_J l E y d k n Q (pc) lo (.int x' :: st) G M) : eg_J l E y d k n Q (pc) lo (.int x :: st) G M := h ▸ kk
theorem eg_mem {l : Launch} {E : eg_E} {y : eg_Mt} {d k n pc : Nat} {Q : Option Value → eg_G → eg_I → Prop} {lo : List (Option Value)} {st : List Value} {G : eg_G} {M : eg_I} {M' : eg_I} (h : M = M') (kk : eg_J l E y d k n Q (pc) lo (st) G M') : eg_J l E y d k n Q (pc) lo (st) G M := h ▸ kk
theorem eg_los {l : Launch} {E : eg_E} {y : eg_Mt} {d k n pc : Nat} {Q : Option Value → eg_G → eg_I → Prop} {lo : List (Option Value)} {st : List Value} {G : eg_G} {M : eg_I} {lo' : List (Option Value)} (h : lo = lo') (kk : eg_J l E y d k n Q (pc) lo' (st) G M) : eg_J l E y d k n Q (pc) lo (st) G M := h ▸ kk
theorem eg_post {l : Launch} {E : eg_E} {y : eg_Mt} {d k n pc : Nat} {Q : Option Value → eg_G → eg_I → Prop} {lo : List (Option Value)} {st : List Value} {G : eg_G} {M : eg_I} {Q' : Option Value → eg_G → eg_I → Prop} (h : ∀ r G M, Q' r G M → Q r G M) (kk : eg_J l E y d k n Q' pc lo st G M) : eg_J l E y d k n Q (pc) lo (st) G M := by
  intro p e R s m args below meth c H locs cells slots mc ms ls hF hR hQ hz hL hl h1 h2 h3 h4 h5 h6
  intro T hT X
  obtain ⟨t, a, o, b1, b2, ⟨r, G', M', c1, c2, c3, c4⟩, b4⟩ := kk p e R s m args below meth c H locs cells slots mc ms ls hF hR hQ hz hL hl h1 h2 h3 h4 h5 h6 T hT X
  exact ⟨t, a, o, b1, b2, ⟨r, G', M', c1, c2, h _ _ _ c3, c4⟩, b4⟩
theorem eg_room {l : Launch} {E : eg_E} {y : eg_Mt} {d k n pc : Nat} {Q : Option Value → eg_G → eg_I → Prop} {lo : List (Option Value)} {st : List Value} {G : eg_G} {M : eg_I} {d' k' n' : Nat} (h1 : d' ≤ d) (h2 : k' ≤ k) (h3 : n' ≤ n) (kk : eg_J l E y d' k' n' Q pc lo st G M) : eg_J l E y d k n Q (pc) lo (st) G M := by
  intro p e R s m args below meth c H locs cells slots mc ms ls hF hR hQ hz hL hl g1 g2 g3 g4 g5 g6
  exact kk p e R s m args below meth c H locs cells slots mc ms ls hF hR hQ hz hL hl (by omega) (by omega) g3 g4 (by omega) (by omega)
theorem eg_ialdN {l : Launch} {E : eg_E} {y : eg_Mt} {d k n pc : Nat} {Q : Option Value → eg_G → eg_I → Prop} {lo : List (Option Value)} {st : List Value} {G : eg_G} {M : eg_I} {a N j : Nat} (ha : G.2.1 a = some (.inr (.int, N))) (hj : j < N) (hN : N < 2 ^ 31) (hd : decode y.2.1 pc = .ok (.iaload, 1)) (kk : eg_J l E y d k n Q (pc + 1) lo (.int (M a j) :: st) G M) : eg_J l E y d k n Q (pc) lo (.int (nI j) :: .ref a :: st) G M := by
  refine eg_iald ha (vp_in_nI hj hN) hd ?_
  rw [nI_clamp (by omega)]
  exact kk
theorem eg_zaldN {l : Launch} {E : eg_E} {y : eg_Mt} {d k n pc : Nat} {Q : Option Value → eg_G → eg_I → Prop} {lo : List (Option Value)} {st : List Value} {G : eg_G} {M : eg_I} {a N j : Nat} (ha : G.2.1 a = some (.inr (.boolean, N))) (hj : j < N) (hN : N < 2 ^ 31) (hd : decode y.2.1 pc = .ok (.baload, 1)) (kk : eg_J l E y d k n Q (pc + 1) lo (.int (M a j) :: st) G M) : eg_J l E y d k n Q (pc) lo (.int (nI j) :: .ref a :: st) G M := by
  refine eg_zald ha (vp_in_nI hj hN) hd ?_
  rw [nI_clamp (by omega)]
  exact kk
theorem eg_iastN {l : Launch} {E : eg_E} {y : eg_Mt} {d k n pc : Nat} {Q : Option Value → eg_G → eg_I → Prop} {lo : List (Option Value)} {st : List Value} {G : eg_G} {M : eg_I} {a N j : Nat} {x : Int32} (ha : G.2.1 a = some (.inr (.int, N))) (hj : j < N) (hN : N < 2 ^ 31)  (hd : decode y.2.1 pc = .ok (.iastore, 1)) (kk : eg_J l E y d k n Q (pc + 1) lo (st) G (eg_set M a j x)) : eg_J l E y d k n Q (pc) lo (.int x :: .int (nI j) :: .ref a :: st) G M := by
  refine eg_iast ha (vp_in_nI hj hN)  hd ?_
  rw [nI_clamp (by omega)]
  exact kk
theorem eg_zastN {l : Launch} {E : eg_E} {y : eg_Mt} {d k n pc : Nat} {Q : Option Value → eg_G → eg_I → Prop} {lo : List (Option Value)} {st : List Value} {G : eg_G} {M : eg_I} {a N j : Nat} {x : Int32} (ha : G.2.1 a = some (.inr (.boolean, N))) (hj : j < N) (hN : N < 2 ^ 31) (hnx : narrow .boolean (.int x) = .int x) (hd : decode y.2.1 pc = .ok (.bastore, 1)) (kk : eg_J l E y d k n Q (pc + 1) lo (st) G (eg_set M a j x)) : eg_J l E y d k n Q (pc) lo (.int x :: .int (nI j) :: .ref a :: st) G M := by
  refine eg_zast ha (vp_in_nI hj hN) hnx hd ?_
  rw [nI_clamp (by omega)]
  exact kk
theorem eg_aaldN {l : Launch} {E : eg_E} {y : eg_Mt} {d k n pc : Nat} {Q : Option Value → eg_G → eg_I → Prop} {lo : List (Option Value)} {st : List Value} {G : eg_G} {M : eg_I} {a b N j : Nat} {ty : FieldType} (hty : ty.isReference = true) (ha : G.2.1 a = some (.inr (ty, N))) (hj : j < N) (hN : N < 2 ^ 31) (hr : G.2.2 a j = some b) (hd : decode y.2.1 pc = .ok (.aaload, 1)) (kk : eg_J l E y d k n Q (pc + 1) lo (.ref b :: st) G M) : eg_J l E y d k n Q (pc) lo (.int (nI j) :: .ref a :: st) G M := by
  refine eg_aald hty ha (vp_in_nI hj hN) ?_ hd kk
  rw [nI_clamp (by omega)]
  exact hr
theorem eg_callV0 {l : Launch} {E : eg_E} {y : eg_Mt} {d k n pc : Nat} {Q : Option Value → eg_G → eg_I → Prop} {lo : List (Option Value)} {st : List Value} {G : eg_G} {M : eg_I} {y' : eg_Mt} {idx : Nat} {b : Nat}  {ci N : Nat} {Tt : u_T} (k' n' : Nat) (hy : eg_YOK y' 0) (hin : Cond.instanceMethod y'.1 ∈ eg_gw ∧ Cond.selects y'.1.cls y'.1 y'.1 ∈ eg_gw) (hb0 : G.2.1 b = some (.inl ci)) (hC : classes[ci]? = some (y'.1.cls, Tt, N)) (hlk : Cond.methodLink y.1.cls idx y'.1 ∈ eg_gw ∨ ∃ host, Cond.methodLinkNest y.1.cls idx y'.1 host ∈ eg_nw) (hcat : (([] : List Value).all fun v => v.category == 1) = true) (hmx : ([.ref b] : List Value).length ≤ y'.2.2.1) (hsum : (st.map fun v => v.category).sum ≤ 8) (hk' : k' ≤ k) (hn' : n' ≤ n) (hd1 : 1 ≤ d) (hd : decode y.2.1 pc = .ok (.invokevirtual idx, 3)) (kk : eg_J l E y' (d - 1) k' n' (fun r G' M' => eg_J l E y d (k - k') (n - n') Q (pc + 3) lo (r.toList ++ st) G' M') 0 (eg_args ([.ref b]) y'.2.2.1) [] G M) : eg_J l E y d k n Q pc lo (.ref b :: st) G M :=
  eg_callV (b := b) (As := []) (st := st) k' n' hy hin hb0 hC hlk hcat rfl hmx rfl hsum hk' hn' hd1 hd kk
theorem eg_callV1 {l : Launch} {E : eg_E} {y : eg_Mt} {d k n pc : Nat} {Q : Option Value → eg_G → eg_I → Prop} {lo : List (Option Value)} {st : List Value} {G : eg_G} {M : eg_I} {y' : eg_Mt} {idx : Nat} {b : Nat} {x1 : Value} {ci N : Nat} {Tt : u_T} (k' n' : Nat) (hy : eg_YOK y' 1) (hin : Cond.instanceMethod y'.1 ∈ eg_gw ∧ Cond.selects y'.1.cls y'.1 y'.1 ∈ eg_gw) (hb0 : G.2.1 b = some (.inl ci)) (hC : classes[ci]? = some (y'.1.cls, Tt, N)) (hlk : Cond.methodLink y.1.cls idx y'.1 ∈ eg_gw ∨ ∃ host, Cond.methodLinkNest y.1.cls idx y'.1 host ∈ eg_nw) (hcat : (([x1] : List Value).all fun v => v.category == 1) = true) (hmx : ([.ref b, x1] : List Value).length ≤ y'.2.2.1) (hsum : (st.map fun v => v.category).sum ≤ 8) (hk' : k' ≤ k) (hn' : n' ≤ n) (hd1 : 1 ≤ d) (hd : decode y.2.1 pc = .ok (.invokevirtual idx, 3)) (kk : eg_J l E y' (d - 1) k' n' (fun r G' M' => eg_J l E y d (k - k') (n - n') Q (pc + 3) lo (r.toList ++ st) G' M') 0 (eg_args ([.ref b, x1]) y'.2.2.1) [] G M) : eg_J l E y d k n Q pc lo (x1 :: .ref b :: st) G M :=
  eg_callV (b := b) (As := [x1]) (st := st) k' n' hy hin hb0 hC hlk hcat rfl hmx rfl hsum hk' hn' hd1 hd kk
theorem eg_callV2 {l : Launch} {E : eg_E} {y : eg_Mt} {d k n pc : Nat} {Q : Option Value → eg_G → eg_I → Prop} {lo : List (Option Value)} {st : List Value} {G : eg_G} {M : eg_I} {y' : eg_Mt} {idx : Nat} {b : Nat} {x1 x2 : Value} {ci N : Nat} {Tt : u_T} (k' n' : Nat) (hy : eg_YOK y' 2) (hin : Cond.instanceMethod y'.1 ∈ eg_gw ∧ Cond.selects y'.1.cls y'.1 y'.1 ∈ eg_gw) (hb0 : G.2.1 b = some (.inl ci)) (hC : classes[ci]? = some (y'.1.cls, Tt, N)) (hlk : Cond.methodLink y.1.cls idx y'.1 ∈ eg_gw ∨ ∃ host, Cond.methodLinkNest y.1.cls idx y'.1 host ∈ eg_nw) (hcat : (([x1, x2] : List Value).all fun v => v.category == 1) = true) (hmx : ([.ref b, x1, x2] : List Value).length ≤ y'.2.2.1) (hsum : (st.map fun v => v.category).sum ≤ 8) (hk' : k' ≤ k) (hn' : n' ≤ n) (hd1 : 1 ≤ d) (hd : decode y.2.1 pc = .ok (.invokevirtual idx, 3)) (kk : eg_J l E y' (d - 1) k' n' (fun r G' M' => eg_J l E y d (k - k') (n - n') Q (pc + 3) lo (r.toList ++ st) G' M') 0 (eg_args ([.ref b, x1, x2]) y'.2.2.1) [] G M) : eg_J l E y d k n Q pc lo (x2 :: x1 :: .ref b :: st) G M :=
  eg_callV (b := b) (As := [x1, x2]) (st := st) k' n' hy hin hb0 hC hlk hcat rfl hmx rfl hsum hk' hn' hd1 hd kk
theorem eg_callV3 {l : Launch} {E : eg_E} {y : eg_Mt} {d k n pc : Nat} {Q : Option Value → eg_G → eg_I → Prop} {lo : List (Option Value)} {st : List Value} {G : eg_G} {M : eg_I} {y' : eg_Mt} {idx : Nat} {b : Nat} {x1 x2 x3 : Value} {ci N : Nat} {Tt : u_T} (k' n' : Nat) (hy : eg_YOK y' 3) (hin : Cond.instanceMethod y'.1 ∈ eg_gw ∧ Cond.selects y'.1.cls y'.1 y'.1 ∈ eg_gw) (hb0 : G.2.1 b = some (.inl ci)) (hC : classes[ci]? = some (y'.1.cls, Tt, N)) (hlk : Cond.methodLink y.1.cls idx y'.1 ∈ eg_gw ∨ ∃ host, Cond.methodLinkNest y.1.cls idx y'.1 host ∈ eg_nw) (hcat : (([x1, x2, x3] : List Value).all fun v => v.category == 1) = true) (hmx : ([.ref b, x1, x2, x3] : List Value).length ≤ y'.2.2.1) (hsum : (st.map fun v => v.category).sum ≤ 8) (hk' : k' ≤ k) (hn' : n' ≤ n) (hd1 : 1 ≤ d) (hd : decode y.2.1 pc = .ok (.invokevirtual idx, 3)) (kk : eg_J l E y' (d - 1) k' n' (fun r G' M' => eg_J l E y d (k - k') (n - n') Q (pc + 3) lo (r.toList ++ st) G' M') 0 (eg_args ([.ref b, x1, x2, x3]) y'.2.2.1) [] G M) : eg_J l E y d k n Q pc lo (x3 :: x2 :: x1 :: .ref b :: st) G M :=
  eg_callV (b := b) (As := [x1, x2, x3]) (st := st) k' n' hy hin hb0 hC hlk hcat rfl hmx rfl hsum hk' hn' hd1 hd kk
theorem eg_callV4 {l : Launch} {E : eg_E} {y : eg_Mt} {d k n pc : Nat} {Q : Option Value → eg_G → eg_I → Prop} {lo : List (Option Value)} {st : List Value} {G : eg_G} {M : eg_I} {y' : eg_Mt} {idx : Nat} {b : Nat} {x1 x2 x3 x4 : Value} {ci N : Nat} {Tt : u_T} (k' n' : Nat) (hy : eg_YOK y' 4) (hin : Cond.instanceMethod y'.1 ∈ eg_gw ∧ Cond.selects y'.1.cls y'.1 y'.1 ∈ eg_gw) (hb0 : G.2.1 b = some (.inl ci)) (hC : classes[ci]? = some (y'.1.cls, Tt, N)) (hlk : Cond.methodLink y.1.cls idx y'.1 ∈ eg_gw ∨ ∃ host, Cond.methodLinkNest y.1.cls idx y'.1 host ∈ eg_nw) (hcat : (([x1, x2, x3, x4] : List Value).all fun v => v.category == 1) = true) (hmx : ([.ref b, x1, x2, x3, x4] : List Value).length ≤ y'.2.2.1) (hsum : (st.map fun v => v.category).sum ≤ 8) (hk' : k' ≤ k) (hn' : n' ≤ n) (hd1 : 1 ≤ d) (hd : decode y.2.1 pc = .ok (.invokevirtual idx, 3)) (kk : eg_J l E y' (d - 1) k' n' (fun r G' M' => eg_J l E y d (k - k') (n - n') Q (pc + 3) lo (r.toList ++ st) G' M') 0 (eg_args ([.ref b, x1, x2, x3, x4]) y'.2.2.1) [] G M) : eg_J l E y d k n Q pc lo (x4 :: x3 :: x2 :: x1 :: .ref b :: st) G M :=
  eg_callV (b := b) (As := [x1, x2, x3, x4]) (st := st) k' n' hy hin hb0 hC hlk hcat rfl hmx rfl hsum hk' hn' hd1 hd kk
theorem eg_callV5 {l : Launch} {E : eg_E} {y : eg_Mt} {d k n pc : Nat} {Q : Option Value → eg_G → eg_I → Prop} {lo : List (Option Value)} {st : List Value} {G : eg_G} {M : eg_I} {y' : eg_Mt} {idx : Nat} {b : Nat} {x1 x2 x3 x4 x5 : Value} {ci N : Nat} {Tt : u_T} (k' n' : Nat) (hy : eg_YOK y' 5) (hin : Cond.instanceMethod y'.1 ∈ eg_gw ∧ Cond.selects y'.1.cls y'.1 y'.1 ∈ eg_gw) (hb0 : G.2.1 b = some (.inl ci)) (hC : classes[ci]? = some (y'.1.cls, Tt, N)) (hlk : Cond.methodLink y.1.cls idx y'.1 ∈ eg_gw ∨ ∃ host, Cond.methodLinkNest y.1.cls idx y'.1 host ∈ eg_nw) (hcat : (([x1, x2, x3, x4, x5] : List Value).all fun v => v.category == 1) = true) (hmx : ([.ref b, x1, x2, x3, x4, x5] : List Value).length ≤ y'.2.2.1) (hsum : (st.map fun v => v.category).sum ≤ 8) (hk' : k' ≤ k) (hn' : n' ≤ n) (hd1 : 1 ≤ d) (hd : decode y.2.1 pc = .ok (.invokevirtual idx, 3)) (kk : eg_J l E y' (d - 1) k' n' (fun r G' M' => eg_J l E y d (k - k') (n - n') Q (pc + 3) lo (r.toList ++ st) G' M') 0 (eg_args ([.ref b, x1, x2, x3, x4, x5]) y'.2.2.1) [] G M) : eg_J l E y d k n Q pc lo (x5 :: x4 :: x3 :: x2 :: x1 :: .ref b :: st) G M :=
  eg_callV (b := b) (As := [x1, x2, x3, x4, x5]) (st := st) k' n' hy hin hb0 hC hlk hcat rfl hmx rfl hsum hk' hn' hd1 hd kk
theorem eg_callS0 {l : Launch} {E : eg_E} {y : eg_Mt} {d k n pc : Nat} {Q : Option Value → eg_G → eg_I → Prop} {lo : List (Option Value)} {st : List Value} {G : eg_G} {M : eg_I} {y' : eg_Mt} {idx : Nat}    (k' n' : Nat) (hy : eg_YOK y' 0) (hin : Cond.static y'.1 ∈ eg_gw) (hlk : Cond.methodLink y.1.cls idx y'.1 ∈ eg_gw ∨ ∃ host, Cond.methodLinkNest y.1.cls idx y'.1 host ∈ eg_nw) (hcat : (([] : List Value).all fun v => v.category == 1) = true) (hmx : ([] : List Value).length ≤ y'.2.2.1) (hsum : (st.map fun v => v.category).sum ≤ 8) (hk' : k' ≤ k) (hn' : n' ≤ n) (hd1 : 1 ≤ d) (hd : decode y.2.1 pc = .ok (.invokestatic idx, 3)) (kk : eg_J l E y' (d - 1) k' n' (fun r G' M' => eg_J l E y d (k - k') (n - n') Q (pc + 3) lo (r.toList ++ st) G' M') 0 (eg_args ([]) y'.2.2.1) [] G M) : eg_J l E y d k n Q pc lo (st) G M :=
  eg_callS (b := 0) (As := []) (st := st) k' n' hy hin hlk hcat rfl hmx rfl hsum hk' hn' hd1 hd kk
theorem eg_callS1 {l : Launch} {E : eg_E} {y : eg_Mt} {d k n pc : Nat} {Q : Option Value → eg_G → eg_I → Prop} {lo : List (Option Value)} {st : List Value} {G : eg_G} {M : eg_I} {y' : eg_Mt} {idx : Nat}  {x1 : Value}  (k' n' : Nat) (hy : eg_YOK y' 1) (hin : Cond.static y'.1 ∈ eg_gw) (hlk : Cond.methodLink y.1.cls idx y'.1 ∈ eg_gw ∨ ∃ host, Cond.methodLinkNest y.1.cls idx y'.1 host ∈ eg_nw) (hcat : (([x1] : List Value).all fun v => v.category == 1) = true) (hmx : ([x1] : List Value).length ≤ y'.2.2.1) (hsum : (st.map fun v => v.category).sum ≤ 8) (hk' : k' ≤ k) (hn' : n' ≤ n) (hd1 : 1 ≤ d) (hd : decode y.2.1 pc = .ok (.invokestatic idx, 3)) (kk : eg_J l E y' (d - 1) k' n' (fun r G' M' => eg_J l E y d (k - k') (n - n') Q (pc + 3) lo (r.toList ++ st) G' M') 0 (eg_args ([x1]) y'.2.2.1) [] G M) : eg_J l E y d k n Q pc lo (x1 :: st) G M :=
  eg_callS (b := 0) (As := [x1]) (st := st) k' n' hy hin hlk hcat rfl hmx rfl hsum hk' hn' hd1 hd kk
theorem eg_callS2 {l : Launch} {E : eg_E} {y : eg_Mt} {d k n pc : Nat} {Q : Option Value → eg_G → eg_I → Prop} {lo : List (Option Value)} {st : List Value} {G : eg_G} {M : eg_I} {y' : eg_Mt} {idx : Nat}  {x1 x2 : Value}  (k' n' : Nat) (hy : eg_YOK y' 2) (hin : Cond.static y'.1 ∈ eg_gw) (hlk : Cond.methodLink y.1.cls idx y'.1 ∈ eg_gw ∨ ∃ host, Cond.methodLinkNest y.1.cls idx y'.1 host ∈ eg_nw) (hcat : (([x1, x2] : List Value).all fun v => v.category == 1) = true) (hmx : ([x1, x2] : List Value).length ≤ y'.2.2.1) (hsum : (st.map fun v => v.category).sum ≤ 8) (hk' : k' ≤ k) (hn' : n' ≤ n) (hd1 : 1 ≤ d) (hd : decode y.2.1 pc = .ok (.invokestatic idx, 3)) (kk : eg_J l E y' (d - 1) k' n' (fun r G' M' => eg_J l E y d (k - k') (n - n') Q (pc + 3) lo (r.toList ++ st) G' M') 0 (eg_args ([x1, x2]) y'.2.2.1) [] G M) : eg_J l E y d k n Q pc lo (x2 :: x1 :: st) G M :=
  eg_callS (b := 0) (As := [x1, x2]) (st := st) k' n' hy hin hlk hcat rfl hmx rfl hsum hk' hn' hd1 hd kk
theorem eg_callS3 {l : Launch} {E : eg_E} {y : eg_Mt} {d k n pc : Nat} {Q : Option Value → eg_G → eg_I → Prop} {lo : List (Option Value)} {st : List Value} {G : eg_G} {M : eg_I} {y' : eg_Mt} {idx : Nat}  {x1 x2 x3 : Value}  (k' n' : Nat) (hy : eg_YOK y' 3) (hin : Cond.static y'.1 ∈ eg_gw) (hlk : Cond.methodLink y.1.cls idx y'.1 ∈ eg_gw ∨ ∃ host, Cond.methodLinkNest y.1.cls idx y'.1 host ∈ eg_nw) (hcat : (([x1, x2, x3] : List Value).all fun v => v.category == 1) = true) (hmx : ([x1, x2, x3] : List Value).length ≤ y'.2.2.1) (hsum : (st.map fun v => v.category).sum ≤ 8) (hk' : k' ≤ k) (hn' : n' ≤ n) (hd1 : 1 ≤ d) (hd : decode y.2.1 pc = .ok (.invokestatic idx, 3)) (kk : eg_J l E y' (d - 1) k' n' (fun r G' M' => eg_J l E y d (k - k') (n - n') Q (pc + 3) lo (r.toList ++ st) G' M') 0 (eg_args ([x1, x2, x3]) y'.2.2.1) [] G M) : eg_J l E y d k n Q pc lo (x3 :: x2 :: x1 :: st) G M :=
  eg_callS (b := 0) (As := [x1, x2, x3]) (st := st) k' n' hy hin hlk hcat rfl hmx rfl hsum hk' hn' hd1 hd kk
theorem eg_callS4 {l : Launch} {E : eg_E} {y : eg_Mt} {d k n pc : Nat} {Q : Option Value → eg_G → eg_I → Prop} {lo : List (Option Value)} {st : List Value} {G : eg_G} {M : eg_I} {y' : eg_Mt} {idx : Nat}  {x1 x2 x3 x4 : Value}  (k' n' : Nat) (hy : eg_YOK y' 4) (hin : Cond.static y'.1 ∈ eg_gw) (hlk : Cond.methodLink y.1.cls idx y'.1 ∈ eg_gw ∨ ∃ host, Cond.methodLinkNest y.1.cls idx y'.1 host ∈ eg_nw) (hcat : (([x1, x2, x3, x4] : List Value).all fun v => v.category == 1) = true) (hmx : ([x1, x2, x3, x4] : List Value).length ≤ y'.2.2.1) (hsum : (st.map fun v => v.category).sum ≤ 8) (hk' : k' ≤ k) (hn' : n' ≤ n) (hd1 : 1 ≤ d) (hd : decode y.2.1 pc = .ok (.invokestatic idx, 3)) (kk : eg_J l E y' (d - 1) k' n' (fun r G' M' => eg_J l E y d (k - k') (n - n') Q (pc + 3) lo (r.toList ++ st) G' M') 0 (eg_args ([x1, x2, x3, x4]) y'.2.2.1) [] G M) : eg_J l E y d k n Q pc lo (x4 :: x3 :: x2 :: x1 :: st) G M :=
  eg_callS (b := 0) (As := [x1, x2, x3, x4]) (st := st) k' n' hy hin hlk hcat rfl hmx rfl hsum hk' hn' hd1 hd kk
theorem eg_callS5 {l : Launch} {E : eg_E} {y : eg_Mt} {d k n pc : Nat} {Q : Option Value → eg_G → eg_I → Prop} {lo : List (Option Value)} {st : List Value} {G : eg_G} {M : eg_I} {y' : eg_Mt} {idx : Nat}  {x1 x2 x3 x4 x5 : Value}  (k' n' : Nat) (hy : eg_YOK y' 5) (hin : Cond.static y'.1 ∈ eg_gw) (hlk : Cond.methodLink y.1.cls idx y'.1 ∈ eg_gw ∨ ∃ host, Cond.methodLinkNest y.1.cls idx y'.1 host ∈ eg_nw) (hcat : (([x1, x2, x3, x4, x5] : List Value).all fun v => v.category == 1) = true) (hmx : ([x1, x2, x3, x4, x5] : List Value).length ≤ y'.2.2.1) (hsum : (st.map fun v => v.category).sum ≤ 8) (hk' : k' ≤ k) (hn' : n' ≤ n) (hd1 : 1 ≤ d) (hd : decode y.2.1 pc = .ok (.invokestatic idx, 3)) (kk : eg_J l E y' (d - 1) k' n' (fun r G' M' => eg_J l E y d (k - k') (n - n') Q (pc + 3) lo (r.toList ++ st) G' M') 0 (eg_args ([x1, x2, x3, x4, x5]) y'.2.2.1) [] G M) : eg_J l E y d k n Q pc lo (x5 :: x4 :: x3 :: x2 :: x1 :: st) G M :=
  eg_callS (b := 0) (As := [x1, x2, x3, x4, x5]) (st := st) k' n' hy hin hlk hcat rfl hmx rfl hsum hk' hn' hd1 hd kk
theorem eg_callI0 {l : Launch} {E : eg_E} {y : eg_Mt} {d k n pc : Nat} {Q : Option Value → eg_G → eg_I → Prop} {lo : List (Option Value)} {st : List Value} {G : eg_G} {M : eg_I} {y' : eg_Mt} {idx : Nat} {b : Nat}   (k' n' : Nat) (hy : eg_YOK y' 0) (hin : Cond.instanceMethod y'.1 ∈ eg_gw ∧ y'.1.name = "<init>") (hrt : y'.2.2.2 = none) (hlk : Cond.methodLink y.1.cls idx y'.1 ∈ eg_gw ∨ ∃ host, Cond.methodLinkNest y.1.cls idx y'.1 host ∈ eg_nw) (hcat : (([] : List Value).all fun v => v.category == 1) = true) (hmx : ([.ref b] : List Value).length ≤ y'.2.2.1) (hsum : (st.map fun v => v.category).sum ≤ 8) (hk' : k' ≤ k) (hn' : n' ≤ n) (hd1 : 1 ≤ d) (hd : decode y.2.1 pc = .ok (.invokespecial idx, 3)) (kk : eg_J l E y' (d - 1) k' n' (fun r G' M' => eg_J l E y d (k - k') (n - n') Q (pc + 3) lo (r.toList ++ st) G' M') 0 (eg_args ([.ref b]) y'.2.2.1) [] G M) : eg_J l E y d k n Q pc lo (.ref b :: st) G M :=
  eg_callI (b := b) (As := []) (st := st) k' n' hy hin hrt hlk hcat rfl hmx rfl hsum hk' hn' hd1 hd kk
theorem eg_callI1 {l : Launch} {E : eg_E} {y : eg_Mt} {d k n pc : Nat} {Q : Option Value → eg_G → eg_I → Prop} {lo : List (Option Value)} {st : List Value} {G : eg_G} {M : eg_I} {y' : eg_Mt} {idx : Nat} {b : Nat} {x1 : Value}  (k' n' : Nat) (hy : eg_YOK y' 1) (hin : Cond.instanceMethod y'.1 ∈ eg_gw ∧ y'.1.name = "<init>") (hrt : y'.2.2.2 = none) (hlk : Cond.methodLink y.1.cls idx y'.1 ∈ eg_gw ∨ ∃ host, Cond.methodLinkNest y.1.cls idx y'.1 host ∈ eg_nw) (hcat : (([x1] : List Value).all fun v => v.category == 1) = true) (hmx : ([.ref b, x1] : List Value).length ≤ y'.2.2.1) (hsum : (st.map fun v => v.category).sum ≤ 8) (hk' : k' ≤ k) (hn' : n' ≤ n) (hd1 : 1 ≤ d) (hd : decode y.2.1 pc = .ok (.invokespecial idx, 3)) (kk : eg_J l E y' (d - 1) k' n' (fun r G' M' => eg_J l E y d (k - k') (n - n') Q (pc + 3) lo (r.toList ++ st) G' M') 0 (eg_args ([.ref b, x1]) y'.2.2.1) [] G M) : eg_J l E y d k n Q pc lo (x1 :: .ref b :: st) G M :=
  eg_callI (b := b) (As := [x1]) (st := st) k' n' hy hin hrt hlk hcat rfl hmx rfl hsum hk' hn' hd1 hd kk
theorem eg_callI2 {l : Launch} {E : eg_E} {y : eg_Mt} {d k n pc : Nat} {Q : Option Value → eg_G → eg_I → Prop} {lo : List (Option Value)} {st : List Value} {G : eg_G} {M : eg_I} {y' : eg_Mt} {idx : Nat} {b : Nat} {x1 x2 : Value}  (k' n' : Nat) (hy : eg_YOK y' 2) (hin : Cond.instanceMethod y'.1 ∈ eg_gw ∧ y'.1.name = "<init>") (hrt : y'.2.2.2 = none) (hlk : Cond.methodLink y.1.cls idx y'.1 ∈ eg_gw ∨ ∃ host, Cond.methodLinkNest y.1.cls idx y'.1 host ∈ eg_nw) (hcat : (([x1, x2] : List Value).all fun v => v.category == 1) = true) (hmx : ([.ref b, x1, x2] : List Value).length ≤ y'.2.2.1) (hsum : (st.map fun v => v.category).sum ≤ 8) (hk' : k' ≤ k) (hn' : n' ≤ n) (hd1 : 1 ≤ d) (hd : decode y.2.1 pc = .ok (.invokespecial idx, 3)) (kk : eg_J l E y' (d - 1) k' n' (fun r G' M' => eg_J l E y d (k - k') (n - n') Q (pc + 3) lo (r.toList ++ st) G' M') 0 (eg_args ([.ref b, x1, x2]) y'.2.2.1) [] G M) : eg_J l E y d k n Q pc lo (x2 :: x1 :: .ref b :: st) G M :=
  eg_callI (b := b) (As := [x1, x2]) (st := st) k' n' hy hin hrt hlk hcat rfl hmx rfl hsum hk' hn' hd1 hd kk
theorem eg_callI3 {l : Launch} {E : eg_E} {y : eg_Mt} {d k n pc : Nat} {Q : Option Value → eg_G → eg_I → Prop} {lo : List (Option Value)} {st : List Value} {G : eg_G} {M : eg_I} {y' : eg_Mt} {idx : Nat} {b : Nat} {x1 x2 x3 : Value}  (k' n' : Nat) (hy : eg_YOK y' 3) (hin : Cond.instanceMethod y'.1 ∈ eg_gw ∧ y'.1.name = "<init>") (hrt : y'.2.2.2 = none) (hlk : Cond.methodLink y.1.cls idx y'.1 ∈ eg_gw ∨ ∃ host, Cond.methodLinkNest y.1.cls idx y'.1 host ∈ eg_nw) (hcat : (([x1, x2, x3] : List Value).all fun v => v.category == 1) = true) (hmx : ([.ref b, x1, x2, x3] : List Value).length ≤ y'.2.2.1) (hsum : (st.map fun v => v.category).sum ≤ 8) (hk' : k' ≤ k) (hn' : n' ≤ n) (hd1 : 1 ≤ d) (hd : decode y.2.1 pc = .ok (.invokespecial idx, 3)) (kk : eg_J l E y' (d - 1) k' n' (fun r G' M' => eg_J l E y d (k - k') (n - n') Q (pc + 3) lo (r.toList ++ st) G' M') 0 (eg_args ([.ref b, x1, x2, x3]) y'.2.2.1) [] G M) : eg_J l E y d k n Q pc lo (x3 :: x2 :: x1 :: .ref b :: st) G M :=
  eg_callI (b := b) (As := [x1, x2, x3]) (st := st) k' n' hy hin hrt hlk hcat rfl hmx rfl hsum hk' hn' hd1 hd kk
theorem eg_callI4 {l : Launch} {E : eg_E} {y : eg_Mt} {d k n pc : Nat} {Q : Option Value → eg_G → eg_I → Prop} {lo : List (Option Value)} {st : List Value} {G : eg_G} {M : eg_I} {y' : eg_Mt} {idx : Nat} {b : Nat} {x1 x2 x3 x4 : Value}  (k' n' : Nat) (hy : eg_YOK y' 4) (hin : Cond.instanceMethod y'.1 ∈ eg_gw ∧ y'.1.name = "<init>") (hrt : y'.2.2.2 = none) (hlk : Cond.methodLink y.1.cls idx y'.1 ∈ eg_gw ∨ ∃ host, Cond.methodLinkNest y.1.cls idx y'.1 host ∈ eg_nw) (hcat : (([x1, x2, x3, x4] : List Value).all fun v => v.category == 1) = true) (hmx : ([.ref b, x1, x2, x3, x4] : List Value).length ≤ y'.2.2.1) (hsum : (st.map fun v => v.category).sum ≤ 8) (hk' : k' ≤ k) (hn' : n' ≤ n) (hd1 : 1 ≤ d) (hd : decode y.2.1 pc = .ok (.invokespecial idx, 3)) (kk : eg_J l E y' (d - 1) k' n' (fun r G' M' => eg_J l E y d (k - k') (n - n') Q (pc + 3) lo (r.toList ++ st) G' M') 0 (eg_args ([.ref b, x1, x2, x3, x4]) y'.2.2.1) [] G M) : eg_J l E y d k n Q pc lo (x4 :: x3 :: x2 :: x1 :: .ref b :: st) G M :=
  eg_callI (b := b) (As := [x1, x2, x3, x4]) (st := st) k' n' hy hin hrt hlk hcat rfl hmx rfl hsum hk' hn' hd1 hd kk
theorem eg_callI5 {l : Launch} {E : eg_E} {y : eg_Mt} {d k n pc : Nat} {Q : Option Value → eg_G → eg_I → Prop} {lo : List (Option Value)} {st : List Value} {G : eg_G} {M : eg_I} {y' : eg_Mt} {idx : Nat} {b : Nat} {x1 x2 x3 x4 x5 : Value}  (k' n' : Nat) (hy : eg_YOK y' 5) (hin : Cond.instanceMethod y'.1 ∈ eg_gw ∧ y'.1.name = "<init>") (hrt : y'.2.2.2 = none) (hlk : Cond.methodLink y.1.cls idx y'.1 ∈ eg_gw ∨ ∃ host, Cond.methodLinkNest y.1.cls idx y'.1 host ∈ eg_nw) (hcat : (([x1, x2, x3, x4, x5] : List Value).all fun v => v.category == 1) = true) (hmx : ([.ref b, x1, x2, x3, x4, x5] : List Value).length ≤ y'.2.2.1) (hsum : (st.map fun v => v.category).sum ≤ 8) (hk' : k' ≤ k) (hn' : n' ≤ n) (hd1 : 1 ≤ d) (hd : decode y.2.1 pc = .ok (.invokespecial idx, 3)) (kk : eg_J l E y' (d - 1) k' n' (fun r G' M' => eg_J l E y d (k - k') (n - n') Q (pc + 3) lo (r.toList ++ st) G' M') 0 (eg_args ([.ref b, x1, x2, x3, x4, x5]) y'.2.2.1) [] G M) : eg_J l E y d k n Q pc lo (x5 :: x4 :: x3 :: x2 :: x1 :: .ref b :: st) G M :=
  eg_callI (b := b) (As := [x1, x2, x3, x4, x5]) (st := st) k' n' hy hin hrt hlk hcat rfl hmx rfl hsum hk' hn' hd1 hd kk
end
section
/-! what the links of the code say, by their places in the tables -/
set_option maxRecDepth 20000 in
theorem gk_X0_init : eg_YOK mX0_init 0 := ⟨eg_inT (i := 81) rfl rfl, eg_inT (i := 4) rfl rfl, ⟨by decide, by decide⟩, by decide, by decide, by decide +kernel⟩
set_option maxRecDepth 20000 in
theorem gi_X0_init : Cond.instanceMethod yX0_init ∈ eg_gw ∧ yX0_init.name = "<init>" := ⟨eg_inT (i := 80) rfl rfl, rfl⟩
set_option maxRecDepth 20000 in
theorem gk_X0_prepare : eg_YOK mX0_prepare 3 := ⟨eg_inT (i := 318) rfl rfl, eg_inT (i := 4) rfl rfl, ⟨by decide, by decide⟩, by decide, by decide, by decide +kernel⟩
set_option maxRecDepth 20000 in
theorem gi_X0_prepare : Cond.instanceMethod yX0_prepare ∈ eg_gw ∧ Cond.selects yX0_prepare.cls yX0_prepare yX0_prepare ∈ eg_gw := ⟨eg_inT (i := 317) rfl rfl, eg_inP (i := 23) rfl⟩
set_option maxRecDepth 20000 in
theorem gk_X0_run : eg_YOK mX0_run 3 := ⟨eg_inT (i := 330) rfl rfl, eg_inT (i := 4) rfl rfl, ⟨by decide, by decide⟩, by decide, by decide, by decide +kernel⟩
set_option maxRecDepth 20000 in
theorem gi_X0_run : Cond.instanceMethod yX0_run ∈ eg_gw ∧ Cond.selects yX0_run.cls yX0_run yX0_run ∈ eg_gw := ⟨eg_inT (i := 329) rfl rfl, eg_inP (i := 25) rfl⟩
set_option maxRecDepth 20000 in
theorem gk_X0_findGiven : eg_YOK mX0_findGiven 0 := ⟨eg_inT (i := 334) rfl rfl, eg_inT (i := 4) rfl rfl, ⟨by decide, by decide⟩, by decide, by decide, by decide +kernel⟩
set_option maxRecDepth 20000 in
theorem gi_X0_findGiven : Cond.instanceMethod yX0_findGiven ∈ eg_gw ∧ Cond.selects yX0_findGiven.cls yX0_findGiven yX0_findGiven ∈ eg_gw := ⟨eg_inT (i := 333) rfl rfl, eg_inP (i := 26) rfl⟩
set_option maxRecDepth 20000 in
theorem gk_X0_isOver : eg_YOK mX0_isOver 0 := ⟨eg_inT (i := 345) rfl rfl, eg_inT (i := 4) rfl rfl, ⟨by decide, by decide⟩, by decide, by decide, by decide +kernel⟩
set_option maxRecDepth 20000 in
theorem gi_X0_isOver : Cond.instanceMethod yX0_isOver ∈ eg_gw ∧ Cond.selects yX0_isOver.cls yX0_isOver yX0_isOver ∈ eg_gw := ⟨eg_inT (i := 344) rfl rfl, eg_inP (i := 28) rfl⟩
set_option maxRecDepth 20000 in
theorem gk_X0_fill : eg_YOK mX0_fill 2 := ⟨eg_inT (i := 341) rfl rfl, eg_inT (i := 4) rfl rfl, ⟨by decide, by decide⟩, by decide, by decide, by decide +kernel⟩
set_option maxRecDepth 20000 in
theorem gi_X0_fill : Cond.instanceMethod yX0_fill ∈ eg_gw ∧ Cond.selects yX0_fill.cls yX0_fill yX0_fill ∈ eg_gw := ⟨eg_inT (i := 340) rfl rfl, eg_inP (i := 27) rfl⟩
set_option maxRecDepth 20000 in
theorem gk_X0_fillWith : eg_YOK mX0_fillWith 3 := ⟨eg_inT (i := 349) rfl rfl, eg_inT (i := 4) rfl rfl, ⟨by decide, by decide⟩, by decide, by decide, by decide +kernel⟩
set_option maxRecDepth 20000 in
theorem gi_X0_fillWith : Cond.instanceMethod yX0_fillWith ∈ eg_gw ∧ Cond.selects yX0_fillWith.cls yX0_fillWith yX0_fillWith ∈ eg_gw := ⟨eg_inT (i := 348) rfl rfl, eg_inP (i := 29) rfl⟩
set_option maxRecDepth 20000 in
theorem gk_X0_attempt : eg_YOK mX0_attempt 5 := ⟨eg_inT (i := 357) rfl rfl, eg_inT (i := 4) rfl rfl, ⟨by decide, by decide⟩, by decide, by decide, by decide +kernel⟩
set_option maxRecDepth 20000 in
theorem gi_X0_attempt : Cond.instanceMethod yX0_attempt ∈ eg_gw ∧ Cond.selects yX0_attempt.cls yX0_attempt yX0_attempt ∈ eg_gw := ⟨eg_inT (i := 356) rfl rfl, eg_inP (i := 30) rfl⟩
set_option maxRecDepth 20000 in
theorem gk_X0_hit : eg_YOK mX0_hit 2 := ⟨eg_inT (i := 366) rfl rfl, eg_inT (i := 4) rfl rfl, ⟨by decide, by decide⟩, by decide, by decide, by decide +kernel⟩
set_option maxRecDepth 20000 in
theorem gi_X0_hit : Cond.instanceMethod yX0_hit ∈ eg_gw ∧ Cond.selects yX0_hit.cls yX0_hit yX0_hit ∈ eg_gw := ⟨eg_inT (i := 365) rfl rfl, eg_inP (i := 32) rfl⟩
set_option maxRecDepth 20000 in
theorem gk_X1_init : eg_YOK mX1_init 0 := ⟨eg_inT (i := 52) rfl rfl, eg_inT (i := 3) rfl rfl, ⟨by decide, by decide⟩, by decide, by decide, by decide +kernel⟩
set_option maxRecDepth 20000 in
theorem gi_X1_init : Cond.instanceMethod yX1_init ∈ eg_gw ∧ yX1_init.name = "<init>" := ⟨eg_inT (i := 51) rfl rfl, rfl⟩
set_option maxRecDepth 20000 in
theorem gk_X1_empty : eg_YOK mX1_empty 1 := ⟨eg_inT (i := 166) rfl rfl, eg_inT (i := 3) rfl rfl, ⟨by decide, by decide⟩, by decide, by decide, by decide +kernel⟩
set_option maxRecDepth 20000 in
theorem gi_X1_empty : Cond.instanceMethod yX1_empty ∈ eg_gw ∧ Cond.selects yX1_empty.cls yX1_empty yX1_empty ∈ eg_gw := ⟨eg_inT (i := 165) rfl rfl, eg_inP (i := 1) rfl⟩
set_option maxRecDepth 20000 in
theorem gk_X1_put : eg_YOK mX1_put 4 := ⟨eg_inT (i := 221) rfl rfl, eg_inT (i := 3) rfl rfl, ⟨by decide, by decide⟩, by decide, by decide, by decide +kernel⟩
set_option maxRecDepth 20000 in
theorem gi_X1_put : Cond.instanceMethod yX1_put ∈ eg_gw ∧ Cond.selects yX1_put.cls yX1_put yX1_put ∈ eg_gw := ⟨eg_inT (i := 220) rfl rfl, eg_inP (i := 8) rfl⟩
set_option maxRecDepth 20000 in
theorem gk_X1_copyFrom : eg_YOK mX1_copyFrom 1 := ⟨eg_inT (i := 370) rfl rfl, eg_inT (i := 3) rfl rfl, ⟨by decide, by decide⟩, by decide, by decide, by decide +kernel⟩
set_option maxRecDepth 20000 in
theorem gi_X1_copyFrom : Cond.instanceMethod yX1_copyFrom ∈ eg_gw ∧ Cond.selects yX1_copyFrom.cls yX1_copyFrom yX1_copyFrom ∈ eg_gw := ⟨eg_inT (i := 369) rfl rfl, eg_inP (i := 33) rfl⟩
set_option maxRecDepth 20000 in
theorem gk_X1_remove : eg_YOK mX1_remove 3 := ⟨eg_inT (i := 298) rfl rfl, eg_inT (i := 3) rfl rfl, ⟨by decide, by decide⟩, by decide, by decide, by decide +kernel⟩
set_option maxRecDepth 20000 in
theorem gi_X1_remove : Cond.instanceMethod yX1_remove ∈ eg_gw ∧ Cond.selects yX1_remove.cls yX1_remove yX1_remove ∈ eg_gw := ⟨eg_inT (i := 297) rfl rfl, eg_inP (i := 20) rfl⟩
set_option maxRecDepth 20000 in
theorem gk_X1_renumbered : eg_YOK mX1_renumbered 3 := ⟨eg_inT (i := 301) rfl rfl, eg_inT (i := 3) rfl rfl, ⟨by decide, by decide⟩, by decide, by decide, by decide +kernel⟩
set_option maxRecDepth 20000 in
theorem gi_X1_renumbered : Cond.static yX1_renumbered ∈ eg_gw := eg_inT (i := 300) rfl rfl
set_option maxRecDepth 20000 in
theorem gk_X2_init : eg_YOK mX2_init 0 := ⟨eg_inT (i := 19) rfl rfl, eg_inT (i := 2) rfl rfl, ⟨by decide, by decide⟩, by decide, by decide, by decide +kernel⟩
set_option maxRecDepth 20000 in
theorem gi_X2_init : Cond.instanceMethod yX2_init ∈ eg_gw ∧ yX2_init.name = "<init>" := ⟨eg_inT (i := 18) rfl rfl, rfl⟩
set_option maxRecDepth 20000 in
theorem gk_X2_setInputs : eg_YOK mX2_setInputs 2 := ⟨eg_inT (i := 133) rfl rfl, eg_inT (i := 2) rfl rfl, ⟨by decide, by decide⟩, by decide, by decide, by decide +kernel⟩
set_option maxRecDepth 20000 in
theorem gi_X2_setInputs : Cond.instanceMethod yX2_setInputs ∈ eg_gw ∧ Cond.selects yX2_setInputs.cls yX2_setInputs yX2_setInputs ∈ eg_gw := ⟨eg_inT (i := 132) rfl rfl, eg_inP (i := 0) rfl⟩
set_option maxRecDepth 20000 in
theorem gk_X2_appendConstant : eg_YOK mX2_appendConstant 1 := ⟨eg_inT (i := 178) rfl rfl, eg_inT (i := 2) rfl rfl, ⟨by decide, by decide⟩, by decide, by decide, by decide +kernel⟩
set_option maxRecDepth 20000 in
theorem gi_X2_appendConstant : Cond.instanceMethod yX2_appendConstant ∈ eg_gw ∧ Cond.selects yX2_appendConstant.cls yX2_appendConstant yX2_appendConstant ∈ eg_gw := ⟨eg_inT (i := 177) rfl rfl, eg_inP (i := 3) rfl⟩
set_option maxRecDepth 20000 in
theorem gk_X2_copyGiven : eg_YOK mX2_copyGiven 1 := ⟨eg_inT (i := 322) rfl rfl, eg_inT (i := 2) rfl rfl, ⟨by decide, by decide⟩, by decide, by decide, by decide +kernel⟩
set_option maxRecDepth 20000 in
theorem gi_X2_copyGiven : Cond.instanceMethod yX2_copyGiven ∈ eg_gw ∧ Cond.selects yX2_copyGiven.cls yX2_copyGiven yX2_copyGiven ∈ eg_gw := ⟨eg_inT (i := 321) rfl rfl, eg_inP (i := 24) rfl⟩
set_option maxRecDepth 20000 in
theorem gk_X2_given : eg_YOK mX2_given 0 := ⟨eg_inT (i := 182) rfl rfl, eg_inT (i := 2) rfl rfl, ⟨by decide, by decide⟩, by decide, by decide, by decide +kernel⟩
set_option maxRecDepth 20000 in
theorem gi_X2_given : Cond.instanceMethod yX2_given ∈ eg_gw ∧ Cond.selects yX2_given.cls yX2_given yX2_given ∈ eg_gw := ⟨eg_inT (i := 181) rfl rfl, eg_inP (i := 4) rfl⟩
set_option maxRecDepth 20000 in
theorem gk_X2_isWord : eg_YOK mX2_isWord 1 := ⟨eg_inT (i := 174) rfl rfl, eg_inT (i := 2) rfl rfl, ⟨by decide, by decide⟩, by decide, by decide, by decide +kernel⟩
set_option maxRecDepth 20000 in
theorem gi_X2_isWord : Cond.instanceMethod yX2_isWord ∈ eg_gw ∧ Cond.selects yX2_isWord.cls yX2_isWord yX2_isWord ∈ eg_gw := ⟨eg_inT (i := 173) rfl rfl, eg_inP (i := 2) rfl⟩
set_option maxRecDepth 20000 in
theorem gk_X2_isAssignment : eg_YOK mX2_isAssignment 1 := ⟨eg_inT (i := 198) rfl rfl, eg_inT (i := 2) rfl rfl, ⟨by decide, by decide⟩, by decide, by decide, by decide +kernel⟩
set_option maxRecDepth 20000 in
theorem gi_X2_isAssignment : Cond.instanceMethod yX2_isAssignment ∈ eg_gw ∧ Cond.selects yX2_isAssignment.cls yX2_isAssignment yX2_isAssignment ∈ eg_gw := ⟨eg_inT (i := 197) rfl rfl, eg_inP (i := 5) rfl⟩
set_option maxRecDepth 20000 in
theorem gk_X2_make : eg_YOK mX2_make 4 := ⟨eg_inT (i := 229) rfl rfl, eg_inT (i := 2) rfl rfl, ⟨by decide, by decide⟩, by decide, by decide, by decide +kernel⟩
set_option maxRecDepth 20000 in
theorem gi_X2_make : Cond.instanceMethod yX2_make ∈ eg_gw ∧ Cond.selects yX2_make.cls yX2_make yX2_make ∈ eg_gw := ⟨eg_inT (i := 228) rfl rfl, eg_inP (i := 10) rfl⟩
set_option maxRecDepth 20000 in
theorem gk_X2_makes : eg_YOK mX2_makes 4 := ⟨eg_inT (i := 362) rfl rfl, eg_inT (i := 2) rfl rfl, ⟨by decide, by decide⟩, by decide, by decide, by decide +kernel⟩
set_option maxRecDepth 20000 in
theorem gi_X2_makes : Cond.instanceMethod yX2_makes ∈ eg_gw ∧ Cond.selects yX2_makes.cls yX2_makes yX2_makes ∈ eg_gw := ⟨eg_inT (i := 361) rfl rfl, eg_inP (i := 31) rfl⟩
set_option maxRecDepth 20000 in
theorem gk_X2_firstDifference : eg_YOK mX2_firstDifference 2 := ⟨eg_inT (i := 273) rfl rfl, eg_inT (i := 2) rfl rfl, ⟨by decide, by decide⟩, by decide, by decide, by decide +kernel⟩
set_option maxRecDepth 20000 in
theorem gi_X2_firstDifference : Cond.instanceMethod yX2_firstDifference ∈ eg_gw ∧ Cond.selects yX2_firstDifference.cls yX2_firstDifference yX2_firstDifference ∈ eg_gw := ⟨eg_inT (i := 272) rfl rfl, eg_inP (i := 15) rfl⟩
set_option maxRecDepth 20000 in
theorem gk_X2_leastBelow : eg_YOK mX2_leastBelow 2 := ⟨eg_inT (i := 289) rfl rfl, eg_inT (i := 2) rfl rfl, ⟨by decide, by decide⟩, by decide, by decide, by decide +kernel⟩
set_option maxRecDepth 20000 in
theorem gi_X2_leastBelow : Cond.instanceMethod yX2_leastBelow ∈ eg_gw ∧ Cond.selects yX2_leastBelow.cls yX2_leastBelow yX2_leastBelow ∈ eg_gw := ⟨eg_inT (i := 288) rfl rfl, eg_inP (i := 18) rfl⟩
set_option maxRecDepth 20000 in
theorem gk_X2_leastSame : eg_YOK mX2_leastSame 1 := ⟨eg_inT (i := 285) rfl rfl, eg_inT (i := 2) rfl rfl, ⟨by decide, by decide⟩, by decide, by decide, by decide +kernel⟩
set_option maxRecDepth 20000 in
theorem gi_X2_leastSame : Cond.instanceMethod yX2_leastSame ∈ eg_gw ∧ Cond.selects yX2_leastSame.cls yX2_leastSame yX2_leastSame ∈ eg_gw := ⟨eg_inT (i := 284) rfl rfl, eg_inP (i := 17) rfl⟩
set_option maxRecDepth 20000 in
theorem gk_X2_reckon : eg_YOK mX2_reckon 3 := ⟨eg_inT (i := 233) rfl rfl, eg_inT (i := 2) rfl rfl, ⟨by decide, by decide⟩, by decide, by decide, by decide +kernel⟩
set_option maxRecDepth 20000 in
theorem gi_X2_reckon : Cond.instanceMethod yX2_reckon ∈ eg_gw ∧ Cond.selects yX2_reckon.cls yX2_reckon yX2_reckon ∈ eg_gw := ⟨eg_inT (i := 232) rfl rfl, eg_inP (i := 11) rfl⟩
set_option maxRecDepth 20000 in
theorem gk_X2_distance : eg_YOK mX2_distance 1 := ⟨eg_inT (i := 237) rfl rfl, eg_inT (i := 2) rfl rfl, ⟨by decide, by decide⟩, by decide, by decide, by decide +kernel⟩
set_option maxRecDepth 20000 in
theorem gi_X2_distance : Cond.instanceMethod yX2_distance ∈ eg_gw ∧ Cond.selects yX2_distance.cls yX2_distance yX2_distance ∈ eg_gw := ⟨eg_inT (i := 236) rfl rfl, eg_inP (i := 12) rfl⟩
set_option maxRecDepth 20000 in
theorem gk_X2_signed : eg_YOK mX2_signed 1 := ⟨eg_inT (i := 241) rfl rfl, eg_inT (i := 2) rfl rfl, ⟨by decide, by decide⟩, by decide, by decide, by decide +kernel⟩
set_option maxRecDepth 20000 in
theorem gi_X2_signed : Cond.instanceMethod yX2_signed ∈ eg_gw ∧ Cond.selects yX2_signed.cls yX2_signed yX2_signed ∈ eg_gw := ⟨eg_inT (i := 240) rfl rfl, eg_inP (i := 13) rfl⟩
set_option maxRecDepth 20000 in
theorem gk_X3_init : eg_YOK mX3_init 0 := ⟨eg_inT (i := 11) rfl rfl, eg_inT (i := 1) rfl rfl, ⟨by decide, by decide⟩, by decide, by decide, by decide +kernel⟩
set_option maxRecDepth 20000 in
theorem gi_X3_init : Cond.instanceMethod yX3_init ∈ eg_gw ∧ yX3_init.name = "<init>" := ⟨eg_inT (i := 10) rfl rfl, rfl⟩
set_option maxRecDepth 20000 in
theorem gk_X3_words : eg_YOK mX3_words 2 := ⟨eg_inT (i := 162) rfl rfl, eg_inT (i := 1) rfl rfl, ⟨by decide, by decide⟩, by decide, by decide, by decide +kernel⟩
set_option maxRecDepth 20000 in
theorem gi_X3_words : Cond.instanceMethod yX3_words ∈ eg_gw ∧ Cond.selects yX3_words.cls yX3_words yX3_words ∈ eg_gw := ⟨eg_inT (i := 160) rfl rfl, eg_inT (i := 161) rfl rfl⟩
set_option maxRecDepth 20000 in
theorem gk_X3_constant : eg_YOK mX3_constant 1 := ⟨eg_inT (i := 170) rfl rfl, eg_inT (i := 1) rfl rfl, ⟨by decide, by decide⟩, by decide, by decide, by decide +kernel⟩
set_option maxRecDepth 20000 in
theorem gi_X3_constant : Cond.instanceMethod yX3_constant ∈ eg_gw ∧ Cond.selects yX3_constant.cls yX3_constant yX3_constant ∈ eg_gw := ⟨eg_inT (i := 168) rfl rfl, eg_inT (i := 169) rfl rfl⟩
set_option maxRecDepth 20000 in
theorem gk_X3_cost : eg_YOK mX3_cost 2 := ⟨eg_inT (i := 187) rfl rfl, eg_inT (i := 1) rfl rfl, ⟨by decide, by decide⟩, by decide, by decide, by decide +kernel⟩
set_option maxRecDepth 20000 in
theorem gi_X3_cost : Cond.instanceMethod yX3_cost ∈ eg_gw ∧ Cond.selects yX3_cost.cls yX3_cost yX3_cost ∈ eg_gw := ⟨eg_inT (i := 185) rfl rfl, eg_inT (i := 186) rfl rfl⟩
set_option maxRecDepth 20000 in
theorem gk_X3_target : eg_YOK mX3_target 2 := ⟨eg_inT (i := 194) rfl rfl, eg_inT (i := 1) rfl rfl, ⟨by decide, by decide⟩, by decide, by decide, by decide +kernel⟩
set_option maxRecDepth 20000 in
theorem gi_X3_target : Cond.instanceMethod yX3_target ∈ eg_gw ∧ Cond.selects yX3_target.cls yX3_target yX3_target ∈ eg_gw := ⟨eg_inT (i := 192) rfl rfl, eg_inT (i := 193) rfl rfl⟩
set_option maxRecDepth 20000 in
theorem gk_X3_aim : eg_YOK mX3_aim 0 := ⟨eg_inT (i := 202) rfl rfl, eg_inT (i := 1) rfl rfl, ⟨by decide, by decide⟩, by decide, by decide, by decide +kernel⟩
set_option maxRecDepth 20000 in
theorem gi_X3_aim : Cond.instanceMethod yX3_aim ∈ eg_gw ∧ Cond.selects yX3_aim.cls yX3_aim yX3_aim ∈ eg_gw := ⟨eg_inT (i := 200) rfl rfl, eg_inT (i := 201) rfl rfl⟩
set_option maxRecDepth 20000 in
theorem gk_X3_add : eg_YOK mX3_add 3 := ⟨eg_inT (i := 206) rfl rfl, eg_inT (i := 1) rfl rfl, ⟨by decide, by decide⟩, by decide, by decide, by decide +kernel⟩
set_option maxRecDepth 20000 in
theorem gi_X3_add : Cond.instanceMethod yX3_add ∈ eg_gw ∧ Cond.selects yX3_add.cls yX3_add yX3_add ∈ eg_gw := ⟨eg_inT (i := 204) rfl rfl, eg_inT (i := 205) rfl rfl⟩
set_option maxRecDepth 20000 in
theorem gk_X3_drop : eg_YOK mX3_drop 0 := ⟨eg_inT (i := 245) rfl rfl, eg_inT (i := 1) rfl rfl, ⟨by decide, by decide⟩, by decide, by decide, by decide +kernel⟩
set_option maxRecDepth 20000 in
theorem gi_X3_drop : Cond.instanceMethod yX3_drop ∈ eg_gw ∧ Cond.selects yX3_drop.cls yX3_drop yX3_drop ∈ eg_gw := ⟨eg_inT (i := 243) rfl rfl, eg_inT (i := 244) rfl rfl⟩
set_option maxRecDepth 20000 in
theorem gk_X3_result : eg_YOK mX3_result 1 := ⟨eg_inT (i := 249) rfl rfl, eg_inT (i := 1) rfl rfl, ⟨by decide, by decide⟩, by decide, by decide, by decide +kernel⟩
set_option maxRecDepth 20000 in
theorem gi_X3_result : Cond.instanceMethod yX3_result ∈ eg_gw ∧ Cond.selects yX3_result.cls yX3_result yX3_result ∈ eg_gw := ⟨eg_inT (i := 247) rfl rfl, eg_inT (i := 248) rfl rfl⟩
set_option maxRecDepth 20000 in
theorem gk_X3_instruction : eg_YOK mX3_instruction 2 := ⟨eg_inT (i := 253) rfl rfl, eg_inT (i := 1) rfl rfl, ⟨by decide, by decide⟩, by decide, by decide, by decide +kernel⟩
set_option maxRecDepth 20000 in
theorem gi_X3_instruction : Cond.instanceMethod yX3_instruction ∈ eg_gw ∧ Cond.selects yX3_instruction.cls yX3_instruction yX3_instruction ∈ eg_gw := ⟨eg_inT (i := 251) rfl rfl, eg_inT (i := 252) rfl rfl⟩
set_option maxRecDepth 20000 in
theorem gk_X3_count : eg_YOK mX3_count 1 := ⟨eg_inT (i := 257) rfl rfl, eg_inT (i := 1) rfl rfl, ⟨by decide, by decide⟩, by decide, by decide, by decide +kernel⟩
set_option maxRecDepth 20000 in
theorem gi_X3_count : Cond.instanceMethod yX3_count ∈ eg_gw ∧ Cond.selects yX3_count.cls yX3_count yX3_count ∈ eg_gw := ⟨eg_inT (i := 255) rfl rfl, eg_inT (i := 256) rfl rfl⟩
set_option maxRecDepth 20000 in
theorem gk_X3_value : eg_YOK mX3_value 2 := ⟨eg_inT (i := 265) rfl rfl, eg_inT (i := 1) rfl rfl, ⟨by decide, by decide⟩, by decide, by decide, by decide +kernel⟩
set_option maxRecDepth 20000 in
theorem gi_X3_value : Cond.instanceMethod yX3_value ∈ eg_gw ∧ Cond.selects yX3_value.cls yX3_value yX3_value ∈ eg_gw := ⟨eg_inT (i := 263) rfl rfl, eg_inT (i := 264) rfl rfl⟩
set_option maxRecDepth 20000 in
theorem gk_X3_differ : eg_YOK mX3_differ 2 := ⟨eg_inT (i := 269) rfl rfl, eg_inT (i := 1) rfl rfl, ⟨by decide, by decide⟩, by decide, by decide, by decide +kernel⟩
set_option maxRecDepth 20000 in
theorem gi_X3_differ : Cond.instanceMethod yX3_differ ∈ eg_gw ∧ Cond.selects yX3_differ.cls yX3_differ yX3_differ ∈ eg_gw := ⟨eg_inT (i := 267) rfl rfl, eg_inT (i := 268) rfl rfl⟩
set_option maxRecDepth 20000 in
theorem gk_X3_clean : eg_YOK mX3_clean 0 := ⟨eg_inT (i := 277) rfl rfl, eg_inT (i := 1) rfl rfl, ⟨by decide, by decide⟩, by decide, by decide, by decide +kernel⟩
set_option maxRecDepth 20000 in
theorem gi_X3_clean : Cond.instanceMethod yX3_clean ∈ eg_gw ∧ Cond.selects yX3_clean.cls yX3_clean yX3_clean ∈ eg_gw := ⟨eg_inT (i := 275) rfl rfl, eg_inT (i := 276) rfl rfl⟩
set_option maxRecDepth 20000 in
theorem gk_X3_search : eg_YOK mX3_search 3 := ⟨eg_inT (i := 314) rfl rfl, eg_inT (i := 1) rfl rfl, ⟨by decide, by decide⟩, by decide, by decide, by decide +kernel⟩
set_option maxRecDepth 20000 in
theorem gi_X3_search : Cond.instanceMethod yX3_search ∈ eg_gw ∧ Cond.selects yX3_search.cls yX3_search yX3_search ∈ eg_gw := ⟨eg_inT (i := 312) rfl rfl, eg_inT (i := 313) rfl rfl⟩
set_option maxRecDepth 20000 in
theorem gk_X3_told : eg_YOK mX3_told 1 := ⟨eg_inT (i := 377) rfl rfl, eg_inT (i := 1) rfl rfl, ⟨by decide, by decide⟩, by decide, by decide, by decide +kernel⟩
set_option maxRecDepth 20000 in
theorem gi_X3_told : Cond.instanceMethod yX3_told ∈ eg_gw ∧ Cond.selects yX3_told.cls yX3_told yX3_told ∈ eg_gw := ⟨eg_inT (i := 375) rfl rfl, eg_inT (i := 376) rfl rfl⟩
set_option maxRecDepth 20000 in
theorem gk_X3_take : eg_YOK mX3_take 0 := ⟨eg_inT (i := 381) rfl rfl, eg_inT (i := 1) rfl rfl, ⟨by decide, by decide⟩, by decide, by decide, by decide +kernel⟩
set_option maxRecDepth 20000 in
theorem gi_X3_take : Cond.instanceMethod yX3_take ∈ eg_gw ∧ Cond.selects yX3_take.cls yX3_take yX3_take ∈ eg_gw := ⟨eg_inT (i := 379) rfl rfl, eg_inT (i := 380) rfl rfl⟩
set_option maxRecDepth 20000 in
theorem gk_X3_isOperation : eg_YOK mX3_isOperation 1 := ⟨eg_inT (i := 190) rfl rfl, eg_inT (i := 1) rfl rfl, ⟨by decide, by decide⟩, by decide, by decide, by decide +kernel⟩
set_option maxRecDepth 20000 in
theorem gi_X3_isOperation : Cond.static yX3_isOperation ∈ eg_gw := eg_inT (i := 189) rfl rfl
set_option maxRecDepth 20000 in
theorem gk_X3_takesOne : eg_YOK mX3_takesOne 1 := ⟨eg_inT (i := 217) rfl rfl, eg_inT (i := 1) rfl rfl, ⟨by decide, by decide⟩, by decide, by decide, by decide +kernel⟩
set_option maxRecDepth 20000 in
theorem gi_X3_takesOne : Cond.static yX3_takesOne ∈ eg_gw := eg_inT (i := 216) rfl rfl
set_option maxRecDepth 20000 in
theorem gk_X3_isOrdered : eg_YOK mX3_isOrdered 1 := ⟨eg_inT (i := 353) rfl rfl, eg_inT (i := 1) rfl rfl, ⟨by decide, by decide⟩, by decide, by decide, by decide +kernel⟩
set_option maxRecDepth 20000 in
theorem gi_X3_isOrdered : Cond.static yX3_isOrdered ∈ eg_gw := eg_inT (i := 352) rfl rfl
set_option maxRecDepth 20000 in
theorem gk_X3_valueCount : eg_YOK mX3_valueCount 0 := ⟨eg_inT (i := 214) rfl rfl, eg_inT (i := 1) rfl rfl, ⟨by decide, by decide⟩, by decide, by decide, by decide +kernel⟩
set_option maxRecDepth 20000 in
theorem gi_X3_valueCount : Cond.instanceMethod yX3_valueCount ∈ eg_gw ∧ Cond.selects yX3_valueCount.cls yX3_valueCount yX3_valueCount ∈ eg_gw := ⟨eg_inT (i := 213) rfl rfl, eg_inP (i := 7) rfl⟩
set_option maxRecDepth 20000 in
theorem gk_X3_isValue : eg_YOK mX3_isValue 1 := ⟨eg_inT (i := 210) rfl rfl, eg_inT (i := 1) rfl rfl, ⟨by decide, by decide⟩, by decide, by decide, by decide +kernel⟩
set_option maxRecDepth 20000 in
theorem gi_X3_isValue : Cond.instanceMethod yX3_isValue ∈ eg_gw ∧ Cond.selects yX3_isValue.cls yX3_isValue yX3_isValue ∈ eg_gw := ⟨eg_inT (i := 209) rfl rfl, eg_inP (i := 6) rfl⟩
set_option maxRecDepth 20000 in
theorem gk_X3_programCost : eg_YOK mX3_programCost 0 := ⟨eg_inT (i := 261) rfl rfl, eg_inT (i := 1) rfl rfl, ⟨by decide, by decide⟩, by decide, by decide, by decide +kernel⟩
set_option maxRecDepth 20000 in
theorem gi_X3_programCost : Cond.instanceMethod yX3_programCost ∈ eg_gw ∧ Cond.selects yX3_programCost.cls yX3_programCost yX3_programCost ∈ eg_gw := ⟨eg_inT (i := 260) rfl rfl, eg_inP (i := 14) rfl⟩
set_option maxRecDepth 20000 in
theorem gk_X3_makeFrom : eg_YOK mX3_makeFrom 1 := ⟨eg_inT (i := 225) rfl rfl, eg_inT (i := 1) rfl rfl, ⟨by decide, by decide⟩, by decide, by decide, by decide +kernel⟩
set_option maxRecDepth 20000 in
theorem gi_X3_makeFrom : Cond.instanceMethod yX3_makeFrom ∈ eg_gw ∧ Cond.selects yX3_makeFrom.cls yX3_makeFrom yX3_makeFrom ∈ eg_gw := ⟨eg_inT (i := 224) rfl rfl, eg_inP (i := 9) rfl⟩
set_option maxRecDepth 20000 in
theorem gk_X3_takeOutRepeated : eg_YOK mX3_takeOutRepeated 0 := ⟨eg_inT (i := 281) rfl rfl, eg_inT (i := 1) rfl rfl, ⟨by decide, by decide⟩, by decide, by decide, by decide +kernel⟩
set_option maxRecDepth 20000 in
theorem gi_X3_takeOutRepeated : Cond.instanceMethod yX3_takeOutRepeated ∈ eg_gw ∧ Cond.selects yX3_takeOutRepeated.cls yX3_takeOutRepeated yX3_takeOutRepeated ∈ eg_gw := ⟨eg_inT (i := 280) rfl rfl, eg_inP (i := 16) rfl⟩
set_option maxRecDepth 20000 in
theorem gk_X3_takeOutNeedless : eg_YOK mX3_takeOutNeedless 0 := ⟨eg_inT (i := 306) rfl rfl, eg_inT (i := 1) rfl rfl, ⟨by decide, by decide⟩, by decide, by decide, by decide +kernel⟩
set_option maxRecDepth 20000 in
theorem gi_X3_takeOutNeedless : Cond.instanceMethod yX3_takeOutNeedless ∈ eg_gw ∧ Cond.selects yX3_takeOutNeedless.cls yX3_takeOutNeedless yX3_takeOutNeedless ∈ eg_gw := ⟨eg_inT (i := 305) rfl rfl, eg_inP (i := 21) rfl⟩
set_option maxRecDepth 20000 in
theorem gk_X3_takeOut : eg_YOK mX3_takeOut 2 := ⟨eg_inT (i := 294) rfl rfl, eg_inT (i := 1) rfl rfl, ⟨by decide, by decide⟩, by decide, by decide, by decide +kernel⟩
set_option maxRecDepth 20000 in
theorem gi_X3_takeOut : Cond.instanceMethod yX3_takeOut ∈ eg_gw ∧ Cond.selects yX3_takeOut.cls yX3_takeOut yX3_takeOut ∈ eg_gw := ⟨eg_inT (i := 293) rfl rfl, eg_inP (i := 19) rfl⟩
set_option maxRecDepth 20000 in
theorem gk_X3_markNeeded : eg_YOK mX3_markNeeded 0 := ⟨eg_inT (i := 310) rfl rfl, eg_inT (i := 1) rfl rfl, ⟨by decide, by decide⟩, by decide, by decide, by decide +kernel⟩
set_option maxRecDepth 20000 in
theorem gi_X3_markNeeded : Cond.instanceMethod yX3_markNeeded ∈ eg_gw ∧ Cond.selects yX3_markNeeded.cls yX3_markNeeded yX3_markNeeded ∈ eg_gw := ⟨eg_inT (i := 309) rfl rfl, eg_inP (i := 22) rfl⟩
set_option maxRecDepth 20000 in
theorem gk_X4_init : eg_YOK mX4_init 0 := ⟨eg_inT (i := 386) rfl rfl, eg_inT (i := 5) rfl rfl, ⟨by decide, by decide⟩, by decide, by decide, by decide +kernel⟩
set_option maxRecDepth 20000 in
theorem gi_X4_init : Cond.instanceMethod yX4_init ∈ eg_gw ∧ yX4_init.name = "<init>" := ⟨eg_inT (i := 385) rfl rfl, rfl⟩
set_option maxRecDepth 20000 in
theorem gk_X4_within : eg_YOK mX4_within 3 := ⟨eg_inT (i := 510) rfl rfl, eg_inT (i := 5) rfl rfl, ⟨by decide, by decide⟩, by decide, by decide, by decide +kernel⟩
set_option maxRecDepth 20000 in
theorem gi_X4_within : Cond.static yX4_within ∈ eg_gw := eg_inT (i := 509) rfl rfl
set_option maxRecDepth 20000 in
theorem gk_X4_firsts : eg_YOK mX4_firsts 0 := ⟨eg_inT (i := 399) rfl rfl, eg_inT (i := 5) rfl rfl, ⟨by decide, by decide⟩, by decide, by decide, by decide +kernel⟩
set_option maxRecDepth 20000 in
theorem gi_X4_firsts : Cond.instanceMethod yX4_firsts ∈ eg_gw ∧ Cond.selects yX4_firsts.cls yX4_firsts yX4_firsts ∈ eg_gw := ⟨eg_inT (i := 398) rfl rfl, eg_inP (i := 36) rfl⟩
set_option maxRecDepth 20000 in
theorem gk_X4_all : eg_YOK mX4_all 0 := ⟨eg_inT (i := 542) rfl rfl, eg_inT (i := 5) rfl rfl, ⟨by decide, by decide⟩, by decide, by decide, by decide +kernel⟩
set_option maxRecDepth 20000 in
theorem gi_X4_all : Cond.instanceMethod yX4_all ∈ eg_gw ∧ Cond.selects yX4_all.cls yX4_all yX4_all ∈ eg_gw := ⟨eg_inT (i := 541) rfl rfl, eg_inP (i := 40) rfl⟩
set_option maxRecDepth 20000 in
theorem gk_X4_reckon : eg_YOK mX4_reckon 3 := ⟨eg_inT (i := 403) rfl rfl, eg_inT (i := 5) rfl rfl, ⟨by decide, by decide⟩, by decide, by decide, by decide +kernel⟩
set_option maxRecDepth 20000 in
theorem gi_X4_reckon : Cond.instanceMethod yX4_reckon ∈ eg_gw ∧ Cond.selects yX4_reckon.cls yX4_reckon yX4_reckon ∈ eg_gw := ⟨eg_inT (i := 402) rfl rfl, eg_inP (i := 37) rfl⟩
set_option maxRecDepth 20000 in
theorem gk_X4_layFirsts : eg_YOK mX4_layFirsts 1 := ⟨eg_inT (i := 395) rfl rfl, eg_inT (i := 5) rfl rfl, ⟨by decide, by decide⟩, by decide, by decide, by decide +kernel⟩
set_option maxRecDepth 20000 in
theorem gi_X4_layFirsts : Cond.instanceMethod yX4_layFirsts ∈ eg_gw ∧ Cond.selects yX4_layFirsts.cls yX4_layFirsts yX4_layFirsts ∈ eg_gw := ⟨eg_inT (i := 394) rfl rfl, eg_inP (i := 35) rfl⟩
set_option maxRecDepth 20000 in
theorem gk_X4_reckonAll : eg_YOK mX4_reckonAll 0 := ⟨eg_inT (i := 391) rfl rfl, eg_inT (i := 5) rfl rfl, ⟨by decide, by decide⟩, by decide, by decide, by decide +kernel⟩
set_option maxRecDepth 20000 in
theorem gi_X4_reckonAll : Cond.instanceMethod yX4_reckonAll ∈ eg_gw ∧ Cond.selects yX4_reckonAll.cls yX4_reckonAll yX4_reckonAll ∈ eg_gw := ⟨eg_inT (i := 390) rfl rfl, eg_inP (i := 34) rfl⟩
set_option maxRecDepth 20000 in
theorem gk_X4_words : eg_YOK mX4_words 2 := ⟨eg_inT (i := 507) rfl rfl, eg_inT (i := 5) rfl rfl, ⟨by decide, by decide⟩, by decide, by decide, by decide +kernel⟩
set_option maxRecDepth 20000 in
theorem gi_X4_words : Cond.instanceMethod yX4_words ∈ eg_gw ∧ Cond.selects yX4_words.cls yX4_words yX4_words ∈ eg_gw := ⟨eg_inT (i := 505) rfl rfl, eg_inT (i := 506) rfl rfl⟩
set_option maxRecDepth 20000 in
theorem gk_X4_constant : eg_YOK mX4_constant 1 := ⟨eg_inT (i := 514) rfl rfl, eg_inT (i := 5) rfl rfl, ⟨by decide, by decide⟩, by decide, by decide, by decide +kernel⟩
set_option maxRecDepth 20000 in
theorem gi_X4_constant : Cond.instanceMethod yX4_constant ∈ eg_gw ∧ Cond.selects yX4_constant.cls yX4_constant yX4_constant ∈ eg_gw := ⟨eg_inT (i := 512) rfl rfl, eg_inT (i := 513) rfl rfl⟩
set_option maxRecDepth 20000 in
theorem gk_X4_cost : eg_YOK mX4_cost 2 := ⟨eg_inT (i := 518) rfl rfl, eg_inT (i := 5) rfl rfl, ⟨by decide, by decide⟩, by decide, by decide, by decide +kernel⟩
set_option maxRecDepth 20000 in
theorem gi_X4_cost : Cond.instanceMethod yX4_cost ∈ eg_gw ∧ Cond.selects yX4_cost.cls yX4_cost yX4_cost ∈ eg_gw := ⟨eg_inT (i := 516) rfl rfl, eg_inT (i := 517) rfl rfl⟩
set_option maxRecDepth 20000 in
theorem gk_X4_isAssignment : eg_YOK mX4_isAssignment 1 := ⟨eg_inT (i := 526) rfl rfl, eg_inT (i := 5) rfl rfl, ⟨by decide, by decide⟩, by decide, by decide, by decide +kernel⟩
set_option maxRecDepth 20000 in
theorem gi_X4_isAssignment : Cond.instanceMethod yX4_isAssignment ∈ eg_gw ∧ Cond.selects yX4_isAssignment.cls yX4_isAssignment yX4_isAssignment ∈ eg_gw := ⟨eg_inT (i := 525) rfl rfl, eg_inP (i := 38) rfl⟩
set_option maxRecDepth 20000 in
theorem gk_X4_target : eg_YOK mX4_target 2 := ⟨eg_inT (i := 522) rfl rfl, eg_inT (i := 5) rfl rfl, ⟨by decide, by decide⟩, by decide, by decide, by decide +kernel⟩
set_option maxRecDepth 20000 in
theorem gi_X4_target : Cond.instanceMethod yX4_target ∈ eg_gw ∧ Cond.selects yX4_target.cls yX4_target yX4_target ∈ eg_gw := ⟨eg_inT (i := 520) rfl rfl, eg_inT (i := 521) rfl rfl⟩
set_option maxRecDepth 20000 in
theorem gk_X4_aim : eg_YOK mX4_aim 0 := ⟨eg_inT (i := 530) rfl rfl, eg_inT (i := 5) rfl rfl, ⟨by decide, by decide⟩, by decide, by decide, by decide +kernel⟩
set_option maxRecDepth 20000 in
theorem gi_X4_aim : Cond.instanceMethod yX4_aim ∈ eg_gw ∧ Cond.selects yX4_aim.cls yX4_aim yX4_aim ∈ eg_gw := ⟨eg_inT (i := 528) rfl rfl, eg_inT (i := 529) rfl rfl⟩
set_option maxRecDepth 20000 in
theorem gk_X4_isValue : eg_YOK mX4_isValue 1 := ⟨eg_inT (i := 538) rfl rfl, eg_inT (i := 5) rfl rfl, ⟨by decide, by decide⟩, by decide, by decide, by decide +kernel⟩
set_option maxRecDepth 20000 in
theorem gi_X4_isValue : Cond.instanceMethod yX4_isValue ∈ eg_gw ∧ Cond.selects yX4_isValue.cls yX4_isValue yX4_isValue ∈ eg_gw := ⟨eg_inT (i := 537) rfl rfl, eg_inP (i := 39) rfl⟩
set_option maxRecDepth 20000 in
theorem gk_X4_add : eg_YOK mX4_add 3 := ⟨eg_inT (i := 534) rfl rfl, eg_inT (i := 5) rfl rfl, ⟨by decide, by decide⟩, by decide, by decide, by decide +kernel⟩
set_option maxRecDepth 20000 in
theorem gi_X4_add : Cond.instanceMethod yX4_add ∈ eg_gw ∧ Cond.selects yX4_add.cls yX4_add yX4_add ∈ eg_gw := ⟨eg_inT (i := 532) rfl rfl, eg_inT (i := 533) rfl rfl⟩
set_option maxRecDepth 20000 in
theorem gk_X4_drop : eg_YOK mX4_drop 0 := ⟨eg_inT (i := 546) rfl rfl, eg_inT (i := 5) rfl rfl, ⟨by decide, by decide⟩, by decide, by decide, by decide +kernel⟩
set_option maxRecDepth 20000 in
theorem gi_X4_drop : Cond.instanceMethod yX4_drop ∈ eg_gw ∧ Cond.selects yX4_drop.cls yX4_drop yX4_drop ∈ eg_gw := ⟨eg_inT (i := 544) rfl rfl, eg_inT (i := 545) rfl rfl⟩
set_option maxRecDepth 20000 in
theorem gk_X4_result : eg_YOK mX4_result 1 := ⟨eg_inT (i := 550) rfl rfl, eg_inT (i := 5) rfl rfl, ⟨by decide, by decide⟩, by decide, by decide, by decide +kernel⟩
set_option maxRecDepth 20000 in
theorem gi_X4_result : Cond.instanceMethod yX4_result ∈ eg_gw ∧ Cond.selects yX4_result.cls yX4_result yX4_result ∈ eg_gw := ⟨eg_inT (i := 548) rfl rfl, eg_inT (i := 549) rfl rfl⟩
set_option maxRecDepth 20000 in
theorem gk_X4_instruction : eg_YOK mX4_instruction 2 := ⟨eg_inT (i := 554) rfl rfl, eg_inT (i := 5) rfl rfl, ⟨by decide, by decide⟩, by decide, by decide, by decide +kernel⟩
set_option maxRecDepth 20000 in
theorem gi_X4_instruction : Cond.instanceMethod yX4_instruction ∈ eg_gw ∧ Cond.selects yX4_instruction.cls yX4_instruction yX4_instruction ∈ eg_gw := ⟨eg_inT (i := 552) rfl rfl, eg_inT (i := 553) rfl rfl⟩
set_option maxRecDepth 20000 in
theorem gk_X4_count : eg_YOK mX4_count 1 := ⟨eg_inT (i := 558) rfl rfl, eg_inT (i := 5) rfl rfl, ⟨by decide, by decide⟩, by decide, by decide, by decide +kernel⟩
set_option maxRecDepth 20000 in
theorem gi_X4_count : Cond.instanceMethod yX4_count ∈ eg_gw ∧ Cond.selects yX4_count.cls yX4_count yX4_count ∈ eg_gw := ⟨eg_inT (i := 556) rfl rfl, eg_inT (i := 557) rfl rfl⟩
set_option maxRecDepth 20000 in
theorem gk_X4_value : eg_YOK mX4_value 2 := ⟨eg_inT (i := 562) rfl rfl, eg_inT (i := 5) rfl rfl, ⟨by decide, by decide⟩, by decide, by decide, by decide +kernel⟩
set_option maxRecDepth 20000 in
theorem gi_X4_value : Cond.instanceMethod yX4_value ∈ eg_gw ∧ Cond.selects yX4_value.cls yX4_value yX4_value ∈ eg_gw := ⟨eg_inT (i := 560) rfl rfl, eg_inT (i := 561) rfl rfl⟩
set_option maxRecDepth 20000 in
theorem gk_X4_differ : eg_YOK mX4_differ 2 := ⟨eg_inT (i := 566) rfl rfl, eg_inT (i := 5) rfl rfl, ⟨by decide, by decide⟩, by decide, by decide, by decide +kernel⟩
set_option maxRecDepth 20000 in
theorem gi_X4_differ : Cond.instanceMethod yX4_differ ∈ eg_gw ∧ Cond.selects yX4_differ.cls yX4_differ yX4_differ ∈ eg_gw := ⟨eg_inT (i := 564) rfl rfl, eg_inT (i := 565) rfl rfl⟩
set_option maxRecDepth 20000 in
theorem gk_X4_isSame : eg_YOK mX4_isSame 4 := ⟨eg_inT (i := 577) rfl rfl, eg_inT (i := 5) rfl rfl, ⟨by decide, by decide⟩, by decide, by decide, by decide +kernel⟩
set_option maxRecDepth 20000 in
theorem gi_X4_isSame : Cond.static yX4_isSame ∈ eg_gw := eg_inT (i := 576) rfl rfl
set_option maxRecDepth 20000 in
theorem gk_X4_lose : eg_YOK mX4_lose 2 := ⟨eg_inT (i := 581) rfl rfl, eg_inT (i := 5) rfl rfl, ⟨by decide, by decide⟩, by decide, by decide, by decide +kernel⟩
set_option maxRecDepth 20000 in
theorem gi_X4_lose : Cond.instanceMethod yX4_lose ∈ eg_gw ∧ Cond.selects yX4_lose.cls yX4_lose yX4_lose ∈ eg_gw := ⟨eg_inT (i := 580) rfl rfl, eg_inP (i := 42) rfl⟩
set_option maxRecDepth 20000 in
theorem gk_X4_loseTwin : eg_YOK mX4_loseTwin 0 := ⟨eg_inT (i := 574) rfl rfl, eg_inT (i := 5) rfl rfl, ⟨by decide, by decide⟩, by decide, by decide, by decide +kernel⟩
set_option maxRecDepth 20000 in
theorem gi_X4_loseTwin : Cond.instanceMethod yX4_loseTwin ∈ eg_gw ∧ Cond.selects yX4_loseTwin.cls yX4_loseTwin yX4_loseTwin ∈ eg_gw := ⟨eg_inT (i := 573) rfl rfl, eg_inP (i := 41) rfl⟩
set_option maxRecDepth 20000 in
theorem gk_X4_loseIdle : eg_YOK mX4_loseIdle 0 := ⟨eg_inT (i := 585) rfl rfl, eg_inT (i := 5) rfl rfl, ⟨by decide, by decide⟩, by decide, by decide, by decide +kernel⟩
set_option maxRecDepth 20000 in
theorem gi_X4_loseIdle : Cond.instanceMethod yX4_loseIdle ∈ eg_gw ∧ Cond.selects yX4_loseIdle.cls yX4_loseIdle yX4_loseIdle ∈ eg_gw := ⟨eg_inT (i := 584) rfl rfl, eg_inP (i := 43) rfl⟩
set_option maxRecDepth 20000 in
theorem gk_X4_clean : eg_YOK mX4_clean 0 := ⟨eg_inT (i := 570) rfl rfl, eg_inT (i := 5) rfl rfl, ⟨by decide, by decide⟩, by decide, by decide, by decide +kernel⟩
set_option maxRecDepth 20000 in
theorem gi_X4_clean : Cond.instanceMethod yX4_clean ∈ eg_gw ∧ Cond.selects yX4_clean.cls yX4_clean yX4_clean ∈ eg_gw := ⟨eg_inT (i := 568) rfl rfl, eg_inT (i := 569) rfl rfl⟩
set_option maxRecDepth 20000 in
theorem gk_X4_turns : eg_YOK mX4_turns 1 := ⟨eg_inT (i := 608) rfl rfl, eg_inT (i := 5) rfl rfl, ⟨by decide, by decide⟩, by decide, by decide, by decide +kernel⟩
set_option maxRecDepth 20000 in
theorem gi_X4_turns : Cond.static yX4_turns ∈ eg_gw := eg_inT (i := 607) rfl rfl
set_option maxRecDepth 20000 in
theorem gk_X4_advance : eg_YOK mX4_advance 1 := ⟨eg_inT (i := 605) rfl rfl, eg_inT (i := 5) rfl rfl, ⟨by decide, by decide⟩, by decide, by decide, by decide +kernel⟩
set_option maxRecDepth 20000 in
theorem gi_X4_advance : Cond.instanceMethod yX4_advance ∈ eg_gw ∧ Cond.selects yX4_advance.cls yX4_advance yX4_advance ∈ eg_gw := ⟨eg_inT (i := 604) rfl rfl, eg_inP (i := 47) rfl⟩
set_option maxRecDepth 20000 in
theorem gk_X4_open : eg_YOK mX4_open 2 := ⟨eg_inT (i := 601) rfl rfl, eg_inT (i := 5) rfl rfl, ⟨by decide, by decide⟩, by decide, by decide, by decide +kernel⟩
set_option maxRecDepth 20000 in
theorem gi_X4_open : Cond.instanceMethod yX4_open ∈ eg_gw ∧ Cond.selects yX4_open.cls yX4_open yX4_open ∈ eg_gw := ⟨eg_inT (i := 600) rfl rfl, eg_inP (i := 46) rfl⟩
set_option maxRecDepth 20000 in
theorem gk_X4_isTarget : eg_YOK mX4_isTarget 1 := ⟨eg_inT (i := 593) rfl rfl, eg_inT (i := 5) rfl rfl, ⟨by decide, by decide⟩, by decide, by decide, by decide +kernel⟩
set_option maxRecDepth 20000 in
theorem gi_X4_isTarget : Cond.instanceMethod yX4_isTarget ∈ eg_gw ∧ Cond.selects yX4_isTarget.cls yX4_isTarget yX4_isTarget ∈ eg_gw := ⟨eg_inT (i := 592) rfl rfl, eg_inP (i := 44) rfl⟩
set_option maxRecDepth 20000 in
theorem gk_X4_isNew : eg_YOK mX4_isNew 1 := ⟨eg_inT (i := 616) rfl rfl, eg_inT (i := 5) rfl rfl, ⟨by decide, by decide⟩, by decide, by decide, by decide +kernel⟩
set_option maxRecDepth 20000 in
theorem gi_X4_isNew : Cond.instanceMethod yX4_isNew ∈ eg_gw ∧ Cond.selects yX4_isNew.cls yX4_isNew yX4_isNew ∈ eg_gw := ⟨eg_inT (i := 615) rfl rfl, eg_inP (i := 49) rfl⟩
set_option maxRecDepth 20000 in
theorem gk_X4_note : eg_YOK mX4_note 1 := ⟨eg_inT (i := 612) rfl rfl, eg_inT (i := 5) rfl rfl, ⟨by decide, by decide⟩, by decide, by decide, by decide +kernel⟩
set_option maxRecDepth 20000 in
theorem gi_X4_note : Cond.instanceMethod yX4_note ∈ eg_gw ∧ Cond.selects yX4_note.cls yX4_note yX4_note ∈ eg_gw := ⟨eg_inT (i := 611) rfl rfl, eg_inP (i := 48) rfl⟩
set_option maxRecDepth 20000 in
theorem gk_X4_round : eg_YOK mX4_round 3 := ⟨eg_inT (i := 597) rfl rfl, eg_inT (i := 5) rfl rfl, ⟨by decide, by decide⟩, by decide, by decide, by decide +kernel⟩
set_option maxRecDepth 20000 in
theorem gi_X4_round : Cond.instanceMethod yX4_round ∈ eg_gw ∧ Cond.selects yX4_round.cls yX4_round yX4_round ∈ eg_gw := ⟨eg_inT (i := 596) rfl rfl, eg_inP (i := 45) rfl⟩
set_option maxRecDepth 20000 in
theorem gk_X4_keepFirst : eg_YOK mX4_keepFirst 1 := ⟨eg_inT (i := 620) rfl rfl, eg_inT (i := 5) rfl rfl, ⟨by decide, by decide⟩, by decide, by decide, by decide +kernel⟩
set_option maxRecDepth 20000 in
theorem gi_X4_keepFirst : Cond.instanceMethod yX4_keepFirst ∈ eg_gw ∧ Cond.selects yX4_keepFirst.cls yX4_keepFirst yX4_keepFirst ∈ eg_gw := ⟨eg_inT (i := 619) rfl rfl, eg_inP (i := 50) rfl⟩
set_option maxRecDepth 20000 in
theorem gk_X4_search : eg_YOK mX4_search 3 := ⟨eg_inT (i := 589) rfl rfl, eg_inT (i := 5) rfl rfl, ⟨by decide, by decide⟩, by decide, by decide, by decide +kernel⟩
set_option maxRecDepth 20000 in
theorem gi_X4_search : Cond.instanceMethod yX4_search ∈ eg_gw ∧ Cond.selects yX4_search.cls yX4_search yX4_search ∈ eg_gw := ⟨eg_inT (i := 587) rfl rfl, eg_inT (i := 588) rfl rfl⟩
set_option maxRecDepth 20000 in
theorem gk_X4_told : eg_YOK mX4_told 1 := ⟨eg_inT (i := 624) rfl rfl, eg_inT (i := 5) rfl rfl, ⟨by decide, by decide⟩, by decide, by decide, by decide +kernel⟩
set_option maxRecDepth 20000 in
theorem gi_X4_told : Cond.instanceMethod yX4_told ∈ eg_gw ∧ Cond.selects yX4_told.cls yX4_told yX4_told ∈ eg_gw := ⟨eg_inT (i := 622) rfl rfl, eg_inT (i := 623) rfl rfl⟩
set_option maxRecDepth 20000 in
theorem gk_X4_take : eg_YOK mX4_take 0 := ⟨eg_inT (i := 628) rfl rfl, eg_inT (i := 5) rfl rfl, ⟨by decide, by decide⟩, by decide, by decide, by decide +kernel⟩
set_option maxRecDepth 20000 in
theorem gi_X4_take : Cond.instanceMethod yX4_take ∈ eg_gw ∧ Cond.selects yX4_take.cls yX4_take yX4_take ∈ eg_gw := ⟨eg_inT (i := 626) rfl rfl, eg_inT (i := 627) rfl rfl⟩
set_option maxRecDepth 20000 in
theorem gc_RL_7 : Cond.classLink RL 7 RX3 ∈ eg_gw ∧ Cond.instantiable RX3 8 ∈ eg_gw ∧ Cond.initialized RX3 ∈ eg_gw := ⟨eg_inT (i := 7) rfl rfl, eg_inT (i := 8) rfl rfl, eg_inT (i := 1) rfl rfl⟩
set_option maxRecDepth 20000 in
theorem gl_RL_9 : Cond.methodLink RL 9 yX3_init ∈ eg_gw ∨ ∃ host, Cond.methodLinkNest RL 9 yX3_init host ∈ eg_nw := Or.inl (eg_inT (i := 9) rfl rfl)
set_option maxRecDepth 20000 in
theorem gl_RX3_3 : Cond.methodLink RX3 3 Lib.objectInit ∈ eg_gw ∧ Cond.instanceMethod Lib.objectInit ∈ eg_gw ∧ Cond.code Lib.objectInit ⟨#[0xb1]⟩ 1 none ∈ eg_gw := ⟨eg_inT (i := 12) rfl rfl, eg_inT (i := 13) rfl rfl, eg_inT (i := 14) rfl rfl⟩
set_option maxRecDepth 20000 in
theorem gc_RX3_16 : Cond.classLink RX3 16 RX2 ∈ eg_gw ∧ Cond.instantiable RX2 6 ∈ eg_gw ∧ Cond.initialized RX2 ∈ eg_gw := ⟨eg_inT (i := 15) rfl rfl, eg_inT (i := 16) rfl rfl, eg_inT (i := 2) rfl rfl⟩
set_option maxRecDepth 20000 in
theorem gl_RX3_18 : Cond.methodLink RX3 18 yX2_init ∈ eg_gw ∨ ∃ host, Cond.methodLinkNest RX3 18 yX2_init host ∈ eg_nw := Or.inr ⟨"ShortestCode", eg_inN (i := 17) rfl rfl⟩
set_option maxRecDepth 20000 in
theorem gl_RX2_3 : Cond.methodLink RX2 3 Lib.objectInit ∈ eg_gw ∧ Cond.instanceMethod Lib.objectInit ∈ eg_gw ∧ Cond.code Lib.objectInit ⟨#[0xb1]⟩ 1 none ∈ eg_gw := ⟨eg_inT (i := 20) rfl rfl, eg_inT (i := 13) rfl rfl, eg_inT (i := 14) rfl rfl⟩
set_option maxRecDepth 20000 in
theorem gc_RX2_9 : Cond.classLink RX2 9 "[[I" ∈ eg_gw := eg_inT (i := 21) rfl rfl
set_option maxRecDepth 20000 in
theorem gf_RX2_11 : eg_FG RX2 11 2 0 := ⟨RX2, TX2, 6, rfl, by decide, Or.inl (eg_inT (i := 23) rfl rfl)⟩
set_option maxRecDepth 20000 in
theorem gp_RX2_11 : eg_FL RX2 11 2 0 true := ⟨RX2, TX2, 6, rfl, by decide, rfl, (fun _ => rfl), Or.inl (eg_inT (i := 23) rfl rfl)⟩
set_option maxRecDepth 20000 in
theorem gf_RX3_83 : eg_FG RX3 83 2 0 := ⟨RX2, TX2, 6, rfl, by decide, Or.inr ⟨"ShortestCode", eg_inN (i := 24) rfl rfl⟩⟩
set_option maxRecDepth 20000 in
theorem gf_RX2_16 : eg_FG RX2 16 2 1 := ⟨RX2, TX2, 6, rfl, by decide, Or.inl (eg_inT (i := 25) rfl rfl)⟩
set_option maxRecDepth 20000 in
theorem gp_RX2_16 : eg_FL RX2 16 2 1 false := ⟨RX2, TX2, 6, rfl, by decide, rfl, (fun h => by cases h), Or.inl (eg_inT (i := 25) rfl rfl)⟩
set_option maxRecDepth 20000 in
theorem gf_RX3_115 : eg_FG RX3 115 2 1 := ⟨RX2, TX2, 6, rfl, by decide, Or.inr ⟨"ShortestCode", eg_inN (i := 26) rfl rfl⟩⟩
set_option maxRecDepth 20000 in
theorem gp_RX3_115 : eg_FL RX3 115 2 1 false := ⟨RX2, TX2, 6, rfl, by decide, rfl, (fun h => by cases h), Or.inr ⟨rfl, "ShortestCode", eg_inN (i := 26) rfl rfl⟩⟩
set_option maxRecDepth 20000 in
theorem gf_RX2_20 : eg_FG RX2 20 2 2 := ⟨RX2, TX2, 6, rfl, by decide, Or.inl (eg_inT (i := 27) rfl rfl)⟩
set_option maxRecDepth 20000 in
theorem gp_RX2_20 : eg_FL RX2 20 2 2 false := ⟨RX2, TX2, 6, rfl, by decide, rfl, (fun h => by cases h), Or.inl (eg_inT (i := 27) rfl rfl)⟩
set_option maxRecDepth 20000 in
theorem gf_RX2_23 : eg_FG RX2 23 2 3 := ⟨RX2, TX2, 6, rfl, by decide, Or.inl (eg_inT (i := 28) rfl rfl)⟩
set_option maxRecDepth 20000 in
theorem gp_RX2_23 : eg_FL RX2 23 2 3 false := ⟨RX2, TX2, 6, rfl, by decide, rfl, (fun h => by cases h), Or.inl (eg_inT (i := 28) rfl rfl)⟩
set_option maxRecDepth 20000 in
theorem gf_RX3_118 : eg_FG RX3 118 2 3 := ⟨RX2, TX2, 6, rfl, by decide, Or.inr ⟨"ShortestCode", eg_inN (i := 29) rfl rfl⟩⟩
set_option maxRecDepth 20000 in
theorem gp_RX3_118 : eg_FL RX3 118 2 3 false := ⟨RX2, TX2, 6, rfl, by decide, rfl, (fun h => by cases h), Or.inr ⟨rfl, "ShortestCode", eg_inN (i := 29) rfl rfl⟩⟩
set_option maxRecDepth 20000 in
theorem gf_RX2_29 : eg_FG RX2 29 2 4 := ⟨RX2, TX2, 6, rfl, by decide, Or.inl (eg_inT (i := 30) rfl rfl)⟩
set_option maxRecDepth 20000 in
theorem gp_RX2_29 : eg_FL RX2 29 2 4 false := ⟨RX2, TX2, 6, rfl, by decide, rfl, (fun h => by cases h), Or.inl (eg_inT (i := 30) rfl rfl)⟩
set_option maxRecDepth 20000 in
theorem gf_RX3_67 : eg_FG RX3 67 2 4 := ⟨RX2, TX2, 6, rfl, by decide, Or.inr ⟨"ShortestCode", eg_inN (i := 31) rfl rfl⟩⟩
set_option maxRecDepth 20000 in
theorem gp_RX3_67 : eg_FL RX3 67 2 4 false := ⟨RX2, TX2, 6, rfl, by decide, rfl, (fun h => by cases h), Or.inr ⟨rfl, "ShortestCode", eg_inN (i := 31) rfl rfl⟩⟩
set_option maxRecDepth 20000 in
theorem gf_RX2_26 : eg_FG RX2 26 2 5 := ⟨RX2, TX2, 6, rfl, by decide, Or.inl (eg_inT (i := 32) rfl rfl)⟩
set_option maxRecDepth 20000 in
theorem gp_RX2_26 : eg_FL RX2 26 2 5 false := ⟨RX2, TX2, 6, rfl, by decide, rfl, (fun h => by cases h), Or.inl (eg_inT (i := 32) rfl rfl)⟩
set_option maxRecDepth 20000 in
theorem gf_RX3_56 : eg_FG RX3 56 2 5 := ⟨RX2, TX2, 6, rfl, by decide, Or.inr ⟨"ShortestCode", eg_inN (i := 33) rfl rfl⟩⟩
set_option maxRecDepth 20000 in
theorem gp_RX3_56 : eg_FL RX3 56 2 5 false := ⟨RX2, TX2, 6, rfl, by decide, rfl, (fun h => by cases h), Or.inr ⟨rfl, "ShortestCode", eg_inN (i := 33) rfl rfl⟩⟩
set_option maxRecDepth 20000 in
theorem ga_int : Cond.arrayClass .int ∈ eg_gw := eg_inT (i := 47) rfl rfl
set_option maxRecDepth 20000 in
theorem gc_RX3_23 : Cond.classLink RX3 23 RX1 ∈ eg_gw ∧ Cond.instantiable RX1 5 ∈ eg_gw ∧ Cond.initialized RX1 ∈ eg_gw := ⟨eg_inT (i := 48) rfl rfl, eg_inT (i := 49) rfl rfl, eg_inT (i := 3) rfl rfl⟩
set_option maxRecDepth 20000 in
theorem gl_RX3_25 : Cond.methodLink RX3 25 yX1_init ∈ eg_gw ∨ ∃ host, Cond.methodLinkNest RX3 25 yX1_init host ∈ eg_nw := Or.inr ⟨"ShortestCode", eg_inN (i := 50) rfl rfl⟩
set_option maxRecDepth 20000 in
theorem gl_RX1_3 : Cond.methodLink RX1 3 Lib.objectInit ∈ eg_gw ∧ Cond.instanceMethod Lib.objectInit ∈ eg_gw ∧ Cond.code Lib.objectInit ⟨#[0xb1]⟩ 1 none ∈ eg_gw := ⟨eg_inT (i := 53) rfl rfl, eg_inT (i := 13) rfl rfl, eg_inT (i := 14) rfl rfl⟩
set_option maxRecDepth 20000 in
theorem gf_RX1_9 : eg_FG RX1 9 1 0 := ⟨RX1, TX1, 5, rfl, by decide, Or.inl (eg_inT (i := 54) rfl rfl)⟩
set_option maxRecDepth 20000 in
theorem gp_RX1_9 : eg_FL RX1 9 1 0 true := ⟨RX1, TX1, 5, rfl, by decide, rfl, (fun _ => rfl), Or.inl (eg_inT (i := 54) rfl rfl)⟩
set_option maxRecDepth 20000 in
theorem gf_RX3_106 : eg_FG RX3 106 1 0 := ⟨RX1, TX1, 5, rfl, by decide, Or.inr ⟨"ShortestCode", eg_inN (i := 55) rfl rfl⟩⟩
set_option maxRecDepth 20000 in
theorem gf_RX1_15 : eg_FG RX1 15 1 1 := ⟨RX1, TX1, 5, rfl, by decide, Or.inl (eg_inT (i := 56) rfl rfl)⟩
set_option maxRecDepth 20000 in
theorem gp_RX1_15 : eg_FL RX1 15 1 1 true := ⟨RX1, TX1, 5, rfl, by decide, rfl, (fun _ => rfl), Or.inl (eg_inT (i := 56) rfl rfl)⟩
set_option maxRecDepth 20000 in
theorem gf_RX3_109 : eg_FG RX3 109 1 1 := ⟨RX1, TX1, 5, rfl, by decide, Or.inr ⟨"ShortestCode", eg_inN (i := 57) rfl rfl⟩⟩
set_option maxRecDepth 20000 in
theorem gf_RX1_18 : eg_FG RX1 18 1 2 := ⟨RX1, TX1, 5, rfl, by decide, Or.inl (eg_inT (i := 58) rfl rfl)⟩
set_option maxRecDepth 20000 in
theorem gp_RX1_18 : eg_FL RX1 18 1 2 true := ⟨RX1, TX1, 5, rfl, by decide, rfl, (fun _ => rfl), Or.inl (eg_inT (i := 58) rfl rfl)⟩
set_option maxRecDepth 20000 in
theorem gf_RX3_112 : eg_FG RX3 112 1 2 := ⟨RX1, TX1, 5, rfl, by decide, Or.inr ⟨"ShortestCode", eg_inN (i := 59) rfl rfl⟩⟩
set_option maxRecDepth 20000 in
theorem gf_RX1_21 : eg_FG RX1 21 1 3 := ⟨RX1, TX1, 5, rfl, by decide, Or.inl (eg_inT (i := 60) rfl rfl)⟩
set_option maxRecDepth 20000 in
theorem gp_RX1_21 : eg_FL RX1 21 1 3 false := ⟨RX1, TX1, 5, rfl, by decide, rfl, (fun h => by cases h), Or.inl (eg_inT (i := 60) rfl rfl)⟩
set_option maxRecDepth 20000 in
theorem gf_RX3_64 : eg_FG RX3 64 1 3 := ⟨RX1, TX1, 5, rfl, by decide, Or.inr ⟨"ShortestCode", eg_inN (i := 61) rfl rfl⟩⟩
set_option maxRecDepth 20000 in
theorem gp_RX3_64 : eg_FL RX3 64 1 3 false := ⟨RX1, TX1, 5, rfl, by decide, rfl, (fun h => by cases h), Or.inr ⟨rfl, "ShortestCode", eg_inN (i := 61) rfl rfl⟩⟩
set_option maxRecDepth 20000 in
theorem gf_RX0_124 : eg_FG RX0 124 1 3 := ⟨RX1, TX1, 5, rfl, by decide, Or.inr ⟨"ShortestCode", eg_inN (i := 62) rfl rfl⟩⟩
set_option maxRecDepth 20000 in
theorem gp_RX0_124 : eg_FL RX0 124 1 3 false := ⟨RX1, TX1, 5, rfl, by decide, rfl, (fun h => by cases h), Or.inr ⟨rfl, "ShortestCode", eg_inN (i := 62) rfl rfl⟩⟩
set_option maxRecDepth 20000 in
theorem gf_RX1_25 : eg_FG RX1 25 1 4 := ⟨RX1, TX1, 5, rfl, by decide, Or.inl (eg_inT (i := 63) rfl rfl)⟩
set_option maxRecDepth 20000 in
theorem gp_RX1_25 : eg_FL RX1 25 1 4 false := ⟨RX1, TX1, 5, rfl, by decide, rfl, (fun h => by cases h), Or.inl (eg_inT (i := 63) rfl rfl)⟩
set_option maxRecDepth 20000 in
theorem gf_RX3_87 : eg_FG RX3 87 1 4 := ⟨RX1, TX1, 5, rfl, by decide, Or.inr ⟨"ShortestCode", eg_inN (i := 64) rfl rfl⟩⟩
set_option maxRecDepth 20000 in
theorem gp_RX3_87 : eg_FL RX3 87 1 4 false := ⟨RX1, TX1, 5, rfl, by decide, rfl, (fun h => by cases h), Or.inr ⟨rfl, "ShortestCode", eg_inN (i := 64) rfl rfl⟩⟩
set_option maxRecDepth 20000 in
theorem gf_RX0_127 : eg_FG RX0 127 1 4 := ⟨RX1, TX1, 5, rfl, by decide, Or.inr ⟨"ShortestCode", eg_inN (i := 65) rfl rfl⟩⟩
set_option maxRecDepth 20000 in
theorem gp_RX0_127 : eg_FL RX0 127 1 4 false := ⟨RX1, TX1, 5, rfl, by decide, rfl, (fun h => by cases h), Or.inr ⟨rfl, "ShortestCode", eg_inN (i := 65) rfl rfl⟩⟩
set_option maxRecDepth 20000 in
theorem gc_RX3_37 : Cond.classLink RX3 37 RX0 ∈ eg_gw ∧ Cond.instantiable RX0 12 ∈ eg_gw ∧ Cond.initialized RX0 ∈ eg_gw := ⟨eg_inT (i := 77) rfl rfl, eg_inT (i := 78) rfl rfl, eg_inT (i := 4) rfl rfl⟩
set_option maxRecDepth 20000 in
theorem gl_RX3_39 : Cond.methodLink RX3 39 yX0_init ∈ eg_gw ∨ ∃ host, Cond.methodLinkNest RX3 39 yX0_init host ∈ eg_nw := Or.inr ⟨"ShortestCode", eg_inN (i := 79) rfl rfl⟩
set_option maxRecDepth 20000 in
theorem gl_RX0_3 : Cond.methodLink RX0 3 Lib.objectInit ∈ eg_gw ∧ Cond.instanceMethod Lib.objectInit ∈ eg_gw ∧ Cond.code Lib.objectInit ⟨#[0xb1]⟩ 1 none ∈ eg_gw := ⟨eg_inT (i := 82) rfl rfl, eg_inT (i := 13) rfl rfl, eg_inT (i := 14) rfl rfl⟩
set_option maxRecDepth 20000 in
theorem gc_RX0_18 : Cond.classLink RX0 18 RX2 ∈ eg_gw ∧ Cond.instantiable RX2 6 ∈ eg_gw ∧ Cond.initialized RX2 ∈ eg_gw := ⟨eg_inT (i := 83) rfl rfl, eg_inT (i := 16) rfl rfl, eg_inT (i := 2) rfl rfl⟩
set_option maxRecDepth 20000 in
theorem gl_RX0_20 : Cond.methodLink RX0 20 yX2_init ∈ eg_gw ∨ ∃ host, Cond.methodLinkNest RX0 20 yX2_init host ∈ eg_nw := Or.inr ⟨"ShortestCode", eg_inN (i := 84) rfl rfl⟩
set_option maxRecDepth 20000 in
theorem gc_RX0_25 : Cond.classLink RX0 25 RX1 ∈ eg_gw ∧ Cond.instantiable RX1 5 ∈ eg_gw ∧ Cond.initialized RX1 ∈ eg_gw := ⟨eg_inT (i := 85) rfl rfl, eg_inT (i := 49) rfl rfl, eg_inT (i := 3) rfl rfl⟩
set_option maxRecDepth 20000 in
theorem gl_RX0_27 : Cond.methodLink RX0 27 yX1_init ∈ eg_gw ∨ ∃ host, Cond.methodLinkNest RX0 27 yX1_init host ∈ eg_nw := Or.inr ⟨"ShortestCode", eg_inN (i := 86) rfl rfl⟩
set_option maxRecDepth 20000 in
theorem gf_RX0_9 : eg_FG RX0 9 0 0 := ⟨RX0, TX0, 12, rfl, by decide, Or.inl (eg_inT (i := 87) rfl rfl)⟩
set_option maxRecDepth 20000 in
theorem gp_RX0_9 : eg_FL RX0 9 0 0 true := ⟨RX0, TX0, 12, rfl, by decide, rfl, (fun _ => rfl), Or.inl (eg_inT (i := 87) rfl rfl)⟩
set_option maxRecDepth 20000 in
theorem gf_RX0_15 : eg_FG RX0 15 0 1 := ⟨RX0, TX0, 12, rfl, by decide, Or.inl (eg_inT (i := 88) rfl rfl)⟩
set_option maxRecDepth 20000 in
theorem gp_RX0_15 : eg_FL RX0 15 0 1 true := ⟨RX0, TX0, 12, rfl, by decide, rfl, (fun _ => rfl), Or.inl (eg_inT (i := 88) rfl rfl)⟩
set_option maxRecDepth 20000 in
theorem gf_RX0_21 : eg_FG RX0 21 0 2 := ⟨RX0, TX0, 12, rfl, by decide, Or.inl (eg_inT (i := 89) rfl rfl)⟩
set_option maxRecDepth 20000 in
theorem gp_RX0_21 : eg_FL RX0 21 0 2 true := ⟨RX0, TX0, 12, rfl, by decide, rfl, (fun _ => rfl), Or.inl (eg_inT (i := 89) rfl rfl)⟩
set_option maxRecDepth 20000 in
theorem gf_RX0_28 : eg_FG RX0 28 0 3 := ⟨RX0, TX0, 12, rfl, by decide, Or.inl (eg_inT (i := 90) rfl rfl)⟩
set_option maxRecDepth 20000 in
theorem gp_RX0_28 : eg_FL RX0 28 0 3 true := ⟨RX0, TX0, 12, rfl, by decide, rfl, (fun _ => rfl), Or.inl (eg_inT (i := 90) rfl rfl)⟩
set_option maxRecDepth 20000 in
theorem gf_RX0_32 : eg_FG RX0 32 0 4 := ⟨RX0, TX0, 12, rfl, by decide, Or.inl (eg_inT (i := 91) rfl rfl)⟩
set_option maxRecDepth 20000 in
theorem gp_RX0_32 : eg_FL RX0 32 0 4 true := ⟨RX0, TX0, 12, rfl, by decide, rfl, (fun _ => rfl), Or.inl (eg_inT (i := 91) rfl rfl)⟩
set_option maxRecDepth 20000 in
theorem gf_RX3_143 : eg_FG RX3 143 0 4 := ⟨RX0, TX0, 12, rfl, by decide, Or.inr ⟨"ShortestCode", eg_inN (i := 92) rfl rfl⟩⟩
set_option maxRecDepth 20000 in
theorem gf_RX0_49 : eg_FG RX0 49 0 5 := ⟨RX0, TX0, 12, rfl, by decide, Or.inl (eg_inT (i := 93) rfl rfl)⟩
set_option maxRecDepth 20000 in
theorem gp_RX0_49 : eg_FL RX0 49 0 5 false := ⟨RX0, TX0, 12, rfl, by decide, rfl, (fun h => by cases h), Or.inl (eg_inT (i := 93) rfl rfl)⟩
set_option maxRecDepth 20000 in
theorem gf_RX0_52 : eg_FG RX0 52 0 6 := ⟨RX0, TX0, 12, rfl, by decide, Or.inl (eg_inT (i := 94) rfl rfl)⟩
set_option maxRecDepth 20000 in
theorem gp_RX0_52 : eg_FL RX0 52 0 6 false := ⟨RX0, TX0, 12, rfl, by decide, rfl, (fun h => by cases h), Or.inl (eg_inT (i := 94) rfl rfl)⟩
set_option maxRecDepth 20000 in
theorem gf_RX0_56 : eg_FG RX0 56 0 7 := ⟨RX0, TX0, 12, rfl, by decide, Or.inl (eg_inT (i := 95) rfl rfl)⟩
set_option maxRecDepth 20000 in
theorem gp_RX0_56 : eg_FL RX0 56 0 7 false := ⟨RX0, TX0, 12, rfl, by decide, rfl, (fun h => by cases h), Or.inl (eg_inT (i := 95) rfl rfl)⟩
set_option maxRecDepth 20000 in
theorem gf_RX0_59 : eg_FG RX0 59 0 8 := ⟨RX0, TX0, 12, rfl, by decide, Or.inl (eg_inT (i := 96) rfl rfl)⟩
set_option maxRecDepth 20000 in
theorem gp_RX0_59 : eg_FL RX0 59 0 8 false := ⟨RX0, TX0, 12, rfl, by decide, rfl, (fun h => by cases h), Or.inl (eg_inT (i := 96) rfl rfl)⟩
set_option maxRecDepth 20000 in
theorem gf_RX3_150 : eg_FG RX3 150 0 8 := ⟨RX0, TX0, 12, rfl, by decide, Or.inr ⟨"ShortestCode", eg_inN (i := 97) rfl rfl⟩⟩
set_option maxRecDepth 20000 in
theorem gp_RX3_150 : eg_FL RX3 150 0 8 false := ⟨RX0, TX0, 12, rfl, by decide, rfl, (fun h => by cases h), Or.inr ⟨rfl, "ShortestCode", eg_inN (i := 97) rfl rfl⟩⟩
set_option maxRecDepth 20000 in
theorem gf_RX0_62 : eg_FG RX0 62 0 9 := ⟨RX0, TX0, 12, rfl, by decide, Or.inl (eg_inT (i := 98) rfl rfl)⟩
set_option maxRecDepth 20000 in
theorem gp_RX0_62 : eg_FL RX0 62 0 9 false := ⟨RX0, TX0, 12, rfl, by decide, rfl, (fun h => by cases h), Or.inl (eg_inT (i := 98) rfl rfl)⟩
set_option maxRecDepth 20000 in
theorem gf_RX3_153 : eg_FG RX3 153 0 9 := ⟨RX0, TX0, 12, rfl, by decide, Or.inr ⟨"ShortestCode", eg_inN (i := 99) rfl rfl⟩⟩
set_option maxRecDepth 20000 in
theorem gp_RX3_153 : eg_FL RX3 153 0 9 false := ⟨RX0, TX0, 12, rfl, by decide, rfl, (fun h => by cases h), Or.inr ⟨rfl, "ShortestCode", eg_inN (i := 99) rfl rfl⟩⟩
set_option maxRecDepth 20000 in
theorem gf_RX0_65 : eg_FG RX0 65 0 10 := ⟨RX0, TX0, 12, rfl, by decide, Or.inl (eg_inT (i := 100) rfl rfl)⟩
set_option maxRecDepth 20000 in
theorem gp_RX0_65 : eg_FL RX0 65 0 10 false := ⟨RX0, TX0, 12, rfl, by decide, rfl, (fun h => by cases h), Or.inl (eg_inT (i := 100) rfl rfl)⟩
set_option maxRecDepth 20000 in
theorem gf_RX3_156 : eg_FG RX3 156 0 10 := ⟨RX0, TX0, 12, rfl, by decide, Or.inr ⟨"ShortestCode", eg_inN (i := 101) rfl rfl⟩⟩
set_option maxRecDepth 20000 in
theorem gp_RX3_156 : eg_FL RX3 156 0 10 false := ⟨RX0, TX0, 12, rfl, by decide, rfl, (fun h => by cases h), Or.inr ⟨rfl, "ShortestCode", eg_inN (i := 101) rfl rfl⟩⟩
set_option maxRecDepth 20000 in
theorem gf_RX0_35 : eg_FG RX0 35 0 11 := ⟨RX0, TX0, 12, rfl, by decide, Or.inl (eg_inT (i := 102) rfl rfl)⟩
set_option maxRecDepth 20000 in
theorem gp_RX0_35 : eg_FL RX0 35 0 11 false := ⟨RX0, TX0, 12, rfl, by decide, rfl, (fun h => by cases h), Or.inl (eg_inT (i := 102) rfl rfl)⟩
set_option maxRecDepth 20000 in
theorem gf_RX3_159 : eg_FG RX3 159 0 11 := ⟨RX0, TX0, 12, rfl, by decide, Or.inr ⟨"ShortestCode", eg_inN (i := 103) rfl rfl⟩⟩
set_option maxRecDepth 20000 in
theorem gp_RX3_159 : eg_FL RX3 159 0 11 false := ⟨RX0, TX0, 12, rfl, by decide, rfl, (fun h => by cases h), Or.inr ⟨rfl, "ShortestCode", eg_inN (i := 103) rfl rfl⟩⟩
set_option maxRecDepth 20000 in
theorem ga_boolean : Cond.arrayClass .boolean ∈ eg_gw := eg_inT (i := 129) rfl rfl
set_option maxRecDepth 20000 in
theorem gl_RX3_44 : Cond.methodLink RX3 44 yX2_setInputs ∈ eg_gw ∨ ∃ host, Cond.methodLinkNest RX3 44 yX2_setInputs host ∈ eg_nw := Or.inr ⟨"ShortestCode", eg_inN (i := 130) rfl rfl⟩
set_option maxRecDepth 20000 in
theorem gf_RX3_9 : eg_FG RX3 9 3 0 := ⟨RX3, TX3, 8, rfl, by decide, Or.inl (eg_inT (i := 134) rfl rfl)⟩
set_option maxRecDepth 20000 in
theorem gp_RX3_9 : eg_FL RX3 9 3 0 true := ⟨RX3, TX3, 8, rfl, by decide, rfl, (fun _ => rfl), Or.inl (eg_inT (i := 134) rfl rfl)⟩
set_option maxRecDepth 20000 in
theorem gf_RX3_13 : eg_FG RX3 13 3 1 := ⟨RX3, TX3, 8, rfl, by decide, Or.inl (eg_inT (i := 135) rfl rfl)⟩
set_option maxRecDepth 20000 in
theorem gp_RX3_13 : eg_FL RX3 13 3 1 true := ⟨RX3, TX3, 8, rfl, by decide, rfl, (fun _ => rfl), Or.inl (eg_inT (i := 135) rfl rfl)⟩
set_option maxRecDepth 20000 in
theorem gf_RX3_19 : eg_FG RX3 19 3 2 := ⟨RX3, TX3, 8, rfl, by decide, Or.inl (eg_inT (i := 136) rfl rfl)⟩
set_option maxRecDepth 20000 in
theorem gp_RX3_19 : eg_FL RX3 19 3 2 true := ⟨RX3, TX3, 8, rfl, by decide, rfl, (fun _ => rfl), Or.inl (eg_inT (i := 136) rfl rfl)⟩
set_option maxRecDepth 20000 in
theorem gf_RX3_26 : eg_FG RX3 26 3 3 := ⟨RX3, TX3, 8, rfl, by decide, Or.inl (eg_inT (i := 137) rfl rfl)⟩
set_option maxRecDepth 20000 in
theorem gp_RX3_26 : eg_FL RX3 26 3 3 true := ⟨RX3, TX3, 8, rfl, by decide, rfl, (fun _ => rfl), Or.inl (eg_inT (i := 137) rfl rfl)⟩
set_option maxRecDepth 20000 in
theorem gf_RX3_30 : eg_FG RX3 30 3 4 := ⟨RX3, TX3, 8, rfl, by decide, Or.inl (eg_inT (i := 138) rfl rfl)⟩
set_option maxRecDepth 20000 in
theorem gp_RX3_30 : eg_FL RX3 30 3 4 true := ⟨RX3, TX3, 8, rfl, by decide, rfl, (fun _ => rfl), Or.inl (eg_inT (i := 138) rfl rfl)⟩
set_option maxRecDepth 20000 in
theorem gf_RX3_33 : eg_FG RX3 33 3 5 := ⟨RX3, TX3, 8, rfl, by decide, Or.inl (eg_inT (i := 139) rfl rfl)⟩
set_option maxRecDepth 20000 in
theorem gp_RX3_33 : eg_FL RX3 33 3 5 true := ⟨RX3, TX3, 8, rfl, by decide, rfl, (fun _ => rfl), Or.inl (eg_inT (i := 139) rfl rfl)⟩
set_option maxRecDepth 20000 in
theorem gf_RX3_40 : eg_FG RX3 40 3 6 := ⟨RX3, TX3, 8, rfl, by decide, Or.inl (eg_inT (i := 140) rfl rfl)⟩
set_option maxRecDepth 20000 in
theorem gp_RX3_40 : eg_FL RX3 40 3 6 true := ⟨RX3, TX3, 8, rfl, by decide, rfl, (fun _ => rfl), Or.inl (eg_inT (i := 140) rfl rfl)⟩
set_option maxRecDepth 20000 in
theorem gf_RX3_52 : eg_FG RX3 52 3 7 := ⟨RX3, TX3, 8, rfl, by decide, Or.inl (eg_inT (i := 141) rfl rfl)⟩
set_option maxRecDepth 20000 in
theorem gp_RX3_52 : eg_FL RX3 52 3 7 false := ⟨RX3, TX3, 8, rfl, by decide, rfl, (fun h => by cases h), Or.inl (eg_inT (i := 141) rfl rfl)⟩
set_option maxRecDepth 20000 in
theorem gl_RL_13 : Cond.methodLink RL 13 yX3_words ∈ eg_gw ∨ ∃ host, Cond.methodLinkNest RL 13 yX3_words host ∈ eg_nw := Or.inl (eg_inT (i := 159) rfl rfl)
set_option maxRecDepth 20000 in
theorem gl_RX3_48 : Cond.methodLink RX3 48 yX1_empty ∈ eg_gw ∨ ∃ host, Cond.methodLinkNest RX3 48 yX1_empty host ∈ eg_nw := Or.inr ⟨"ShortestCode", eg_inN (i := 163) rfl rfl⟩
set_option maxRecDepth 20000 in
theorem gl_RL_18 : Cond.methodLink RL 18 yX3_constant ∈ eg_gw ∨ ∃ host, Cond.methodLinkNest RL 18 yX3_constant host ∈ eg_nw := Or.inl (eg_inT (i := 167) rfl rfl)
set_option maxRecDepth 20000 in
theorem gl_RX3_60 : Cond.methodLink RX3 60 yX2_isWord ∈ eg_gw ∨ ∃ host, Cond.methodLinkNest RX3 60 yX2_isWord host ∈ eg_nw := Or.inr ⟨"ShortestCode", eg_inN (i := 171) rfl rfl⟩
set_option maxRecDepth 20000 in
theorem gl_RX3_70 : Cond.methodLink RX3 70 yX2_appendConstant ∈ eg_gw ∨ ∃ host, Cond.methodLinkNest RX3 70 yX2_appendConstant host ∈ eg_nw := Or.inr ⟨"ShortestCode", eg_inN (i := 175) rfl rfl⟩
set_option maxRecDepth 20000 in
theorem gl_RX2_32 : Cond.methodLink RX2 32 yX2_given ∈ eg_gw ∨ ∃ host, Cond.methodLinkNest RX2 32 yX2_given host ∈ eg_nw := Or.inl (eg_inT (i := 179) rfl rfl)
set_option maxRecDepth 20000 in
theorem gl_RX3_73 : Cond.methodLink RX3 73 yX2_given ∈ eg_gw ∨ ∃ host, Cond.methodLinkNest RX3 73 yX2_given host ∈ eg_nw := Or.inr ⟨"ShortestCode", eg_inN (i := 183) rfl rfl⟩
set_option maxRecDepth 20000 in
theorem gl_RL_23 : Cond.methodLink RL 23 yX3_cost ∈ eg_gw ∨ ∃ host, Cond.methodLinkNest RL 23 yX3_cost host ∈ eg_nw := Or.inl (eg_inT (i := 184) rfl rfl)
set_option maxRecDepth 20000 in
theorem gl_RX3_77 : Cond.methodLink RX3 77 yX3_isOperation ∈ eg_gw ∨ ∃ host, Cond.methodLinkNest RX3 77 yX3_isOperation host ∈ eg_nw := Or.inl (eg_inT (i := 188) rfl rfl)
set_option maxRecDepth 20000 in
theorem gl_RL_27 : Cond.methodLink RL 27 yX3_target ∈ eg_gw ∨ ∃ host, Cond.methodLinkNest RL 27 yX3_target host ∈ eg_nw := Or.inl (eg_inT (i := 191) rfl rfl)
set_option maxRecDepth 20000 in
theorem gl_RX3_80 : Cond.methodLink RX3 80 yX2_isAssignment ∈ eg_gw ∨ ∃ host, Cond.methodLinkNest RX3 80 yX2_isAssignment host ∈ eg_nw := Or.inr ⟨"ShortestCode", eg_inN (i := 195) rfl rfl⟩
set_option maxRecDepth 20000 in
theorem gl_RL_31 : Cond.methodLink RL 31 yX3_aim ∈ eg_gw ∨ ∃ host, Cond.methodLinkNest RL 31 yX3_aim host ∈ eg_nw := Or.inl (eg_inT (i := 199) rfl rfl)
set_option maxRecDepth 20000 in
theorem gl_RL_36 : Cond.methodLink RL 36 yX3_add ∈ eg_gw ∨ ∃ host, Cond.methodLinkNest RL 36 yX3_add host ∈ eg_nw := Or.inl (eg_inT (i := 203) rfl rfl)
set_option maxRecDepth 20000 in
theorem gl_RX3_90 : Cond.methodLink RX3 90 yX3_isValue ∈ eg_gw ∨ ∃ host, Cond.methodLinkNest RX3 90 yX3_isValue host ∈ eg_nw := Or.inl (eg_inT (i := 207) rfl rfl)
set_option maxRecDepth 20000 in
theorem gl_RX3_93 : Cond.methodLink RX3 93 yX3_valueCount ∈ eg_gw ∨ ∃ host, Cond.methodLinkNest RX3 93 yX3_valueCount host ∈ eg_nw := Or.inl (eg_inT (i := 211) rfl rfl)
set_option maxRecDepth 20000 in
theorem gl_RX3_96 : Cond.methodLink RX3 96 yX3_takesOne ∈ eg_gw ∨ ∃ host, Cond.methodLinkNest RX3 96 yX3_takesOne host ∈ eg_nw := Or.inl (eg_inT (i := 215) rfl rfl)
set_option maxRecDepth 20000 in
theorem gl_RX3_99 : Cond.methodLink RX3 99 yX1_put ∈ eg_gw ∨ ∃ host, Cond.methodLinkNest RX3 99 yX1_put host ∈ eg_nw := Or.inr ⟨"ShortestCode", eg_inN (i := 218) rfl rfl⟩
set_option maxRecDepth 20000 in
theorem gl_RX3_103 : Cond.methodLink RX3 103 yX3_makeFrom ∈ eg_gw ∨ ∃ host, Cond.methodLinkNest RX3 103 yX3_makeFrom host ∈ eg_nw := Or.inl (eg_inT (i := 222) rfl rfl)
set_option maxRecDepth 20000 in
theorem gl_RX3_162 : Cond.methodLink RX3 162 yX2_make ∈ eg_gw ∨ ∃ host, Cond.methodLinkNest RX3 162 yX2_make host ∈ eg_nw := Or.inr ⟨"ShortestCode", eg_inN (i := 226) rfl rfl⟩
set_option maxRecDepth 20000 in
theorem gl_RX2_42 : Cond.methodLink RX2 42 yX2_reckon ∈ eg_gw ∨ ∃ host, Cond.methodLinkNest RX2 42 yX2_reckon host ∈ eg_nw := Or.inl (eg_inT (i := 230) rfl rfl)
set_option maxRecDepth 20000 in
theorem gl_RX2_54 : Cond.methodLink RX2 54 yX2_distance ∈ eg_gw ∨ ∃ host, Cond.methodLinkNest RX2 54 yX2_distance host ∈ eg_nw := Or.inl (eg_inT (i := 234) rfl rfl)
set_option maxRecDepth 20000 in
theorem gl_RX2_58 : Cond.methodLink RX2 58 yX2_signed ∈ eg_gw ∨ ∃ host, Cond.methodLinkNest RX2 58 yX2_signed host ∈ eg_nw := Or.inl (eg_inT (i := 238) rfl rfl)
set_option maxRecDepth 20000 in
theorem gl_RL_41 : Cond.methodLink RL 41 yX3_drop ∈ eg_gw ∨ ∃ host, Cond.methodLinkNest RL 41 yX3_drop host ∈ eg_nw := Or.inl (eg_inT (i := 242) rfl rfl)
set_option maxRecDepth 20000 in
theorem gl_RL_45 : Cond.methodLink RL 45 yX3_result ∈ eg_gw ∨ ∃ host, Cond.methodLinkNest RL 45 yX3_result host ∈ eg_nw := Or.inl (eg_inT (i := 246) rfl rfl)
set_option maxRecDepth 20000 in
theorem gl_RL_49 : Cond.methodLink RL 49 yX3_instruction ∈ eg_gw ∨ ∃ host, Cond.methodLinkNest RL 49 yX3_instruction host ∈ eg_nw := Or.inl (eg_inT (i := 250) rfl rfl)
set_option maxRecDepth 20000 in
theorem gl_RL_53 : Cond.methodLink RL 53 yX3_count ∈ eg_gw ∨ ∃ host, Cond.methodLinkNest RL 53 yX3_count host ∈ eg_nw := Or.inl (eg_inT (i := 254) rfl rfl)
set_option maxRecDepth 20000 in
theorem gl_RX3_121 : Cond.methodLink RX3 121 yX3_programCost ∈ eg_gw ∨ ∃ host, Cond.methodLinkNest RX3 121 yX3_programCost host ∈ eg_nw := Or.inl (eg_inT (i := 258) rfl rfl)
set_option maxRecDepth 20000 in
theorem gl_RL_57 : Cond.methodLink RL 57 yX3_value ∈ eg_gw ∨ ∃ host, Cond.methodLinkNest RL 57 yX3_value host ∈ eg_nw := Or.inl (eg_inT (i := 262) rfl rfl)
set_option maxRecDepth 20000 in
theorem gl_RL_61 : Cond.methodLink RL 61 yX3_differ ∈ eg_gw ∨ ∃ host, Cond.methodLinkNest RL 61 yX3_differ host ∈ eg_nw := Or.inl (eg_inT (i := 266) rfl rfl)
set_option maxRecDepth 20000 in
theorem gl_RX3_124 : Cond.methodLink RX3 124 yX2_firstDifference ∈ eg_gw ∨ ∃ host, Cond.methodLinkNest RX3 124 yX2_firstDifference host ∈ eg_nw := Or.inr ⟨"ShortestCode", eg_inN (i := 270) rfl rfl⟩
set_option maxRecDepth 20000 in
theorem gl_RL_65 : Cond.methodLink RL 65 yX3_clean ∈ eg_gw ∨ ∃ host, Cond.methodLinkNest RL 65 yX3_clean host ∈ eg_nw := Or.inl (eg_inT (i := 274) rfl rfl)
set_option maxRecDepth 20000 in
theorem gl_RX3_128 : Cond.methodLink RX3 128 yX3_takeOutRepeated ∈ eg_gw ∨ ∃ host, Cond.methodLinkNest RX3 128 yX3_takeOutRepeated host ∈ eg_nw := Or.inl (eg_inT (i := 278) rfl rfl)
set_option maxRecDepth 20000 in
theorem gl_RX3_165 : Cond.methodLink RX3 165 yX2_leastSame ∈ eg_gw ∨ ∃ host, Cond.methodLinkNest RX3 165 yX2_leastSame host ∈ eg_nw := Or.inr ⟨"ShortestCode", eg_inN (i := 282) rfl rfl⟩
set_option maxRecDepth 20000 in
theorem gl_RX2_50 : Cond.methodLink RX2 50 yX2_leastBelow ∈ eg_gw ∨ ∃ host, Cond.methodLinkNest RX2 50 yX2_leastBelow host ∈ eg_nw := Or.inl (eg_inT (i := 286) rfl rfl)
set_option maxRecDepth 20000 in
theorem gl_RX2_46 : Cond.methodLink RX2 46 yX2_firstDifference ∈ eg_gw ∨ ∃ host, Cond.methodLinkNest RX2 46 yX2_firstDifference host ∈ eg_nw := Or.inl (eg_inT (i := 290) rfl rfl)
set_option maxRecDepth 20000 in
theorem gl_RX3_169 : Cond.methodLink RX3 169 yX3_takeOut ∈ eg_gw ∨ ∃ host, Cond.methodLinkNest RX3 169 yX3_takeOut host ∈ eg_nw := Or.inl (eg_inT (i := 291) rfl rfl)
set_option maxRecDepth 20000 in
theorem gl_RX3_175 : Cond.methodLink RX3 175 yX1_remove ∈ eg_gw ∨ ∃ host, Cond.methodLinkNest RX3 175 yX1_remove host ∈ eg_nw := Or.inr ⟨"ShortestCode", eg_inN (i := 295) rfl rfl⟩
set_option maxRecDepth 20000 in
theorem gl_RX1_32 : Cond.methodLink RX1 32 yX1_renumbered ∈ eg_gw ∨ ∃ host, Cond.methodLinkNest RX1 32 yX1_renumbered host ∈ eg_nw := Or.inl (eg_inT (i := 299) rfl rfl)
set_option maxRecDepth 20000 in
theorem gl_RX1_28 : Cond.methodLink RX1 28 yX1_put ∈ eg_gw ∨ ∃ host, Cond.methodLinkNest RX1 28 yX1_put host ∈ eg_nw := Or.inl (eg_inT (i := 302) rfl rfl)
set_option maxRecDepth 20000 in
theorem gl_RX3_132 : Cond.methodLink RX3 132 yX3_takeOutNeedless ∈ eg_gw ∨ ∃ host, Cond.methodLinkNest RX3 132 yX3_takeOutNeedless host ∈ eg_nw := Or.inl (eg_inT (i := 303) rfl rfl)
set_option maxRecDepth 20000 in
theorem gl_RX3_172 : Cond.methodLink RX3 172 yX3_markNeeded ∈ eg_gw ∨ ∃ host, Cond.methodLinkNest RX3 172 yX3_markNeeded host ∈ eg_nw := Or.inl (eg_inT (i := 307) rfl rfl)
set_option maxRecDepth 20000 in
theorem gl_RL_69 : Cond.methodLink RL 69 yX3_search ∈ eg_gw ∨ ∃ host, Cond.methodLinkNest RL 69 yX3_search host ∈ eg_nw := Or.inl (eg_inT (i := 311) rfl rfl)
set_option maxRecDepth 20000 in
theorem gl_RX3_135 : Cond.methodLink RX3 135 yX0_prepare ∈ eg_gw ∨ ∃ host, Cond.methodLinkNest RX3 135 yX0_prepare host ∈ eg_nw := Or.inr ⟨"ShortestCode", eg_inN (i := 315) rfl rfl⟩
set_option maxRecDepth 20000 in
theorem gl_RX0_39 : Cond.methodLink RX0 39 yX2_copyGiven ∈ eg_gw ∨ ∃ host, Cond.methodLinkNest RX0 39 yX2_copyGiven host ∈ eg_nw := Or.inr ⟨"ShortestCode", eg_inN (i := 319) rfl rfl⟩
set_option maxRecDepth 20000 in
theorem gl_RX2_36 : Cond.methodLink RX2 36 arraycopyName ∈ eg_gw ∧ Cond.native arraycopyName ∈ eg_gw ∧ Cond.static arraycopyName ∈ eg_gw ∧ Cond.initialized "java/lang/System" ∈ eg_gw := ⟨eg_inT (i := 323) rfl rfl, eg_inT (i := 325) rfl rfl, eg_inT (i := 324) rfl rfl, eg_inT (i := 6) rfl rfl⟩
set_option maxRecDepth 20000 in
theorem gl_RX0_43 : Cond.methodLink RX0 43 arraycopyName ∈ eg_gw ∧ Cond.native arraycopyName ∈ eg_gw ∧ Cond.static arraycopyName ∈ eg_gw ∧ Cond.initialized "java/lang/System" ∈ eg_gw := ⟨eg_inT (i := 326) rfl rfl, eg_inT (i := 325) rfl rfl, eg_inT (i := 324) rfl rfl, eg_inT (i := 6) rfl rfl⟩
set_option maxRecDepth 20000 in
theorem gl_RX3_139 : Cond.methodLink RX3 139 yX0_run ∈ eg_gw ∨ ∃ host, Cond.methodLinkNest RX3 139 yX0_run host ∈ eg_nw := Or.inr ⟨"ShortestCode", eg_inN (i := 327) rfl rfl⟩
set_option maxRecDepth 20000 in
theorem gl_RX0_68 : Cond.methodLink RX0 68 yX0_findGiven ∈ eg_gw ∨ ∃ host, Cond.methodLinkNest RX0 68 yX0_findGiven host ∈ eg_nw := Or.inl (eg_inT (i := 331) rfl rfl)
set_option maxRecDepth 20000 in
theorem gl_RX0_75 : Cond.methodLink RX0 75 yX2_given ∈ eg_gw ∨ ∃ host, Cond.methodLinkNest RX0 75 yX2_given host ∈ eg_nw := Or.inr ⟨"ShortestCode", eg_inN (i := 335) rfl rfl⟩
set_option maxRecDepth 20000 in
theorem gl_RX0_79 : Cond.methodLink RX0 79 yX2_leastBelow ∈ eg_gw ∨ ∃ host, Cond.methodLinkNest RX0 79 yX2_leastBelow host ∈ eg_nw := Or.inr ⟨"ShortestCode", eg_inN (i := 336) rfl rfl⟩
set_option maxRecDepth 20000 in
theorem gl_RX0_83 : Cond.methodLink RX0 83 yX1_empty ∈ eg_gw ∨ ∃ host, Cond.methodLinkNest RX0 83 yX1_empty host ∈ eg_nw := Or.inr ⟨"ShortestCode", eg_inN (i := 337) rfl rfl⟩
set_option maxRecDepth 20000 in
theorem gl_RX0_71 : Cond.methodLink RX0 71 yX0_fill ∈ eg_gw ∨ ∃ host, Cond.methodLinkNest RX0 71 yX0_fill host ∈ eg_nw := Or.inl (eg_inT (i := 338) rfl rfl)
set_option maxRecDepth 20000 in
theorem gl_RX0_87 : Cond.methodLink RX0 87 yX0_isOver ∈ eg_gw ∨ ∃ host, Cond.methodLinkNest RX0 87 yX0_isOver host ∈ eg_nw := Or.inl (eg_inT (i := 342) rfl rfl)
set_option maxRecDepth 20000 in
theorem gl_RX0_91 : Cond.methodLink RX0 91 yX0_fillWith ∈ eg_gw ∨ ∃ host, Cond.methodLinkNest RX0 91 yX0_fillWith host ∈ eg_nw := Or.inl (eg_inT (i := 346) rfl rfl)
set_option maxRecDepth 20000 in
theorem gl_RX0_95 : Cond.methodLink RX0 95 yX3_takesOne ∈ eg_gw ∨ ∃ host, Cond.methodLinkNest RX0 95 yX3_takesOne host ∈ eg_nw := Or.inr ⟨"ShortestCode", eg_inN (i := 350) rfl rfl⟩
set_option maxRecDepth 20000 in
theorem gl_RX0_99 : Cond.methodLink RX0 99 yX3_isOrdered ∈ eg_gw ∨ ∃ host, Cond.methodLinkNest RX0 99 yX3_isOrdered host ∈ eg_nw := Or.inr ⟨"ShortestCode", eg_inN (i := 351) rfl rfl⟩
set_option maxRecDepth 20000 in
theorem gl_RX0_102 : Cond.methodLink RX0 102 yX0_attempt ∈ eg_gw ∨ ∃ host, Cond.methodLinkNest RX0 102 yX0_attempt host ∈ eg_nw := Or.inl (eg_inT (i := 354) rfl rfl)
set_option maxRecDepth 20000 in
theorem gl_RX0_106 : Cond.methodLink RX0 106 yX1_put ∈ eg_gw ∨ ∃ host, Cond.methodLinkNest RX0 106 yX1_put host ∈ eg_nw := Or.inr ⟨"ShortestCode", eg_inN (i := 358) rfl rfl⟩
set_option maxRecDepth 20000 in
theorem gl_RX0_110 : Cond.methodLink RX0 110 yX2_makes ∈ eg_gw ∨ ∃ host, Cond.methodLinkNest RX0 110 yX2_makes host ∈ eg_nw := Or.inr ⟨"ShortestCode", eg_inN (i := 359) rfl rfl⟩
set_option maxRecDepth 20000 in
theorem gl_RX0_114 : Cond.methodLink RX0 114 yX0_hit ∈ eg_gw ∨ ∃ host, Cond.methodLinkNest RX0 114 yX0_hit host ∈ eg_nw := Or.inl (eg_inT (i := 363) rfl rfl)
set_option maxRecDepth 20000 in
theorem gl_RX0_130 : Cond.methodLink RX0 130 yX1_copyFrom ∈ eg_gw ∨ ∃ host, Cond.methodLinkNest RX0 130 yX1_copyFrom host ∈ eg_nw := Or.inr ⟨"ShortestCode", eg_inN (i := 367) rfl rfl⟩
set_option maxRecDepth 20000 in
theorem gl_RX0_117 : Cond.methodLink RX0 117 yX2_make ∈ eg_gw ∨ ∃ host, Cond.methodLinkNest RX0 117 yX2_make host ∈ eg_nw := Or.inr ⟨"ShortestCode", eg_inN (i := 371) rfl rfl⟩
set_option maxRecDepth 20000 in
theorem gl_RX0_120 : Cond.methodLink RX0 120 yX2_leastSame ∈ eg_gw ∨ ∃ host, Cond.methodLinkNest RX0 120 yX2_leastSame host ∈ eg_nw := Or.inr ⟨"ShortestCode", eg_inN (i := 372) rfl rfl⟩
set_option maxRecDepth 20000 in
theorem gl_RX3_146 : Cond.methodLink RX3 146 yX1_copyFrom ∈ eg_gw ∨ ∃ host, Cond.methodLinkNest RX3 146 yX1_copyFrom host ∈ eg_nw := Or.inr ⟨"ShortestCode", eg_inN (i := 373) rfl rfl⟩
set_option maxRecDepth 20000 in
theorem gl_RL_73 : Cond.methodLink RL 73 yX3_told ∈ eg_gw ∨ ∃ host, Cond.methodLinkNest RL 73 yX3_told host ∈ eg_nw := Or.inl (eg_inT (i := 374) rfl rfl)
set_option maxRecDepth 20000 in
theorem gl_RL_77 : Cond.methodLink RL 77 yX3_take ∈ eg_gw ∨ ∃ host, Cond.methodLinkNest RL 77 yX3_take host ∈ eg_nw := Or.inl (eg_inT (i := 378) rfl rfl)
set_option maxRecDepth 20000 in
theorem gc_RL_10 : Cond.classLink RL 10 RX4 ∈ eg_gw ∧ Cond.instantiable RX4 33 ∈ eg_gw ∧ Cond.initialized RX4 ∈ eg_gw := ⟨eg_inT (i := 382) rfl rfl, eg_inT (i := 383) rfl rfl, eg_inT (i := 5) rfl rfl⟩
set_option maxRecDepth 20000 in
theorem gl_RL_12 : Cond.methodLink RL 12 yX4_init ∈ eg_gw ∨ ∃ host, Cond.methodLinkNest RL 12 yX4_init host ∈ eg_nw := Or.inl (eg_inT (i := 384) rfl rfl)
set_option maxRecDepth 20000 in
theorem gl_RX4_1 : Cond.methodLink RX4 1 Lib.objectInit ∈ eg_gw ∧ Cond.instanceMethod Lib.objectInit ∈ eg_gw ∧ Cond.code Lib.objectInit ⟨#[0xb1]⟩ 1 none ∈ eg_gw := ⟨eg_inT (i := 387) rfl rfl, eg_inT (i := 13) rfl rfl, eg_inT (i := 14) rfl rfl⟩
set_option maxRecDepth 20000 in
theorem gl_RX4_80 : Cond.methodLink RX4 80 yX4_reckonAll ∈ eg_gw ∨ ∃ host, Cond.methodLinkNest RX4 80 yX4_reckonAll host ∈ eg_nw := Or.inl (eg_inT (i := 388) rfl rfl)
set_option maxRecDepth 20000 in
theorem gl_RX4_93 : Cond.methodLink RX4 93 yX4_layFirsts ∈ eg_gw ∨ ∃ host, Cond.methodLinkNest RX4 93 yX4_layFirsts host ∈ eg_nw := Or.inl (eg_inT (i := 392) rfl rfl)
set_option maxRecDepth 20000 in
theorem gl_RX4_86 : Cond.methodLink RX4 86 yX4_firsts ∈ eg_gw ∨ ∃ host, Cond.methodLinkNest RX4 86 yX4_firsts host ∈ eg_nw := Or.inl (eg_inT (i := 396) rfl rfl)
set_option maxRecDepth 20000 in
theorem gl_RX4_97 : Cond.methodLink RX4 97 yX4_reckon ∈ eg_gw ∨ ∃ host, Cond.methodLinkNest RX4 97 yX4_reckon host ∈ eg_nw := Or.inl (eg_inT (i := 400) rfl rfl)
set_option maxRecDepth 20000 in
theorem gf_RX4_7 : eg_FG RX4 7 4 0 := ⟨RX4, TX4, 33, rfl, by decide, Or.inl (eg_inT (i := 404) rfl rfl)⟩
set_option maxRecDepth 20000 in
theorem gp_RX4_7 : eg_FL RX4 7 4 0 false := ⟨RX4, TX4, 33, rfl, by decide, rfl, (fun h => by cases h), Or.inl (eg_inT (i := 404) rfl rfl)⟩
set_option maxRecDepth 20000 in
theorem gf_RX4_13 : eg_FG RX4 13 4 1 := ⟨RX4, TX4, 33, rfl, by decide, Or.inl (eg_inT (i := 405) rfl rfl)⟩
set_option maxRecDepth 20000 in
theorem gp_RX4_13 : eg_FL RX4 13 4 1 false := ⟨RX4, TX4, 33, rfl, by decide, rfl, (fun h => by cases h), Or.inl (eg_inT (i := 405) rfl rfl)⟩
set_option maxRecDepth 20000 in
theorem gf_RX4_16 : eg_FG RX4 16 4 2 := ⟨RX4, TX4, 33, rfl, by decide, Or.inl (eg_inT (i := 406) rfl rfl)⟩
set_option maxRecDepth 20000 in
theorem gp_RX4_16 : eg_FL RX4 16 4 2 false := ⟨RX4, TX4, 33, rfl, by decide, rfl, (fun h => by cases h), Or.inl (eg_inT (i := 406) rfl rfl)⟩
set_option maxRecDepth 20000 in
theorem gf_RX4_19 : eg_FG RX4 19 4 3 := ⟨RX4, TX4, 33, rfl, by decide, Or.inl (eg_inT (i := 407) rfl rfl)⟩
set_option maxRecDepth 20000 in
theorem gp_RX4_19 : eg_FL RX4 19 4 3 false := ⟨RX4, TX4, 33, rfl, by decide, rfl, (fun h => by cases h), Or.inl (eg_inT (i := 407) rfl rfl)⟩
set_option maxRecDepth 20000 in
theorem gf_RX4_83 : eg_FG RX4 83 4 4 := ⟨RX4, TX4, 33, rfl, by decide, Or.inl (eg_inT (i := 408) rfl rfl)⟩
set_option maxRecDepth 20000 in
theorem gp_RX4_83 : eg_FL RX4 83 4 4 false := ⟨RX4, TX4, 33, rfl, by decide, rfl, (fun h => by cases h), Or.inl (eg_inT (i := 408) rfl rfl)⟩
set_option maxRecDepth 20000 in
theorem gf_RX4_22 : eg_FG RX4 22 4 5 := ⟨RX4, TX4, 33, rfl, by decide, Or.inl (eg_inT (i := 409) rfl rfl)⟩
set_option maxRecDepth 20000 in
theorem gp_RX4_22 : eg_FL RX4 22 4 5 true := ⟨RX4, TX4, 33, rfl, by decide, rfl, (fun _ => rfl), Or.inl (eg_inT (i := 409) rfl rfl)⟩
set_option maxRecDepth 20000 in
theorem gf_RX4_26 : eg_FG RX4 26 4 6 := ⟨RX4, TX4, 33, rfl, by decide, Or.inl (eg_inT (i := 410) rfl rfl)⟩
set_option maxRecDepth 20000 in
theorem gp_RX4_26 : eg_FL RX4 26 4 6 true := ⟨RX4, TX4, 33, rfl, by decide, rfl, (fun _ => rfl), Or.inl (eg_inT (i := 410) rfl rfl)⟩
set_option maxRecDepth 20000 in
theorem gf_RX4_29 : eg_FG RX4 29 4 7 := ⟨RX4, TX4, 33, rfl, by decide, Or.inl (eg_inT (i := 411) rfl rfl)⟩
set_option maxRecDepth 20000 in
theorem gp_RX4_29 : eg_FL RX4 29 4 7 true := ⟨RX4, TX4, 33, rfl, by decide, rfl, (fun _ => rfl), Or.inl (eg_inT (i := 411) rfl rfl)⟩
set_option maxRecDepth 20000 in
theorem gf_RX4_90 : eg_FG RX4 90 4 8 := ⟨RX4, TX4, 33, rfl, by decide, Or.inl (eg_inT (i := 412) rfl rfl)⟩
set_option maxRecDepth 20000 in
theorem gp_RX4_90 : eg_FL RX4 90 4 8 false := ⟨RX4, TX4, 33, rfl, by decide, rfl, (fun h => by cases h), Or.inl (eg_inT (i := 412) rfl rfl)⟩
set_option maxRecDepth 20000 in
theorem gf_RX4_32 : eg_FG RX4 32 4 9 := ⟨RX4, TX4, 33, rfl, by decide, Or.inl (eg_inT (i := 413) rfl rfl)⟩
set_option maxRecDepth 20000 in
theorem gp_RX4_32 : eg_FL RX4 32 4 9 true := ⟨RX4, TX4, 33, rfl, by decide, rfl, (fun _ => rfl), Or.inl (eg_inT (i := 413) rfl rfl)⟩
set_option maxRecDepth 20000 in
theorem gf_RX4_35 : eg_FG RX4 35 4 10 := ⟨RX4, TX4, 33, rfl, by decide, Or.inl (eg_inT (i := 414) rfl rfl)⟩
set_option maxRecDepth 20000 in
theorem gp_RX4_35 : eg_FL RX4 35 4 10 true := ⟨RX4, TX4, 33, rfl, by decide, rfl, (fun _ => rfl), Or.inl (eg_inT (i := 414) rfl rfl)⟩
set_option maxRecDepth 20000 in
theorem gf_RX4_38 : eg_FG RX4 38 4 11 := ⟨RX4, TX4, 33, rfl, by decide, Or.inl (eg_inT (i := 415) rfl rfl)⟩
set_option maxRecDepth 20000 in
theorem gp_RX4_38 : eg_FL RX4 38 4 11 true := ⟨RX4, TX4, 33, rfl, by decide, rfl, (fun _ => rfl), Or.inl (eg_inT (i := 415) rfl rfl)⟩
set_option maxRecDepth 20000 in
theorem gf_RX4_105 : eg_FG RX4 105 4 12 := ⟨RX4, TX4, 33, rfl, by decide, Or.inl (eg_inT (i := 416) rfl rfl)⟩
set_option maxRecDepth 20000 in
theorem gp_RX4_105 : eg_FL RX4 105 4 12 false := ⟨RX4, TX4, 33, rfl, by decide, rfl, (fun h => by cases h), Or.inl (eg_inT (i := 416) rfl rfl)⟩
set_option maxRecDepth 20000 in
theorem gf_RX4_41 : eg_FG RX4 41 4 13 := ⟨RX4, TX4, 33, rfl, by decide, Or.inl (eg_inT (i := 417) rfl rfl)⟩
set_option maxRecDepth 20000 in
theorem gp_RX4_41 : eg_FL RX4 41 4 13 true := ⟨RX4, TX4, 33, rfl, by decide, rfl, (fun _ => rfl), Or.inl (eg_inT (i := 417) rfl rfl)⟩
set_option maxRecDepth 20000 in
theorem gf_RX4_44 : eg_FG RX4 44 4 14 := ⟨RX4, TX4, 33, rfl, by decide, Or.inl (eg_inT (i := 418) rfl rfl)⟩
set_option maxRecDepth 20000 in
theorem gp_RX4_44 : eg_FL RX4 44 4 14 true := ⟨RX4, TX4, 33, rfl, by decide, rfl, (fun _ => rfl), Or.inl (eg_inT (i := 418) rfl rfl)⟩
set_option maxRecDepth 20000 in
theorem gf_RX4_108 : eg_FG RX4 108 4 15 := ⟨RX4, TX4, 33, rfl, by decide, Or.inl (eg_inT (i := 419) rfl rfl)⟩
set_option maxRecDepth 20000 in
theorem gp_RX4_108 : eg_FL RX4 108 4 15 false := ⟨RX4, TX4, 33, rfl, by decide, rfl, (fun h => by cases h), Or.inl (eg_inT (i := 419) rfl rfl)⟩
set_option maxRecDepth 20000 in
theorem gf_RX4_165 : eg_FG RX4 165 4 16 := ⟨RX4, TX4, 33, rfl, by decide, Or.inl (eg_inT (i := 420) rfl rfl)⟩
set_option maxRecDepth 20000 in
theorem gp_RX4_165 : eg_FL RX4 165 4 16 false := ⟨RX4, TX4, 33, rfl, by decide, rfl, (fun h => by cases h), Or.inl (eg_inT (i := 420) rfl rfl)⟩
set_option maxRecDepth 20000 in
theorem gf_RX4_168 : eg_FG RX4 168 4 17 := ⟨RX4, TX4, 33, rfl, by decide, Or.inl (eg_inT (i := 421) rfl rfl)⟩
set_option maxRecDepth 20000 in
theorem gp_RX4_168 : eg_FL RX4 168 4 17 false := ⟨RX4, TX4, 33, rfl, by decide, rfl, (fun h => by cases h), Or.inl (eg_inT (i := 421) rfl rfl)⟩
set_option maxRecDepth 20000 in
theorem gf_RX4_47 : eg_FG RX4 47 4 18 := ⟨RX4, TX4, 33, rfl, by decide, Or.inl (eg_inT (i := 422) rfl rfl)⟩
set_option maxRecDepth 20000 in
theorem gp_RX4_47 : eg_FL RX4 47 4 18 true := ⟨RX4, TX4, 33, rfl, by decide, rfl, (fun _ => rfl), Or.inl (eg_inT (i := 422) rfl rfl)⟩
set_option maxRecDepth 20000 in
theorem gf_RX4_50 : eg_FG RX4 50 4 19 := ⟨RX4, TX4, 33, rfl, by decide, Or.inl (eg_inT (i := 423) rfl rfl)⟩
set_option maxRecDepth 20000 in
theorem gp_RX4_50 : eg_FL RX4 50 4 19 true := ⟨RX4, TX4, 33, rfl, by decide, rfl, (fun _ => rfl), Or.inl (eg_inT (i := 423) rfl rfl)⟩
set_option maxRecDepth 20000 in
theorem gf_RX4_53 : eg_FG RX4 53 4 20 := ⟨RX4, TX4, 33, rfl, by decide, Or.inl (eg_inT (i := 424) rfl rfl)⟩
set_option maxRecDepth 20000 in
theorem gp_RX4_53 : eg_FL RX4 53 4 20 true := ⟨RX4, TX4, 33, rfl, by decide, rfl, (fun _ => rfl), Or.inl (eg_inT (i := 424) rfl rfl)⟩
set_option maxRecDepth 20000 in
theorem gf_RX4_152 : eg_FG RX4 152 4 21 := ⟨RX4, TX4, 33, rfl, by decide, Or.inl (eg_inT (i := 425) rfl rfl)⟩
set_option maxRecDepth 20000 in
theorem gp_RX4_152 : eg_FL RX4 152 4 21 false := ⟨RX4, TX4, 33, rfl, by decide, rfl, (fun h => by cases h), Or.inl (eg_inT (i := 425) rfl rfl)⟩
set_option maxRecDepth 20000 in
theorem gf_RX4_171 : eg_FG RX4 171 4 22 := ⟨RX4, TX4, 33, rfl, by decide, Or.inl (eg_inT (i := 426) rfl rfl)⟩
set_option maxRecDepth 20000 in
theorem gp_RX4_171 : eg_FL RX4 171 4 22 false := ⟨RX4, TX4, 33, rfl, by decide, rfl, (fun h => by cases h), Or.inl (eg_inT (i := 426) rfl rfl)⟩
set_option maxRecDepth 20000 in
theorem gf_RX4_140 : eg_FG RX4 140 4 23 := ⟨RX4, TX4, 33, rfl, by decide, Or.inl (eg_inT (i := 427) rfl rfl)⟩
set_option maxRecDepth 20000 in
theorem gp_RX4_140 : eg_FL RX4 140 4 23 false := ⟨RX4, TX4, 33, rfl, by decide, rfl, (fun h => by cases h), Or.inl (eg_inT (i := 427) rfl rfl)⟩
set_option maxRecDepth 20000 in
theorem gf_RX4_56 : eg_FG RX4 56 4 24 := ⟨RX4, TX4, 33, rfl, by decide, Or.inl (eg_inT (i := 428) rfl rfl)⟩
set_option maxRecDepth 20000 in
theorem gp_RX4_56 : eg_FL RX4 56 4 24 false := ⟨RX4, TX4, 33, rfl, by decide, rfl, (fun h => by cases h), Or.inl (eg_inT (i := 428) rfl rfl)⟩
set_option maxRecDepth 20000 in
theorem gf_RX4_59 : eg_FG RX4 59 4 25 := ⟨RX4, TX4, 33, rfl, by decide, Or.inl (eg_inT (i := 429) rfl rfl)⟩
set_option maxRecDepth 20000 in
theorem gp_RX4_59 : eg_FL RX4 59 4 25 true := ⟨RX4, TX4, 33, rfl, by decide, rfl, (fun _ => rfl), Or.inl (eg_inT (i := 429) rfl rfl)⟩
set_option maxRecDepth 20000 in
theorem gf_RX4_62 : eg_FG RX4 62 4 26 := ⟨RX4, TX4, 33, rfl, by decide, Or.inl (eg_inT (i := 430) rfl rfl)⟩
set_option maxRecDepth 20000 in
theorem gp_RX4_62 : eg_FL RX4 62 4 26 true := ⟨RX4, TX4, 33, rfl, by decide, rfl, (fun _ => rfl), Or.inl (eg_inT (i := 430) rfl rfl)⟩
set_option maxRecDepth 20000 in
theorem gf_RX4_65 : eg_FG RX4 65 4 27 := ⟨RX4, TX4, 33, rfl, by decide, Or.inl (eg_inT (i := 431) rfl rfl)⟩
set_option maxRecDepth 20000 in
theorem gp_RX4_65 : eg_FL RX4 65 4 27 true := ⟨RX4, TX4, 33, rfl, by decide, rfl, (fun _ => rfl), Or.inl (eg_inT (i := 431) rfl rfl)⟩
set_option maxRecDepth 20000 in
theorem gf_RX4_68 : eg_FG RX4 68 4 28 := ⟨RX4, TX4, 33, rfl, by decide, Or.inl (eg_inT (i := 432) rfl rfl)⟩
set_option maxRecDepth 20000 in
theorem gp_RX4_68 : eg_FL RX4 68 4 28 true := ⟨RX4, TX4, 33, rfl, by decide, rfl, (fun _ => rfl), Or.inl (eg_inT (i := 432) rfl rfl)⟩
set_option maxRecDepth 20000 in
theorem gf_RX4_143 : eg_FG RX4 143 4 29 := ⟨RX4, TX4, 33, rfl, by decide, Or.inl (eg_inT (i := 433) rfl rfl)⟩
set_option maxRecDepth 20000 in
theorem gp_RX4_143 : eg_FL RX4 143 4 29 false := ⟨RX4, TX4, 33, rfl, by decide, rfl, (fun h => by cases h), Or.inl (eg_inT (i := 433) rfl rfl)⟩
set_option maxRecDepth 20000 in
theorem gf_RX4_71 : eg_FG RX4 71 4 30 := ⟨RX4, TX4, 33, rfl, by decide, Or.inl (eg_inT (i := 434) rfl rfl)⟩
set_option maxRecDepth 20000 in
theorem gp_RX4_71 : eg_FL RX4 71 4 30 true := ⟨RX4, TX4, 33, rfl, by decide, rfl, (fun _ => rfl), Or.inl (eg_inT (i := 434) rfl rfl)⟩
set_option maxRecDepth 20000 in
theorem gf_RX4_74 : eg_FG RX4 74 4 31 := ⟨RX4, TX4, 33, rfl, by decide, Or.inl (eg_inT (i := 435) rfl rfl)⟩
set_option maxRecDepth 20000 in
theorem gp_RX4_74 : eg_FL RX4 74 4 31 true := ⟨RX4, TX4, 33, rfl, by decide, rfl, (fun _ => rfl), Or.inl (eg_inT (i := 435) rfl rfl)⟩
set_option maxRecDepth 20000 in
theorem gf_RX4_77 : eg_FG RX4 77 4 32 := ⟨RX4, TX4, 33, rfl, by decide, Or.inl (eg_inT (i := 436) rfl rfl)⟩
set_option maxRecDepth 20000 in
theorem gp_RX4_77 : eg_FL RX4 77 4 32 true := ⟨RX4, TX4, 33, rfl, by decide, rfl, (fun _ => rfl), Or.inl (eg_inT (i := 436) rfl rfl)⟩
set_option maxRecDepth 20000 in
theorem gl_RL_17 : Cond.methodLink RL 17 yX4_words ∈ eg_gw ∨ ∃ host, Cond.methodLinkNest RL 17 yX4_words host ∈ eg_nw := Or.inl (eg_inT (i := 504) rfl rfl)
set_option maxRecDepth 20000 in
theorem gl_RX4_101 : Cond.methodLink RX4 101 yX4_within ∈ eg_gw ∨ ∃ host, Cond.methodLinkNest RX4 101 yX4_within host ∈ eg_nw := Or.inl (eg_inT (i := 508) rfl rfl)
set_option maxRecDepth 20000 in
theorem gl_RL_22 : Cond.methodLink RL 22 yX4_constant ∈ eg_gw ∨ ∃ host, Cond.methodLinkNest RL 22 yX4_constant host ∈ eg_nw := Or.inl (eg_inT (i := 511) rfl rfl)
set_option maxRecDepth 20000 in
theorem gl_RL_26 : Cond.methodLink RL 26 yX4_cost ∈ eg_gw ∨ ∃ host, Cond.methodLinkNest RL 26 yX4_cost host ∈ eg_nw := Or.inl (eg_inT (i := 515) rfl rfl)
set_option maxRecDepth 20000 in
theorem gl_RL_30 : Cond.methodLink RL 30 yX4_target ∈ eg_gw ∨ ∃ host, Cond.methodLinkNest RL 30 yX4_target host ∈ eg_nw := Or.inl (eg_inT (i := 519) rfl rfl)
set_option maxRecDepth 20000 in
theorem gl_RX4_112 : Cond.methodLink RX4 112 yX4_isAssignment ∈ eg_gw ∨ ∃ host, Cond.methodLinkNest RX4 112 yX4_isAssignment host ∈ eg_nw := Or.inl (eg_inT (i := 523) rfl rfl)
set_option maxRecDepth 20000 in
theorem gl_RL_35 : Cond.methodLink RL 35 yX4_aim ∈ eg_gw ∨ ∃ host, Cond.methodLinkNest RL 35 yX4_aim host ∈ eg_nw := Or.inl (eg_inT (i := 527) rfl rfl)
set_option maxRecDepth 20000 in
theorem gl_RL_40 : Cond.methodLink RL 40 yX4_add ∈ eg_gw ∨ ∃ host, Cond.methodLinkNest RL 40 yX4_add host ∈ eg_nw := Or.inl (eg_inT (i := 531) rfl rfl)
set_option maxRecDepth 20000 in
theorem gl_RX4_119 : Cond.methodLink RX4 119 yX4_isValue ∈ eg_gw ∨ ∃ host, Cond.methodLinkNest RX4 119 yX4_isValue host ∈ eg_nw := Or.inl (eg_inT (i := 535) rfl rfl)
set_option maxRecDepth 20000 in
theorem gl_RX4_116 : Cond.methodLink RX4 116 yX4_all ∈ eg_gw ∨ ∃ host, Cond.methodLinkNest RX4 116 yX4_all host ∈ eg_nw := Or.inl (eg_inT (i := 539) rfl rfl)
set_option maxRecDepth 20000 in
theorem gl_RL_44 : Cond.methodLink RL 44 yX4_drop ∈ eg_gw ∨ ∃ host, Cond.methodLinkNest RL 44 yX4_drop host ∈ eg_nw := Or.inl (eg_inT (i := 543) rfl rfl)
set_option maxRecDepth 20000 in
theorem gl_RL_48 : Cond.methodLink RL 48 yX4_result ∈ eg_gw ∨ ∃ host, Cond.methodLinkNest RL 48 yX4_result host ∈ eg_nw := Or.inl (eg_inT (i := 547) rfl rfl)
set_option maxRecDepth 20000 in
theorem gl_RL_52 : Cond.methodLink RL 52 yX4_instruction ∈ eg_gw ∨ ∃ host, Cond.methodLinkNest RL 52 yX4_instruction host ∈ eg_nw := Or.inl (eg_inT (i := 551) rfl rfl)
set_option maxRecDepth 20000 in
theorem gl_RL_56 : Cond.methodLink RL 56 yX4_count ∈ eg_gw ∨ ∃ host, Cond.methodLinkNest RL 56 yX4_count host ∈ eg_nw := Or.inl (eg_inT (i := 555) rfl rfl)
set_option maxRecDepth 20000 in
theorem gl_RL_60 : Cond.methodLink RL 60 yX4_value ∈ eg_gw ∨ ∃ host, Cond.methodLinkNest RL 60 yX4_value host ∈ eg_nw := Or.inl (eg_inT (i := 559) rfl rfl)
set_option maxRecDepth 20000 in
theorem gl_RL_64 : Cond.methodLink RL 64 yX4_differ ∈ eg_gw ∨ ∃ host, Cond.methodLinkNest RL 64 yX4_differ host ∈ eg_nw := Or.inl (eg_inT (i := 563) rfl rfl)
set_option maxRecDepth 20000 in
theorem gl_RL_68 : Cond.methodLink RL 68 yX4_clean ∈ eg_gw ∨ ∃ host, Cond.methodLinkNest RL 68 yX4_clean host ∈ eg_nw := Or.inl (eg_inT (i := 567) rfl rfl)
set_option maxRecDepth 20000 in
theorem gl_RX4_130 : Cond.methodLink RX4 130 yX4_loseTwin ∈ eg_gw ∨ ∃ host, Cond.methodLinkNest RX4 130 yX4_loseTwin host ∈ eg_nw := Or.inl (eg_inT (i := 571) rfl rfl)
set_option maxRecDepth 20000 in
theorem gl_RX4_122 : Cond.methodLink RX4 122 yX4_isSame ∈ eg_gw ∨ ∃ host, Cond.methodLinkNest RX4 122 yX4_isSame host ∈ eg_nw := Or.inl (eg_inT (i := 575) rfl rfl)
set_option maxRecDepth 20000 in
theorem gl_RX4_126 : Cond.methodLink RX4 126 yX4_lose ∈ eg_gw ∨ ∃ host, Cond.methodLinkNest RX4 126 yX4_lose host ∈ eg_nw := Or.inl (eg_inT (i := 578) rfl rfl)
set_option maxRecDepth 20000 in
theorem gl_RX4_134 : Cond.methodLink RX4 134 yX4_loseIdle ∈ eg_gw ∨ ∃ host, Cond.methodLinkNest RX4 134 yX4_loseIdle host ∈ eg_nw := Or.inl (eg_inT (i := 582) rfl rfl)
set_option maxRecDepth 20000 in
theorem gl_RL_72 : Cond.methodLink RL 72 yX4_search ∈ eg_gw ∨ ∃ host, Cond.methodLinkNest RL 72 yX4_search host ∈ eg_nw := Or.inl (eg_inT (i := 586) rfl rfl)
set_option maxRecDepth 20000 in
theorem gl_RX4_155 : Cond.methodLink RX4 155 yX4_isTarget ∈ eg_gw ∨ ∃ host, Cond.methodLinkNest RX4 155 yX4_isTarget host ∈ eg_nw := Or.inl (eg_inT (i := 590) rfl rfl)
set_option maxRecDepth 20000 in
theorem gl_RX4_174 : Cond.methodLink RX4 174 yX4_round ∈ eg_gw ∨ ∃ host, Cond.methodLinkNest RX4 174 yX4_round host ∈ eg_nw := Or.inl (eg_inT (i := 594) rfl rfl)
set_option maxRecDepth 20000 in
theorem gl_RX4_146 : Cond.methodLink RX4 146 yX4_open ∈ eg_gw ∨ ∃ host, Cond.methodLinkNest RX4 146 yX4_open host ∈ eg_nw := Or.inl (eg_inT (i := 598) rfl rfl)
set_option maxRecDepth 20000 in
theorem gl_RX4_149 : Cond.methodLink RX4 149 yX4_advance ∈ eg_gw ∨ ∃ host, Cond.methodLinkNest RX4 149 yX4_advance host ∈ eg_nw := Or.inl (eg_inT (i := 602) rfl rfl)
set_option maxRecDepth 20000 in
theorem gl_RX4_137 : Cond.methodLink RX4 137 yX4_turns ∈ eg_gw ∨ ∃ host, Cond.methodLinkNest RX4 137 yX4_turns host ∈ eg_nw := Or.inl (eg_inT (i := 606) rfl rfl)
set_option maxRecDepth 20000 in
theorem gl_RX4_158 : Cond.methodLink RX4 158 yX4_note ∈ eg_gw ∨ ∃ host, Cond.methodLinkNest RX4 158 yX4_note host ∈ eg_nw := Or.inl (eg_inT (i := 609) rfl rfl)
set_option maxRecDepth 20000 in
theorem gl_RX4_162 : Cond.methodLink RX4 162 yX4_isNew ∈ eg_gw ∨ ∃ host, Cond.methodLinkNest RX4 162 yX4_isNew host ∈ eg_nw := Or.inl (eg_inT (i := 613) rfl rfl)
set_option maxRecDepth 20000 in
theorem gl_RX4_178 : Cond.methodLink RX4 178 yX4_keepFirst ∈ eg_gw ∨ ∃ host, Cond.methodLinkNest RX4 178 yX4_keepFirst host ∈ eg_nw := Or.inl (eg_inT (i := 617) rfl rfl)
set_option maxRecDepth 20000 in
theorem gl_RL_76 : Cond.methodLink RL 76 yX4_told ∈ eg_gw ∨ ∃ host, Cond.methodLinkNest RL 76 yX4_told host ∈ eg_nw := Or.inl (eg_inT (i := 621) rfl rfl)
set_option maxRecDepth 20000 in
theorem gl_RL_80 : Cond.methodLink RL 80 yX4_take ∈ eg_gw ∨ ∃ host, Cond.methodLinkNest RL 80 yX4_take host ∈ eg_nw := Or.inl (eg_inT (i := 625) rfl rfl)
end
section
/-! words and operations; shapes of the class's objects; small rows -/
theorem eg_inc (s : Nat) : nI s + Int32.ofInt 1 = nI (s + 1) := nI_1 s
theorem eg_dec (s : Nat) : nI (s + 1) + Int32.ofInt (-1) = nI s := pk_m1 s
/-- places lo .. hi - 1 of a row -/
def eg_fl (M : eg_I) (a lo hi : Nat) (f : Nat → Int32) : eg_I := fun q j => if q = a ∧ lo ≤ j ∧ j < hi then f j else M q j
theorem eg_fl_0 {M : eg_I} {a lo hi : Nat} {f : Nat → Int32} (h : hi ≤ lo) : eg_fl M a lo hi f = M := by
  funext q j
  unfold eg_fl
  rw [if_neg (by omega)]
theorem eg_fl_step {M : eg_I} {a lo hi : Nat} {f f' : Nat → Int32} (h : lo < hi) (hf : ∀ j, lo < j → j < hi → f' j = f j) : eg_fl (eg_set M a lo (f lo)) a (lo + 1) hi f' = eg_fl M a lo hi f := by
  funext q j
  unfold eg_fl eg_set
  by_cases h1 : q = a
  · by_cases h2 : j = lo
    · subst h2
      rw [if_neg (by omega), if_pos ⟨h1, rfl⟩, if_pos ⟨h1, by omega, h⟩]
    · by_cases h3 : lo ≤ j ∧ j < hi
      · rw [if_pos ⟨h1, by omega, h3.2⟩, if_pos ⟨h1, h3⟩]
        exact hf j (by omega) h3.2
      · rw [if_neg (by omega), if_neg (by omega), if_neg (by omega)]
  · rw [if_neg (by omega), if_neg (by omega), if_neg (by omega)]
theorem eg_fl_ne {M : eg_I} {a lo hi q : Nat} {f : Nat → Int32} (h : q ≠ a) : eg_fl M a lo hi f q = M q := by
  funext j
  unfold eg_fl
  rw [if_neg (by omega)]
theorem eg_fl_in {M : eg_I} {a lo hi j : Nat} {f : Nat → Int32} (h1 : lo ≤ j) (h2 : j < hi) : eg_fl M a lo hi f a j = f j := if_pos ⟨rfl, h1, h2⟩
theorem eg_fl_out {M : eg_I} {a lo hi j : Nat} {f : Nat → Int32} (h : j < lo ∨ hi ≤ j) : eg_fl M a lo hi f a j = M a j := if_neg (by omega)
theorem eg_set_eq {M : eg_I} {a j : Nat} {x : Int32} : eg_set M a j x a j = x := if_pos ⟨rfl, rfl⟩
theorem eg_set_j {M : eg_I} {a j i : Nat} {x : Int32} (h : i ≠ j) : eg_set M a j x a i = M a i := if_neg (fun q => h q.2)
/-- b modulo W, as the code reckons it -/
def wd_by (w : Nat) (b : Int32) : Int32 := b - b / nI w * nI w
/-- the highest bit in all bits above -/
def wd_sg (w : Nat) (a : Int32) : Int32 := if a >>> ((nI w - nI 1) &&& 31) = 0 then a else a ||| (nI (2 ^ w - 1) ^^^ (-1))
def wd_op (w o : Nat) (a b : Int32) : Int32 := match o with
  | 0 => (a ^^^ (-1)) &&& nI (2 ^ w - 1)
  | 1 => (-a) &&& nI (2 ^ w - 1)
  | 2 => a &&& b
  | 3 => a ||| b
  | 4 => a ^^^ b
  | 5 => (a + b) &&& nI (2 ^ w - 1)
  | 6 => (a - b) &&& nI (2 ^ w - 1)
  | 7 => (a * b) &&& nI (2 ^ w - 1)
  | 8 => (a <<< (wd_by w b &&& 31)) &&& nI (2 ^ w - 1)
  | 9 => a >>> (wd_by w b &&& 31)
  | 10 => (wd_sg w a >>> (wd_by w b &&& 31)) &&& nI (2 ^ w - 1)
  | 11 => if a < b then 1 else 0
  | 12 => if a = b then 1 else 0
  | _ => 0
/-- an INPUT's word for an ASSIGNMENT, as the code reckons it -/
def wd_in (w i s : Nat) : Int32 := (nI s >>> ((nI w * nI i) &&& 31)) &&& nI (2 ^ w - 1)
def sh_V (G : eg_G) (v : Nat) : Prop := G.2.1 v = some (.inl 2) ∧ G.2.2 v 0 = some (v + 1) ∧ G.2.1 (v + 1) = some (.inr (.array .int, 18)) ∧ ∀ i, i < 18 → G.2.2 (v + 1) i = some (v + 2 + i) ∧ G.2.1 (v + 2 + i) = some (.inr (.int, 256))
def sh_R (G : eg_G) (r : Nat) : Prop := G.2.1 r = some (.inl 1) ∧ G.2.2 r 0 = some (r + 1) ∧ G.2.2 r 1 = some (r + 2) ∧ G.2.2 r 2 = some (r + 3) ∧ G.2.1 (r + 1) = some (.inr (.int, 12)) ∧ G.2.1 (r + 2) = some (.inr (.int, 12)) ∧ G.2.1 (r + 3) = some (.inr (.int, 12))
def sh_H (G : eg_G) (h : Nat) : Prop := G.2.1 h = some (.inl 0) ∧ G.2.2 h 0 = some (h + 1) ∧ G.2.1 (h + 1) = some (.inr (.int, 13)) ∧ G.2.2 h 1 = some (h + 2) ∧ G.2.1 (h + 2) = some (.inr (.int, 256)) ∧ G.2.2 h 2 = some (h + 3) ∧ sh_V G (h + 3) ∧ G.2.2 h 3 = some (h + 23) ∧ sh_R G (h + 23) ∧ G.2.2 h 4 = some (h + 27) ∧ sh_R G (h + 27)
def sh_C (G : eg_G) (b : Nat) : Prop := G.2.1 b = some (.inl 3) ∧ G.2.2 b 0 = some (b + 1) ∧ G.2.1 (b + 1) = some (.inr (.int, 13)) ∧ G.2.2 b 1 = some (b + 2) ∧ G.2.1 (b + 2) = some (.inr (.int, 256)) ∧ G.2.2 b 2 = some (b + 3) ∧ sh_V G (b + 3) ∧ G.2.2 b 3 = some (b + 23) ∧ sh_R G (b + 23) ∧ G.2.2 b 4 = some (b + 27) ∧ sh_R G (b + 27) ∧ G.2.2 b 5 = some (b + 31) ∧ G.2.1 (b + 31) = some (.inr (.boolean, 18)) ∧ G.2.2 b 6 = some (b + 32) ∧ sh_H G (b + 32)
/-- W, n, how many CONSTANTS, as the fields of Values have them -/
def in_V (M : eg_I) (v w n k : Nat) : Prop := M v 1 = nI w ∧ M v 2 = nI (2 ^ w - 1) ∧ M v 3 = nI n ∧ M v 4 = nI k ∧ M v 5 = nI (2 ^ (w * n)) ∧ 1 ≤ w ∧ w ≤ 4 ∧ 1 ≤ n ∧ n ≤ 2 ∧ k ≤ 4
theorem wd_asg {w n : Nat} (h1 : w ≤ 4) (h2 : n ≤ 2) : 2 ^ (w * n) ≤ 256 := by
  have : w * n ≤ 8 := by
    have := Nat.mul_le_mul h1 h2
    omega
  calc 2 ^ (w * n) ≤ 2 ^ 8 := Nat.pow_le_pow_right (by decide) this
    _ = 256 := by decide
theorem wd_mask {w : Nat} (h1 : w ≤ 4) : 2 ^ w ≤ 16 := by
  calc 2 ^ w ≤ 2 ^ 4 := Nat.pow_le_pow_right (by decide) h1
    _ = 16 := by decide
theorem in_V.eq {M M' : eg_I} {v w n k : Nat} (h : in_V M v w n k) (e : M' v = M v) : in_V M' v w n k := by
  unfold in_V
  rw [e]
  exact h
theorem eg_set_jj {M : eg_I} {a j q i : Nat} {x : Int32} (h : i ≠ j) : eg_set M a j x q i = M q i := if_neg (fun z => h z.2)
theorem eg_fl_q {P : eg_I → Prop} {M : eg_I} {a lo hi : Nat} {f f' : Nat → Int32} (h : lo < hi) (hf : ∀ j, lo < j → j < hi → f' j = f j) (hP : P (eg_fl M a lo hi f)) : P (eg_fl (eg_set M a lo (f lo)) a (lo + 1) hi f') := (eg_fl_step h hf).symm ▸ hP
/-- a program in a Row: how many, OPERATIONS, OPERANDS, RESULT -/
def in_R (M : eg_I) (r len : Nat) (op lf rt : Nat → Nat) (res : Nat) : Prop := M r 3 = nI len ∧ M r 4 = nI res ∧ len ≤ 12 ∧ ∀ j, j < len → M (r + 1) j = nI (op j) ∧ M (r + 2) j = nI (lf j) ∧ M (r + 3) j = nI (rt j)
theorem in_R.eq {M M' : eg_I} {r len res : Nat} {op lf rt : Nat → Nat} (h : in_R M r len op lf rt res) (e : ∀ q, r ≤ q → q < r + 4 → M' q = M q) : in_R M' r len op lf rt res := by
  unfold in_R
  rw [e r (by omega) (by omega), e (r + 1) (by omega) (by omega), e (r + 2) (by omega) (by omega), e (r + 3) (by omega) (by omega)]
  exact h
def rn (x g t : Nat) : Nat := if x = g then t else if g < x then x - 1 else x
def cut_at (f : Nat → Nat) (k : Nat) : Nat → Nat := fun j => if j < k then f j else f (j + 1)
def cut_rn (f : Nat → Nat) (k g t : Nat) : Nat → Nat := fun j => if j < k then f j else rn (f (j + 1)) g t
theorem rn_le {x g t : Nat} (hx : x < 2 ^ 30) (ht : t < 2 ^ 30) : rn x g t < 2 ^ 30 := by
  unfold rn
  split
  · exact ht
  · split <;> omega
theorem wd_m : ∀ w, 1 ≤ w → w ≤ 4 → (nI 1 <<< (nI w &&& 31)) - nI 1 = nI (2 ^ w - 1) := by
  intro w h1 h2
  have : w = 1 ∨ w = 2 ∨ w = 3 ∨ w = 4 := by omega
  rcases this with rfl | rfl | rfl | rfl <;> decide
theorem wd_a : ∀ w n, 1 ≤ w → w ≤ 4 → 1 ≤ n → n ≤ 2 → nI 1 <<< ((nI w * nI n) &&& 31) = nI (2 ^ (w * n)) := by
  intro w n h1 h2 h3 h4
  have g1 : w = 1 ∨ w = 2 ∨ w = 3 ∨ w = 4 := by omega
  have g2 : n = 1 ∨ n = 2 := by omega
  rcases g1 with rfl | rfl | rfl | rfl <;> rcases g2 with rfl | rfl <;> decide
theorem eg_fl_r {M : eg_I} {a lo s : Nat} {f : Nat → Int32} (h : lo ≤ s) : eg_fl M a lo (s + 1) f = eg_set (eg_fl M a lo s f) a s (f s) := by
  funext q j
  show (if q = a ∧ lo ≤ j ∧ j < s + 1 then f j else M q j) = (if q = a ∧ j = s then f s else (if q = a ∧ lo ≤ j ∧ j < s then f j else M q j))
  by_cases e1 : q = a
  · by_cases e2 : j = s
    · subst e2
      rw [if_pos ⟨e1, h, by omega⟩, if_pos ⟨e1, rfl⟩]
    · have e4 : ¬ (q = a ∧ j = s) := fun z => e2 z.2
      by_cases e3 : lo ≤ j ∧ j < s
      · rw [if_pos ⟨e1, e3.1, by omega⟩, if_neg e4, if_pos ⟨e1, e3⟩]
      · rw [if_neg (show ¬ (q = a ∧ lo ≤ j ∧ j < s + 1) by omega), if_neg e4, if_neg (show ¬ (q = a ∧ lo ≤ j ∧ j < s) by omega)]
  · rw [if_neg (fun z => e1 z.1), if_neg (fun z => e1 z.1), if_neg (fun z => e1 z.1)]
end
section
/-! THE SEARCH, pure: tries, how many FOUND, SPENT, the first that was FOUND (length, OPERATIONS, OPERANDS) -/
abbrev ss_S : Type := Nat × Nat × Bool × Nat × (Nat → Nat) × (Nat → Nat) × (Nat → Nat)
def ss_over (al : Bool) (σ : ss_S) : Prop := σ.2.2.1 = true ∨ (0 < σ.2.1 ∧ al = false)
def ss_up {α : Type} (f : Nat → α) (p : Nat) (x : α) : Nat → α := fun j => if j = p then x else f j
def ss_ord (o : Nat) : Prop := o = 2 ∨ o = 3 ∨ o = 4 ∨ o = 5 ∨ o = 7 ∨ o = 12
def ss_b0 (o a : Nat) : Nat := if o = 2 ∨ o = 3 ∨ o = 4 ∨ o = 5 ∨ o = 7 ∨ o = 12 then a else 0
def ss_be (o N : Nat) : Nat := if o = 0 ∨ o = 1 then 1 else N
def ss_bs (o a b N : Nat) : List (Nat × Nat × Nat) := (List.range' b (ss_be o N - b)).map fun b => (o, a, b)
def ss_as (o a N : Nat) : List (Nat × Nat × Nat) := (List.range' a (N - a)).flatMap fun a => ss_bs o a (ss_b0 o a) N
def ss_os (co : Nat → Nat) (r o N : Nat) : List (Nat × Nat × Nat) := (List.range' o (13 - o)).flatMap fun o => if 0 < co o ∧ co o ≤ r then ss_as o 0 N else []
def ss_hit (p : Nat) (ro ra rb : Nat → Nat) (σ : ss_S) : ss_S := (σ.1, σ.2.1 + 1, σ.2.2.1, if σ.2.1 = 0 then (p + 1, ro, ra, rb) else σ.2.2.2)
def ss_att (w A g : Nat) (tg : Nat → Int32) (L : Nat) (nx : Nat → Nat → (Nat → Nat) → (Nat → Nat) → (Nat → Nat) → (Nat → Nat → Int32) → ss_S → ss_S) (p o a b r : Nat) (ro ra rb : Nat → Nat) (V : Nat → Nat → Int32) (σ : ss_S) : ss_S :=
  if L ≤ σ.1 then (σ.1, σ.2.1, true, σ.2.2.2)
  else if r = 0 then (if ∀ s, s < A → wd_op w o (V a s) (V b s) = tg s then ss_hit p (ss_up ro p o) (ss_up ra p a) (ss_up rb p b) (σ.1 + 1, σ.2) else (σ.1 + 1, σ.2))
  else if ∀ u, u < g + p → ¬ ∀ s, s < A → V u s = wd_op w o (V a s) (V b s) then nx (p + 1) r (ss_up ro p o) (ss_up ra p a) (ss_up rb p b) (ss_up V (g + p) (fun s => wd_op w o (V a s) (V b s))) (σ.1 + 1, σ.2)
  else (σ.1 + 1, σ.2)
def ss_stp (w A g : Nat) (co : Nat → Nat) (tg : Nat → Int32) (L : Nat) (al : Bool) (nx : Nat → Nat → (Nat → Nat) → (Nat → Nat) → (Nat → Nat) → (Nat → Nat → Int32) → ss_S → ss_S) (p r : Nat) (ro ra rb : Nat → Nat) (V : Nat → Nat → Int32) (σ : ss_S) (c : Nat × Nat × Nat) : ss_S :=
  if σ.2.2.1 = true ∨ (0 < σ.2.1 ∧ al = false) then σ else ss_att w A g tg L nx p c.1 c.2.1 c.2.2 (r - co c.1) ro ra rb V σ
def ss_fill (w A g : Nat) (co : Nat → Nat) (tg : Nat → Int32) (L : Nat) (al : Bool) : Nat → Nat → Nat → (Nat → Nat) → (Nat → Nat) → (Nat → Nat) → (Nat → Nat → Int32) → ss_S → ss_S
  | 0, _, _, _, _, _, _, σ => σ
  | f + 1, p, r, ro, ra, rb, V, σ => (ss_os co r 0 (g + p)).foldl (ss_stp w A g co tg L al (ss_fill w A g co tg L al f) p r ro ra rb V) σ
section SS
variable {w A g : Nat} {co : Nat → Nat} {tg : Nat → Int32} {L : Nat} {al : Bool} {nx : Nat → Nat → (Nat → Nat) → (Nat → Nat) → (Nat → Nat) → (Nat → Nat → Int32) → ss_S → ss_S} {p r : Nat} {ro ra rb : Nat → Nat} {V : Nat → Nat → Int32}
theorem ss_stp_over {σ : ss_S} {c : Nat × Nat × Nat} (h : ss_over al σ) : ss_stp w A g co tg L al nx p r ro ra rb V σ c = σ := if_pos h
theorem ss_stp_go {σ : ss_S} {c : Nat × Nat × Nat} (h : ¬ ss_over al σ) : ss_stp w A g co tg L al nx p r ro ra rb V σ c = ss_att w A g tg L nx p c.1 c.2.1 c.2.2 (r - co c.1) ro ra rb V σ := if_neg h
theorem ss_fold_over {σ : ss_S} (h : ss_over al σ) : ∀ l : List (Nat × Nat × Nat), l.foldl (ss_stp w A g co tg L al nx p r ro ra rb V) σ = σ
  | [] => rfl
  | c :: l => by rw [List.foldl_cons, ss_stp_over h]; exact ss_fold_over h l
theorem ss_bs_0 {o a b N : Nat} (h : ss_be o N ≤ b) : ss_bs o a b N = [] := by
  unfold ss_bs
  rw [show ss_be o N - b = 0 by omega]
  rfl
theorem ss_bs_s {o a b N : Nat} (h : b < ss_be o N) : ss_bs o a b N = (o, a, b) :: ss_bs o a (b + 1) N := by
  unfold ss_bs
  rw [show ss_be o N - b = (ss_be o N - (b + 1)) + 1 by omega, List.range'_succ]
  rfl
theorem ss_as_0 {o a N : Nat} (h : N ≤ a) : ss_as o a N = [] := by
  unfold ss_as
  rw [show N - a = 0 by omega]
  rfl
theorem ss_as_s {o a N : Nat} (h : a < N) : ss_as o a N = ss_bs o a (ss_b0 o a) N ++ ss_as o (a + 1) N := by
  unfold ss_as
  rw [show N - a = (N - (a + 1)) + 1 by omega, List.range'_succ, List.flatMap_cons]
theorem ss_os_0 {o N : Nat} (h : 13 ≤ o) : ss_os co r o N = [] := by
  unfold ss_os
  rw [show 13 - o = 0 by omega]
  rfl
theorem ss_os_s {o N : Nat} (h : o < 13) : ss_os co r o N = (if 0 < co o ∧ co o ≤ r then ss_as o 0 N else []) ++ ss_os co r (o + 1) N := by
  unfold ss_os
  rw [show 13 - o = (13 - (o + 1)) + 1 by omega, List.range'_succ, List.flatMap_cons]
end SS
theorem ss_hit_s {p : Nat} {ro ra rb : Nat → Nat} {σ : ss_S} (h : ¬ σ.2.1 = 0) : ss_hit p ro ra rb σ = (σ.1, σ.2.1 + 1, σ.2.2.1, σ.2.2.2) := by
  unfold ss_hit
  rw [if_neg h]
theorem ss_hit_0 {p : Nat} {ro ra rb : Nat → Nat} {σ : ss_S} (h : σ.2.1 = 0) : ss_hit p ro ra rb σ = (σ.1, σ.2.1 + 1, σ.2.2.1, p + 1, ro, ra, rb) := by
  unfold ss_hit
  rw [if_pos h]
section SA
variable {w A g : Nat} {tg : Nat → Int32} {L : Nat} {nx : Nat → Nat → (Nat → Nat) → (Nat → Nat) → (Nat → Nat) → (Nat → Nat → Int32) → ss_S → ss_S} {p o a b r : Nat} {ro ra rb : Nat → Nat} {V : Nat → Nat → Int32} {σ : ss_S}
theorem ss_att_sp (h : L ≤ σ.1) : ss_att w A g tg L nx p o a b r ro ra rb V σ = (σ.1, σ.2.1, true, σ.2.2.2) := if_pos h
theorem ss_att_hit (h : ¬ L ≤ σ.1) (hr : r = 0) (hh : ∀ s, s < A → wd_op w o (V a s) (V b s) = tg s) : ss_att w A g tg L nx p o a b r ro ra rb V σ = ss_hit p (ss_up ro p o) (ss_up ra p a) (ss_up rb p b) (σ.1 + 1, σ.2) := by
  unfold ss_att
  rw [if_neg h, if_pos hr, if_pos hh]
theorem ss_att_no (h : ¬ L ≤ σ.1) (hr : r = 0) (hh : ¬ ∀ s, s < A → wd_op w o (V a s) (V b s) = tg s) : ss_att w A g tg L nx p o a b r ro ra rb V σ = (σ.1 + 1, σ.2) := by
  unfold ss_att
  rw [if_neg h, if_pos hr, if_neg hh]
theorem ss_att_new (h : ¬ L ≤ σ.1) (hr : ¬ r = 0) (hh : ∀ u, u < g + p → ¬ ∀ s, s < A → V u s = wd_op w o (V a s) (V b s)) : ss_att w A g tg L nx p o a b r ro ra rb V σ = nx (p + 1) r (ss_up ro p o) (ss_up ra p a) (ss_up rb p b) (ss_up V (g + p) (fun s => wd_op w o (V a s) (V b s))) (σ.1 + 1, σ.2) := by
  unfold ss_att
  rw [if_neg h, if_neg hr, if_pos hh]
theorem ss_att_old (h : ¬ L ≤ σ.1) (hr : ¬ r = 0) (hh : ¬ ∀ u, u < g + p → ¬ ∀ s, s < A → V u s = wd_op w o (V a s) (V b s)) : ss_att w A g tg L nx p o a b r ro ra rb V σ = (σ.1 + 1, σ.2) := by
  unfold ss_att
  rw [if_neg h, if_neg hr, if_neg hh]
end SA
theorem ss_up_e {α : Type} {f : Nat → α} {p : Nat} {x : α} : ss_up f p x p = x := if_pos rfl
theorem ss_up_n {α : Type} {f : Nat → α} {p j : Nat} {x : α} (h : j ≠ p) : ss_up f p x j = f j := if_neg h
end
section
/-! THE STATE of the document, pure, and what each call does to it -/
def vv (w n k : Nat) (c : Nat → Int32) (op lf rt : Nat → Nat) : Nat → Nat → Nat → Int32
  | 0, _, _ => 0
  | f + 1, u, s => if u < n then wd_in w u s else if u < n + k then c (u - n) else wd_op w (op (u - (n + k))) (vv w n k c op lf rt f (lf (u - (n + k))) s) (vv w n k c op lf rt f (rt (u - (n + k))) s)
def sv (w n k : Nat) (c : Nat → Int32) (op lf rt : Nat → Nat) (u s : Nat) : Int32 := vv w n k c op lf rt (u + 1) u s
def pg_ok (g len : Nat) (op lf rt : Nat → Nat) (res : Nat) : Prop := len ≤ 12 ∧ (∀ j, j < len → op j < 13 ∧ lf j < g + j ∧ rt j < g + j ∧ (op j = 0 ∨ op j = 1 → rt j = 0)) ∧ res < g + len
section SV
variable {w n k : Nat} {c : Nat → Int32} {op lf rt : Nat → Nat}
theorem sv_in {u s : Nat} (h : u < n) : sv w n k c op lf rt u s = wd_in w u s := by
  unfold sv
  rw [vv, if_pos h]
theorem sv_c {i s : Nat} (h : i < k) : sv w n k c op lf rt (n + i) s = c i := by
  unfold sv
  rw [vv, if_neg (by omega), if_pos (by omega), show n + i - n = i by omega]
theorem vv_fuel {len : Nat} (hp : ∀ j, j < len → lf j < n + k + j ∧ rt j < n + k + j) (s : Nat) : ∀ f1 f2 u, u < n + k + len → u < f1 → u < f2 → vv w n k c op lf rt f1 u s = vv w n k c op lf rt f2 u s := by
  intro f1
  induction f1 with
  | zero => intro f2 u _ h; omega
  | succ f1 ih =>
    intro f2 u hu h1 h2
    cases f2 with
    | zero => omega
    | succ f2 =>
      rw [vv, vv]
      by_cases a : u < n
      · rw [if_pos a, if_pos a]
      · rw [if_neg a, if_neg a]
        by_cases b : u < n + k
        · rw [if_pos b, if_pos b]
        · rw [if_neg b, if_neg b]
          have := hp (u - (n + k)) (by omega)
          rw [ih f2 _ (by omega) (by omega) (by omega), ih f2 (rt (u - (n + k))) (by omega) (by omega) (by omega)]
theorem sv_op {len j s : Nat} (hp : ∀ j, j < len → lf j < n + k + j ∧ rt j < n + k + j) (hj : j < len) : sv w n k c op lf rt (n + k + j) s = wd_op w (op j) (sv w n k c op lf rt (lf j) s) (sv w n k c op lf rt (rt j) s) := by
  unfold sv
  have := hp j hj
  rw [vv, if_neg (by omega), if_neg (by omega), show n + k + j - (n + k) = j by omega, vv_fuel hp s _ (lf j + 1) (lf j) (by omega) (by omega) (by omega), vv_fuel hp s _ (rt j + 1) (rt j) (by omega) (by omega) (by omega)]
theorem vv_congr {op' lf' rt' : Nat → Nat} {m : Nat} (hp : ∀ j, j < m → lf j < n + k + j ∧ rt j < n + k + j) (he : ∀ j, j < m → op' j = op j ∧ lf' j = lf j ∧ rt' j = rt j) (s : Nat) : ∀ f u, u < n + k + m → vv w n k c op' lf' rt' f u s = vv w n k c op lf rt f u s := by
  intro f
  induction f with
  | zero => intro u _; rfl
  | succ f ih =>
    intro u hu
    rw [vv, vv]
    by_cases a : u < n
    · rw [if_pos a, if_pos a]
    · rw [if_neg a, if_neg a]
      by_cases b : u < n + k
      · rw [if_pos b, if_pos b]
      · rw [if_neg b, if_neg b]
        obtain ⟨e1, e2, e3⟩ := he (u - (n + k)) (by omega)
        have := hp (u - (n + k)) (by omega)
        rw [e1, e2, e3, ih _ (by omega), ih _ (by omega)]
theorem sv_congr {op' lf' rt' : Nat → Nat} {m u s : Nat} (hp : ∀ j, j < m → lf j < n + k + j ∧ rt j < n + k + j) (he : ∀ j, j < m → op' j = op j ∧ lf' j = lf j ∧ rt' j = rt j) (hu : u < n + k + m) : sv w n k c op' lf' rt' u s = sv w n k c op lf rt u s := vv_congr hp he s _ u hu
end SV
/-- the least place from u on, t places -/
def lst (P : Nat → Prop) [DecidablePred P] : Nat → Nat → Option Nat
  | 0, _ => none
  | t + 1, u => if P u then some u else lst P t (u + 1)
theorem lst_some {P : Nat → Prop} [DecidablePred P] : ∀ {t u x : Nat}, u ≤ x → x < u + t → P x → (∀ y, u ≤ y → y < x → ¬ P y) → lst P t u = some x
  | 0, u, x, h1, h2, _, _ => absurd h2 (by omega)
  | t + 1, u, x, h1, h2, h3, h4 => by
    rw [lst]
    by_cases e : u = x
    · subst e
      rw [if_pos h3]
    · rw [if_neg (h4 u (Nat.le_refl _) (by omega))]
      exact lst_some (by omega) (by omega) h3 (fun y g1 g2 => h4 y (by omega) g2)
theorem lst_none {P : Nat → Prop} [DecidablePred P] : ∀ {t u : Nat}, (∀ y, u ≤ y → y < u + t → ¬ P y) → lst P t u = none
  | 0, _, _ => rfl
  | t + 1, u, h => by
    rw [lst, if_neg (h u (Nat.le_refl _) (by omega))]
    exact lst_none (fun y g1 g2 => h y (by omega) (by omega))
theorem lst_spec {P : Nat → Prop} [DecidablePred P] : ∀ {t u x : Nat}, lst P t u = some x → u ≤ x ∧ x < u + t ∧ P x ∧ ∀ y, u ≤ y → y < x → ¬ P y
  | 0, _, _, h => by cases h
  | t + 1, u, x, h => by
    rw [lst] at h
    by_cases e : P u
    · rw [if_pos e] at h
      cases h
      exact ⟨Nat.le_refl _, by omega, e, fun y g1 g2 => absurd g2 (by omega)⟩
    · rw [if_neg e] at h
      obtain ⟨a, b, c, d⟩ := lst_spec h
      refine ⟨by omega, by omega, c, fun y g1 g2 => ?_⟩
      by_cases z : y = u
      · subst z; exact e
      · exact d y (by omega) g2
theorem lst_no {P : Nat → Prop} [DecidablePred P] {t u : Nat} (h : lst P t u = none) : ∀ y, u ≤ y → y < u + t → ¬ P y := by
  intro y g1 g2 hP
  obtain ⟨z, z1, z2⟩ := pk_least (fun x => u ≤ x ∧ P x) ⟨y, g1, hP⟩
  have : lst P t u = some z := lst_some z1.1 (by
    rcases Nat.lt_or_ge y z with q | q
    · exact absurd ⟨g1, hP⟩ (z2 y q)
    · omega) z1.2 (fun x q1 q2 q3 => z2 x q2 ⟨q1, q3⟩)
  rw [h] at this
  cases this
/-- a VALUE before that is the same for all ASSIGNMENTS -/
def cl_tw (A g : Nat) (V : Nat → Nat → Int32) (j : Nat) : Option Nat := lst (fun u => ∀ s, s < A → V u s = V (g + j) s) (g + j) 0
/-- the least INSTRUCTION with a twin, from j on -/
def cl_rep (A g : Nat) (V : Nat → Nat → Int32) : Nat → Nat → Option (Nat × Nat)
  | 0, _ => none
  | t + 1, j => match cl_tw A g V j with
    | some u => some (j, u)
    | none => cl_rep A g V t (j + 1)
/-- RESULT or an INSTRUCTION behind has it -/
def cl_us (g len : Nat) (lf rt : Nat → Nat) (res j : Nat) : Prop := res = g + j ∨ ∃ i, i < len ∧ j < i ∧ (lf i = g + j ∨ rt i = g + j)
/-- the last INSTRUCTION below t on which nothing hangs -/
noncomputable def cl_id (g len : Nat) (lf rt : Nat → Nat) (res : Nat) : Nat → Option Nat
  | 0 => none
  | t + 1 => @ite _ (cl_us g len lf rt res t) (Classical.propDecidable _) (cl_id g len lf rt res t) (some t)
abbrev pg_T : Type := Nat × (Nat → Nat) × (Nat → Nat) × (Nat → Nat) × Nat
def pg_rm (g j t : Nat) (p : pg_T) : pg_T := (p.1 - 1, cut_at p.2.1 j, cut_rn p.2.2.1 j (g + j) t, cut_rn p.2.2.2.1 j (g + j) t, rn p.2.2.2.2 (g + j) t)
/-- one step of CLEANING -/
noncomputable def cl_step (w n k : Nat) (c : Nat → Int32) (p : pg_T) : Option pg_T := match cl_rep (2 ^ (w * n)) (n + k) (sv w n k c p.2.1 p.2.2.1 p.2.2.2.1) p.1 0 with
  | some q => some (pg_rm (n + k) q.1 q.2 p)
  | none => match cl_id (n + k) p.1 p.2.2.1 p.2.2.2.1 p.2.2.2.2 p.1 with
    | some j => some (pg_rm (n + k) j 0 p)
    | none => none
noncomputable def cl_all (w n k : Nat) (c : Nat → Int32) : Nat → pg_T → pg_T
  | 0, p => p
  | f + 1, p => match cl_step w n k c p with
    | some q => cl_all w n k c f q
    | none => p
/-- rounds: how many are left, how many began -/
def ss_rds (w A g : Nat) (co : Nat → Nat) (tg : Nat → Int32) (L : Nat) (al : Bool) (V : Nat → Nat → Int32) : Nat → Nat → ss_S → ss_S × Nat
  | 0, rd, σ => (σ, rd)
  | t + 1, rd, σ => if 0 < σ.2.1 ∨ σ.2.2.1 = true then (σ, rd) else ss_rds w A g co tg L al V t (rd + 1) (ss_fill w A g co tg L al 12 0 (rd + 1) (fun _ => 0) (fun _ => 0) (fun _ => 0) V σ)
end
section
/-! the calls, pure: (W, n, CONSTANTS), constants, COSTS, TARGET, THE PROGRAM, what was FOUND, what is told -/
abbrev st_T : Type := (Nat × Nat × Nat) × (Nat → Int32) × (Nat → Nat) × (Nat → Int32) × pg_T × (Bool × pg_T) × (Int32 × Int32 × Int32 × Int32)
def pg_okp (g : Nat) (p : pg_T) : Prop := pg_ok g p.1 p.2.1 p.2.2.1 p.2.2.2.1 p.2.2.2.2
abbrev sA (S : st_T) : Nat := 2 ^ (S.1.1 * S.1.2.1)
abbrev sG (S : st_T) : Nat := S.1.2.1 + S.1.2.2
abbrev sP (S : st_T) : pg_T := S.2.2.2.2.1
abbrev sV (S : st_T) : Nat → Nat → Int32 := sv S.1.1 S.1.2.1 S.1.2.2 S.2.1 (sP S).2.1 (sP S).2.2.1 (sP S).2.2.2.1
def st_ok (S : st_T) : Prop := 1 ≤ S.1.1 ∧ S.1.1 ≤ 4 ∧ 1 ≤ S.1.2.1 ∧ S.1.2.1 ≤ 2 ∧ S.1.2.2 ≤ 4 ∧ (∀ i, i < S.1.2.2 → ∃ x, x < 2 ^ S.1.1 ∧ S.2.1 i = nI x) ∧ (∀ o, o < 13 → S.2.2.1 o ≤ 9) ∧ pg_okp (sG S) (sP S) ∧ (S.2.2.2.2.2.1.1 = true → pg_okp (sG S) S.2.2.2.2.2.1.2)
def cnt (P : Nat → Prop) [DecidablePred P] : Nat → Nat
  | 0 => 0
  | t + 1 => cnt P t + if P t then 1 else 0
def ap_words (S : st_T) (x y : Int32) : Int32 × st_T :=
  if x < nI 1 ∨ nI 4 < x ∨ y < nI 1 ∨ nI 2 < y then (-2, S)
  else (nI (2 ^ (x.toNatClampNeg * y.toNatClampNeg)), (x.toNatClampNeg, y.toNatClampNeg, 0), S.2.1, S.2.2.1, (fun _ => 0), (0, (sP S).2.1, (sP S).2.2.1, (sP S).2.2.2.1, 0), (false, S.2.2.2.2.2.1.2), S.2.2.2.2.2.2)
def ap_constant (S : st_T) (x : Int32) : Int32 × st_T :=
  if x < 0 ∨ nI (2 ^ S.1.1 - 1) < x then (-2, S) else if 0 < (sP S).1 then (-3, S) else if 4 ≤ S.1.2.2 then (-4, S)
  else (nI (sG S), (S.1.1, S.1.2.1, S.1.2.2 + 1), ss_up S.2.1 S.1.2.2 x, S.2.2.1, S.2.2.2.1, sP S, (false, S.2.2.2.2.2.1.2), S.2.2.2.2.2.2)
def ap_cost (S : st_T) (x y : Int32) : Int32 × st_T :=
  if x < 0 ∨ nI 13 ≤ x then (-1, S) else if y < 0 ∨ nI 9 < y then (-2, S) else (nI (S.2.2.1 x.toNatClampNeg), S.1, S.2.1, ss_up S.2.2.1 x.toNatClampNeg y.toNatClampNeg, S.2.2.2)
def ap_target (S : st_T) (x y : Int32) : Int32 × st_T :=
  if x < 0 ∨ nI (sA S) ≤ x then (-1, S) else if y < 0 ∨ nI (2 ^ S.1.1 - 1) < y then (-2, S) else (S.2.2.2.1 x.toNatClampNeg, S.1, S.2.1, S.2.2.1, ss_up S.2.2.2.1 x.toNatClampNeg y, S.2.2.2.2)
def ap_aim (S : st_T) : Int32 × st_T :=
  (nI (cnt (fun s => ¬ S.2.2.2.1 s = sV S (sP S).2.2.2.2 s) (sA S)), S.1, S.2.1, S.2.2.1, (fun s => if s < sA S then sV S (sP S).2.2.2.2 s else S.2.2.2.1 s), S.2.2.2.2)
def ap_add (S : st_T) (x y z : Int32) : Int32 × st_T :=
  if (x < 0 ∨ nI 13 ≤ x) ∨ (y < 0 ∨ nI (sG S + (sP S).1) ≤ y) ∨ (z < 0 ∨ nI (sG S + (sP S).1) ≤ z) then (-1, S) else if 12 ≤ (sP S).1 then (-4, S)
  else (nI (sG S + (sP S).1), S.1, S.2.1, S.2.2.1, S.2.2.2.1, ((sP S).1 + 1, ss_up (sP S).2.1 (sP S).1 x.toNatClampNeg, ss_up (sP S).2.2.1 (sP S).1 y.toNatClampNeg, ss_up (sP S).2.2.2.1 (sP S).1 (if x.toNatClampNeg = 0 ∨ x.toNatClampNeg = 1 then 0 else z.toNatClampNeg), sG S + (sP S).1), S.2.2.2.2.2)
def ap_drop (S : st_T) : Int32 × st_T :=
  if (sP S).1 = 0 then (-3, S) else (nI ((sP S).1 - 1), S.1, S.2.1, S.2.2.1, S.2.2.2.1, ((sP S).1 - 1, (sP S).2.1, (sP S).2.2.1, (sP S).2.2.2.1, if (sP S).2.2.2.2 = sG S + ((sP S).1 - 1) then 0 else (sP S).2.2.2.2), S.2.2.2.2.2)
def ap_result (S : st_T) (x : Int32) : Int32 × st_T :=
  if x < 0 ∨ nI (sG S + (sP S).1) ≤ x then (-1, S) else (nI (sP S).2.2.2.2, S.1, S.2.1, S.2.2.1, S.2.2.2.1, ((sP S).1, (sP S).2.1, (sP S).2.2.1, (sP S).2.2.2.1, x.toNatClampNeg), S.2.2.2.2.2)
def ap_instr (S : st_T) (x y : Int32) : Int32 :=
  if x < 0 ∨ nI (sP S).1 ≤ x then -1 else if y = 0 then nI ((sP S).2.1 x.toNatClampNeg) else if y = 1 then nI ((sP S).2.2.1 x.toNatClampNeg) else if y = 2 then nI ((sP S).2.2.2.1 x.toNatClampNeg) else -2
def sum_c (co op : Nat → Nat) : Nat → Nat
  | 0 => 0
  | t + 1 => sum_c co op t + co (op t)
def ap_count (S : st_T) (y : Int32) : Int32 :=
  if y = 0 then nI S.1.1 else if y = 1 then nI S.1.2.1 else if y = 2 then nI S.1.2.2 else if y = 3 then nI (sP S).1 else if y = 4 then nI (sP S).2.2.2.2 else if y = 5 then nI (sum_c S.2.2.1 (sP S).2.1 (sP S).1) else -2
def ap_value (S : st_T) (x y : Int32) : Int32 :=
  if (x < 0 ∨ nI (sG S + (sP S).1) ≤ x) ∨ (y < 0 ∨ nI (sA S) ≤ y) then -1 else sV S x.toNatClampNeg y.toNatClampNeg
def ap_differ (S : st_T) (x y : Int32) : Int32 :=
  if (x < 0 ∨ nI (sG S + (sP S).1) ≤ x) ∨ (¬ y = -2 ∧ (y < 0 ∨ nI (sG S + (sP S).1) ≤ y)) then -1
  else match lst (fun s => ¬ sV S x.toNatClampNeg s = if y = -2 then S.2.2.2.1 s else sV S y.toNatClampNeg s) (sA S) 0 with
    | some s => nI s
    | none => -5
noncomputable def ap_clean (S : st_T) : Int32 × st_T :=
  (nI ((sP S).1 - (cl_all S.1.1 S.1.2.1 S.1.2.2 S.2.1 (sP S).1 (sP S)).1), S.1, S.2.1, S.2.2.1, S.2.2.2.1, cl_all S.1.1 S.1.2.1 S.1.2.2 S.2.1 (sP S).1 (sP S), S.2.2.2.2.2)
def ss_0 : ss_S := (0, 0, false, 0, (fun _ => 0), (fun _ => 0), (fun _ => 0))
/-- what THE SEARCH answers out of its end -/
def ss_ans (q : ss_S × Nat) : Int32 := if q.1.2.2.1 = true then -6 else if q.1.2.1 = 0 then -5 else nI q.2
def ap_search (S : st_T) (x y z : Int32) : Int32 × st_T :=
  if (x < 0 ∨ nI 30 < x) ∨ (y < 0 ∨ nI 30000 < y) ∨ (¬ z = 0 ∧ ¬ z = 1) then (-2, S)
  else match lst (fun u => ∀ s, s < sA S → sV S u s = S.2.2.2.1 s) (sG S) 0 with
    | some v => (0, S.1, S.2.1, S.2.2.1, S.2.2.2.1, sP S, (true, 0, (fun _ => 0), (fun _ => 0), (fun _ => 0), v), (0, 0, 1, 0))
    | none =>
      let q := ss_rds S.1.1 (sA S) (sG S) S.2.2.1 S.2.2.2.1 y.toNatClampNeg (decide (z = 1)) (sV S) x.toNatClampNeg 0 ss_0
      (ss_ans q, S.1, S.2.1, S.2.2.1, S.2.2.2.1, sP S, (if q.1.2.2.1 = true ∨ q.1.2.1 = 0 then S.2.2.2.2.2.1 else (true, q.1.2.2.2.1, q.1.2.2.2.2.1, q.1.2.2.2.2.2.1, q.1.2.2.2.2.2.2, sG S + q.1.2.2.2.1 - 1)), (nI q.1.1, nI q.2, nI q.1.2.1, ss_ans q))
def ap_told (S : st_T) (y : Int32) : Int32 :=
  if y = 0 then S.2.2.2.2.2.2.1 else if y = 1 then S.2.2.2.2.2.2.2.1 else if y = 2 then S.2.2.2.2.2.2.2.2.1 else if y = 3 then S.2.2.2.2.2.2.2.2.2 else -2
def ap_take (S : st_T) : Int32 × st_T :=
  if S.2.2.2.2.2.1.1 = true then (nI S.2.2.2.2.2.1.2.1, S.1, S.2.1, S.2.2.1, S.2.2.2.1, S.2.2.2.2.2.1.2, S.2.2.2.2.2) else (-3, S)
/-- the class's memory holds the state S -/
def ci_I (M : eg_I) (b : Nat) (S : st_T) : Prop :=
  in_V M (b + 3) S.1.1 S.1.2.1 S.1.2.2 ∧ (∀ u s, u < sG S + (sP S).1 → s < sA S → M (b + 3 + 2 + u) s = sV S u s) ∧ (∀ o, o < 13 → M (b + 1) o = nI (S.2.2.1 o)) ∧ (∀ s, s < 256 → M (b + 2) s = S.2.2.2.1 s) ∧
  in_R M (b + 23) (sP S).1 (sP S).2.1 (sP S).2.2.1 (sP S).2.2.2.1 (sP S).2.2.2.2 ∧ M b 7 = (if S.2.2.2.2.2.1.1 = true then 1 else 0) ∧ (S.2.2.2.2.2.1.1 = true → in_R M (b + 27) S.2.2.2.2.2.1.2.1 S.2.2.2.2.2.1.2.2.1 S.2.2.2.2.2.1.2.2.2.1 S.2.2.2.2.2.1.2.2.2.2.1 S.2.2.2.2.2.1.2.2.2.2.2) ∧
  M (b + 32) 8 = S.2.2.2.2.2.2.1 ∧ M (b + 32) 9 = S.2.2.2.2.2.2.2.1 ∧ M (b + 32) 10 = S.2.2.2.2.2.2.2.2.1 ∧ M (b + 32) 11 = S.2.2.2.2.2.2.2.2.2
theorem nI_cl {x : Int32} {N : Nat} (h1 : ¬ x < 0) (h2 : ¬ nI N ≤ x) (hN : N < 2 ^ 31) : x = nI x.toNatClampNeg ∧ x.toNatClampNeg < N := by
  obtain ⟨j, hj, e⟩ := nI_of h1
  subst e
  rw [nI_clamp hj]
  exact ⟨rfl, Nat.lt_of_not_le (fun q => h2 (nI_le q hj))⟩
theorem nI_cm {x : Int32} {N : Nat} (h1 : ¬ x < 0) (h2 : ¬ nI N < x) (hN : N < 2 ^ 31) : x = nI x.toNatClampNeg ∧ x.toNatClampNeg ≤ N := by
  obtain ⟨j, hj, e⟩ := nI_of h1
  subst e
  rw [nI_clamp hj]
  exact ⟨rfl, Nat.le_of_not_lt (fun q => h2 (nI_lt q hj))⟩
end
section
/-! ShortestCode$Values: what its methods do -/
theorem sp_X2_given {l : Launch} {E : eg_E} {d kb nb : Nat} {Q : Option Value → eg_G → eg_I → Prop} {G : eg_G} {M : eg_I} {v w n k : Nat} (hv : G.2.1 v = some (.inl 2)) (h : in_V M v w n k) (hQ : Q (some (.int (nI (n + k)))) G M) : eg_J l E mX2_given d kb nb Q 0 [some (.ref v)] [] G M := by
  obtain ⟨h1, h2, h3, h4, h5, -⟩ := h
  refine eg_aload_n dX2_given_0 rfl rfl ?_
  refine eg_getI gf_RX2_23 rfl (by assumption) dX2_given_1 ?_
  refine eg_topi h3 ?_
  refine eg_aload_n dX2_given_4 rfl rfl ?_
  refine eg_getI gf_RX2_29 rfl (by assumption) dX2_given_5 ?_
  refine eg_topi h4 ?_
  refine eg_iadd dX2_given_8 ?_
  refine eg_topi (nI_add n k) ?_
  exact eg_iret rfl dX2_given_9 hQ
theorem sp_X2_isWord {l : Launch} {E : eg_E} {d kb nb : Nat} {Q : Option Value → eg_G → eg_I → Prop} {G : eg_G} {M : eg_I} {v w n k : Nat} {x : Int32} (hv : G.2.1 v = some (.inl 2)) (h : in_V M v w n k) (hT : ¬ x < 0 → ¬ nI (2 ^ w - 1) < x → Q (some (.int 1)) G M) (hF : x < 0 ∨ nI (2 ^ w - 1) < x → Q (some (.int 0)) G M) : eg_J l E mX2_isWord d kb nb Q 0 [some (.ref v), some (.int x)] [] G M := by
  obtain ⟨h1, h2, h3, h4, h5, -⟩ := h
  refine eg_iload_n dX2_isWord_0 rfl rfl ?_
  refine eg_if_lt 16 dX2_isWord_1 (by decide) (fun ca => ?_) (fun ca => ?_)
  · refine eg_iconst dX2_isWord_16 (v := nI 0) (by decide) ?_
    exact eg_zret rfl rfl dX2_isWord_17 (by first | exact hT ca cb | exact hF (Or.inl ca) | exact hF (Or.inr cb))
  · refine eg_iload_n dX2_isWord_4 rfl rfl ?_
    refine eg_aload_n dX2_isWord_5 rfl rfl ?_
    refine eg_getI gf_RX2_20 rfl (by assumption) dX2_isWord_6 ?_
    refine eg_topi h2 ?_
    refine eg_icmp_gt 16 dX2_isWord_9 (by decide) (fun cb => ?_) (fun cb => ?_)
    · refine eg_iconst dX2_isWord_16 (v := nI 0) (by decide) ?_
      exact eg_zret rfl rfl dX2_isWord_17 (by first | exact hT ca cb | exact hF (Or.inl ca) | exact hF (Or.inr cb))
    · refine eg_iconst dX2_isWord_12 (v := nI 1) (by decide) ?_
      refine eg_goto 17 dX2_isWord_13 (by decide) ?_
      exact eg_zret rfl rfl dX2_isWord_17 (by first | exact hT ca cb | exact hF (Or.inl ca) | exact hF (Or.inr cb))
theorem sp_X2_isAssignment {l : Launch} {E : eg_E} {d kb nb : Nat} {Q : Option Value → eg_G → eg_I → Prop} {G : eg_G} {M : eg_I} {v w n k : Nat} {x : Int32} (hv : G.2.1 v = some (.inl 2)) (h : in_V M v w n k) (hT : ¬ x < 0 → ¬ nI (2 ^ (w * n)) ≤ x → Q (some (.int 1)) G M) (hF : x < 0 ∨ nI (2 ^ (w * n)) ≤ x → Q (some (.int 0)) G M) : eg_J l E mX2_isAssignment d kb nb Q 0 [some (.ref v), some (.int x)] [] G M := by
  obtain ⟨h1, h2, h3, h4, h5, -⟩ := h
  refine eg_iload_n dX2_isAssignment_0 rfl rfl ?_
  refine eg_if_lt 16 dX2_isAssignment_1 (by decide) (fun ca => ?_) (fun ca => ?_)
  · refine eg_iconst dX2_isAssignment_16 (v := nI 0) (by decide) ?_
    exact eg_zret rfl rfl dX2_isAssignment_17 (by first | exact hT ca cb | exact hF (Or.inl ca) | exact hF (Or.inr cb))
  · refine eg_iload_n dX2_isAssignment_4 rfl rfl ?_
    refine eg_aload_n dX2_isAssignment_5 rfl rfl ?_
    refine eg_getI gf_RX2_26 rfl (by assumption) dX2_isAssignment_6 ?_
    refine eg_topi h5 ?_
    refine eg_icmp_ge 16 dX2_isAssignment_9 (by decide) (fun cb => ?_) (fun cb => ?_)
    · refine eg_iconst dX2_isAssignment_16 (v := nI 0) (by decide) ?_
      exact eg_zret rfl rfl dX2_isAssignment_17 (by first | exact hT ca cb | exact hF (Or.inl ca) | exact hF (Or.inr cb))
    · refine eg_iconst dX2_isAssignment_12 (v := nI 1) (by decide) ?_
      refine eg_goto 17 dX2_isAssignment_13 (by decide) ?_
      exact eg_zret rfl rfl dX2_isAssignment_17 (by first | exact hT ca cb | exact hF (Or.inl ca) | exact hF (Or.inr cb))
theorem sp_X2_distance {l : Launch} {E : eg_E} {d kb nb : Nat} {Q : Option Value → eg_G → eg_I → Prop} {G : eg_G} {M : eg_I} {v w n k : Nat} {x : Int32} (hv : G.2.1 v = some (.inl 2)) (h : in_V M v w n k) (hQ : Q (some (.int (wd_by w x))) G M) : eg_J l E mX2_distance d kb nb Q 0 [some (.ref v), some (.int x)] [] G M := by
  obtain ⟨h1, h2, h3, h4, h5, hw1, hw4, -⟩ := h
  refine eg_aload_n dX2_distance_0 rfl rfl ?_
  refine eg_getI gf_RX2_16 rfl (by assumption) dX2_distance_1 ?_
  refine eg_topi h1 ?_
  refine eg_iconst dX2_distance_4 (v := nI 1) (by decide) ?_
  refine eg_icmp_ge 12 dX2_distance_5 (by decide) (fun c5 => ?_) (fun c5 => absurd (show nI 1 ≤ nI w from nI_le hw1 (by omega)) c5)
  refine eg_iload_n dX2_distance_12 rfl rfl ?_
  refine eg_aload_n dX2_distance_13 rfl rfl ?_
  refine eg_getI gf_RX2_16 rfl (by assumption) dX2_distance_14 ?_
  refine eg_topi h1 ?_
  refine eg_irem dX2_distance_17 (nI_ne0 (by omega) (by omega)) ?_
  exact eg_iret rfl dX2_distance_18 hQ
theorem sp_X2_signed {l : Launch} {E : eg_E} {d kb nb : Nat} {Q : Option Value → eg_G → eg_I → Prop} {G : eg_G} {M : eg_I} {v w n k : Nat} {x : Int32} (hv : G.2.1 v = some (.inl 2)) (h : in_V M v w n k) (hQ : Q (some (.int (wd_sg w x))) G M) : eg_J l E mX2_signed d kb nb Q 0 [some (.ref v), some (.int x)] [] G M := by
  obtain ⟨h1, h2, h3, h4, h5, hw1, hw4, -⟩ := h
  refine eg_iload_n dX2_signed_0 rfl rfl ?_
  refine eg_aload_n dX2_signed_1 rfl rfl ?_
  refine eg_getI gf_RX2_16 rfl (by assumption) dX2_signed_2 ?_
  refine eg_topi h1 ?_
  refine eg_iconst dX2_signed_5 (v := nI 1) (by decide) ?_
  refine eg_isub dX2_signed_6 ?_
  refine eg_ishr dX2_signed_7 ?_
  refine eg_if_ne 15 dX2_signed_8 (by decide) (fun c => ?_) (fun c => ?_)
  · refine eg_iload_n dX2_signed_15 rfl rfl ?_
    refine eg_aload_n dX2_signed_16 rfl rfl ?_
    refine eg_getI gf_RX2_20 rfl (by assumption) dX2_signed_17 ?_
    refine eg_topi h2 ?_
    refine eg_iconst dX2_signed_20 (v := -1) (by decide) ?_
    refine eg_ixor dX2_signed_21 ?_
    refine eg_ior dX2_signed_22 ?_
    exact eg_iret rfl dX2_signed_23 (by unfold wd_sg at hQ; first | (rw [if_neg c] at hQ; exact hQ) | (rw [if_pos c] at hQ; exact hQ))
  · refine eg_iload_n dX2_signed_11 rfl rfl ?_
    refine eg_goto 23 dX2_signed_12 (by decide) ?_
    exact eg_iret rfl dX2_signed_23 (by unfold wd_sg at hQ; first | (rw [if_neg c] at hQ; exact hQ) | (rw [if_pos c] at hQ; exact hQ))
theorem sp_X2_reckon {l : Launch} {E : eg_E} {d kb nb : Nat} {Q : Option Value → eg_G → eg_I → Prop} {G : eg_G} {M : eg_I} {v w n k o : Nat} {a b : Int32} (hd : 1 ≤ d) (hv : G.2.1 v = some (.inl 2)) (h : in_V M v w n k) (ho : o < 13) (hQ : Q (some (.int (wd_op w o a b))) G M) : eg_J l E mX2_reckon d kb nb Q 0 [some (.ref v), some (.int (nI o)), some (.int a), some (.int b)] [] G M := by
  obtain ⟨h1, h2, h3, h4, h5, hw1, hw4, -⟩ := id h
  refine eg_iload_n dX2_reckon_0 rfl rfl ?_
  match o, ho with
  | 0, _ =>
    refine eg_tableIn 68 dX2_reckon_1 (by decide) (by decide) rfl (by decide) ?_
    refine eg_iload_n dX2_reckon_68 rfl rfl ?_
    refine eg_iconst dX2_reckon_69 (v := -1) (by decide) ?_
    refine eg_ixor dX2_reckon_70 ?_
    refine eg_aload_n dX2_reckon_71 rfl rfl ?_
    refine eg_getI gf_RX2_20 rfl (by assumption) dX2_reckon_72 ?_
    refine eg_topi h2 ?_
    refine eg_iand dX2_reckon_75 ?_
    exact eg_iret rfl dX2_reckon_76 hQ
  | 1, _ =>
    refine eg_tableIn 77 dX2_reckon_1 (by decide) (by decide) rfl (by decide) ?_
    refine eg_iload_n dX2_reckon_77 rfl rfl ?_
    refine eg_ineg dX2_reckon_78 ?_
    refine eg_aload_n dX2_reckon_79 rfl rfl ?_
    refine eg_getI gf_RX2_20 rfl (by assumption) dX2_reckon_80 ?_
    refine eg_topi h2 ?_
    refine eg_iand dX2_reckon_83 ?_
    exact eg_iret rfl dX2_reckon_84 hQ
  | 2, _ =>
    refine eg_tableIn 85 dX2_reckon_1 (by decide) (by decide) rfl (by decide) ?_
    refine eg_iload_n dX2_reckon_85 rfl rfl ?_
    refine eg_iload_n dX2_reckon_86 rfl rfl ?_
    refine eg_iand dX2_reckon_87 ?_
    exact eg_iret rfl dX2_reckon_88 hQ
  | 3, _ =>
    refine eg_tableIn 89 dX2_reckon_1 (by decide) (by decide) rfl (by decide) ?_
    refine eg_iload_n dX2_reckon_89 rfl rfl ?_
    refine eg_iload_n dX2_reckon_90 rfl rfl ?_
    refine eg_ior dX2_reckon_91 ?_
    exact eg_iret rfl dX2_reckon_92 hQ
  | 4, _ =>
    refine eg_tableIn 93 dX2_reckon_1 (by decide) (by decide) rfl (by decide) ?_
    refine eg_iload_n dX2_reckon_93 rfl rfl ?_
    refine eg_iload_n dX2_reckon_94 rfl rfl ?_
    refine eg_ixor dX2_reckon_95 ?_
    exact eg_iret rfl dX2_reckon_96 hQ
  | 5, _ =>
    refine eg_tableIn 97 dX2_reckon_1 (by decide) (by decide) rfl (by decide) ?_
    refine eg_iload_n dX2_reckon_97 rfl rfl ?_
    refine eg_iload_n dX2_reckon_98 rfl rfl ?_
    refine eg_iadd dX2_reckon_99 ?_
    refine eg_aload_n dX2_reckon_100 rfl rfl ?_
    refine eg_getI gf_RX2_20 rfl (by assumption) dX2_reckon_101 ?_
    refine eg_topi h2 ?_
    refine eg_iand dX2_reckon_104 ?_
    exact eg_iret rfl dX2_reckon_105 hQ
  | 6, _ =>
    refine eg_tableIn 106 dX2_reckon_1 (by decide) (by decide) rfl (by decide) ?_
    refine eg_iload_n dX2_reckon_106 rfl rfl ?_
    refine eg_iload_n dX2_reckon_107 rfl rfl ?_
    refine eg_isub dX2_reckon_108 ?_
    refine eg_aload_n dX2_reckon_109 rfl rfl ?_
    refine eg_getI gf_RX2_20 rfl (by assumption) dX2_reckon_110 ?_
    refine eg_topi h2 ?_
    refine eg_iand dX2_reckon_113 ?_
    exact eg_iret rfl dX2_reckon_114 hQ
  | 7, _ =>
    refine eg_tableIn 115 dX2_reckon_1 (by decide) (by decide) rfl (by decide) ?_
    refine eg_iload_n dX2_reckon_115 rfl rfl ?_
    refine eg_iload_n dX2_reckon_116 rfl rfl ?_
    refine eg_imul dX2_reckon_117 ?_
    refine eg_aload_n dX2_reckon_118 rfl rfl ?_
    refine eg_getI gf_RX2_20 rfl (by assumption) dX2_reckon_119 ?_
    refine eg_topi h2 ?_
    refine eg_iand dX2_reckon_122 ?_
    exact eg_iret rfl dX2_reckon_123 hQ
  | 8, _ =>
    refine eg_tableIn 124 dX2_reckon_1 (by decide) (by decide) rfl (by decide) ?_
    refine eg_iload_n dX2_reckon_124 rfl rfl ?_
    refine eg_aload_n dX2_reckon_125 rfl rfl ?_
    refine eg_iload_n dX2_reckon_126 rfl rfl ?_
    refine eg_callV1 0 0 gk_X2_distance gi_X2_distance (by assumption) rfl gl_RX2_54 rfl (Nat.le_of_ble_eq_true rfl) (Nat.le_of_ble_eq_true rfl) (Nat.zero_le _) (Nat.zero_le _) (by omega) dX2_reckon_127 ?_
    refine sp_X2_distance hv h ?_
    refine eg_ishl dX2_reckon_130 ?_
    refine eg_aload_n dX2_reckon_131 rfl rfl ?_
    refine eg_getI gf_RX2_20 rfl (by assumption) dX2_reckon_132 ?_
    refine eg_topi h2 ?_
    refine eg_iand dX2_reckon_135 ?_
    exact eg_iret rfl dX2_reckon_136 hQ
  | 9, _ =>
    refine eg_tableIn 137 dX2_reckon_1 (by decide) (by decide) rfl (by decide) ?_
    refine eg_iload_n dX2_reckon_137 rfl rfl ?_
    refine eg_aload_n dX2_reckon_138 rfl rfl ?_
    refine eg_iload_n dX2_reckon_139 rfl rfl ?_
    refine eg_callV1 0 0 gk_X2_distance gi_X2_distance (by assumption) rfl gl_RX2_54 rfl (Nat.le_of_ble_eq_true rfl) (Nat.le_of_ble_eq_true rfl) (Nat.zero_le _) (Nat.zero_le _) (by omega) dX2_reckon_140 ?_
    refine sp_X2_distance hv h ?_
    refine eg_ishr dX2_reckon_143 ?_
    exact eg_iret rfl dX2_reckon_144 hQ
  | 10, _ =>
    refine eg_tableIn 145 dX2_reckon_1 (by decide) (by decide) rfl (by decide) ?_
    refine eg_aload_n dX2_reckon_145 rfl rfl ?_
    refine eg_iload_n dX2_reckon_146 rfl rfl ?_
    refine eg_callV1 0 0 gk_X2_signed gi_X2_signed (by assumption) rfl gl_RX2_58 rfl (Nat.le_of_ble_eq_true rfl) (Nat.le_of_ble_eq_true rfl) (Nat.zero_le _) (Nat.zero_le _) (by omega) dX2_reckon_147 ?_
    refine sp_X2_signed hv h ?_
    refine eg_aload_n dX2_reckon_150 rfl rfl ?_
    refine eg_iload_n dX2_reckon_151 rfl rfl ?_
    refine eg_callV1 0 0 gk_X2_distance gi_X2_distance (by assumption) rfl gl_RX2_54 rfl (Nat.le_of_ble_eq_true rfl) (Nat.le_of_ble_eq_true rfl) (Nat.zero_le _) (Nat.zero_le _) (by omega) dX2_reckon_152 ?_
    refine sp_X2_distance hv h ?_
    refine eg_ishr dX2_reckon_155 ?_
    refine eg_aload_n dX2_reckon_156 rfl rfl ?_
    refine eg_getI gf_RX2_20 rfl (by assumption) dX2_reckon_157 ?_
    refine eg_topi h2 ?_
    refine eg_iand dX2_reckon_160 ?_
    exact eg_iret rfl dX2_reckon_161 hQ
  | 11, _ =>
    refine eg_tableIn 162 dX2_reckon_1 (by decide) (by decide) rfl (by decide) ?_
    refine eg_iload_n dX2_reckon_162 rfl rfl ?_
    refine eg_iload_n dX2_reckon_163 rfl rfl ?_
    refine eg_icmp_ge 171 dX2_reckon_164 (by decide) (fun c => ?_) (fun c => ?_)
    · refine eg_iconst dX2_reckon_171 (v := nI 0) (by decide) ?_
      exact eg_iret rfl dX2_reckon_172 (by first | (have hQ : Q (some (.int (if a < b then 1 else 0))) G M := hQ; rw [if_pos (Int32.not_le.mp c)] at hQ; exact hQ) | (have hQ : Q (some (.int (if a < b then 1 else 0))) G M := hQ; rw [if_neg (Int32.not_lt.mpr c)] at hQ; exact hQ))
    · refine eg_iconst dX2_reckon_167 (v := nI 1) (by decide) ?_
      refine eg_goto 172 dX2_reckon_168 (by decide) ?_
      exact eg_iret rfl dX2_reckon_172 (by first | (have hQ : Q (some (.int (if a < b then 1 else 0))) G M := hQ; rw [if_pos (Int32.not_le.mp c)] at hQ; exact hQ) | (have hQ : Q (some (.int (if a < b then 1 else 0))) G M := hQ; rw [if_neg (Int32.not_lt.mpr c)] at hQ; exact hQ))
  | 12, _ =>
    refine eg_tableIn 173 dX2_reckon_1 (by decide) (by decide) rfl (by decide) ?_
    refine eg_iload_n dX2_reckon_173 rfl rfl ?_
    refine eg_iload_n dX2_reckon_174 rfl rfl ?_
    refine eg_icmp_ne 182 dX2_reckon_175 (by decide) (fun c => ?_) (fun c => ?_)
    · refine eg_iconst dX2_reckon_182 (v := nI 0) (by decide) ?_
      exact eg_iret rfl dX2_reckon_183 (by have hQ : Q (some (.int (if a = b then 1 else 0))) G M := hQ; first | (rw [if_pos c] at hQ; exact hQ) | (rw [if_neg c] at hQ; exact hQ))
    · refine eg_iconst dX2_reckon_178 (v := nI 1) (by decide) ?_
      refine eg_goto 183 dX2_reckon_179 (by decide) ?_
      exact eg_iret rfl dX2_reckon_183 (by have hQ : Q (some (.int (if a = b then 1 else 0))) G M := hQ; first | (rw [if_pos c] at hQ; exact hQ) | (rw [if_neg c] at hQ; exact hQ))
  | o + 13, ho => exact absurd ho (by omega)
end
section
/-! ShortestCode$Values: loops -/
theorem lp_X2_make {l : Launch} {E : eg_E} {d kb nb : Nat} {Q : Option Value → eg_G → eg_I → Prop} {G : eg_G} {v w n k o a b c : Nat} (hd : 2 ≤ d) (hs : sh_V G v) (ho : o < 13) (ha : a < 18) (hb : b < 18) (hc : c < 18) : ∀ (t s : Nat) (M : eg_I), in_V M v w n k → s + t = 2 ^ (w * n) → Q none G (eg_fl M (v + 2 + c) s (2 ^ (w * n)) (fun j => wd_op w o (M (v + 2 + a) j) (M (v + 2 + b) j))) → eg_J l E mX2_make d kb nb Q 28 [some (.ref v), some (.int (nI c)), some (.int (nI o)), some (.int (nI a)), some (.int (nI b)), some (.ref (v + 2 + a)), some (.ref (v + 2 + b)), some (.ref (v + 2 + c)), some (.int (nI s))] [] G M := by
  intro t
  induction t with
  | zero =>
    intro s M h hst hQ
    obtain ⟨hs1, hs2, hs3, hs4⟩ := id hs
    obtain ⟨h1, h2, h3, h4, h5, hw1, hw4, hn1, hn2, hk4⟩ := id h
    have hA := wd_asg hw4 hn2
    refine eg_iload dX2_make_28 rfl ?_
    refine eg_aload_n dX2_make_30 rfl rfl ?_
    refine eg_getI gf_RX2_26 rfl (by assumption) dX2_make_31 ?_
    refine eg_topi h5 ?_
    refine eg_icmp_ge 63 dX2_make_34 (by decide) (fun c34 => ?_) (fun c34 => absurd (nI_le (by omega) (by omega)) c34)
    exact eg_vret rfl dX2_make_63 (by rw [eg_fl_0 (by omega)] at hQ; exact hQ)
  | succ t ih =>
    intro s M h hst hQ
    obtain ⟨hs1, hs2, hs3, hs4⟩ := id hs
    obtain ⟨h1, h2, h3, h4, h5, hw1, hw4, hn1, hn2, hk4⟩ := id h
    have hA := wd_asg hw4 hn2
    refine eg_iload dX2_make_28 rfl ?_
    refine eg_aload_n dX2_make_30 rfl rfl ?_
    refine eg_getI gf_RX2_26 rfl (by assumption) dX2_make_31 ?_
    refine eg_topi h5 ?_
    refine eg_icmp_ge 63 dX2_make_34 (by decide) (fun c34 => absurd c34 (nI_ge (by omega) (by omega))) (fun c34 => ?_)
    refine eg_aload dX2_make_37 rfl ?_
    refine eg_iload dX2_make_39 rfl ?_
    refine eg_aload_n dX2_make_41 rfl rfl ?_
    refine eg_iload_n dX2_make_42 rfl rfl ?_
    refine eg_aload dX2_make_43 rfl ?_
    refine eg_iload dX2_make_45 rfl ?_
    refine eg_ialdN (hs4 a ha).2 (by omega) (by decide) dX2_make_47 ?_
    refine eg_aload dX2_make_48 rfl ?_
    refine eg_iload dX2_make_50 rfl ?_
    refine eg_ialdN (hs4 b hb).2 (by omega) (by decide) dX2_make_52 ?_
    refine eg_callV3 0 0 gk_X2_reckon gi_X2_reckon (by assumption) rfl gl_RX2_42 rfl (Nat.le_of_ble_eq_true rfl) (Nat.le_of_ble_eq_true rfl) (Nat.zero_le _) (Nat.zero_le _) (by omega) dX2_make_53 ?_
    refine sp_X2_reckon (by omega) hs1 h ho ?_
    refine eg_iastN (hs4 c hc).2 (by omega) (by decide) dX2_make_56 ?_
    refine eg_iinc dX2_make_57 (by decide) rfl (eg_inc s) rfl ?_
    refine eg_goto 28 dX2_make_60 (by decide) ?_
    exact ih (s + 1) _ (h.eq (eg_set_ne (by omega))) (by omega) (eg_fl_q (P := Q none G) (f := (fun j => wd_op w o (M (v + 2 + a) j) (M (v + 2 + b) j))) (by omega) (fun j g1 _ => by simp only [eg_set_jj (show j ≠ s by omega)]) hQ)
theorem sp_X2_make {l : Launch} {E : eg_E} {d kb nb : Nat} {Q : Option Value → eg_G → eg_I → Prop} {G : eg_G} {M : eg_I} {v w n k o a b c : Nat} (hd : 2 ≤ d) (hs : sh_V G v) (ho : o < 13) (ha : a < 18) (hb : b < 18) (hc : c < 18) (h : in_V M v w n k) (hQ : Q none G (eg_fl M (v + 2 + c) 0 (2 ^ (w * n)) (fun j => wd_op w o (M (v + 2 + a) j) (M (v + 2 + b) j)))) : eg_J l E mX2_make d kb nb Q 0 [some (.ref v), some (.int (nI c)), some (.int (nI o)), some (.int (nI a)), some (.int (nI b)), none, none, none, none] [] G M := by
  obtain ⟨hs1, hs2, hs3, hs4⟩ := id hs
  refine eg_aload_n dX2_make_0 rfl rfl ?_
  refine eg_getR gf_RX2_11 rfl (by assumption) (by assumption) dX2_make_1 ?_
  refine eg_iload_n dX2_make_4 rfl rfl ?_
  refine eg_aaldN rfl (by assumption) ha (by decide) (hs4 a ha).1 dX2_make_5 ?_
  refine eg_astore dX2_make_6 (by decide) rfl ?_
  refine eg_aload_n dX2_make_8 rfl rfl ?_
  refine eg_getR gf_RX2_11 rfl (by assumption) (by assumption) dX2_make_9 ?_
  refine eg_iload dX2_make_12 rfl ?_
  refine eg_aaldN rfl (by assumption) hb (by decide) (hs4 b hb).1 dX2_make_14 ?_
  refine eg_astore dX2_make_15 (by decide) rfl ?_
  refine eg_aload_n dX2_make_17 rfl rfl ?_
  refine eg_getR gf_RX2_11 rfl (by assumption) (by assumption) dX2_make_18 ?_
  refine eg_iload_n dX2_make_21 rfl rfl ?_
  refine eg_aaldN rfl (by assumption) hc (by decide) (hs4 c hc).1 dX2_make_22 ?_
  refine eg_astore dX2_make_23 (by decide) rfl ?_
  refine eg_iconst dX2_make_25 (v := nI 0) (by decide) ?_
  refine eg_istore dX2_make_26 (by decide) rfl ?_
  exact lp_X2_make hd hs ho ha hb hc (2 ^ (w * n)) 0 M h (by omega) hQ
theorem lp_X2_makes {l : Launch} {E : eg_E} {d kb nb : Nat} {Q : Option Value → eg_G → eg_I → Prop} {G : eg_G} {v w n k o a b tg : Nat} (hd : 2 ≤ d) (hs : sh_V G v) (ho : o < 13) (ha : a < 18) (hb : b < 18) (htg : G.2.1 tg = some (.inr (.int, 256))) : ∀ (t s : Nat) (M : eg_I), in_V M v w n k → s + t = 2 ^ (w * n) → (∀ j, j < s → wd_op w o (M (v + 2 + a) j) (M (v + 2 + b) j) = M tg j) → ((∀ j, j < 2 ^ (w * n) → wd_op w o (M (v + 2 + a) j) (M (v + 2 + b) j) = M tg j) → Q (some (.int 1)) G M) → ((∃ j, j < 2 ^ (w * n) ∧ ¬ wd_op w o (M (v + 2 + a) j) (M (v + 2 + b) j) = M tg j) → Q (some (.int 0)) G M) → eg_J l E mX2_makes d kb nb Q 20 [some (.ref v), some (.ref tg), some (.int (nI o)), some (.int (nI a)), some (.int (nI b)), some (.ref (v + 2 + a)), some (.ref (v + 2 + b)), some (.int (nI s))] [] G M := by
  intro t
  induction t with
  | zero =>
    intro s M h hst hp hT hF
    obtain ⟨hs1, hs2, hs3, hs4⟩ := id hs
    obtain ⟨h1, h2, h3, h4, h5, hw1, hw4, hn1, hn2, hk4⟩ := id h
    have hA := wd_asg hw4 hn2
    refine eg_iload dX2_makes_20 rfl ?_
    refine eg_aload_n dX2_makes_22 rfl rfl ?_
    refine eg_getI gf_RX2_26 rfl (by assumption) dX2_makes_23 ?_
    refine eg_topi h5 ?_
    refine eg_icmp_ge 59 dX2_makes_26 (by decide) (fun c26 => ?_) (fun c26 => absurd (nI_le (by omega) (by omega)) c26)
    refine eg_iconst dX2_makes_59 (v := nI 1) (by decide) ?_
    exact eg_zret rfl rfl dX2_makes_60 (hT (fun j hj => hp j (by omega)))
  | succ t ih =>
    intro s M h hst hp hT hF
    obtain ⟨hs1, hs2, hs3, hs4⟩ := id hs
    obtain ⟨h1, h2, h3, h4, h5, hw1, hw4, hn1, hn2, hk4⟩ := id h
    have hA := wd_asg hw4 hn2
    refine eg_iload dX2_makes_20 rfl ?_
    refine eg_aload_n dX2_makes_22 rfl rfl ?_
    refine eg_getI gf_RX2_26 rfl (by assumption) dX2_makes_23 ?_
    refine eg_topi h5 ?_
    refine eg_icmp_ge 59 dX2_makes_26 (by decide) (fun c26 => absurd c26 (nI_ge (by omega) (by omega))) (fun c26 => ?_)
    refine eg_aload_n dX2_makes_29 rfl rfl ?_
    refine eg_iload_n dX2_makes_30 rfl rfl ?_
    refine eg_aload dX2_makes_31 rfl ?_
    refine eg_iload dX2_makes_33 rfl ?_
    refine eg_ialdN (hs4 a ha).2 (by omega) (by decide) dX2_makes_35 ?_
    refine eg_aload dX2_makes_36 rfl ?_
    refine eg_iload dX2_makes_38 rfl ?_
    refine eg_ialdN (hs4 b hb).2 (by omega) (by decide) dX2_makes_40 ?_
    refine eg_callV3 0 0 gk_X2_reckon gi_X2_reckon (by assumption) rfl gl_RX2_42 rfl (Nat.le_of_ble_eq_true rfl) (Nat.le_of_ble_eq_true rfl) (Nat.zero_le _) (Nat.zero_le _) (by omega) dX2_makes_41 ?_
    refine sp_X2_reckon (by omega) hs1 h ho ?_
    refine eg_aload_n dX2_makes_44 rfl rfl ?_
    refine eg_iload dX2_makes_45 rfl ?_
    refine eg_ialdN (by assumption) (by omega) (by decide) dX2_makes_47 ?_
    refine eg_icmp_eq 53 dX2_makes_48 (by decide) (fun c => ?_) (fun c => ?_)
    · refine eg_iinc dX2_makes_53 (by decide) rfl (eg_inc s) rfl ?_
      refine eg_goto 20 dX2_makes_56 (by decide) ?_
      exact ih (s + 1) M h (by omega) (lt_s hp c) hT hF
    · refine eg_iconst dX2_makes_51 (v := nI 0) (by decide) ?_
      exact eg_zret rfl rfl dX2_makes_52 (hF ⟨s, by omega, c⟩)
theorem sp_X2_makes {l : Launch} {E : eg_E} {d kb nb : Nat} {Q : Option Value → eg_G → eg_I → Prop} {G : eg_G} {M : eg_I} {v w n k o a b tg : Nat} (hd : 2 ≤ d) (hs : sh_V G v) (ho : o < 13) (ha : a < 18) (hb : b < 18) (htg : G.2.1 tg = some (.inr (.int, 256))) (h : in_V M v w n k) (hT : ((∀ j, j < 2 ^ (w * n) → wd_op w o (M (v + 2 + a) j) (M (v + 2 + b) j) = M tg j) → Q (some (.int 1)) G M)) (hF : ((∃ j, j < 2 ^ (w * n) ∧ ¬ wd_op w o (M (v + 2 + a) j) (M (v + 2 + b) j) = M tg j) → Q (some (.int 0)) G M)) : eg_J l E mX2_makes d kb nb Q 0 [some (.ref v), some (.ref tg), some (.int (nI o)), some (.int (nI a)), some (.int (nI b)), none, none, none] [] G M := by
  obtain ⟨hs1, hs2, hs3, hs4⟩ := id hs
  refine eg_aload_n dX2_makes_0 rfl rfl ?_
  refine eg_getR gf_RX2_11 rfl (by assumption) (by assumption) dX2_makes_1 ?_
  refine eg_iload_n dX2_makes_4 rfl rfl ?_
  refine eg_aaldN rfl (by assumption) ha (by decide) (hs4 a ha).1 dX2_makes_5 ?_
  refine eg_astore dX2_makes_6 (by decide) rfl ?_
  refine eg_aload_n dX2_makes_8 rfl rfl ?_
  refine eg_getR gf_RX2_11 rfl (by assumption) (by assumption) dX2_makes_9 ?_
  refine eg_iload dX2_makes_12 rfl ?_
  refine eg_aaldN rfl (by assumption) hb (by decide) (hs4 b hb).1 dX2_makes_14 ?_
  refine eg_astore dX2_makes_15 (by decide) rfl ?_
  refine eg_iconst dX2_makes_17 (v := nI 0) (by decide) ?_
  refine eg_istore dX2_makes_18 (by decide) rfl ?_
  exact lp_X2_makes hd hs ho ha hb htg (2 ^ (w * n)) 0 M h (by omega) lt_0 hT hF
theorem lp_X2_firstDifference {l : Launch} {E : eg_E} {d kb nb : Nat} {Q : Option Value → eg_G → eg_I → Prop} {G : eg_G} {v w n k p q : Nat} (hv : G.2.1 v = some (.inl 2)) (hp : G.2.1 p = some (.inr (.int, 256))) (hq : G.2.1 q = some (.inr (.int, 256))) : ∀ (t s : Nat) (M : eg_I), in_V M v w n k → s + t = 2 ^ (w * n) → (∀ j, j < s → M p j = M q j) → ((∀ j, j < 2 ^ (w * n) → M p j = M q j) → Q (some (.int (-1))) G M) → (∀ s, s < 2 ^ (w * n) → (∀ j, j < s → M p j = M q j) → ¬ M p s = M q s → Q (some (.int (nI s))) G M) → eg_J l E mX2_firstDifference d kb nb Q 2 [some (.ref v), some (.ref p), some (.ref q), some (.int (nI s))] [] G M := by
  intro t
  induction t with
  | zero =>
    intro s M h hst he hN hS
    obtain ⟨h1, h2, h3, h4, h5, hw1, hw4, hn1, hn2, hk4⟩ := id h
    have hA := wd_asg hw4 hn2
    refine eg_iload_n dX2_firstDifference_2 rfl rfl ?_
    refine eg_aload_n dX2_firstDifference_3 rfl rfl ?_
    refine eg_getI gf_RX2_26 rfl (by assumption) dX2_firstDifference_4 ?_
    refine eg_topi h5 ?_
    refine eg_icmp_ge 27 dX2_firstDifference_7 (by decide) (fun c7 => ?_) (fun c7 => absurd (nI_le (by omega) (by omega)) c7)
    refine eg_iconst dX2_firstDifference_27 (v := -1) (by decide) ?_
    exact eg_iret rfl dX2_firstDifference_28 (hN (fun j hj => he j (by omega)))
  | succ t ih =>
    intro s M h hst he hN hS
    obtain ⟨h1, h2, h3, h4, h5, hw1, hw4, hn1, hn2, hk4⟩ := id h
    have hA := wd_asg hw4 hn2
    refine eg_iload_n dX2_firstDifference_2 rfl rfl ?_
    refine eg_aload_n dX2_firstDifference_3 rfl rfl ?_
    refine eg_getI gf_RX2_26 rfl (by assumption) dX2_firstDifference_4 ?_
    refine eg_topi h5 ?_
    refine eg_icmp_ge 27 dX2_firstDifference_7 (by decide) (fun c7 => absurd c7 (nI_ge (by omega) (by omega))) (fun c7 => ?_)
    refine eg_aload_n dX2_firstDifference_10 rfl rfl ?_
    refine eg_iload_n dX2_firstDifference_11 rfl rfl ?_
    refine eg_ialdN (by assumption) (by omega) (by decide) dX2_firstDifference_12 ?_
    refine eg_aload_n dX2_firstDifference_13 rfl rfl ?_
    refine eg_iload_n dX2_firstDifference_14 rfl rfl ?_
    refine eg_ialdN (by assumption) (by omega) (by decide) dX2_firstDifference_15 ?_
    refine eg_icmp_eq 21 dX2_firstDifference_16 (by decide) (fun c => ?_) (fun c => ?_)
    · refine eg_iinc dX2_firstDifference_21 (by decide) rfl (eg_inc s) rfl ?_
      refine eg_goto 2 dX2_firstDifference_24 (by decide) ?_
      exact ih (s + 1) M h (by omega) (lt_s he c) hN hS
    · refine eg_iload_n dX2_firstDifference_19 rfl rfl ?_
      exact eg_iret rfl dX2_firstDifference_20 (hS s (by omega) he c)
theorem sp_X2_firstDifference {l : Launch} {E : eg_E} {d kb nb : Nat} {Q : Option Value → eg_G → eg_I → Prop} {G : eg_G} {M : eg_I} {v w n k p q : Nat} (hv : G.2.1 v = some (.inl 2)) (hp : G.2.1 p = some (.inr (.int, 256))) (hq : G.2.1 q = some (.inr (.int, 256))) (h : in_V M v w n k) (hN : ((∀ j, j < 2 ^ (w * n) → M p j = M q j) → Q (some (.int (-1))) G M)) (hS : (∀ s, s < 2 ^ (w * n) → (∀ j, j < s → M p j = M q j) → ¬ M p s = M q s → Q (some (.int (nI s))) G M)) : eg_J l E mX2_firstDifference d kb nb Q 0 [some (.ref v), some (.ref p), some (.ref q), none] [] G M := by
  refine eg_iconst dX2_firstDifference_0 (v := nI 0) (by decide) ?_
  refine eg_istore_n dX2_firstDifference_1 rfl (by decide) rfl ?_
  exact lp_X2_firstDifference hv hp hq (2 ^ (w * n)) 0 M h (by omega) lt_0 hN hS
theorem lp_X2_leastBelow {l : Launch} {E : eg_E} {d kb nb : Nat} {Q : Option Value → eg_G → eg_I → Prop} {G : eg_G} {v w n k p e : Nat} (hd : 1 ≤ d) (hs : sh_V G v) (hp : G.2.1 p = some (.inr (.int, 256))) (he : e ≤ 18) : ∀ (t s : Nat) (M : eg_I), in_V M v w n k → s + t = e → (∀ u, u < s → (∃ j, j < 2 ^ (w * n) ∧ ¬ M (v + 2 + u) j = M p j)) → ((∀ u, u < e → (∃ j, j < 2 ^ (w * n) ∧ ¬ M (v + 2 + u) j = M p j)) → Q (some (.int (-1))) G M) → (∀ s, s < e → (∀ u, u < s → (∃ j, j < 2 ^ (w * n) ∧ ¬ M (v + 2 + u) j = M p j)) → (∀ j, j < 2 ^ (w * n) → M (v + 2 + s) j = M p j) → Q (some (.int (nI s))) G M) → eg_J l E mX2_leastBelow d kb nb Q 2 [some (.ref v), some (.int (nI e)), some (.ref p), some (.int (nI s))] [] G M := by
  intro t
  induction t with
  | zero =>
    intro s M h hst hb hN hS
    obtain ⟨hs1, hs2, hs3, hs4⟩ := id hs
    obtain ⟨h1, h2, h3, h4, h5, hw1, hw4, hn1, hn2, hk4⟩ := id h
    have hA := wd_asg hw4 hn2
    refine eg_iload_n dX2_leastBelow_2 rfl rfl ?_
    refine eg_iload_n dX2_leastBelow_3 rfl rfl ?_
    refine eg_icmp_ge 29 dX2_leastBelow_4 (by decide) (fun c4 => ?_) (fun c4 => absurd (nI_le (by omega) (by omega)) c4)
    refine eg_iconst dX2_leastBelow_29 (v := -1) (by decide) ?_
    exact eg_iret rfl dX2_leastBelow_30 (hN (fun u hu => hb u (by omega)))
  | succ t ih =>
    intro s M h hst hb hN hS
    obtain ⟨hs1, hs2, hs3, hs4⟩ := id hs
    obtain ⟨h1, h2, h3, h4, h5, hw1, hw4, hn1, hn2, hk4⟩ := id h
    have hA := wd_asg hw4 hn2
    refine eg_iload_n dX2_leastBelow_2 rfl rfl ?_
    refine eg_iload_n dX2_leastBelow_3 rfl rfl ?_
    refine eg_icmp_ge 29 dX2_leastBelow_4 (by decide) (fun c4 => absurd c4 (nI_ge (by omega) (by omega))) (fun c4 => ?_)
    refine eg_aload_n dX2_leastBelow_7 rfl rfl ?_
    refine eg_aload_n dX2_leastBelow_8 rfl rfl ?_
    refine eg_getR gf_RX2_11 rfl (by assumption) (by assumption) dX2_leastBelow_9 ?_
    refine eg_iload_n dX2_leastBelow_12 rfl rfl ?_
    refine eg_aaldN rfl (by assumption) (by omega) (by decide) (hs4 s (by omega)).1 dX2_leastBelow_13 ?_
    refine eg_aload_n dX2_leastBelow_14 rfl rfl ?_
    refine eg_callV2 0 0 gk_X2_firstDifference gi_X2_firstDifference (by assumption) rfl gl_RX2_46 rfl (Nat.le_of_ble_eq_true rfl) (Nat.le_of_ble_eq_true rfl) (Nat.zero_le _) (Nat.zero_le _) (by omega) dX2_leastBelow_15 ?_
    refine sp_X2_firstDifference (k := k) hs1 (hs4 s (by omega)).2 hp h (fun hall => ?_) (fun z hz _ hne => ?_)
    · refine eg_if_ge 23 dX2_leastBelow_18 (by decide) (fun c => absurd c (by decide)) (fun c => ?_)
      refine eg_iload_n dX2_leastBelow_21 rfl rfl ?_
      exact eg_iret rfl dX2_leastBelow_22 (hS s (by omega) hb hall)
    · refine eg_if_ge 23 dX2_leastBelow_18 (by decide) (fun c => ?_) (fun c => absurd (nI_pos' (by omega)) c)
      refine eg_iinc dX2_leastBelow_23 (by decide) rfl (eg_inc s) rfl ?_
      refine eg_goto 2 dX2_leastBelow_26 (by decide) ?_
      exact ih (s + 1) M h (by omega) (lt_s hb ⟨z, hz, hne⟩) hN hS
theorem sp_X2_leastBelow {l : Launch} {E : eg_E} {d kb nb : Nat} {Q : Option Value → eg_G → eg_I → Prop} {G : eg_G} {M : eg_I} {v w n k p e : Nat} (hd : 1 ≤ d) (hs : sh_V G v) (hp : G.2.1 p = some (.inr (.int, 256))) (he : e ≤ 18) (h : in_V M v w n k) (hN : ((∀ u, u < e → (∃ j, j < 2 ^ (w * n) ∧ ¬ M (v + 2 + u) j = M p j)) → Q (some (.int (-1))) G M)) (hS : (∀ s, s < e → (∀ u, u < s → (∃ j, j < 2 ^ (w * n) ∧ ¬ M (v + 2 + u) j = M p j)) → (∀ j, j < 2 ^ (w * n) → M (v + 2 + s) j = M p j) → Q (some (.int (nI s))) G M)) : eg_J l E mX2_leastBelow d kb nb Q 0 [some (.ref v), some (.int (nI e)), some (.ref p), none] [] G M := by
  refine eg_iconst dX2_leastBelow_0 (v := nI 0) (by decide) ?_
  refine eg_istore_n dX2_leastBelow_1 rfl (by decide) rfl ?_
  exact lp_X2_leastBelow hd hs hp he e 0 M h (by omega) lt_0 hN hS
theorem sp_X2_leastSame {l : Launch} {E : eg_E} {d kb nb : Nat} {Q : Option Value → eg_G → eg_I → Prop} {G : eg_G} {M : eg_I} {v w n k e : Nat} (hd : 2 ≤ d) (hs : sh_V G v) (he : e < 18) (h : in_V M v w n k) (hN : ((∀ u, u < e → (∃ j, j < 2 ^ (w * n) ∧ ¬ M (v + 2 + u) j = M (v + 2 + e) j)) → Q (some (.int (-1))) G M)) (hS : (∀ s, s < e → (∀ u, u < s → (∃ j, j < 2 ^ (w * n) ∧ ¬ M (v + 2 + u) j = M (v + 2 + e) j)) → (∀ j, j < 2 ^ (w * n) → M (v + 2 + s) j = M (v + 2 + e) j) → Q (some (.int (nI s))) G M)) : eg_J l E mX2_leastSame d kb nb Q 0 [some (.ref v), some (.int (nI e))] [] G M := by
  obtain ⟨hs1, hs2, hs3, hs4⟩ := id hs
  refine eg_aload_n dX2_leastSame_0 rfl rfl ?_
  refine eg_iload_n dX2_leastSame_1 rfl rfl ?_
  refine eg_aload_n dX2_leastSame_2 rfl rfl ?_
  refine eg_getR gf_RX2_11 rfl (by assumption) (by assumption) dX2_leastSame_3 ?_
  refine eg_iload_n dX2_leastSame_6 rfl rfl ?_
  refine eg_aaldN rfl (by assumption) he (by decide) (hs4 e he).1 dX2_leastSame_7 ?_
  refine eg_callV2 0 0 gk_X2_leastBelow gi_X2_leastBelow (by assumption) rfl gl_RX2_50 rfl (Nat.le_of_ble_eq_true rfl) (Nat.le_of_ble_eq_true rfl) (Nat.zero_le _) (Nat.zero_le _) (by omega) dX2_leastSame_8 ?_
  refine sp_X2_leastBelow (k := k) (by omega) hs (hs4 e he).2 (by omega) h (fun g => ?_) (fun z g1 g2 g3 => ?_)
  · exact eg_iret rfl dX2_leastSame_11 (hN g)
  · exact eg_iret rfl dX2_leastSame_11 (hS z g1 g2 g3)
end
section
/-! ShortestCode$Row, and the rest of ShortestCode$Values -/
theorem sp_X1_put {l : Launch} {E : eg_E} {d kb nb : Nat} {Q : Option Value → eg_G → eg_I → Prop} {G : eg_G} {M : eg_I} {r p : Nat} {x y z : Int32} (hs : sh_R G r) (hp : p < 12) (hQ : Q none G (eg_set (eg_set (eg_set M (r + 1) p x) (r + 2) p y) (r + 3) p z)) : eg_J l E mX1_put d kb nb Q 0 [some (.ref r), some (.int (nI p)), some (.int x), some (.int y), some (.int z)] [] G M := by
  obtain ⟨s0, s1, s2, s3, s4, s5, s6⟩ := id hs
  refine eg_aload_n dX1_put_0 rfl rfl ?_
  refine eg_getR gf_RX1_9 rfl (by assumption) (by assumption) dX1_put_1 ?_
  refine eg_iload_n dX1_put_4 rfl rfl ?_
  refine eg_iload_n dX1_put_5 rfl rfl ?_
  refine eg_iastN (by assumption) (by omega) (by decide) dX1_put_6 ?_
  refine eg_aload_n dX1_put_7 rfl rfl ?_
  refine eg_getR gf_RX1_15 rfl (by assumption) (by assumption) dX1_put_8 ?_
  refine eg_iload_n dX1_put_11 rfl rfl ?_
  refine eg_iload_n dX1_put_12 rfl rfl ?_
  refine eg_iastN (by assumption) (by omega) (by decide) dX1_put_13 ?_
  refine eg_aload_n dX1_put_14 rfl rfl ?_
  refine eg_getR gf_RX1_18 rfl (by assumption) (by assumption) dX1_put_15 ?_
  refine eg_iload_n dX1_put_18 rfl rfl ?_
  refine eg_iload dX1_put_19 rfl ?_
  refine eg_iastN (by assumption) (by omega) (by decide) dX1_put_21 ?_
  exact eg_vret rfl dX1_put_22 hQ
theorem sp_X1_empty {l : Launch} {E : eg_E} {d kb nb : Nat} {Q : Option Value → eg_G → eg_I → Prop} {G : eg_G} {M : eg_I} {r : Nat} {x : Int32} (hs : sh_R G r) (hQ : Q none G (eg_set (eg_set M r 3 (nI 0)) r 4 x)) : eg_J l E mX1_empty d kb nb Q 0 [some (.ref r), some (.int x)] [] G M := by
  obtain ⟨s0, s1, s2, s3, s4, s5, s6⟩ := id hs
  refine eg_aload_n dX1_empty_0 rfl rfl ?_
  refine eg_iconst dX1_empty_1 (v := nI 0) (by decide) ?_
  refine eg_putI gp_RX1_21 (fun q => by cases q) rfl rfl rfl (by assumption) dX1_empty_2 ?_
  refine eg_aload_n dX1_empty_5 rfl rfl ?_
  refine eg_iload_n dX1_empty_6 rfl rfl ?_
  refine eg_putI gp_RX1_25 (fun q => by cases q) rfl rfl rfl (by assumption) dX1_empty_7 ?_
  exact eg_vret rfl dX1_empty_10 hQ
theorem sp_X1_renumbered {l : Launch} {E : eg_E} {d kb nb : Nat} {Q : Option Value → eg_G → eg_I → Prop} {G : eg_G} {M : eg_I} {x g t : Nat} (hx : x < 2 ^ 30) (hg : g < 2 ^ 30) (hQ : Q (some (.int (nI (rn x g t)))) G M) : eg_J l E mX1_renumbered d kb nb Q 0 [some (.int (nI x)), some (.int (nI g)), some (.int (nI t))] [] G M := by
  refine eg_iload_n dX1_renumbered_0 rfl rfl ?_
  refine eg_iload_n dX1_renumbered_1 rfl rfl ?_
  refine eg_icmp_ne 7 dX1_renumbered_2 (by decide) (fun c => ?_) (fun c => ?_)
  · refine eg_iload_n dX1_renumbered_7 rfl rfl ?_
    refine eg_iload_n dX1_renumbered_8 rfl rfl ?_
    refine eg_icmp_le 18 dX1_renumbered_9 (by decide) (fun c2 => ?_) (fun c2 => ?_)
    · refine eg_iload_n dX1_renumbered_18 rfl rfl ?_
      exact eg_iret rfl dX1_renumbered_19 (by have e : ¬ x = g := fun q => c (by rw [q]); unfold rn at hQ; rw [if_neg e] at hQ; first | (have e2 : ¬ g < x := fun q => absurd c2 (nI_ge q (by omega)); rw [if_neg e2] at hQ; exact hQ) | (have e2 : g < x := Nat.lt_of_not_le (fun q => c2 (nI_le q (by omega))); rw [if_pos e2] at hQ; rw [show nI x - nI 1 = nI (x - 1) from pk_sub (by omega)]; exact hQ))
    · refine eg_iload_n dX1_renumbered_12 rfl rfl ?_
      refine eg_iconst dX1_renumbered_13 (v := nI 1) (by decide) ?_
      refine eg_isub dX1_renumbered_14 ?_
      refine eg_goto 19 dX1_renumbered_15 (by decide) ?_
      exact eg_iret rfl dX1_renumbered_19 (by have e : ¬ x = g := fun q => c (by rw [q]); unfold rn at hQ; rw [if_neg e] at hQ; first | (have e2 : ¬ g < x := fun q => absurd c2 (nI_ge q (by omega)); rw [if_neg e2] at hQ; exact hQ) | (have e2 : g < x := Nat.lt_of_not_le (fun q => c2 (nI_le q (by omega))); rw [if_pos e2] at hQ; rw [show nI x - nI 1 = nI (x - 1) from pk_sub (by omega)]; exact hQ))
  · refine eg_iload_n dX1_renumbered_5 rfl rfl ?_
    exact eg_iret rfl dX1_renumbered_6 (by have e : x = g := (nI_eq (by omega) (by omega)).mp c; unfold rn at hQ; rw [if_pos e] at hQ; exact hQ)
theorem lp_X1_copyFrom {l : Launch} {E : eg_E} {d kb nb : Nat} {Q : Option Value → eg_G → eg_I → Prop} {G : eg_G} {r u len : Nat} {M0 : eg_I} (hd : 1 ≤ d) (hs : sh_R G r) (hu : sh_R G u) (hru : u + 4 ≤ r ∨ r + 4 ≤ u) (hlen : len ≤ 12) (h3 : M0 u 3 = nI len) : ∀ (t s : Nat) (M : eg_I), s + t = len → ((∀ j, j < s → M (r + 1) j = M0 (u + 1) j ∧ M (r + 2) j = M0 (u + 2) j ∧ M (r + 3) j = M0 (u + 3) j) ∧ ∀ q, ¬ (r ≤ q ∧ q < r + 4) → M q = M0 q) → (∀ M', (M' r 3 = nI len ∧ M' r 4 = M0 u 4 ∧ (∀ j, j < len → M' (r + 1) j = M0 (u + 1) j ∧ M' (r + 2) j = M0 (u + 2) j ∧ M' (r + 3) j = M0 (u + 3) j) ∧ ∀ q, ¬ (r ≤ q ∧ q < r + 4) → M' q = M0 q) → Q none G M') → eg_J l E mX1_copyFrom d kb nb Q 2 [some (.ref r), some (.ref u), some (.int (nI s))] [] G M := by
  intro t
  induction t with
  | zero =>
    intro s M hst hi hQ
    obtain ⟨s0, s1, s2, s3, s4, s5, s6⟩ := id hs
    obtain ⟨u0, u1, u2, u3, u4, u5, u6⟩ := id hu
    have e3 : M u 3 = nI len := by rw [hi.2 u (by omega)]; exact h3
    refine eg_iload_n dX1_copyFrom_2 rfl rfl ?_
    refine eg_aload_n dX1_copyFrom_3 rfl rfl ?_
    refine eg_getI gf_RX1_21 rfl (by assumption) dX1_copyFrom_4 ?_
    refine eg_topi e3 ?_
    refine eg_icmp_ge 39 dX1_copyFrom_7 (by decide) (fun c7 => ?_) (fun c7 => absurd (nI_le (by omega) (by omega)) c7)
    refine eg_aload_n dX1_copyFrom_39 rfl rfl ?_
    refine eg_aload_n dX1_copyFrom_40 rfl rfl ?_
    refine eg_getI gf_RX1_21 rfl (by assumption) dX1_copyFrom_41 ?_
    refine eg_topi e3 ?_
    refine eg_putI gp_RX1_21 (fun q => by cases q) rfl rfl rfl (by assumption) dX1_copyFrom_44 ?_
    refine eg_aload_n dX1_copyFrom_47 rfl rfl ?_
    refine eg_aload_n dX1_copyFrom_48 rfl rfl ?_
    refine eg_getI gf_RX1_25 rfl (by assumption) dX1_copyFrom_49 ?_
    refine eg_putI gp_RX1_25 (fun q => by cases q) rfl rfl rfl (by assumption) dX1_copyFrom_52 ?_
    exact eg_vret rfl dX1_copyFrom_55 (hQ _ ⟨by rw [eg_set_j (by decide), eg_set_eq], by rw [eg_set_eq, eg_set_ne (show u ≠ r by omega), hi.2 u (by omega)], fun j hj => by
          rw [eg_set_ne (show r + 1 ≠ r by omega), eg_set_ne (show r + 1 ≠ r by omega), eg_set_ne (show r + 2 ≠ r by omega), eg_set_ne (show r + 2 ≠ r by omega), eg_set_ne (show r + 3 ≠ r by omega), eg_set_ne (show r + 3 ≠ r by omega)]
          exact hi.1 j (by omega), fun q hq => by
          rw [eg_set_ne (show q ≠ r by omega), eg_set_ne (show q ≠ r by omega)]
          exact hi.2 q hq⟩)
  | succ t ih =>
    intro s M hst hi hQ
    obtain ⟨s0, s1, s2, s3, s4, s5, s6⟩ := id hs
    obtain ⟨u0, u1, u2, u3, u4, u5, u6⟩ := id hu
    have e3 : M u 3 = nI len := by rw [hi.2 u (by omega)]; exact h3
    refine eg_iload_n dX1_copyFrom_2 rfl rfl ?_
    refine eg_aload_n dX1_copyFrom_3 rfl rfl ?_
    refine eg_getI gf_RX1_21 rfl (by assumption) dX1_copyFrom_4 ?_
    refine eg_topi e3 ?_
    refine eg_icmp_ge 39 dX1_copyFrom_7 (by decide) (fun c7 => absurd c7 (nI_ge (by omega) (by omega))) (fun c7 => ?_)
    refine eg_aload_n dX1_copyFrom_10 rfl rfl ?_
    refine eg_iload_n dX1_copyFrom_11 rfl rfl ?_
    refine eg_aload_n dX1_copyFrom_12 rfl rfl ?_
    refine eg_getR gf_RX1_9 rfl (by assumption) (by assumption) dX1_copyFrom_13 ?_
    refine eg_iload_n dX1_copyFrom_16 rfl rfl ?_
    refine eg_ialdN (by assumption) (by omega) (by decide) dX1_copyFrom_17 ?_
    refine eg_aload_n dX1_copyFrom_18 rfl rfl ?_
    refine eg_getR gf_RX1_15 rfl (by assumption) (by assumption) dX1_copyFrom_19 ?_
    refine eg_iload_n dX1_copyFrom_22 rfl rfl ?_
    refine eg_ialdN (by assumption) (by omega) (by decide) dX1_copyFrom_23 ?_
    refine eg_aload_n dX1_copyFrom_24 rfl rfl ?_
    refine eg_getR gf_RX1_18 rfl (by assumption) (by assumption) dX1_copyFrom_25 ?_
    refine eg_iload_n dX1_copyFrom_28 rfl rfl ?_
    refine eg_ialdN (by assumption) (by omega) (by decide) dX1_copyFrom_29 ?_
    refine eg_callV4 0 0 gk_X1_put gi_X1_put (by assumption) rfl gl_RX1_28 rfl (Nat.le_of_ble_eq_true rfl) (Nat.le_of_ble_eq_true rfl) (Nat.zero_le _) (Nat.zero_le _) (by omega) dX1_copyFrom_30 ?_
    refine sp_X1_put hs (by omega) ?_
    refine eg_iinc dX1_copyFrom_33 (by decide) rfl (eg_inc s) rfl ?_
    refine eg_goto 2 dX1_copyFrom_36 (by decide) ?_
    refine ih (s + 1) _ (by omega) ⟨fun j hj => ?_, fun q hq => ?_⟩ hQ
    · by_cases e : j = s
      · subst e
        refine ⟨?_, ?_, ?_⟩
        · rw [eg_set_ne (show r + 1 ≠ r + 3 by omega), eg_set_ne (show r + 1 ≠ r + 2 by omega), eg_set_eq, hi.2 (u + 1) (by omega)]
        · rw [eg_set_ne (show r + 2 ≠ r + 3 by omega), eg_set_eq, hi.2 (u + 2) (by omega)]
        · rw [eg_set_eq, hi.2 (u + 3) (by omega)]
      · rw [eg_set_jj e, eg_set_jj e, eg_set_jj e, eg_set_jj e, eg_set_jj e, eg_set_jj e, eg_set_jj e, eg_set_jj e, eg_set_jj e]
        exact hi.1 j (by omega)
    · rw [eg_set_ne (show q ≠ r + 3 by omega), eg_set_ne (show q ≠ r + 2 by omega), eg_set_ne (show q ≠ r + 1 by omega)]
      exact hi.2 q hq
theorem sp_X1_copyFrom {l : Launch} {E : eg_E} {d kb nb : Nat} {Q : Option Value → eg_G → eg_I → Prop} {G : eg_G} {M : eg_I} {r u len : Nat} (hd : 1 ≤ d) (hs : sh_R G r) (hu : sh_R G u) (hru : u + 4 ≤ r ∨ r + 4 ≤ u) (hlen : len ≤ 12) (h3 : M u 3 = nI len) (hQ : ∀ M', (M' r 3 = nI len ∧ M' r 4 = M u 4 ∧ (∀ j, j < len → M' (r + 1) j = M (u + 1) j ∧ M' (r + 2) j = M (u + 2) j ∧ M' (r + 3) j = M (u + 3) j) ∧ ∀ q, ¬ (r ≤ q ∧ q < r + 4) → M' q = M q) → Q none G M') : eg_J l E mX1_copyFrom d kb nb Q 0 [some (.ref r), some (.ref u), none] [] G M := by
  refine eg_iconst dX1_copyFrom_0 (v := nI 0) (by decide) ?_
  refine eg_istore_n dX1_copyFrom_1 rfl (by decide) rfl ?_
  exact lp_X1_copyFrom hd hs hu hru hlen h3 len 0 M (by omega) ⟨fun j hj => absurd hj (by omega), fun q _ => rfl⟩ hQ
theorem lp_X1_remove {l : Launch} {E : eg_E} {d kb nb : Nat} {Q : Option Value → eg_G → eg_I → Prop} {G : eg_G} {r k g t0 len res : Nat} {op lf rt : Nat → Nat} {M0 : eg_I} (hd : 1 ≤ d) (hs : sh_R G r) (hk : k < len) (hr : in_R M0 r len op lf rt res) (hb : ∀ j, j < len → lf j < 2 ^ 30 ∧ rt j < 2 ^ 30) (hg : g < 2 ^ 30) (hres : res < 2 ^ 30) : ∀ (t s : Nat) (M : eg_I) (l5 l6 : Option Value), s + t = len → k + 1 ≤ s → (M r = M0 r ∧ (∀ j, j < len → M (r + 1) j = nI (if k ≤ j ∧ j + 1 < s then op (j + 1) else op j) ∧ M (r + 2) j = nI (if k ≤ j ∧ j + 1 < s then rn (lf (j + 1)) g t0 else lf j) ∧ M (r + 3) j = nI (if k ≤ j ∧ j + 1 < s then rn (rt (j + 1)) g t0 else rt j)) ∧ ∀ q, ¬ (r ≤ q ∧ q < r + 4) → M q = M0 q) → (∀ M', (in_R M' r (len - 1) (cut_at op k) (cut_rn lf k g t0) (cut_rn rt k g t0) (rn res g t0) ∧ ∀ q, ¬ (r ≤ q ∧ q < r + 4) → M' q = M0 q) → Q none G M')  → eg_J l E mX1_remove d kb nb Q 5 [some (.ref r), some (.int (nI k)), some (.int (nI g)), some (.int (nI t0)), some (.int (nI s)), l5, l6] [] G M := by
  intro t
  induction t with
  | zero =>
    intro s M l5 l6 hst hks hi hQ
    obtain ⟨s0, s1, s2, s3, s4, s5, s6⟩ := id hs
    obtain ⟨r3, r4, rl, ra⟩ := id hr
    have e3 : M r 3 = nI len := by rw [hi.1]; exact r3
    have e4 : M r 4 = nI res := by rw [hi.1]; exact r4
    refine eg_iload dX1_remove_5 rfl ?_
    refine eg_aload_n dX1_remove_7 rfl rfl ?_
    refine eg_getI gf_RX1_21 rfl (by assumption) dX1_remove_8 ?_
    refine eg_topi e3 ?_
    refine eg_icmp_ge 67 dX1_remove_11 (by decide) (fun c11 => ?_) (fun c11 => absurd (nI_le (by omega) (by omega)) c11)
    refine eg_aload_n dX1_remove_67 rfl rfl ?_
    refine eg_dup dX1_remove_68 rfl ?_
    refine eg_getI gf_RX1_21 rfl (by assumption) dX1_remove_69 ?_
    refine eg_topi e3 ?_
    refine eg_iconst dX1_remove_72 (v := nI 1) (by decide) ?_
    refine eg_isub dX1_remove_73 ?_
    refine eg_topi (show nI len - nI 1 = nI (len - 1) from pk_sub (by omega)) ?_
    refine eg_putI gp_RX1_21 (fun q => by cases q) rfl rfl rfl (by assumption) dX1_remove_74 ?_
    refine eg_aload_n dX1_remove_77 rfl rfl ?_
    refine eg_aload_n dX1_remove_78 rfl rfl ?_
    refine eg_getI gf_RX1_25 rfl (by assumption) dX1_remove_79 ?_
    refine eg_topi (show _ = nI res by rw [eg_set_j (by decide)]; exact e4) ?_
    refine eg_iload_n dX1_remove_82 rfl rfl ?_
    refine eg_iload_n dX1_remove_83 rfl rfl ?_
    refine eg_callS3 0 0 gk_X1_renumbered gi_X1_renumbered gl_RX1_32 rfl (Nat.le_of_ble_eq_true rfl) (Nat.le_of_ble_eq_true rfl) (Nat.zero_le _) (Nat.zero_le _) (by omega) dX1_remove_84 ?_
    refine sp_X1_renumbered (by omega) (by omega) ?_
    refine eg_putI gp_RX1_25 (fun q => by cases q) rfl rfl rfl (by assumption) dX1_remove_87 ?_
    exact eg_vret rfl dX1_remove_90 (hQ _ ⟨⟨by rw [eg_set_j (by decide), eg_set_eq], by rw [eg_set_eq], by omega, fun j hj => by
            rw [eg_set_ne (show r + 1 ≠ r by omega), eg_set_ne (show r + 1 ≠ r by omega), eg_set_ne (show r + 2 ≠ r by omega), eg_set_ne (show r + 2 ≠ r by omega), eg_set_ne (show r + 3 ≠ r by omega), eg_set_ne (show r + 3 ≠ r by omega)]
            have q := hi.2.1 j (by omega)
            unfold cut_at cut_rn
            by_cases e : j < k
            · rw [if_neg (by omega), if_neg (by omega), if_neg (by omega)] at q
              rw [if_pos e, if_pos e, if_pos e]
              exact q
            · rw [if_pos (by omega), if_pos (by omega), if_pos (by omega)] at q
              rw [if_neg e, if_neg e, if_neg e]
              exact q⟩, fun q hq => by
            rw [eg_set_ne (show q ≠ r by omega), eg_set_ne (show q ≠ r by omega)]
            exact hi.2.2 q hq⟩)
  | succ t ih =>
    intro s M l5 l6 hst hks hi hQ
    obtain ⟨s0, s1, s2, s3, s4, s5, s6⟩ := id hs
    obtain ⟨r3, r4, rl, ra⟩ := id hr
    have e3 : M r 3 = nI len := by rw [hi.1]; exact r3
    have e4 : M r 4 = nI res := by rw [hi.1]; exact r4
    refine eg_iload dX1_remove_5 rfl ?_
    refine eg_aload_n dX1_remove_7 rfl rfl ?_
    refine eg_getI gf_RX1_21 rfl (by assumption) dX1_remove_8 ?_
    refine eg_topi e3 ?_
    refine eg_icmp_ge 67 dX1_remove_11 (by decide) (fun c11 => absurd c11 (nI_ge (by omega) (by omega))) (fun c11 => ?_)
    refine eg_aload_n dX1_remove_14 rfl rfl ?_
    refine eg_getR gf_RX1_15 rfl (by assumption) (by assumption) dX1_remove_15 ?_
    refine eg_iload dX1_remove_18 rfl ?_
    refine eg_ialdN (by assumption) (by omega) (by decide) dX1_remove_20 ?_
    refine eg_topi (show _ = nI (lf s) by rw [(hi.2.1 s (by omega)).2.1, if_neg (by omega)]) ?_
    refine eg_iload_n dX1_remove_21 rfl rfl ?_
    refine eg_iload_n dX1_remove_22 rfl rfl ?_
    refine eg_callS3 0 0 gk_X1_renumbered gi_X1_renumbered gl_RX1_32 rfl (Nat.le_of_ble_eq_true rfl) (Nat.le_of_ble_eq_true rfl) (Nat.zero_le _) (Nat.zero_le _) (by omega) dX1_remove_23 ?_
    refine sp_X1_renumbered (hb s (by omega)).1 hg ?_
    refine eg_istore dX1_remove_26 (by decide) rfl ?_
    refine eg_aload_n dX1_remove_28 rfl rfl ?_
    refine eg_getR gf_RX1_18 rfl (by assumption) (by assumption) dX1_remove_29 ?_
    refine eg_iload dX1_remove_32 rfl ?_
    refine eg_ialdN (by assumption) (by omega) (by decide) dX1_remove_34 ?_
    refine eg_topi (show _ = nI (rt s) by rw [(hi.2.1 s (by omega)).2.2, if_neg (by omega)]) ?_
    refine eg_iload_n dX1_remove_35 rfl rfl ?_
    refine eg_iload_n dX1_remove_36 rfl rfl ?_
    refine eg_callS3 0 0 gk_X1_renumbered gi_X1_renumbered gl_RX1_32 rfl (Nat.le_of_ble_eq_true rfl) (Nat.le_of_ble_eq_true rfl) (Nat.zero_le _) (Nat.zero_le _) (by omega) dX1_remove_37 ?_
    refine sp_X1_renumbered (hb s (by omega)).2 hg ?_
    refine eg_istore dX1_remove_40 (by decide) rfl ?_
    refine eg_aload_n dX1_remove_42 rfl rfl ?_
    refine eg_iload dX1_remove_43 rfl ?_
    refine eg_iconst dX1_remove_45 (v := nI 1) (by decide) ?_
    refine eg_isub dX1_remove_46 ?_
    refine eg_topi (show nI s - nI 1 = nI (s - 1) from pk_sub (by omega)) ?_
    refine eg_aload_n dX1_remove_47 rfl rfl ?_
    refine eg_getR gf_RX1_9 rfl (by assumption) (by assumption) dX1_remove_48 ?_
    refine eg_iload dX1_remove_51 rfl ?_
    refine eg_ialdN (by assumption) (by omega) (by decide) dX1_remove_53 ?_
    refine eg_topi (show _ = nI (op s) by rw [(hi.2.1 s (by omega)).1, if_neg (by omega)]) ?_
    refine eg_iload dX1_remove_54 rfl ?_
    refine eg_iload dX1_remove_56 rfl ?_
    refine eg_callV4 0 0 gk_X1_put gi_X1_put (by assumption) rfl gl_RX1_28 rfl (Nat.le_of_ble_eq_true rfl) (Nat.le_of_ble_eq_true rfl) (Nat.zero_le _) (Nat.zero_le _) (by omega) dX1_remove_58 ?_
    refine sp_X1_put hs (by omega) ?_
    refine eg_iinc dX1_remove_61 (by decide) rfl (eg_inc s) rfl ?_
    refine eg_goto 5 dX1_remove_64 (by decide) ?_
    refine ih (s + 1) _ _ _ (by omega) (by omega) ⟨?_, fun j hj => ?_, fun q hq => ?_⟩  hQ
    · rw [eg_set_ne (show r ≠ r + 3 by omega), eg_set_ne (show r ≠ r + 2 by omega), eg_set_ne (show r ≠ r + 1 by omega)]
      exact hi.1
    · have q := hi.2.1 j hj
      by_cases e : j = s - 1
      · subst e
        rw [eg_set_ne (show r + 1 ≠ r + 3 by omega), eg_set_ne (show r + 1 ≠ r + 2 by omega), eg_set_eq, eg_set_ne (show r + 2 ≠ r + 3 by omega), eg_set_eq, eg_set_eq, show s - 1 + 1 = s by omega, if_pos (by omega), if_pos (by omega), if_pos (by omega)]
        exact ⟨rfl, rfl, rfl⟩
      · rw [eg_set_jj e, eg_set_jj e, eg_set_jj e, eg_set_jj e, eg_set_jj e, eg_set_jj e, eg_set_jj e, eg_set_jj e, eg_set_jj e]
        have hq : (k ≤ j ∧ j + 1 < s + 1) ↔ (k ≤ j ∧ j + 1 < s) := by omega
        simp only [hq]
        exact q
    · rw [eg_set_ne (show q ≠ r + 3 by omega), eg_set_ne (show q ≠ r + 2 by omega), eg_set_ne (show q ≠ r + 1 by omega)]
      exact hi.2.2 q hq
theorem sp_X1_remove {l : Launch} {E : eg_E} {d kb nb : Nat} {Q : Option Value → eg_G → eg_I → Prop} {G : eg_G} {M : eg_I} {r k g t0 len res : Nat} {op lf rt : Nat → Nat} (hd : 1 ≤ d) (hs : sh_R G r) (hk : k < len) (hr : in_R M r len op lf rt res) (hb : ∀ j, j < len → lf j < 2 ^ 30 ∧ rt j < 2 ^ 30) (hg : g < 2 ^ 30) (hres : res < 2 ^ 30) (hQ : ∀ M', (in_R M' r (len - 1) (cut_at op k) (cut_rn lf k g t0) (cut_rn rt k g t0) (rn res g t0) ∧ ∀ q, ¬ (r ≤ q ∧ q < r + 4) → M' q = M q) → Q none G M') : eg_J l E mX1_remove d kb nb Q 0 [some (.ref r), some (.int (nI k)), some (.int (nI g)), some (.int (nI t0)), none, none, none] [] G M := by
  obtain ⟨r3, r4, rl, ra⟩ := id hr
  refine eg_iload_n dX1_remove_0 rfl rfl ?_
  refine eg_iconst dX1_remove_1 (v := nI 1) (by decide) ?_
  refine eg_iadd dX1_remove_2 ?_
  refine eg_topi (nI_add k 1) ?_
  refine eg_istore dX1_remove_3 (by decide) rfl ?_
  exact lp_X1_remove hd hs hk hr hb hg hres (len - (k + 1)) (k + 1) M _ _ (by omega) (by omega) ⟨rfl, fun j hj => by rw [if_neg (by omega), if_neg (by omega), if_neg (by omega)]; exact ra j hj, fun q _ => rfl⟩ hQ
theorem lp_X2_appendConstant {l : Launch} {E : eg_E} {d kb nb : Nat} {Q : Option Value → eg_G → eg_I → Prop} {G : eg_G} {v w n k : Nat} {c : Int32} (hs : sh_V G v) : ∀ (t s : Nat) (M : eg_I), in_V M v w n k → s + t = 2 ^ (w * n) → Q none G (eg_set (eg_fl M (v + 2 + (n + k)) s (2 ^ (w * n)) (fun _ => c)) v 4 (nI (k + 1))) → eg_J l E mX2_appendConstant d kb nb Q 12 [some (.ref v), some (.int c), some (.ref (v + 2 + (n + k))), some (.int (nI s))] [] G M := by
  intro t
  induction t with
  | zero =>
    intro s M h hst hQ
    obtain ⟨hs1, hs2, hs3, hs4⟩ := id hs
    obtain ⟨h1, h2, h3, h4, h5, hw1, hw4, hn1, hn2, hk4⟩ := id h
    have hA := wd_asg hw4 hn2
    refine eg_iload_n dX2_appendConstant_12 rfl rfl ?_
    refine eg_aload_n dX2_appendConstant_13 rfl rfl ?_
    refine eg_getI gf_RX2_26 rfl (by assumption) dX2_appendConstant_14 ?_
    refine eg_topi h5 ?_
    refine eg_icmp_ge 30 dX2_appendConstant_17 (by decide) (fun c17 => ?_) (fun c17 => absurd (nI_le (by omega) (by omega)) c17)
    refine eg_aload_n dX2_appendConstant_30 rfl rfl ?_
    refine eg_dup dX2_appendConstant_31 rfl ?_
    refine eg_getI gf_RX2_29 rfl (by assumption) dX2_appendConstant_32 ?_
    refine eg_topi h4 ?_
    refine eg_iconst dX2_appendConstant_35 (v := nI 1) (by decide) ?_
    refine eg_iadd dX2_appendConstant_36 ?_
    refine eg_topi (nI_add k 1) ?_
    refine eg_putI gp_RX2_29 (fun q => by cases q) rfl rfl rfl (by assumption) dX2_appendConstant_37 ?_
    exact eg_vret rfl dX2_appendConstant_40 (by rw [eg_fl_0 (by omega)] at hQ; exact hQ)
  | succ t ih =>
    intro s M h hst hQ
    obtain ⟨hs1, hs2, hs3, hs4⟩ := id hs
    obtain ⟨h1, h2, h3, h4, h5, hw1, hw4, hn1, hn2, hk4⟩ := id h
    have hA := wd_asg hw4 hn2
    refine eg_iload_n dX2_appendConstant_12 rfl rfl ?_
    refine eg_aload_n dX2_appendConstant_13 rfl rfl ?_
    refine eg_getI gf_RX2_26 rfl (by assumption) dX2_appendConstant_14 ?_
    refine eg_topi h5 ?_
    refine eg_icmp_ge 30 dX2_appendConstant_17 (by decide) (fun c17 => absurd c17 (nI_ge (by omega) (by omega))) (fun c17 => ?_)
    refine eg_aload_n dX2_appendConstant_20 rfl rfl ?_
    refine eg_iload_n dX2_appendConstant_21 rfl rfl ?_
    refine eg_iload_n dX2_appendConstant_22 rfl rfl ?_
    refine eg_iastN (hs4 (n + k) (by omega)).2 (by omega) (by decide) dX2_appendConstant_23 ?_
    refine eg_iinc dX2_appendConstant_24 (by decide) rfl (eg_inc s) rfl ?_
    refine eg_goto 12 dX2_appendConstant_27 (by decide) ?_
    exact ih (s + 1) _ (h.eq (eg_set_ne (by omega))) (by omega) (eg_fl_q (P := fun z => Q none G (eg_set z v 4 (nI (k + 1)))) (f := fun _ => c) (by omega) (fun j g1 _ => rfl) hQ)
theorem sp_X2_appendConstant {l : Launch} {E : eg_E} {d kb nb : Nat} {Q : Option Value → eg_G → eg_I → Prop} {G : eg_G} {M : eg_I} {v w n k : Nat} {c : Int32} (hd : 1 ≤ d) (hs : sh_V G v) (h : in_V M v w n k) (hQ : Q none G (eg_set (eg_fl M (v + 2 + (n + k)) 0 (2 ^ (w * n)) (fun _ => c)) v 4 (nI (k + 1)))) : eg_J l E mX2_appendConstant d kb nb Q 0 [some (.ref v), some (.int c), none, none] [] G M := by
  obtain ⟨hs1, hs2, hs3, hs4⟩ := id hs
  obtain ⟨h1, h2, h3, h4, h5, hw1, hw4, hn1, hn2, hk4⟩ := id h
  refine eg_aload_n dX2_appendConstant_0 rfl rfl ?_
  refine eg_getR gf_RX2_11 rfl (by assumption) (by assumption) dX2_appendConstant_1 ?_
  refine eg_aload_n dX2_appendConstant_4 rfl rfl ?_
  refine eg_callV0 0 0 gk_X2_given gi_X2_given (by assumption) rfl gl_RX2_32 rfl (Nat.le_of_ble_eq_true rfl) (Nat.le_of_ble_eq_true rfl) (Nat.zero_le _) (Nat.zero_le _) (by omega) dX2_appendConstant_5 ?_
  refine sp_X2_given hs1 h ?_
  refine eg_aaldN rfl (by assumption) (by omega) (by decide) (hs4 (n + k) (by omega)).1 dX2_appendConstant_8 ?_
  refine eg_astore_n dX2_appendConstant_9 rfl (by decide) rfl ?_
  refine eg_iconst dX2_appendConstant_10 (v := nI 0) (by decide) ?_
  refine eg_istore_n dX2_appendConstant_11 rfl (by decide) rfl ?_
  exact lp_X2_appendConstant hs (2 ^ (w * n)) 0 M h (by omega) hQ
theorem lp_X2_setInputs1 {l : Launch} {E : eg_E} {d kb nb : Nat} {Q : Option Value → eg_G → eg_I → Prop} {G : eg_G} {v w n k u : Nat} (hs : sh_V G v) (hu : u < n) : ∀ (t s : Nat) (M : eg_I), in_V M v w n k → s + t = 2 ^ (w * n) → eg_J l E mX2_setInputs d kb nb Q 78 [some (.ref v), some (.int (nI w)), some (.int (nI n)), some (.int (nI u)), some (.int (nI (2 ^ (w * n))))] [] G (eg_fl M (v + 2 + u) s (2 ^ (w * n)) (wd_in w u)) → eg_J l E mX2_setInputs d kb nb Q 43 [some (.ref v), some (.int (nI w)), some (.int (nI n)), some (.int (nI u)), some (.int (nI s))] [] G M := by
  intro t
  induction t with
  | zero =>
    intro s M h hst hQ
    obtain ⟨hs1, hs2, hs3, hs4⟩ := id hs
    obtain ⟨h1, h2, h3, h4, h5, hw1, hw4, hn1, hn2, hk4⟩ := id h
    have hA := wd_asg hw4 hn2
    refine eg_iload dX2_setInputs_43 rfl ?_
    refine eg_aload_n dX2_setInputs_45 rfl rfl ?_
    refine eg_getI gf_RX2_26 rfl (by assumption) dX2_setInputs_46 ?_
    refine eg_topi h5 ?_
    refine eg_icmp_ge 78 dX2_setInputs_49 (by decide) (fun c49 => ?_) (fun c49 => absurd (nI_le (by omega) (by omega)) c49)
    have e : s = 2 ^ (w * n) := by omega
    subst e
    rw [eg_fl_0 (by omega)] at hQ
    exact hQ
  | succ t ih =>
    intro s M h hst hQ
    obtain ⟨hs1, hs2, hs3, hs4⟩ := id hs
    obtain ⟨h1, h2, h3, h4, h5, hw1, hw4, hn1, hn2, hk4⟩ := id h
    have hA := wd_asg hw4 hn2
    refine eg_iload dX2_setInputs_43 rfl ?_
    refine eg_aload_n dX2_setInputs_45 rfl rfl ?_
    refine eg_getI gf_RX2_26 rfl (by assumption) dX2_setInputs_46 ?_
    refine eg_topi h5 ?_
    refine eg_icmp_ge 78 dX2_setInputs_49 (by decide) (fun c49 => absurd c49 (nI_ge (by omega) (by omega))) (fun c49 => ?_)
    refine eg_aload_n dX2_setInputs_52 rfl rfl ?_
    refine eg_getR gf_RX2_11 rfl (by assumption) (by assumption) dX2_setInputs_53 ?_
    refine eg_iload_n dX2_setInputs_56 rfl rfl ?_
    refine eg_aaldN rfl (by assumption) (by omega) (by decide) (hs4 u (by omega)).1 dX2_setInputs_57 ?_
    refine eg_iload dX2_setInputs_58 rfl ?_
    refine eg_iload dX2_setInputs_60 rfl ?_
    refine eg_iload_n dX2_setInputs_62 rfl rfl ?_
    refine eg_iload_n dX2_setInputs_63 rfl rfl ?_
    refine eg_imul dX2_setInputs_64 ?_
    refine eg_ishr dX2_setInputs_65 ?_
    refine eg_aload_n dX2_setInputs_66 rfl rfl ?_
    refine eg_getI gf_RX2_20 rfl (by assumption) dX2_setInputs_67 ?_
    refine eg_topi h2 ?_
    refine eg_iand dX2_setInputs_70 ?_
    refine eg_iastN (hs4 u (by omega)).2 (by omega) (by decide) dX2_setInputs_71 ?_
    refine eg_iinc dX2_setInputs_72 (by decide) rfl (eg_inc s) rfl ?_
    refine eg_goto 43 dX2_setInputs_75 (by decide) ?_
    exact ih (s + 1) _ (h.eq (eg_set_ne (by omega))) (by omega) (eg_fl_q (P := fun z => eg_J l E mX2_setInputs d kb nb Q 78 [some (.ref v), some (.int (nI w)), some (.int (nI n)), some (.int (nI u)), some (.int (nI (2 ^ (w * n))))] [] G z) (f := wd_in w u) (by omega) (fun j g1 _ => rfl) hQ)
theorem lp_X2_setInputs {l : Launch} {E : eg_E} {d kb nb : Nat} {Q : Option Value → eg_G → eg_I → Prop} {G : eg_G} {v w n : Nat} {M0 : eg_I} (hs : sh_V G v) : ∀ (t s : Nat) (M : eg_I) (l4 : Option Value), in_V M v w n 0 → s + t = n → ((∀ u z, u < s → z < 2 ^ (w * n) → M (v + 2 + u) z = wd_in w u z) ∧ ∀ q, q ≠ v → ¬ (v + 2 ≤ q ∧ q < v + 2 + n) → M q = M0 q) → (∀ M', (in_V M' v w n 0 ∧ (∀ u s, u < n → s < 2 ^ (w * n) → M' (v + 2 + u) s = wd_in w u s) ∧ ∀ q, q ≠ v → ¬ (v + 2 ≤ q ∧ q < v + 2 + n) → M' q = M0 q) → Q none G M') → eg_J l E mX2_setInputs d kb nb Q 35 [some (.ref v), some (.int (nI w)), some (.int (nI n)), some (.int (nI s)), l4] [] G M := by
  intro t
  induction t with
  | zero =>
    intro s M l4 h hst hi hQ
    obtain ⟨hs1, hs2, hs3, hs4⟩ := id hs
    obtain ⟨h1, h2, h3, h4, h5, hw1, hw4, hn1, hn2, hk4⟩ := id h
    have hA := wd_asg hw4 hn2
    refine eg_iload_n dX2_setInputs_35 rfl rfl ?_
    refine eg_iload_n dX2_setInputs_36 rfl rfl ?_
    refine eg_icmp_ge 84 dX2_setInputs_37 (by decide) (fun c37 => ?_) (fun c37 => absurd (nI_le (by omega) (by omega)) c37)
    exact eg_vret rfl dX2_setInputs_84 (hQ M ⟨h, fun u s g1 g2 => hi.1 u s (by omega) g2, hi.2⟩)
  | succ t ih =>
    intro s M l4 h hst hi hQ
    obtain ⟨hs1, hs2, hs3, hs4⟩ := id hs
    obtain ⟨h1, h2, h3, h4, h5, hw1, hw4, hn1, hn2, hk4⟩ := id h
    have hA := wd_asg hw4 hn2
    refine eg_iload_n dX2_setInputs_35 rfl rfl ?_
    refine eg_iload_n dX2_setInputs_36 rfl rfl ?_
    refine eg_icmp_ge 84 dX2_setInputs_37 (by decide) (fun c37 => absurd c37 (nI_ge (by omega) (by omega))) (fun c37 => ?_)
    refine eg_iconst dX2_setInputs_40 (v := nI 0) (by decide) ?_
    refine eg_istore dX2_setInputs_41 (by decide) rfl ?_
    refine lp_X2_setInputs1 (k := 0) hs (by omega) (2 ^ (w * n)) 0 M h (by omega) ?_
    refine eg_iinc dX2_setInputs_78 (by decide) rfl (eg_inc s) rfl ?_
    refine eg_goto 35 dX2_setInputs_81 (by decide) ?_
    refine ih (s + 1) _ _ (h.eq (eg_fl_ne (by omega))) (by omega) ⟨fun u z g1 g2 => ?_, fun q g1 g2 => ?_⟩ hQ
    · by_cases e : u = s
      · subst e
        exact eg_fl_in (by omega) g2
      · rw [eg_fl_ne (by omega)]
        exact hi.1 u z (by omega) g2
    · rw [eg_fl_ne (by omega)]
      exact hi.2 q g1 g2
theorem sp_X2_setInputs {l : Launch} {E : eg_E} {d kb nb : Nat} {Q : Option Value → eg_G → eg_I → Prop} {G : eg_G} {M : eg_I} {v w n : Nat} (hs : sh_V G v) (hw1 : 1 ≤ w) (hw4 : w ≤ 4) (hn1 : 1 ≤ n) (hn2 : n ≤ 2) (hQ : ∀ M', (in_V M' v w n 0 ∧ (∀ u s, u < n → s < 2 ^ (w * n) → M' (v + 2 + u) s = wd_in w u s) ∧ ∀ q, q ≠ v → ¬ (v + 2 ≤ q ∧ q < v + 2 + n) → M' q = M q) → Q none G M') : eg_J l E mX2_setInputs d kb nb Q 0 [some (.ref v), some (.int (nI w)), some (.int (nI n)), none, none] [] G M := by
  obtain ⟨hs1, hs2, hs3, hs4⟩ := id hs
  refine eg_aload_n dX2_setInputs_0 rfl rfl ?_
  refine eg_iload_n dX2_setInputs_1 rfl rfl ?_
  refine eg_putI gp_RX2_16 (fun q => by cases q) rfl rfl rfl (by assumption) dX2_setInputs_2 ?_
  refine eg_aload_n dX2_setInputs_5 rfl rfl ?_
  refine eg_iconst dX2_setInputs_6 (v := nI 1) (by decide) ?_
  refine eg_iload_n dX2_setInputs_7 rfl rfl ?_
  refine eg_ishl dX2_setInputs_8 ?_
  refine eg_iconst dX2_setInputs_9 (v := nI 1) (by decide) ?_
  refine eg_isub dX2_setInputs_10 ?_
  refine eg_topi (wd_m w hw1 hw4) ?_
  refine eg_putI gp_RX2_20 (fun q => by cases q) rfl rfl rfl (by assumption) dX2_setInputs_11 ?_
  refine eg_aload_n dX2_setInputs_14 rfl rfl ?_
  refine eg_iload_n dX2_setInputs_15 rfl rfl ?_
  refine eg_putI gp_RX2_23 (fun q => by cases q) rfl rfl rfl (by assumption) dX2_setInputs_16 ?_
  refine eg_aload_n dX2_setInputs_19 rfl rfl ?_
  refine eg_iconst dX2_setInputs_20 (v := nI 0) (by decide) ?_
  refine eg_putI gp_RX2_29 (fun q => by cases q) rfl rfl rfl (by assumption) dX2_setInputs_21 ?_
  refine eg_aload_n dX2_setInputs_24 rfl rfl ?_
  refine eg_iconst dX2_setInputs_25 (v := nI 1) (by decide) ?_
  refine eg_iload_n dX2_setInputs_26 rfl rfl ?_
  refine eg_iload_n dX2_setInputs_27 rfl rfl ?_
  refine eg_imul dX2_setInputs_28 ?_
  refine eg_ishl dX2_setInputs_29 ?_
  refine eg_topi (wd_a w n hw1 hw4 hn1 hn2) ?_
  refine eg_putI gp_RX2_26 (fun q => by cases q) rfl rfl rfl (by assumption) dX2_setInputs_30 ?_
  refine eg_iconst dX2_setInputs_33 (v := nI 0) (by decide) ?_
  refine eg_istore_n dX2_setInputs_34 rfl (by decide) rfl ?_
  refine lp_X2_setInputs (M0 := M) hs n 0 _ _ ⟨?_, ?_, ?_, ?_, ?_, hw1, hw4, hn1, hn2, by omega⟩ (by omega) ⟨fun u z g1 => absurd g1 (by omega), fun q g1 g2 => ?_⟩ hQ
  · rw [eg_set_j (by decide), eg_set_j (by decide), eg_set_j (by decide), eg_set_j (by decide), eg_set_eq]
  · rw [eg_set_j (by decide), eg_set_j (by decide), eg_set_j (by decide), eg_set_eq]
  · rw [eg_set_j (by decide), eg_set_j (by decide), eg_set_eq]
  · rw [eg_set_j (by decide), eg_set_eq]
  · rw [eg_set_eq]
  · rw [eg_set_ne g1, eg_set_ne g1, eg_set_ne g1, eg_set_ne g1, eg_set_ne g1]
end
section
/-! ShortestCode$Hunt: its state, and its methods -/
def hu_C (M : eg_I) (h w n k : Nat) (co : Nat → Nat) (tg : Nat → Int32) (L : Nat) (al : Bool) : Prop := in_V M (h + 3) w n k ∧ (∀ o, o < 13 → M (h + 1) o = nI (co o) ∧ co o ≤ 9) ∧ (∀ s, s < 2 ^ (w * n) → M (h + 2) s = tg s) ∧ M h 5 = nI L ∧ M h 6 = (if al = true then 1 else 0) ∧ L ≤ 30000
def hu_S (M : eg_I) (h g L : Nat) (σ : ss_S) : Prop := M h 7 = (if σ.2.2.1 = true then 1 else 0) ∧ M h 8 = nI σ.1 ∧ M h 10 = nI σ.2.1 ∧ (0 < σ.2.1 → in_R M (h + 27) σ.2.2.2.1 σ.2.2.2.2.1 σ.2.2.2.2.2.1 σ.2.2.2.2.2.2 (g + σ.2.2.2.1 - 1)) ∧ σ.2.1 ≤ σ.1 ∧ σ.1 ≤ L
def hu_P (M : eg_I) (h A g p : Nat) (ro ra rb : Nat → Nat) (V : Nat → Nat → Int32) : Prop := (∀ u s, u < g + p → s < A → M (h + 3 + 2 + u) s = V u s) ∧ ∀ j, j < p → M (h + 23 + 1) j = nI (ro j) ∧ M (h + 23 + 2) j = nI (ra j) ∧ M (h + 23 + 3) j = nI (rb j)
def hu_F (M M' : eg_I) (h : Nat) : Prop := (∀ q, ¬ (h ≤ q ∧ q < h + 31) → M' q = M q) ∧ (∀ q, h + 1 ≤ q → q ≤ h + 4 → M' q = M q) ∧ ∀ j, j ≠ 7 → j ≠ 8 → j ≠ 10 → M' h j = M h j
theorem hu_F.rf {M : eg_I} {h : Nat} : hu_F M M h := ⟨fun _ _ => rfl, fun _ _ _ => rfl, fun _ _ _ _ => rfl⟩
theorem hu_F.tr {M M' M2 : eg_I} {h : Nat} (a : hu_F M M' h) (b : hu_F M' M2 h) : hu_F M M2 h := ⟨fun q g => (b.1 q g).trans (a.1 q g), fun q g1 g2 => (b.2.1 q g1 g2).trans (a.2.1 q g1 g2), fun j g1 g2 g3 => (b.2.2 j g1 g2 g3).trans (a.2.2 j g1 g2 g3)⟩
theorem hu_C.fr {M M' : eg_I} {h w n k : Nat} {co : Nat → Nat} {tg : Nat → Int32} {L : Nat} {al : Bool} (c : hu_C M h w n k co tg L al) (f : hu_F M M' h) : hu_C M' h w n k co tg L al := by
  obtain ⟨c1, c2, c3, c4, c5, c6⟩ := c
  refine ⟨c1.eq (f.2.1 _ (by omega) (by omega)), fun o ho => ?_, fun s hs => ?_, ?_, ?_, c6⟩
  · rw [f.2.1 (h + 1) (by omega) (by omega)]; exact c2 o ho
  · rw [f.2.1 (h + 2) (by omega) (by omega)]; exact c3 s hs
  · rw [f.2.2 5 (by decide) (by decide) (by decide)]; exact c4
  · rw [f.2.2 6 (by decide) (by decide) (by decide)]; exact c5
theorem hu_P.dn {M : eg_I} {h A g p o a b : Nat} {ro ra rb : Nat → Nat} {V : Nat → Nat → Int32} {x : Nat → Int32} (c : hu_P M h A g (p + 1) (ss_up ro p o) (ss_up ra p a) (ss_up rb p b) (ss_up V (g + p) x)) : hu_P M h A g p ro ra rb V := by
  refine ⟨fun u s hu hs => ?_, fun j hj => ?_⟩
  · have := c.1 u s (by omega) hs
    unfold ss_up at this
    rw [if_neg (by omega)] at this
    exact this
  · have := c.2 j (by omega)
    unfold ss_up at this
    rw [if_neg (by omega), if_neg (by omega), if_neg (by omega)] at this
    exact this
/-- the cells that a state of the search reads have not changed -/
theorem hu_S.eq {M M' : eg_I} {h g L : Nat} {σ : ss_S} (c : hu_S M h g L σ) (e0 : M' h = M h) (e : ∀ q, h + 27 ≤ q → q < h + 31 → M' q = M q) : hu_S M' h g L σ := by
  obtain ⟨c1, c2, c3, c4, c5⟩ := c
  refine ⟨by rw [e0]; exact c1, by rw [e0]; exact c2, by rw [e0]; exact c3, fun q => (c4 q).eq (fun z z1 z2 => e z (by omega) (by omega)), c5⟩
theorem sp_X3_takesOne {l : Launch} {E : eg_E} {d kb nb : Nat} {Q : Option Value → eg_G → eg_I → Prop} {G : eg_G} {M : eg_I} {o : Nat} (ho : o < 13) (hT : o = 0 ∨ o = 1 → Q (some (.int 1)) G M) (hF : ¬ (o = 0 ∨ o = 1) → Q (some (.int 0)) G M) : eg_J l E mX3_takesOne d kb nb Q 0 [some (.int (nI o))] [] G M := by
  have k0 : nI o = 0 → o = 0 := fun q => (nI_eq (by omega) (by omega)).mp (q.trans nI_0.symm)
  have k1 : nI o = nI 1 → o = 1 := fun q => (nI_eq (by omega) (by omega)).mp q
  refine eg_iload_n dX3_takesOne_0 rfl rfl ?_
  refine eg_if_eq 9 dX3_takesOne_1 (by decide) (fun ca => ?_) (fun ca => ?_)
  · refine eg_iconst dX3_takesOne_9 (v := nI 1) (by decide) ?_
    refine eg_goto 14 dX3_takesOne_10 (by decide) ?_
    exact eg_zret rfl rfl dX3_takesOne_14 (by first | exact hT (Or.inl (k0 ca)) | exact hT (Or.inr (k1 cb)) | exact hF (fun q => q.elim (fun z => ca (by rw [z]; rfl)) (fun z => cb (by rw [z]))))
  · refine eg_iload_n dX3_takesOne_4 rfl rfl ?_
    refine eg_iconst dX3_takesOne_5 (v := nI 1) (by decide) ?_
    refine eg_icmp_ne 13 dX3_takesOne_6 (by decide) (fun cb => ?_) (fun cb => ?_)
    · refine eg_iconst dX3_takesOne_13 (v := nI 0) (by decide) ?_
      exact eg_zret rfl rfl dX3_takesOne_14 (by first | exact hT (Or.inl (k0 ca)) | exact hT (Or.inr (k1 cb)) | exact hF (fun q => q.elim (fun z => ca (by rw [z]; rfl)) (fun z => cb (by rw [z]))))
    · refine eg_iconst dX3_takesOne_9 (v := nI 1) (by decide) ?_
      refine eg_goto 14 dX3_takesOne_10 (by decide) ?_
      exact eg_zret rfl rfl dX3_takesOne_14 (by first | exact hT (Or.inl (k0 ca)) | exact hT (Or.inr (k1 cb)) | exact hF (fun q => q.elim (fun z => ca (by rw [z]; rfl)) (fun z => cb (by rw [z]))))
theorem sp_X3_isOrdered {l : Launch} {E : eg_E} {d kb nb : Nat} {Q : Option Value → eg_G → eg_I → Prop} {G : eg_G} {M : eg_I} {o : Nat} (ho : o < 13) (hT : (o = 2 ∨ o = 3 ∨ o = 4 ∨ o = 5 ∨ o = 7 ∨ o = 12) → Q (some (.int 1)) G M) (hF : ¬ (o = 2 ∨ o = 3 ∨ o = 4 ∨ o = 5 ∨ o = 7 ∨ o = 12) → Q (some (.int 0)) G M) : eg_J l E mX3_isOrdered d kb nb Q 0 [some (.int (nI o))] [] G M := by
  match o, ho with
  | 0, _ =>
    refine eg_iload_n dX3_isOrdered_0 rfl rfl ?_
    refine eg_tableOut 62 dX3_isOrdered_1 (by decide) (by decide) ?_
    refine eg_iconst dX3_isOrdered_62 (v := nI 0) (by decide) ?_
    exact eg_zret rfl rfl dX3_isOrdered_63 (hF (by decide))
  | 1, _ =>
    refine eg_iload_n dX3_isOrdered_0 rfl rfl ?_
    refine eg_tableOut 62 dX3_isOrdered_1 (by decide) (by decide) ?_
    refine eg_iconst dX3_isOrdered_62 (v := nI 0) (by decide) ?_
    exact eg_zret rfl rfl dX3_isOrdered_63 (hF (by decide))
  | 2, _ =>
    refine eg_iload_n dX3_isOrdered_0 rfl rfl ?_
    refine eg_tableIn 60 dX3_isOrdered_1 (by decide) (by decide) rfl (by decide) ?_
    refine eg_iconst dX3_isOrdered_60 (v := nI 1) (by decide) ?_
    exact eg_zret rfl rfl dX3_isOrdered_61 (hT (by decide))
  | 3, _ =>
    refine eg_iload_n dX3_isOrdered_0 rfl rfl ?_
    refine eg_tableIn 60 dX3_isOrdered_1 (by decide) (by decide) rfl (by decide) ?_
    refine eg_iconst dX3_isOrdered_60 (v := nI 1) (by decide) ?_
    exact eg_zret rfl rfl dX3_isOrdered_61 (hT (by decide))
  | 4, _ =>
    refine eg_iload_n dX3_isOrdered_0 rfl rfl ?_
    refine eg_tableIn 60 dX3_isOrdered_1 (by decide) (by decide) rfl (by decide) ?_
    refine eg_iconst dX3_isOrdered_60 (v := nI 1) (by decide) ?_
    exact eg_zret rfl rfl dX3_isOrdered_61 (hT (by decide))
  | 5, _ =>
    refine eg_iload_n dX3_isOrdered_0 rfl rfl ?_
    refine eg_tableIn 60 dX3_isOrdered_1 (by decide) (by decide) rfl (by decide) ?_
    refine eg_iconst dX3_isOrdered_60 (v := nI 1) (by decide) ?_
    exact eg_zret rfl rfl dX3_isOrdered_61 (hT (by decide))
  | 6, _ =>
    refine eg_iload_n dX3_isOrdered_0 rfl rfl ?_
    refine eg_tableIn 62 dX3_isOrdered_1 (by decide) (by decide) rfl (by decide) ?_
    refine eg_iconst dX3_isOrdered_62 (v := nI 0) (by decide) ?_
    exact eg_zret rfl rfl dX3_isOrdered_63 (hF (by decide))
  | 7, _ =>
    refine eg_iload_n dX3_isOrdered_0 rfl rfl ?_
    refine eg_tableIn 60 dX3_isOrdered_1 (by decide) (by decide) rfl (by decide) ?_
    refine eg_iconst dX3_isOrdered_60 (v := nI 1) (by decide) ?_
    exact eg_zret rfl rfl dX3_isOrdered_61 (hT (by decide))
  | 8, _ =>
    refine eg_iload_n dX3_isOrdered_0 rfl rfl ?_
    refine eg_tableIn 62 dX3_isOrdered_1 (by decide) (by decide) rfl (by decide) ?_
    refine eg_iconst dX3_isOrdered_62 (v := nI 0) (by decide) ?_
    exact eg_zret rfl rfl dX3_isOrdered_63 (hF (by decide))
  | 9, _ =>
    refine eg_iload_n dX3_isOrdered_0 rfl rfl ?_
    refine eg_tableIn 62 dX3_isOrdered_1 (by decide) (by decide) rfl (by decide) ?_
    refine eg_iconst dX3_isOrdered_62 (v := nI 0) (by decide) ?_
    exact eg_zret rfl rfl dX3_isOrdered_63 (hF (by decide))
  | 10, _ =>
    refine eg_iload_n dX3_isOrdered_0 rfl rfl ?_
    refine eg_tableIn 62 dX3_isOrdered_1 (by decide) (by decide) rfl (by decide) ?_
    refine eg_iconst dX3_isOrdered_62 (v := nI 0) (by decide) ?_
    exact eg_zret rfl rfl dX3_isOrdered_63 (hF (by decide))
  | 11, _ =>
    refine eg_iload_n dX3_isOrdered_0 rfl rfl ?_
    refine eg_tableIn 62 dX3_isOrdered_1 (by decide) (by decide) rfl (by decide) ?_
    refine eg_iconst dX3_isOrdered_62 (v := nI 0) (by decide) ?_
    exact eg_zret rfl rfl dX3_isOrdered_63 (hF (by decide))
  | 12, _ =>
    refine eg_iload_n dX3_isOrdered_0 rfl rfl ?_
    refine eg_tableIn 60 dX3_isOrdered_1 (by decide) (by decide) rfl (by decide) ?_
    refine eg_iconst dX3_isOrdered_60 (v := nI 1) (by decide) ?_
    exact eg_zret rfl rfl dX3_isOrdered_61 (hT (by decide))
  | o + 13, ho => exact absurd ho (by omega)
theorem sp_X3_isOperation {l : Launch} {E : eg_E} {d kb nb : Nat} {Q : Option Value → eg_G → eg_I → Prop} {G : eg_G} {M : eg_I} {x : Int32} (hT : ¬ x < 0 → ¬ nI 13 ≤ x → Q (some (.int 1)) G M) (hF : x < 0 ∨ nI 13 ≤ x → Q (some (.int 0)) G M) : eg_J l E mX3_isOperation d kb nb Q 0 [some (.int x)] [] G M := by
  refine eg_iload_n dX3_isOperation_0 rfl rfl ?_
  refine eg_if_lt 14 dX3_isOperation_1 (by decide) (fun ca => ?_) (fun ca => ?_)
  · refine eg_iconst dX3_isOperation_14 (v := nI 0) (by decide) ?_
    exact eg_zret rfl rfl dX3_isOperation_15 (by first | exact hT ca cb | exact hF (Or.inl ca) | exact hF (Or.inr cb))
  · refine eg_iload_n dX3_isOperation_4 rfl rfl ?_
    refine eg_bipush dX3_isOperation_5 (v := nI 13) (by decide) ?_
    refine eg_icmp_ge 14 dX3_isOperation_7 (by decide) (fun cb => ?_) (fun cb => ?_)
    · refine eg_iconst dX3_isOperation_14 (v := nI 0) (by decide) ?_
      exact eg_zret rfl rfl dX3_isOperation_15 (by first | exact hT ca cb | exact hF (Or.inl ca) | exact hF (Or.inr cb))
    · refine eg_iconst dX3_isOperation_10 (v := nI 1) (by decide) ?_
      refine eg_goto 15 dX3_isOperation_11 (by decide) ?_
      exact eg_zret rfl rfl dX3_isOperation_15 (by first | exact hT ca cb | exact hF (Or.inl ca) | exact hF (Or.inr cb))
theorem sp_X0_isOver {l : Launch} {E : eg_E} {d kb nb : Nat} {Q : Option Value → eg_G → eg_I → Prop} {G : eg_G} {M : eg_I} {h w n k L : Nat} {co : Nat → Nat} {tg : Nat → Int32} {al : Bool} {σ : ss_S} (hs : sh_H G h) (hc : hu_C M h w n k co tg L al) (hS : hu_S M h (n + k) L σ) (hT : ss_over al σ → Q (some (.int 1)) G M) (hF : ¬ ss_over al σ → Q (some (.int 0)) G M) : eg_J l E mX0_isOver d kb nb Q 0 [some (.ref h)] [] G M := by
  obtain ⟨g0, g1, g2, g3, g4, g5, gV, g6, gR, g7, gF⟩ := id hs
  obtain ⟨gv1, gv2, gv3, gv4⟩ := id gV
  obtain ⟨gr0, gr1, gr2, gr3, gr4, gr5, gr6⟩ := id gR
  obtain ⟨gf0, gf1, gf2, gf3, gf4, gf5, gf6⟩ := id gF
  obtain ⟨c1, c2, c3, c4, c5, c6⟩ := hc
  obtain ⟨e1, e2, e3, e4, e5, e6⟩ := hS
  have k7 : M h 7 = 0 → ¬ σ.2.2.1 = true := fun q z => by rw [e1, if_pos z] at q; exact absurd q (by decide)
  have k7' : ¬ M h 7 = 0 → σ.2.2.1 = true := fun q => Classical.byContradiction fun z => q (by rw [e1, if_neg z])
  have k10 : M h 10 ≤ 0 → ¬ 0 < σ.2.1 := fun q z => by rw [e3] at q; exact absurd q (nI_nle z (by omega))
  have k10' : ¬ M h 10 ≤ 0 → 0 < σ.2.1 := fun q => Nat.pos_of_ne_zero fun z => q (by rw [e3, z]; decide)
  have k6 : M h 6 = 0 → al = false := fun q => by cases al with | false => rfl | true => rw [c5, if_pos rfl] at q; exact absurd q (by decide)
  have k6' : ¬ M h 6 = 0 → ¬ al = false := fun q z => q (by rw [c5, z]; rfl)
  refine eg_aload_n dX0_isOver_0 rfl rfl ?_
  refine eg_getI gf_RX0_56 rfl (by assumption) dX0_isOver_1 ?_
  refine eg_if_ne 21 dX0_isOver_4 (by decide) (fun ca => ?_) (fun ca => ?_)
  · refine eg_iconst dX0_isOver_21 (v := nI 1) (by decide) ?_
    refine eg_goto 26 dX0_isOver_22 (by decide) ?_
    exact eg_zret rfl rfl dX0_isOver_26 (by first | exact hT (Or.inl (k7' ca)) | exact hT (Or.inr ⟨k10' cb, k6 cc⟩) | exact hF (fun q => q.elim (k7 ca) (fun z => k10 cb z.1)) | exact hF (fun q => q.elim (k7 ca) (fun z => k6' cc z.2)))
  · refine eg_aload_n dX0_isOver_7 rfl rfl ?_
    refine eg_getI gf_RX0_65 rfl (by assumption) dX0_isOver_8 ?_
    refine eg_if_le 25 dX0_isOver_11 (by decide) (fun cb => ?_) (fun cb => ?_)
    · refine eg_iconst dX0_isOver_25 (v := nI 0) (by decide) ?_
      exact eg_zret rfl rfl dX0_isOver_26 (by first | exact hT (Or.inl (k7' ca)) | exact hT (Or.inr ⟨k10' cb, k6 cc⟩) | exact hF (fun q => q.elim (k7 ca) (fun z => k10 cb z.1)) | exact hF (fun q => q.elim (k7 ca) (fun z => k6' cc z.2)))
    · refine eg_aload_n dX0_isOver_14 rfl rfl ?_
      refine eg_getI gf_RX0_52 rfl (by assumption) dX0_isOver_15 ?_
      refine eg_if_ne 25 dX0_isOver_18 (by decide) (fun cc => ?_) (fun cc => ?_)
      · refine eg_iconst dX0_isOver_25 (v := nI 0) (by decide) ?_
        exact eg_zret rfl rfl dX0_isOver_26 (by first | exact hT (Or.inl (k7' ca)) | exact hT (Or.inr ⟨k10' cb, k6 cc⟩) | exact hF (fun q => q.elim (k7 ca) (fun z => k10 cb z.1)) | exact hF (fun q => q.elim (k7 ca) (fun z => k6' cc z.2)))
      · refine eg_iconst dX0_isOver_21 (v := nI 1) (by decide) ?_
        refine eg_goto 26 dX0_isOver_22 (by decide) ?_
        exact eg_zret rfl rfl dX0_isOver_26 (by first | exact hT (Or.inl (k7' ca)) | exact hT (Or.inr ⟨k10' cb, k6 cc⟩) | exact hF (fun q => q.elim (k7 ca) (fun z => k10 cb z.1)) | exact hF (fun q => q.elim (k7 ca) (fun z => k6' cc z.2)))
theorem sp_X0_hit {l : Launch} {E : eg_E} {d kb nb : Nat} {Q : Option Value → eg_G → eg_I → Prop} {G : eg_G} {M : eg_I} {h A g L p : Nat} {σ : ss_S} {ro ra rb : Nat → Nat} {V : Nat → Nat → Int32} (hd : 2 ≤ d) (hs : sh_H G h) (hS : hu_S M h g L σ) (hP : hu_P M h A g (p + 1) ro ra rb V) (hp : p < 12) (hg : g ≤ 6) (hlt : σ.2.1 + 1 ≤ σ.1) (hL : L ≤ 30000) (hQ : ∀ M', hu_F M M' h → hu_P M' h A g (p + 1) ro ra rb V → hu_S M' h g L (ss_hit p ro ra rb σ) → Q none G M') : eg_J l E mX0_hit d kb nb Q 0 [some (.ref h), some (.int (nI p)), some (.int (nI (g + p)))] [] G M := by
  obtain ⟨g0, g1, g2, g3, g4, g5, gV, g6, gR, g7, gF⟩ := id hs
  obtain ⟨gv1, gv2, gv3, gv4⟩ := id gV
  obtain ⟨gr0, gr1, gr2, gr3, gr4, gr5, gr6⟩ := id gR
  obtain ⟨gf0, gf1, gf2, gf3, gf4, gf5, gf6⟩ := id gF
  obtain ⟨e1, e2, e3, e4, e5, e6⟩ := id hS
  refine eg_aload_n dX0_hit_0 rfl rfl ?_
  refine eg_dup dX0_hit_1 rfl ?_
  refine eg_getI gf_RX0_65 rfl (by assumption) dX0_hit_2 ?_
  refine eg_topi e3 ?_
  refine eg_iconst dX0_hit_5 (v := nI 1) (by decide) ?_
  refine eg_iadd dX0_hit_6 ?_
  refine eg_topi (nI_add σ.2.1 1) ?_
  refine eg_putI gp_RX0_65 (fun q => by cases q) rfl rfl rfl (by assumption) dX0_hit_7 ?_
  refine eg_aload_n dX0_hit_10 rfl rfl ?_
  refine eg_getI gf_RX0_65 rfl (by assumption) dX0_hit_11 ?_
  refine eg_topi eg_set_eq ?_
  refine eg_iconst dX0_hit_14 (v := nI 1) (by decide) ?_
  refine eg_icmp_ne 47 dX0_hit_15 (by decide) (fun c => ?_) (fun c => ?_)
  · have hz : ¬ σ.2.1 = 0 := fun q => c (by rw [q])
    rw [ss_hit_s hz] at hQ
    refine eg_vret rfl dX0_hit_47 (hQ _ ⟨fun q g => eg_set_ne (by omega), fun q z1 z2 => eg_set_ne (by omega), fun j z1 z2 z3 => eg_set_j z3⟩ ⟨fun u s z1 z2 => ?_, fun j z1 => ?_⟩ ⟨?_, ?_, ?_, fun z => ?_, ?_, ?_⟩)
    · rw [eg_set_ne (by omega)]; exact hP.1 u s z1 z2
    · rw [eg_set_ne (by omega), eg_set_ne (by omega), eg_set_ne (by omega)]; exact hP.2 j z1
    · rw [eg_set_j (by decide)]; exact e1
    · rw [eg_set_j (by decide)]; exact e2
    · exact eg_set_eq
    · exact (e4 (by omega)).eq (fun q z1 z2 => eg_set_ne (by omega))
    · exact hlt
    · exact e6
  · refine eg_aload_n dX0_hit_18 rfl rfl ?_
    refine eg_getR gf_RX0_28 rfl (by assumption) (by assumption) dX0_hit_19 ?_
    refine eg_iload_n dX0_hit_22 rfl rfl ?_
    refine eg_iconst dX0_hit_23 (v := nI 1) (by decide) ?_
    refine eg_iadd dX0_hit_24 ?_
    refine eg_topi (nI_add p 1) ?_
    refine eg_putI gp_RX0_124 (fun q => by cases q) rfl rfl rfl (by assumption) dX0_hit_25 ?_
    refine eg_aload_n dX0_hit_28 rfl rfl ?_
    refine eg_getR gf_RX0_28 rfl (by assumption) (by assumption) dX0_hit_29 ?_
    refine eg_iload_n dX0_hit_32 rfl rfl ?_
    refine eg_putI gp_RX0_127 (fun q => by cases q) rfl rfl rfl (by assumption) dX0_hit_33 ?_
    refine eg_aload_n dX0_hit_36 rfl rfl ?_
    refine eg_getR gf_RX0_32 rfl (by assumption) (by assumption) dX0_hit_37 ?_
    refine eg_aload_n dX0_hit_40 rfl rfl ?_
    refine eg_getR gf_RX0_28 rfl (by assumption) (by assumption) dX0_hit_41 ?_
    refine eg_callV1 0 0 gk_X1_copyFrom gi_X1_copyFrom (by assumption) rfl gl_RX0_130 rfl (Nat.le_of_ble_eq_true rfl) (Nat.le_of_ble_eq_true rfl) (Nat.zero_le _) (Nat.zero_le _) (by omega) dX0_hit_44 ?_
    refine sp_X1_copyFrom (len := p + 1) (by omega) gF gR (by omega) (by omega) (by rw [eg_set_j (by decide), eg_set_eq]) (fun M2 h2 => ?_)
    have hz : σ.2.1 = 0 := by have := (nI_eq (by omega) (by omega)).mp c; omega
    obtain ⟨m3, m4, ma, mf⟩ := h2
    rw [ss_hit_0 hz] at hQ
    have eo : ∀ q, ¬ (h + 27 ≤ q ∧ q < h + 31) → q ≠ h → q ≠ h + 23 → M2 q = M q := fun q z1 z2 z3 => by rw [mf q (by omega), eg_set_ne z3, eg_set_ne z3, eg_set_ne z2]
    have eh : ∀ j, M2 h j = eg_set M h 10 (nI (σ.2.1 + 1)) h j := fun j => by rw [mf h (by omega), eg_set_ne (by omega), eg_set_ne (by omega)]
    refine eg_vret rfl dX0_hit_47 (hQ _ ⟨fun q z => eo q (by omega) (by omega) (by omega), fun q z1 z2 => eo q (by omega) (by omega) (by omega), fun j z1 z2 z3 => by rw [eh j, eg_set_j z3]⟩ ⟨fun u s z1 z2 => ?_, fun j z1 => ?_⟩ ⟨?_, ?_, ?_, fun z => ?_, ?_, ?_⟩)
    · rw [eo _ (by omega) (by omega) (by omega)]; exact hP.1 u s z1 z2
    · rw [eo _ (by omega) (by omega) (by omega), eo _ (by omega) (by omega) (by omega), eo _ (by omega) (by omega) (by omega)]; exact hP.2 j z1
    · rw [eh, eg_set_j (by decide)]; exact e1
    · rw [eh, eg_set_j (by decide)]; exact e2
    · rw [eh, eg_set_eq]
    · refine ⟨m3, ?_, by show p + 1 ≤ 12; omega, fun j hj => ?_⟩
      · rw [m4, eg_set_eq]; rfl
      · have := ma j hj
        rw [eg_set_ne (show h + 23 + 1 ≠ h + 23 by omega), eg_set_ne (show h + 23 + 1 ≠ h + 23 by omega), eg_set_ne (show h + 23 + 1 ≠ h by omega), eg_set_ne (show h + 23 + 2 ≠ h + 23 by omega), eg_set_ne (show h + 23 + 2 ≠ h + 23 by omega), eg_set_ne (show h + 23 + 2 ≠ h by omega), eg_set_ne (show h + 23 + 3 ≠ h + 23 by omega), eg_set_ne (show h + 23 + 3 ≠ h + 23 by omega), eg_set_ne (show h + 23 + 3 ≠ h by omega)] at this
        rw [this.1, this.2.1, this.2.2]
        exact hP.2 j hj
    · exact hlt
    · exact e6
end
section
/-! THE SEARCH of the class: attempt, fillWith, fill against the pure one -/
def FS (l : Launch) (E : eg_E) (G : eg_G) (h w n k : Nat) (co : Nat → Nat) (tg : Nat → Int32) (L : Nat) (al : Bool) (f : Nat) : Prop := ∀ (d kb nb : Nat) (Q : Option Value → eg_G → eg_I → Prop) (p r : Nat) (ro ra rb : Nat → Nat) (V : Nat → Nat → Int32) (σ : ss_S) (M : eg_I), 3 * f + 6 ≤ d → p + f = 12 → r ≤ 30 → hu_C M h w n k co tg L al → hu_P M h (2 ^ (w * n)) (n + k) p ro ra rb V → hu_S M h (n + k) L σ →
  (∀ M', hu_F M M' h → hu_P M' h (2 ^ (w * n)) (n + k) p ro ra rb V → hu_S M' h (n + k) L (ss_fill w (2 ^ (w * n)) (n + k) co tg L al f p r ro ra rb V σ) → Q none G M') → eg_J l E mX0_fill d kb nb Q 0 [some (.ref h), some (.int (nI p)), some (.int (nI r)), none, none] [] G M
set_option maxHeartbeats 4000000 in
theorem sp_X0_attempt {l : Launch} {E : eg_E} {G : eg_G} {h w n k : Nat} {co : Nat → Nat} {tg : Nat → Int32} {L : Nat} {al : Bool} {f p o a b r : Nat} {ro ra rb : Nat → Nat} {V : Nat → Nat → Int32} {σ : ss_S} {M : eg_I} {d kb nb : Nat} {Q : Option Value → eg_G → eg_I → Prop} (hFS : FS l E G h w n k co tg L al f) (hd : 3 * f + 7 ≤ d) (hpf : p + (f + 1) = 12) (ho : o < 13) (ha : a < n + k + p) (hb : b < n + k + p) (hr : r ≤ 30) (hs : sh_H G h) (hc : hu_C M h w n k co tg L al) (hP : hu_P M h (2 ^ (w * n)) (n + k) p ro ra rb V) (hS : hu_S M h (n + k) L σ) (hQ : ∀ M', hu_F M M' h → hu_P M' h (2 ^ (w * n)) (n + k) p ro ra rb V → hu_S M' h (n + k) L (ss_att w (2 ^ (w * n)) (n + k) tg L (ss_fill w (2 ^ (w * n)) (n + k) co tg L al f) p o a b r ro ra rb V σ) → Q none G M') : eg_J l E mX0_attempt d kb nb Q 0 [some (.ref h), some (.int (nI p)), some (.int (nI o)), some (.int (nI a)), some (.int (nI b)), some (.int (nI r)), none] [] G M := by
  obtain ⟨g0, g1, g2, g3, g4, g5, gV, g6, gR, g7, gF⟩ := id hs
  obtain ⟨gv1, gv2, gv3, gv4⟩ := id gV
  obtain ⟨gr0, gr1, gr2, gr3, gr4, gr5, gr6⟩ := id gR
  obtain ⟨gf0, gf1, gf2, gf3, gf4, gf5, gf6⟩ := id gF
  obtain ⟨c1, c2, c3, c4, c5, c6⟩ := id hc
  obtain ⟨e1, e2, e3, e4, e5, e6⟩ := id hS
  obtain ⟨v1, v2, v3, v4, v5, hw1, hw4, hn1, hn2, hk4⟩ := id c1
  have hA := wd_asg hw4 hn2
  refine eg_aload_n dX0_attempt_0 rfl rfl ?_
  refine eg_getI gf_RX0_59 rfl (by assumption) dX0_attempt_1 ?_
  refine eg_topi e2 ?_
  refine eg_aload_n dX0_attempt_4 rfl rfl ?_
  refine eg_getI gf_RX0_49 rfl (by assumption) dX0_attempt_5 ?_
  refine eg_topi c4 ?_
  refine eg_icmp_lt 17 dX0_attempt_8 (by decide) (fun c => ?_) (fun c => ?_)
  · have hL : ¬ L ≤ σ.1 := fun z => absurd c (nI_nlt z (by omega))
    refine eg_aload_n dX0_attempt_17 rfl rfl ?_
    refine eg_dup dX0_attempt_18 rfl ?_
    refine eg_getI gf_RX0_59 rfl (by assumption) dX0_attempt_19 ?_
    refine eg_topi e2 ?_
    refine eg_iconst dX0_attempt_22 (v := nI 1) (by decide) ?_
    refine eg_iadd dX0_attempt_23 ?_
    refine eg_topi (nI_add σ.1 1) ?_
    refine eg_putI gp_RX0_59 (fun q => by cases q) rfl rfl rfl (by assumption) dX0_attempt_24 ?_
    refine eg_aload_n dX0_attempt_27 rfl rfl ?_
    refine eg_getR gf_RX0_28 rfl (by assumption) (by assumption) dX0_attempt_28 ?_
    refine eg_iload_n dX0_attempt_31 rfl rfl ?_
    refine eg_iload_n dX0_attempt_32 rfl rfl ?_
    refine eg_iload_n dX0_attempt_33 rfl rfl ?_
    refine eg_iload dX0_attempt_34 rfl ?_
    refine eg_callV4 0 0 gk_X1_put gi_X1_put (by assumption) rfl gl_RX0_106 rfl (Nat.le_of_ble_eq_true rfl) (Nat.le_of_ble_eq_true rfl) (Nat.zero_le _) (Nat.zero_le _) (by omega) dX0_attempt_36 ?_
    refine sp_X1_put gR (by omega) ?_
    generalize hM2 : eg_set (eg_set (eg_set (eg_set M h 8 (nI (σ.1 + 1))) (h + 23 + 1) p (nI o)) (h + 23 + 2) p (nI a)) (h + 23 + 3) p (nI b) = M2
    have o2 : ∀ q, q ≠ h → ¬ (h + 24 ≤ q ∧ q < h + 27) → M2 q = M q := fun q z1 z2 => by rw [← hM2, eg_set_ne (by omega), eg_set_ne (by omega), eg_set_ne (by omega), eg_set_ne z1]
    have oh : M2 h = eg_set M h 8 (nI (σ.1 + 1)) h := by rw [← hM2, eg_set_ne (by omega), eg_set_ne (by omega), eg_set_ne (by omega)]
    have F2 : hu_F M M2 h := ⟨fun q z => o2 q (by omega) (by omega), fun q z1 z2 => o2 q (by omega) (by omega), fun j z1 z2 z3 => by rw [oh, eg_set_j z2]⟩
    have C2 := hc.fr F2
    have S2 : hu_S M2 h (n + k) L (σ.1 + 1, σ.2) := by
      refine ⟨?_, ?_, ?_, fun z => (e4 z).eq (fun q z1 z2 => o2 q (by omega) (by omega)), Nat.le_succ_of_le e5, by show σ.1 + 1 ≤ L; omega⟩
      · rw [oh, eg_set_j (by decide)]; exact e1
      · rw [oh, eg_set_eq]
      · rw [oh, eg_set_j (by decide)]; exact e3
    have K2 : ∀ j, j < p + 1 → M2 (h + 23 + 1) j = nI (ss_up ro p o j) ∧ M2 (h + 23 + 2) j = nI (ss_up ra p a j) ∧ M2 (h + 23 + 3) j = nI (ss_up rb p b j) := fun j hj => by
      by_cases e : j = p
      · subst e
        rw [ss_up_e, ss_up_e, ss_up_e, ← hM2]
        refine ⟨?_, ?_, eg_set_eq⟩
        · rw [eg_set_ne (by omega), eg_set_ne (by omega), eg_set_eq]
        · rw [eg_set_ne (by omega), eg_set_eq]
      · rw [ss_up_n e, ss_up_n e, ss_up_n e, ← hM2]
        rw [eg_set_jj e, eg_set_jj e, eg_set_jj e, eg_set_jj e, eg_set_jj e, eg_set_jj e, eg_set_jj e, eg_set_jj e, eg_set_jj e, eg_set_ne (by omega), eg_set_ne (by omega), eg_set_ne (by omega)]
        exact hP.2 j (by omega)
    have R2 : ∀ u s, u < n + k + p → s < 2 ^ (w * n) → M2 (h + 3 + 2 + u) s = V u s := fun u s z1 z2 => by rw [o2 _ (by omega) (by omega)]; exact hP.1 u s z1 z2
    have T2 : ∀ s, s < 2 ^ (w * n) → M2 (h + 2) s = tg s := C2.2.2.1
    refine eg_aload_n dX0_attempt_39 rfl rfl ?_
    refine eg_getR gf_RX0_21 rfl (by assumption) (by assumption) dX0_attempt_40 ?_
    refine eg_callV0 0 0 gk_X2_given gi_X2_given (by assumption) rfl gl_RX0_75 rfl (Nat.le_of_ble_eq_true rfl) (Nat.le_of_ble_eq_true rfl) (Nat.zero_le _) (Nat.zero_le _) (by omega) dX0_attempt_43 ?_
    refine sp_X2_given gv1 C2.1 ?_
    refine eg_iload_n dX0_attempt_46 rfl rfl ?_
    refine eg_iadd dX0_attempt_47 ?_
    refine eg_topi (nI_add (n + k) p) ?_
    refine eg_istore dX0_attempt_48 (by decide) rfl ?_
    refine eg_iload dX0_attempt_50 rfl ?_
    refine eg_if_ne 81 dX0_attempt_52 (by decide) (fun c2 => ?_) (fun c2 => ?_)
    · have hr0 : ¬ r = 0 := fun z => c2 (by rw [z]; rfl)
      refine eg_aload_n dX0_attempt_81 rfl rfl ?_
      refine eg_getR gf_RX0_21 rfl (by assumption) (by assumption) dX0_attempt_82 ?_
      refine eg_iload dX0_attempt_85 rfl ?_
      refine eg_iload_n dX0_attempt_87 rfl rfl ?_
      refine eg_iload_n dX0_attempt_88 rfl rfl ?_
      refine eg_iload dX0_attempt_89 rfl ?_
      refine eg_callV4 0 0 gk_X2_make gi_X2_make (by assumption) rfl gl_RX0_117 rfl (Nat.le_of_ble_eq_true rfl) (Nat.le_of_ble_eq_true rfl) (Nat.zero_le _) (Nat.zero_le _) (by omega) dX0_attempt_91 ?_
      refine sp_X2_make (by omega) gV ho (by omega) (by omega) (by omega) C2.1 ?_
      generalize hM3 : eg_fl M2 (h + 3 + 2 + (n + k + p)) 0 (2 ^ (w * n)) (fun j => wd_op w o (M2 (h + 3 + 2 + a) j) (M2 (h + 3 + 2 + b) j)) = M3
      have o3 : ∀ q, q ≠ h + 3 + 2 + (n + k + p) → M3 q = M2 q := fun q z => by rw [← hM3]; exact eg_fl_ne z
      have x3 : ∀ s, s < 2 ^ (w * n) → M3 (h + 3 + 2 + (n + k + p)) s = wd_op w o (V a s) (V b s) := fun s z => by rw [← hM3, eg_fl_in (by omega) z, R2 a s (by omega) z, R2 b s (by omega) z]
      have F3 : hu_F M M3 h := F2.tr ⟨fun q z => o3 q (by omega), fun q z1 z2 => o3 q (by omega), fun j z1 z2 z3 => by rw [o3 h (by omega)]⟩
      have C3 := hc.fr F3
      have S3 : hu_S M3 h (n + k) L (σ.1 + 1, σ.2) := S2.eq (o3 h (by omega)) (fun q z1 z2 => o3 q (by omega))
      have P3 : hu_P M3 h (2 ^ (w * n)) (n + k) (p + 1) (ss_up ro p o) (ss_up ra p a) (ss_up rb p b) (ss_up V (n + k + p) (fun s => wd_op w o (V a s) (V b s))) := by
        refine ⟨fun u s z1 z2 => ?_, fun j z => ?_⟩
        · by_cases e : u = n + k + p
          · subst e; rw [ss_up_e]; exact x3 s z2
          · rw [ss_up_n e, o3 _ (by omega)]; exact R2 u s (by omega) z2
        · rw [o3 _ (by omega), o3 _ (by omega), o3 _ (by omega)]; exact K2 j z
      refine eg_aload_n dX0_attempt_94 rfl rfl ?_
      refine eg_getR gf_RX0_21 rfl (by assumption) (by assumption) dX0_attempt_95 ?_
      refine eg_iload dX0_attempt_98 rfl ?_
      refine eg_callV1 0 0 gk_X2_leastSame gi_X2_leastSame (by assumption) rfl gl_RX0_120 rfl (Nat.le_of_ble_eq_true rfl) (Nat.le_of_ble_eq_true rfl) (Nat.zero_le _) (Nat.zero_le _) (by omega) dX0_attempt_100 ?_
      refine sp_X2_leastSame (k := k) (by omega) gV (by omega) C3.1 (fun hN => ?_) (fun z hz _ heq => ?_)
      · refine eg_if_ge 115 dX0_attempt_103 (by decide) (fun z => absurd z (by decide)) (fun _ => ?_)
        refine eg_aload_n dX0_attempt_106 rfl rfl ?_
        refine eg_iload_n dX0_attempt_107 rfl rfl ?_
        refine eg_iconst dX0_attempt_108 (v := nI 1) (by decide) ?_
        refine eg_iadd dX0_attempt_109 ?_
        refine eg_topi (nI_add p 1) ?_
        refine eg_iload dX0_attempt_110 rfl ?_
        refine eg_callV2 0 0 gk_X0_fill gi_X0_fill g0 rfl gl_RX0_71 rfl (Nat.le_of_ble_eq_true rfl) (Nat.le_of_ble_eq_true rfl) (Nat.zero_le _) (Nat.zero_le _) (by omega) dX0_attempt_112 ?_
        refine hFS _ _ _ _ (p + 1) r _ _ _ _ _ M3 (by omega) (by omega) hr C3 P3 S3 (fun M4 f4 p4 s4 => ?_)
        refine eg_vret rfl dX0_attempt_115 (hQ M4 (F3.tr f4) p4.dn ?_)
        rw [ss_att_new hL hr0 (fun u z1 z2 => by
          obtain ⟨s, y1, y2⟩ := hN u z1
          rw [x3 s y1, o3 _ (by omega), R2 u s z1 y1] at y2
          exact y2 (z2 s y1))]
        exact s4
      · refine eg_if_ge 115 dX0_attempt_103 (by decide) (fun _ => ?_) (fun y => absurd (nI_pos' (by omega)) y)
        refine eg_vret rfl dX0_attempt_115 (hQ M3 F3 P3.dn ?_)
        rw [ss_att_old hL hr0 (fun y => y z hz (fun s y1 => by
          have := heq s y1
          rw [x3 s y1, o3 _ (by omega), R2 z s hz y1] at this
          exact this))]
        exact S3
    · have hr0 : r = 0 := (nI_eq (by omega) (by omega)).mp (c2.trans nI_0.symm)
      refine eg_aload_n dX0_attempt_55 rfl rfl ?_
      refine eg_getR gf_RX0_21 rfl (by assumption) (by assumption) dX0_attempt_56 ?_
      refine eg_aload_n dX0_attempt_59 rfl rfl ?_
      refine eg_getR gf_RX0_15 rfl (by assumption) (by assumption) dX0_attempt_60 ?_
      refine eg_iload_n dX0_attempt_63 rfl rfl ?_
      refine eg_iload_n dX0_attempt_64 rfl rfl ?_
      refine eg_iload dX0_attempt_65 rfl ?_
      refine eg_callV4 0 0 gk_X2_makes gi_X2_makes (by assumption) rfl gl_RX0_110 rfl (Nat.le_of_ble_eq_true rfl) (Nat.le_of_ble_eq_true rfl) (Nat.zero_le _) (Nat.zero_le _) (by omega) dX0_attempt_67 ?_
      refine sp_X2_makes (by omega) gV ho (by omega) (by omega) g4 C2.1 (fun hall => ?_) (fun hex => ?_)
      · refine eg_if_eq 80 dX0_attempt_70 (by decide) (fun z => absurd z (by decide)) (fun _ => ?_)
        refine eg_aload_n dX0_attempt_73 rfl rfl ?_
        refine eg_iload_n dX0_attempt_74 rfl rfl ?_
        refine eg_iload dX0_attempt_75 rfl ?_
        refine eg_callV2 0 0 gk_X0_hit gi_X0_hit g0 rfl gl_RX0_114 rfl (Nat.le_of_ble_eq_true rfl) (Nat.le_of_ble_eq_true rfl) (Nat.zero_le _) (Nat.zero_le _) (by omega) dX0_attempt_77 ?_
        refine sp_X0_hit (A := 2 ^ (w * n)) (V := ss_up V (n + k + p) (M2 (h + 3 + 2 + (n + k + p)))) (by omega) hs S2 ⟨fun u s z1 z2 => ?_, K2⟩ (by omega) (by omega) (by show σ.2.1 + 1 ≤ σ.1 + 1; omega) c6 (fun M3 f3 p3 s3 => ?_)
        · by_cases e : u = n + k + p
          · subst e; rw [ss_up_e]
          · rw [ss_up_n e]; exact R2 u s (by omega) z2
        · refine eg_vret rfl dX0_attempt_80 (hQ M3 (F2.tr f3) p3.dn ?_)
          rw [ss_att_hit hL hr0 (fun s z => by rw [← R2 a s (by omega) z, ← R2 b s (by omega) z, hall s z]; exact T2 s z)]
          exact s3
      · refine eg_if_eq 80 dX0_attempt_70 (by decide) (fun _ => ?_) (fun z => absurd (show nI 0 = 0 from rfl) z)
        refine eg_vret rfl dX0_attempt_80 (hQ M2 F2 ⟨R2, fun j z => ?_⟩ ?_)
        · have := K2 j (by omega)
          rw [ss_up_n (show j ≠ p by omega), ss_up_n (show j ≠ p by omega), ss_up_n (show j ≠ p by omega)] at this
          exact this
        · rw [ss_att_no hL hr0 (fun z => by
            obtain ⟨s, z1, z2⟩ := hex
            rw [R2 a s (by omega) z1, R2 b s (by omega) z1, T2 s z1] at z2
            exact z2 (z s z1))]
          exact S2
  · refine eg_aload_n dX0_attempt_11 rfl rfl ?_
    refine eg_iconst dX0_attempt_12 (v := nI 1) (by decide) ?_
    refine eg_putI gp_RX0_56 (fun q => by cases q) rfl rfl rfl g0 dX0_attempt_13 ?_
    have hL : L ≤ σ.1 := Nat.le_of_not_lt (fun z => c (nI_lt z (by omega)))
    rw [ss_att_sp hL] at hQ
    refine eg_vret rfl dX0_attempt_16 (hQ _ ⟨fun q z => eg_set_ne (by omega), fun q z1 z2 => eg_set_ne (by omega), fun j z1 z2 z3 => eg_set_j z1⟩ ⟨fun u s z1 z2 => ?_, fun j z1 => ?_⟩ ⟨?_, ?_, ?_, fun z => ?_, e5, e6⟩)
    · rw [eg_set_ne (by omega)]; exact hP.1 u s z1 z2
    · rw [eg_set_ne (by omega), eg_set_ne (by omega), eg_set_ne (by omega)]; exact hP.2 j z1
    · exact eg_set_eq
    · rw [eg_set_j (by decide)]; exact e2
    · rw [eg_set_j (by decide)]; exact e3
    · exact (e4 z).eq (fun q z1 z2 => eg_set_ne (by omega))
end
section
/-! THE SEARCH of the class: fillWith, fill -/
set_option maxHeartbeats 4000000 in
theorem lp_X0_fillWith1 {l : Launch} {E : eg_E} {G : eg_G} {h w n k : Nat} {co : Nat → Nat} {tg : Nat → Int32} {L : Nat} {al : Bool} {f p o r : Nat} {ro ra rb : Nat → Nat} {V : Nat → Nat → Int32} {d kb nb : Nat} {Q : Option Value → eg_G → eg_I → Prop} (hFS : FS l E G h w n k co tg L al f) (hd : 3 * f + 8 ≤ d) (hpf : p + (f + 1) = 12) (ho : o < 13) (hr : r ≤ 30) (hs : sh_H G h) {a : Nat} {x6 : Int32} (ha : a < (n + k + p)) : ∀ (t b : Nat) (σ : ss_S) (M : eg_I), b + t = ss_be o (n + k + p) → hu_C M h w n k co tg L al → hu_P M h (2 ^ (w * n)) (n + k) p ro ra rb V → hu_S M h (n + k) L σ → (∀ M', hu_F M M' h → hu_P M' h (2 ^ (w * n)) (n + k) p ro ra rb V → hu_S M' h (n + k) L (List.foldl (ss_stp w (2 ^ (w * n)) (n + k) co tg L al (ss_fill w (2 ^ (w * n)) (n + k) co tg L al f) p r ro ra rb V) σ (ss_bs o a b (n + k + p))) → eg_J l E mX0_fillWith d kb nb Q 87 [some (.ref h), some (.int (nI o)), some (.int (nI p)), some (.int (nI (r - co o))), some (.int (nI (n + k + p))), some (.int (nI (ss_be o (n + k + p)))), some (.int x6), some (.int (nI a)), some (.int (nI (ss_be o (n + k + p))))] [] G M') → (∀ M' σ', hu_F M M' h → hu_P M' h (2 ^ (w * n)) (n + k) p ro ra rb V → hu_S M' h (n + k) L σ' → ss_over al σ' → (List.foldl (ss_stp w (2 ^ (w * n)) (n + k) co tg L al (ss_fill w (2 ^ (w * n)) (n + k) co tg L al f) p r ro ra rb V) σ (ss_bs o a b (n + k + p))) = σ' → Q none G M') → eg_J l E mX0_fillWith d kb nb Q 55 [some (.ref h), some (.int (nI o)), some (.int (nI p)), some (.int (nI (r - co o))), some (.int (nI (n + k + p))), some (.int (nI (ss_be o (n + k + p)))), some (.int x6), some (.int (nI a)), some (.int (nI b))] [] G M := by
  intro t
  induction t with
  | zero =>
    intro b σ M hbt hc hP hS kx kr
    obtain ⟨g0, g1, g2, g3, g4, g5, gV, g6, gR, g7, gF⟩ := id hs
    obtain ⟨gv1, gv2, gv3, gv4⟩ := id gV
    obtain ⟨gr0, gr1, gr2, gr3, gr4, gr5, gr6⟩ := id gR
    obtain ⟨gf0, gf1, gf2, gf3, gf4, gf5, gf6⟩ := id gF
    obtain ⟨c1, c2, c3, c4, c5, c6⟩ := id hc
    obtain ⟨e1, e2, e3, e4, e5, e6⟩ := id hS
    obtain ⟨v1, v2, v3, v4, v5, hw1, hw4, hn1, hn2, hk4⟩ := id c1
    have hA := wd_asg hw4 hn2
    have hbe : ss_be o (n + k + p) ≤ 18 := by unfold ss_be; split <;> omega
    have hbN : ss_be o (n + k + p) ≤ n + k + p := by unfold ss_be; split <;> omega
    refine eg_iload dX0_fillWith_55 rfl ?_
    refine eg_iload dX0_fillWith_57 rfl ?_
    refine eg_icmp_ge 87 dX0_fillWith_59 (by decide) (fun c59 => ?_) (fun c59 => absurd (nI_le (by omega) (by omega)) c59)
    have e : b = ss_be o (n + k + p) := by omega
    subst e
    exact kx M hu_F.rf hP (by rw [ss_bs_0 (Nat.le_refl _)]; exact hS)
  | succ t ih =>
    intro b σ M hbt hc hP hS kx kr
    obtain ⟨g0, g1, g2, g3, g4, g5, gV, g6, gR, g7, gF⟩ := id hs
    obtain ⟨gv1, gv2, gv3, gv4⟩ := id gV
    obtain ⟨gr0, gr1, gr2, gr3, gr4, gr5, gr6⟩ := id gR
    obtain ⟨gf0, gf1, gf2, gf3, gf4, gf5, gf6⟩ := id gF
    obtain ⟨c1, c2, c3, c4, c5, c6⟩ := id hc
    obtain ⟨e1, e2, e3, e4, e5, e6⟩ := id hS
    obtain ⟨v1, v2, v3, v4, v5, hw1, hw4, hn1, hn2, hk4⟩ := id c1
    have hA := wd_asg hw4 hn2
    have hbe : ss_be o (n + k + p) ≤ 18 := by unfold ss_be; split <;> omega
    have hbN : ss_be o (n + k + p) ≤ n + k + p := by unfold ss_be; split <;> omega
    refine eg_iload dX0_fillWith_55 rfl ?_
    refine eg_iload dX0_fillWith_57 rfl ?_
    refine eg_icmp_ge 87 dX0_fillWith_59 (by decide) (fun c59 => absurd c59 (nI_ge (by omega) (by omega))) (fun c59 => ?_)
    refine eg_aload_n dX0_fillWith_62 rfl rfl ?_
    refine eg_callV0 0 0 gk_X0_isOver gi_X0_isOver (by assumption) rfl gl_RX0_87 rfl (Nat.le_of_ble_eq_true rfl) (Nat.le_of_ble_eq_true rfl) (Nat.zero_le _) (Nat.zero_le _) (by omega) dX0_fillWith_63 ?_
    refine sp_X0_isOver (k := k) hs hc hS (fun hov => ?_) (fun hov => ?_)
    · refine eg_if_eq 70 dX0_fillWith_66 (by decide) (fun z => absurd z (by decide)) (fun _ => ?_)
      exact eg_vret rfl dX0_fillWith_69 (kr M σ hu_F.rf hP hS hov (ss_fold_over hov _))
    · refine eg_if_eq 70 dX0_fillWith_66 (by decide) (fun _ => ?_) (fun z => absurd (show nI 0 = 0 from rfl) z)
      refine eg_aload_n dX0_fillWith_70 rfl rfl ?_
      refine eg_iload_n dX0_fillWith_71 rfl rfl ?_
      refine eg_iload_n dX0_fillWith_72 rfl rfl ?_
      refine eg_iload dX0_fillWith_73 rfl ?_
      refine eg_iload dX0_fillWith_75 rfl ?_
      refine eg_iload_n dX0_fillWith_77 rfl rfl ?_
      refine eg_callV5 0 0 gk_X0_attempt gi_X0_attempt g0 rfl gl_RX0_102 rfl (Nat.le_of_ble_eq_true rfl) (Nat.le_of_ble_eq_true rfl) (Nat.zero_le _) (Nat.zero_le _) (by omega) dX0_fillWith_78 ?_
      refine sp_X0_attempt (r := r - co o) hFS (by omega) hpf ho ha (by omega) (by omega) hs hc hP hS (fun M2 f2 p2 s2 => ?_)
      refine eg_iinc dX0_fillWith_81 (by decide) rfl (eg_inc b) rfl ?_
      refine eg_goto 55 dX0_fillWith_84 (by decide) ?_
      have e : List.foldl (ss_stp w (2 ^ (w * n)) (n + k) co tg L al (ss_fill w (2 ^ (w * n)) (n + k) co tg L al f) p r ro ra rb V) σ (ss_bs o a b (n + k + p)) = List.foldl (ss_stp w (2 ^ (w * n)) (n + k) co tg L al (ss_fill w (2 ^ (w * n)) (n + k) co tg L al f) p r ro ra rb V) (ss_att w (2 ^ (w * n)) (n + k) tg L (ss_fill w (2 ^ (w * n)) (n + k) co tg L al f) p o a b (r - co o) ro ra rb V σ) (ss_bs o a (b + 1) (n + k + p)) := by
        rw [ss_bs_s (by omega), List.foldl_cons, ss_stp_go hov]
      refine ih (b + 1) _ M2 (by omega) (hc.fr f2) p2 s2 (fun M3 f3 p3 s3 => ?_) (fun M3 σ3 f3 p3 s3 y1 y2 => ?_)
      · exact kx M3 (f2.tr f3) p3 (by rw [e]; exact s3)
      · exact kr M3 σ3 (f2.tr f3) p3 s3 y1 (by rw [e]; exact y2)
set_option maxHeartbeats 4000000 in
theorem lp_X0_fillWith {l : Launch} {E : eg_E} {G : eg_G} {h w n k : Nat} {co : Nat → Nat} {tg : Nat → Int32} {L : Nat} {al : Bool} {f p o r : Nat} {ro ra rb : Nat → Nat} {V : Nat → Nat → Int32} {d kb nb : Nat} {Q : Option Value → eg_G → eg_I → Prop} (hFS : FS l E G h w n k co tg L al f) (hd : 3 * f + 8 ≤ d) (hpf : p + (f + 1) = 12) (ho : o < 13) (hr : r ≤ 30) (hs : sh_H G h) {x6 : Int32} (hx : x6 = if o = 2 ∨ o = 3 ∨ o = 4 ∨ o = 5 ∨ o = 7 ∨ o = 12 then 1 else 0) : ∀ (t a : Nat) (σ : ss_S) (M : eg_I) (l8 : Option Value), a + t = (n + k + p) → hu_C M h w n k co tg L al → hu_P M h (2 ^ (w * n)) (n + k) p ro ra rb V → hu_S M h (n + k) L σ → (∀ M', hu_F M M' h → hu_P M' h (2 ^ (w * n)) (n + k) p ro ra rb V → hu_S M' h (n + k) L (List.foldl (ss_stp w (2 ^ (w * n)) (n + k) co tg L al (ss_fill w (2 ^ (w * n)) (n + k) co tg L al f) p r ro ra rb V) σ (ss_as o a (n + k + p))) → Q none G M') → eg_J l E mX0_fillWith d kb nb Q 35 [some (.ref h), some (.int (nI o)), some (.int (nI p)), some (.int (nI (r - co o))), some (.int (nI (n + k + p))), some (.int (nI (ss_be o (n + k + p)))), some (.int x6), some (.int (nI a)), l8] [] G M := by
  intro t
  induction t with
  | zero =>
    intro a σ M l8 hat hc hP hS kr
    obtain ⟨g0, g1, g2, g3, g4, g5, gV, g6, gR, g7, gF⟩ := id hs
    obtain ⟨gv1, gv2, gv3, gv4⟩ := id gV
    obtain ⟨gr0, gr1, gr2, gr3, gr4, gr5, gr6⟩ := id gR
    obtain ⟨gf0, gf1, gf2, gf3, gf4, gf5, gf6⟩ := id gF
    obtain ⟨c1, c2, c3, c4, c5, c6⟩ := id hc
    obtain ⟨e1, e2, e3, e4, e5, e6⟩ := id hS
    obtain ⟨v1, v2, v3, v4, v5, hw1, hw4, hn1, hn2, hk4⟩ := id c1
    have hA := wd_asg hw4 hn2
    refine eg_iload dX0_fillWith_35 rfl ?_
    refine eg_iload dX0_fillWith_37 rfl ?_
    refine eg_icmp_ge 93 dX0_fillWith_39 (by decide) (fun c39 => ?_) (fun c39 => absurd (nI_le (by omega) (by omega)) c39)
    exact eg_vret rfl dX0_fillWith_93 (kr M hu_F.rf hP (by rw [ss_as_0 (by omega)]; exact hS))
  | succ t ih =>
    intro a σ M l8 hat hc hP hS kr
    obtain ⟨g0, g1, g2, g3, g4, g5, gV, g6, gR, g7, gF⟩ := id hs
    obtain ⟨gv1, gv2, gv3, gv4⟩ := id gV
    obtain ⟨gr0, gr1, gr2, gr3, gr4, gr5, gr6⟩ := id gR
    obtain ⟨gf0, gf1, gf2, gf3, gf4, gf5, gf6⟩ := id gF
    obtain ⟨c1, c2, c3, c4, c5, c6⟩ := id hc
    obtain ⟨e1, e2, e3, e4, e5, e6⟩ := id hS
    obtain ⟨v1, v2, v3, v4, v5, hw1, hw4, hn1, hn2, hk4⟩ := id c1
    have hA := wd_asg hw4 hn2
    refine eg_iload dX0_fillWith_35 rfl ?_
    refine eg_iload dX0_fillWith_37 rfl ?_
    refine eg_icmp_ge 93 dX0_fillWith_39 (by decide) (fun c39 => absurd c39 (nI_ge (by omega) (by omega))) (fun c39 => ?_)
    refine eg_iload dX0_fillWith_42 rfl ?_
    by_cases hord : o = 2 ∨ o = 3 ∨ o = 4 ∨ o = 5 ∨ o = 7 ∨ o = 12
    · have hx6 : x6 = 1 := by rw [hx, if_pos hord]
      have eb : ss_b0 o a = a := if_pos hord
      refine eg_if_eq 52 dX0_fillWith_44 (by decide) (fun z => absurd (hx6.symm.trans z) (by decide)) (fun _ => ?_)
      refine eg_iload dX0_fillWith_47 rfl ?_
      refine eg_goto 53 dX0_fillWith_49 (by decide) ?_
      refine eg_topi (show nI a = nI (ss_b0 o a) by rw [eb]) ?_
      refine eg_istore dX0_fillWith_53 (by decide) rfl ?_
      have e : ∀ σ1, List.foldl (ss_stp w (2 ^ (w * n)) (n + k) co tg L al (ss_fill w (2 ^ (w * n)) (n + k) co tg L al f) p r ro ra rb V) σ (ss_bs o a (ss_b0 o a) (n + k + p)) = σ1 → List.foldl (ss_stp w (2 ^ (w * n)) (n + k) co tg L al (ss_fill w (2 ^ (w * n)) (n + k) co tg L al f) p r ro ra rb V) σ (ss_as o a (n + k + p)) = List.foldl (ss_stp w (2 ^ (w * n)) (n + k) co tg L al (ss_fill w (2 ^ (w * n)) (n + k) co tg L al f) p r ro ra rb V) σ1 (ss_as o (a + 1) (n + k + p)) := fun σ1 z => by rw [ss_as_s (by omega), List.foldl_append, z]
      have hb0 : ss_b0 o a ≤ ss_be o (n + k + p) := by unfold ss_b0 ss_be; split <;> split <;> omega
      refine lp_X0_fillWith1 hFS hd hpf ho hr hs (by omega) (ss_be o (n + k + p) - ss_b0 o a) (ss_b0 o a) σ M (by omega) hc hP hS (fun M2 f2 p2 s2 => ?_) (fun M2 σ2 f2 p2 s2 y1 y2 => ?_)
      · refine eg_iinc dX0_fillWith_87 (by decide) rfl (eg_inc a) rfl ?_
        refine eg_goto 35 dX0_fillWith_90 (by decide) ?_
        refine ih (a + 1) _ M2 _ (by omega) (hc.fr f2) p2 s2 (fun M3 f3 p3 s3 => ?_)
        exact kr M3 (f2.tr f3) p3 (by rw [e _ rfl]; exact s3)
      · exact kr M2 f2 p2 (by rw [e _ y2, ss_fold_over y1]; exact s2)
    · have hx6 : x6 = 0 := by rw [hx, if_neg hord]
      have eb : ss_b0 o a = 0 := if_neg hord
      refine eg_if_eq 52 dX0_fillWith_44 (by decide) (fun _ => ?_) (fun z => absurd hx6 z)
      refine eg_iconst dX0_fillWith_52 (v := nI 0) (by decide) ?_
      refine eg_topi (show nI 0 = nI (ss_b0 o a) by rw [eb]) ?_
      refine eg_istore dX0_fillWith_53 (by decide) rfl ?_
      have e : ∀ σ1, List.foldl (ss_stp w (2 ^ (w * n)) (n + k) co tg L al (ss_fill w (2 ^ (w * n)) (n + k) co tg L al f) p r ro ra rb V) σ (ss_bs o a (ss_b0 o a) (n + k + p)) = σ1 → List.foldl (ss_stp w (2 ^ (w * n)) (n + k) co tg L al (ss_fill w (2 ^ (w * n)) (n + k) co tg L al f) p r ro ra rb V) σ (ss_as o a (n + k + p)) = List.foldl (ss_stp w (2 ^ (w * n)) (n + k) co tg L al (ss_fill w (2 ^ (w * n)) (n + k) co tg L al f) p r ro ra rb V) σ1 (ss_as o (a + 1) (n + k + p)) := fun σ1 z => by rw [ss_as_s (by omega), List.foldl_append, z]
      have hb0 : ss_b0 o a ≤ ss_be o (n + k + p) := by unfold ss_b0 ss_be; split <;> split <;> omega
      refine lp_X0_fillWith1 hFS hd hpf ho hr hs (by omega) (ss_be o (n + k + p) - ss_b0 o a) (ss_b0 o a) σ M (by omega) hc hP hS (fun M2 f2 p2 s2 => ?_) (fun M2 σ2 f2 p2 s2 y1 y2 => ?_)
      · refine eg_iinc dX0_fillWith_87 (by decide) rfl (eg_inc a) rfl ?_
        refine eg_goto 35 dX0_fillWith_90 (by decide) ?_
        refine ih (a + 1) _ M2 _ (by omega) (hc.fr f2) p2 s2 (fun M3 f3 p3 s3 => ?_)
        exact kr M3 (f2.tr f3) p3 (by rw [e _ rfl]; exact s3)
      · exact kr M2 f2 p2 (by rw [e _ y2, ss_fold_over y1]; exact s2)
set_option maxHeartbeats 4000000 in
theorem sp_X0_fillWith {l : Launch} {E : eg_E} {G : eg_G} {h w n k : Nat} {co : Nat → Nat} {tg : Nat → Int32} {L : Nat} {al : Bool} {f p o r : Nat} {ro ra rb : Nat → Nat} {V : Nat → Nat → Int32} {d kb nb : Nat} {Q : Option Value → eg_G → eg_I → Prop} (hFS : FS l E G h w n k co tg L al f) (hd : 3 * f + 8 ≤ d) (hpf : p + (f + 1) = 12) (ho : o < 13) (hr : r ≤ 30) (hs : sh_H G h) {σ : ss_S} {M : eg_I} (hc : hu_C M h w n k co tg L al) (hP : hu_P M h (2 ^ (w * n)) (n + k) p ro ra rb V) (hS : hu_S M h (n + k) L σ) (kr : (∀ M', hu_F M M' h → hu_P M' h (2 ^ (w * n)) (n + k) p ro ra rb V → hu_S M' h (n + k) L (List.foldl (ss_stp w (2 ^ (w * n)) (n + k) co tg L al (ss_fill w (2 ^ (w * n)) (n + k) co tg L al f) p r ro ra rb V) σ (ss_as o 0 (n + k + p))) → Q none G M')) : eg_J l E mX0_fillWith d kb nb Q 0 [some (.ref h), some (.int (nI o)), some (.int (nI p)), some (.int (nI (r - co o))), none, none, none, none, none] [] G M := by
  obtain ⟨g0, g1, g2, g3, g4, g5, gV, g6, gR, g7, gF⟩ := id hs
  obtain ⟨gv1, gv2, gv3, gv4⟩ := id gV
  obtain ⟨gr0, gr1, gr2, gr3, gr4, gr5, gr6⟩ := id gR
  obtain ⟨gf0, gf1, gf2, gf3, gf4, gf5, gf6⟩ := id gF
  obtain ⟨c1, c2, c3, c4, c5, c6⟩ := id hc
  obtain ⟨e1, e2, e3, e4, e5, e6⟩ := id hS
  obtain ⟨v1, v2, v3, v4, v5, hw1, hw4, hn1, hn2, hk4⟩ := id c1
  have hA := wd_asg hw4 hn2
  refine eg_aload_n dX0_fillWith_0 rfl rfl ?_
  refine eg_getR gf_RX0_21 rfl (by assumption) (by assumption) dX0_fillWith_1 ?_
  refine eg_callV0 0 0 gk_X2_given gi_X2_given (by assumption) rfl gl_RX0_75 rfl (Nat.le_of_ble_eq_true rfl) (Nat.le_of_ble_eq_true rfl) (Nat.zero_le _) (Nat.zero_le _) (by omega) dX0_fillWith_4 ?_
  refine sp_X2_given gv1 c1 ?_
  refine eg_iload_n dX0_fillWith_7 rfl rfl ?_
  refine eg_iadd dX0_fillWith_8 ?_
  refine eg_topi (nI_add (n + k) p) ?_
  refine eg_istore dX0_fillWith_9 (by decide) rfl ?_
  refine eg_iload_n dX0_fillWith_11 rfl rfl ?_
  refine eg_callS1 0 0 gk_X3_takesOne gi_X3_takesOne gl_RX0_95 rfl (Nat.le_of_ble_eq_true rfl) (Nat.le_of_ble_eq_true rfl) (Nat.zero_le _) (Nat.zero_le _) (by omega) dX0_fillWith_12 ?_
  refine sp_X3_takesOne ho (fun h1 => ?_) (fun h1 => ?_)
  · refine eg_if_eq 22 dX0_fillWith_15 (by decide) (fun z => absurd z (by decide)) (fun _ => ?_)
    refine eg_iconst dX0_fillWith_18 (v := nI 1) (by decide) ?_
    refine eg_goto 24 dX0_fillWith_19 (by decide) ?_
    refine eg_topi (show nI 1 = nI (ss_be o (n + k + p)) by unfold ss_be; rw [if_pos h1]) ?_
    refine eg_istore dX0_fillWith_24 (by decide) rfl ?_
    refine eg_iload_n dX0_fillWith_26 rfl rfl ?_
    refine eg_callS1 0 0 gk_X3_isOrdered gi_X3_isOrdered gl_RX0_99 rfl (Nat.le_of_ble_eq_true rfl) (Nat.le_of_ble_eq_true rfl) (Nat.zero_le _) (Nat.zero_le _) (by omega) dX0_fillWith_27 ?_
    refine sp_X3_isOrdered ho (fun hord => ?_) (fun hord => ?_)
    · have hx : (1 : Int32) = if o = 2 ∨ o = 3 ∨ o = 4 ∨ o = 5 ∨ o = 7 ∨ o = 12 then 1 else 0 := by rw [if_pos hord]
      refine eg_istore dX0_fillWith_30 (by decide) rfl ?_
      refine eg_iconst dX0_fillWith_32 (v := nI 0) (by decide) ?_
      refine eg_istore dX0_fillWith_33 (by decide) rfl ?_
      exact lp_X0_fillWith hFS hd hpf ho hr hs hx (n + k + p) 0 σ M _ (by omega) hc hP hS kr
    · have hx : (0 : Int32) = if o = 2 ∨ o = 3 ∨ o = 4 ∨ o = 5 ∨ o = 7 ∨ o = 12 then 1 else 0 := by rw [if_neg hord]
      refine eg_istore dX0_fillWith_30 (by decide) rfl ?_
      refine eg_iconst dX0_fillWith_32 (v := nI 0) (by decide) ?_
      refine eg_istore dX0_fillWith_33 (by decide) rfl ?_
      exact lp_X0_fillWith hFS hd hpf ho hr hs hx (n + k + p) 0 σ M _ (by omega) hc hP hS kr
  · refine eg_if_eq 22 dX0_fillWith_15 (by decide) (fun _ => ?_) (fun z => absurd (show nI 0 = 0 from rfl) z)
    refine eg_iload dX0_fillWith_22 rfl ?_
    refine eg_topi (show nI (n + k + p) = nI (ss_be o (n + k + p)) by unfold ss_be; rw [if_neg h1]) ?_
    refine eg_istore dX0_fillWith_24 (by decide) rfl ?_
    refine eg_iload_n dX0_fillWith_26 rfl rfl ?_
    refine eg_callS1 0 0 gk_X3_isOrdered gi_X3_isOrdered gl_RX0_99 rfl (Nat.le_of_ble_eq_true rfl) (Nat.le_of_ble_eq_true rfl) (Nat.zero_le _) (Nat.zero_le _) (by omega) dX0_fillWith_27 ?_
    refine sp_X3_isOrdered ho (fun hord => ?_) (fun hord => ?_)
    · have hx : (1 : Int32) = if o = 2 ∨ o = 3 ∨ o = 4 ∨ o = 5 ∨ o = 7 ∨ o = 12 then 1 else 0 := by rw [if_pos hord]
      refine eg_istore dX0_fillWith_30 (by decide) rfl ?_
      refine eg_iconst dX0_fillWith_32 (v := nI 0) (by decide) ?_
      refine eg_istore dX0_fillWith_33 (by decide) rfl ?_
      exact lp_X0_fillWith hFS hd hpf ho hr hs hx (n + k + p) 0 σ M _ (by omega) hc hP hS kr
    · have hx : (0 : Int32) = if o = 2 ∨ o = 3 ∨ o = 4 ∨ o = 5 ∨ o = 7 ∨ o = 12 then 1 else 0 := by rw [if_neg hord]
      refine eg_istore dX0_fillWith_30 (by decide) rfl ?_
      refine eg_iconst dX0_fillWith_32 (v := nI 0) (by decide) ?_
      refine eg_istore dX0_fillWith_33 (by decide) rfl ?_
      exact lp_X0_fillWith hFS hd hpf ho hr hs hx (n + k + p) 0 σ M _ (by omega) hc hP hS kr
set_option maxHeartbeats 4000000 in
theorem lp_X0_fill {l : Launch} {E : eg_E} {G : eg_G} {h w n k : Nat} {co : Nat → Nat} {tg : Nat → Int32} {L : Nat} {al : Bool} {f p r : Nat} {ro ra rb : Nat → Nat} {V : Nat → Nat → Int32} {d kb nb : Nat} {Q : Option Value → eg_G → eg_I → Prop} (hFS : FS l E G h w n k co tg L al f) (hd : 3 * f + 9 ≤ d) (hpf : p + (f + 1) = 12) (hr : r ≤ 30) (hs : sh_H G h) : ∀ (t o : Nat) (σ : ss_S) (M : eg_I) (l4 : Option Value), o + t = 13 → hu_C M h w n k co tg L al → hu_P M h (2 ^ (w * n)) (n + k) p ro ra rb V → hu_S M h (n + k) L σ → (∀ M', hu_F M M' h → hu_P M' h (2 ^ (w * n)) (n + k) p ro ra rb V → hu_S M' h (n + k) L (List.foldl (ss_stp w (2 ^ (w * n)) (n + k) co tg L al (ss_fill w (2 ^ (w * n)) (n + k) co tg L al f) p r ro ra rb V) σ (ss_os co r o (n + k + p))) → Q none G M') → eg_J l E mX0_fill d kb nb Q 9 [some (.ref h), some (.int (nI p)), some (.int (nI r)), some (.int (nI o)), l4] [] G M := by
  intro t
  induction t with
  | zero =>
    intro o σ M l4 hot hc hP hS kr
    obtain ⟨g0, g1, g2, g3, g4, g5, gV, g6, gR, g7, gF⟩ := id hs
    obtain ⟨gv1, gv2, gv3, gv4⟩ := id gV
    obtain ⟨gr0, gr1, gr2, gr3, gr4, gr5, gr6⟩ := id gR
    obtain ⟨gf0, gf1, gf2, gf3, gf4, gf5, gf6⟩ := id gF
    obtain ⟨c1, c2, c3, c4, c5, c6⟩ := id hc
    obtain ⟨e1, e2, e3, e4, e5, e6⟩ := id hS
    obtain ⟨v1, v2, v3, v4, v5, hw1, hw4, hn1, hn2, hk4⟩ := id c1
    have hA := wd_asg hw4 hn2
    refine eg_iload_n dX0_fill_9 rfl rfl ?_
    refine eg_bipush dX0_fill_10 (v := nI 13) (by decide) ?_
    refine eg_icmp_ge 57 dX0_fill_12 (by decide) (fun c12 => ?_) (fun c12 => absurd (nI_le (a := 13) (by omega) (by omega)) c12)
    exact eg_vret rfl dX0_fill_57 (kr M hu_F.rf hP (by rw [ss_os_0 (by omega)]; exact hS))
  | succ t ih =>
    intro o σ M l4 hot hc hP hS kr
    obtain ⟨g0, g1, g2, g3, g4, g5, gV, g6, gR, g7, gF⟩ := id hs
    obtain ⟨gv1, gv2, gv3, gv4⟩ := id gV
    obtain ⟨gr0, gr1, gr2, gr3, gr4, gr5, gr6⟩ := id gR
    obtain ⟨gf0, gf1, gf2, gf3, gf4, gf5, gf6⟩ := id gF
    obtain ⟨c1, c2, c3, c4, c5, c6⟩ := id hc
    obtain ⟨e1, e2, e3, e4, e5, e6⟩ := id hS
    obtain ⟨v1, v2, v3, v4, v5, hw1, hw4, hn1, hn2, hk4⟩ := id c1
    have hA := wd_asg hw4 hn2
    refine eg_iload_n dX0_fill_9 rfl rfl ?_
    refine eg_bipush dX0_fill_10 (v := nI 13) (by decide) ?_
    refine eg_icmp_ge 57 dX0_fill_12 (by decide) (fun c12 => absurd c12 (nI_ge (b := 13) (by omega) (by omega))) (fun c12 => ?_)
    refine eg_aload_n dX0_fill_15 rfl rfl ?_
    refine eg_callV0 0 0 gk_X0_isOver gi_X0_isOver (by assumption) rfl gl_RX0_87 rfl (Nat.le_of_ble_eq_true rfl) (Nat.le_of_ble_eq_true rfl) (Nat.zero_le _) (Nat.zero_le _) (by omega) dX0_fill_16 ?_
    refine sp_X0_isOver (k := k) hs hc hS (fun hov => ?_) (fun hov => ?_)
    · refine eg_if_ne 57 dX0_fill_19 (by decide) (fun _ => ?_) (fun z => absurd z (by decide))
      exact eg_vret rfl dX0_fill_57 (kr M hu_F.rf hP (by rw [ss_fold_over hov]; exact hS))
    · refine eg_if_ne 57 dX0_fill_19 (by decide) (fun z => absurd (show nI 0 = 0 from rfl) z) (fun _ => ?_)
      refine eg_aload_n dX0_fill_22 rfl rfl ?_
      refine eg_getR gf_RX0_9 rfl g0 g1 dX0_fill_23 ?_
      refine eg_iload_n dX0_fill_26 rfl rfl ?_
      refine eg_ialdN g2 (by omega) (by decide) dX0_fill_27 ?_
      have hco := c2 o (by omega)
      refine eg_topi hco.1 ?_
      refine eg_istore dX0_fill_28 (by decide) rfl ?_
      refine eg_iload dX0_fill_30 rfl ?_
      refine eg_if_le 51 dX0_fill_32 (by decide) (fun c => ?_) (fun c => ?_)
      · have hz : ¬ 0 < co o := fun z => absurd c (nI_nle z (by omega))
        refine eg_iinc dX0_fill_51 (by decide) rfl (eg_inc o) rfl ?_
        refine eg_goto 9 dX0_fill_54 (by decide) ?_
        refine ih (o + 1) _ M _ (by omega) hc hP hS (fun M3 f3 p3 s3 => ?_)
        refine kr M3 f3 p3 ?_
        rw [ss_os_s (by omega), if_neg (by omega), List.nil_append]
        exact s3
      · have hz : 0 < co o := Nat.pos_of_ne_zero (fun z => c (by rw [z]; decide))
        refine eg_iload dX0_fill_35 rfl ?_
        refine eg_iload_n dX0_fill_37 rfl rfl ?_
        refine eg_icmp_gt 51 dX0_fill_38 (by decide) (fun c' => ?_) (fun c' => ?_)
        · have hz2 : ¬ co o ≤ r := fun z => absurd c' (nI_nlt z (by omega))
          refine eg_iinc dX0_fill_51 (by decide) rfl (eg_inc o) rfl ?_
          refine eg_goto 9 dX0_fill_54 (by decide) ?_
          refine ih (o + 1) _ M _ (by omega) hc hP hS (fun M3 f3 p3 s3 => ?_)
          refine kr M3 f3 p3 ?_
          rw [ss_os_s (by omega), if_neg (by omega), List.nil_append]
          exact s3
        · have hz2 : co o ≤ r := Nat.le_of_not_lt (fun z => c' (nI_lt z (by omega)))
          refine eg_aload_n dX0_fill_41 rfl rfl ?_
          refine eg_iload_n dX0_fill_42 rfl rfl ?_
          refine eg_iload_n dX0_fill_43 rfl rfl ?_
          refine eg_iload_n dX0_fill_44 rfl rfl ?_
          refine eg_iload dX0_fill_45 rfl ?_
          refine eg_isub dX0_fill_47 ?_
          refine eg_topi (pk_sub hz2) ?_
          refine eg_callV3 0 0 gk_X0_fillWith gi_X0_fillWith g0 rfl gl_RX0_91 rfl (Nat.le_of_ble_eq_true rfl) (Nat.le_of_ble_eq_true rfl) (Nat.zero_le _) (Nat.zero_le _) (by omega) dX0_fill_48 ?_
          refine sp_X0_fillWith hFS (by omega) hpf (by omega) hr hs hc hP hS (fun M2 f2 p2 s2 => ?_)
          refine eg_iinc dX0_fill_51 (by decide) rfl (eg_inc o) rfl ?_
          refine eg_goto 9 dX0_fill_54 (by decide) ?_
          refine ih (o + 1) _ M2 _ (by omega) (hc.fr f2) p2 s2 (fun M3 f3 p3 s3 => ?_)
          refine kr M3 (f2.tr f3) p3 ?_
          rw [ss_os_s (by omega), if_pos ⟨hz, hz2⟩, List.foldl_append]
          exact s3
theorem sp_FS {l : Launch} {E : eg_E} {G : eg_G} {h w n k : Nat} {co : Nat → Nat} {tg : Nat → Int32} {L : Nat} {al : Bool} (hs : sh_H G h) : ∀ f, FS l E G h w n k co tg L al f := by
  intro f
  induction f with
  | zero =>
    intro d kb nb Q p r ro ra rb V σ M hd hpf hr hc hP hS hQ
    refine eg_iload_n dX0_fill_0 rfl rfl ?_
    refine eg_bipush dX0_fill_1 (v := nI 12) (by decide) ?_
    refine eg_icmp_lt 7 dX0_fill_3 (by decide) (fun c3 => absurd c3 (nI_nlt (by omega) (by omega))) (fun c3 => ?_)
    exact eg_vret rfl dX0_fill_6 (hQ M hu_F.rf hP hS)
  | succ f ih =>
    intro d kb nb Q p r ro ra rb V σ M hd hpf hr hc hP hS hQ
    refine eg_iload_n dX0_fill_0 rfl rfl ?_
    refine eg_bipush dX0_fill_1 (v := nI 12) (by decide) ?_
    refine eg_icmp_lt 7 dX0_fill_3 (by decide) (fun c3 => ?_) (fun c3 => absurd (nI_lt (by omega) (by omega)) c3)
    refine eg_iconst dX0_fill_7 (v := nI 0) (by decide) ?_
    refine eg_istore_n dX0_fill_8 rfl (by decide) rfl ?_
    exact lp_X0_fill ih (by omega) (by omega) hr hs 13 0 σ M _ (by omega) hc hP hS hQ
end
section
/-! Values.copyGiven; Hunt.prepare, findGiven, run -/
set_option maxHeartbeats 4000000 in
theorem lp_X2_copyGiven {l : Launch} {E : eg_E} {d kb nb : Nat} {Q : Option Value → eg_G → eg_I → Prop} {G : eg_G} {v u w n k : Nat} {M0 : eg_I} (hd : 1 ≤ d) (hs : sh_V G v) (hu : sh_V G u) (hvu : u + 20 ≤ v ∨ v + 20 ≤ u) : ∀ (t s : Nat) (M : eg_I), in_V M v w n k → s + t = n + k → ((∀ x z, x < s → z < 2 ^ (w * n) → M (v + 2 + x) z = M0 (u + 2 + x) z) ∧ ∀ q, q ≠ v → ¬ (v + 2 ≤ q ∧ q < v + 2 + (n + k)) → M q = M0 q) → (∀ M', (in_V M' v w n k ∧ (∀ x s, x < n + k → s < 2 ^ (w * n) → M' (v + 2 + x) s = M0 (u + 2 + x) s) ∧ ∀ q, q ≠ v → ¬ (v + 2 ≤ q ∧ q < v + 2 + (n + k)) → M' q = M0 q) → Q none G M') → eg_J l E mX2_copyGiven d kb nb Q 42 [some (.ref v), some (.ref u), some (.int (nI s))] [] G M := by
  intro t
  induction t with
  | zero =>
    intro s M h hst hi hQ
    obtain ⟨hs1, hs2, hs3, hs4⟩ := id hs
    obtain ⟨hu1, hu2, hu3, hu4⟩ := id hu
    obtain ⟨h1, h2, h3, h4, h5, hw1, hw4, hn1, hn2, hk4⟩ := id h
    have hA := wd_asg hw4 hn2
    refine eg_iload_n dX2_copyGiven_42 rfl rfl ?_
    refine eg_aload_n dX2_copyGiven_43 rfl rfl ?_
    refine eg_callV0 0 0 gk_X2_given gi_X2_given (by assumption) rfl gl_RX2_32 rfl (Nat.le_of_ble_eq_true rfl) (Nat.le_of_ble_eq_true rfl) (Nat.zero_le _) (Nat.zero_le _) (by omega) dX2_copyGiven_44 ?_
    refine sp_X2_given hs1 h ?_
    refine eg_icmp_ge 77 dX2_copyGiven_47 (by decide) (fun c47 => ?_) (fun c47 => absurd (nI_le (by omega) (by omega)) c47)
    exact eg_vret rfl dX2_copyGiven_77 (hQ M ⟨h, fun x z g1 g2 => hi.1 x z (by omega) g2, hi.2⟩)
  | succ t ih =>
    intro s M h hst hi hQ
    obtain ⟨hs1, hs2, hs3, hs4⟩ := id hs
    obtain ⟨hu1, hu2, hu3, hu4⟩ := id hu
    obtain ⟨h1, h2, h3, h4, h5, hw1, hw4, hn1, hn2, hk4⟩ := id h
    have hA := wd_asg hw4 hn2
    refine eg_iload_n dX2_copyGiven_42 rfl rfl ?_
    refine eg_aload_n dX2_copyGiven_43 rfl rfl ?_
    refine eg_callV0 0 0 gk_X2_given gi_X2_given (by assumption) rfl gl_RX2_32 rfl (Nat.le_of_ble_eq_true rfl) (Nat.le_of_ble_eq_true rfl) (Nat.zero_le _) (Nat.zero_le _) (by omega) dX2_copyGiven_44 ?_
    refine sp_X2_given hs1 h ?_
    refine eg_icmp_ge 77 dX2_copyGiven_47 (by decide) (fun c47 => absurd c47 (nI_ge (by omega) (by omega))) (fun c47 => ?_)
    refine eg_aload_n dX2_copyGiven_50 rfl rfl ?_
    refine eg_getR gf_RX2_11 rfl (by assumption) (by assumption) dX2_copyGiven_51 ?_
    refine eg_iload_n dX2_copyGiven_54 rfl rfl ?_
    refine eg_aaldN rfl (by assumption) (by omega) (by decide) (hu4 s (by omega)).1 dX2_copyGiven_55 ?_
    refine eg_iconst dX2_copyGiven_56 (v := nI 0) (by decide) ?_
    refine eg_aload_n dX2_copyGiven_57 rfl rfl ?_
    refine eg_getR gf_RX2_11 rfl (by assumption) (by assumption) dX2_copyGiven_58 ?_
    refine eg_iload_n dX2_copyGiven_61 rfl rfl ?_
    refine eg_aaldN rfl (by assumption) (by omega) (by decide) (hs4 s (by omega)).1 dX2_copyGiven_62 ?_
    refine eg_iconst dX2_copyGiven_63 (v := nI 0) (by decide) ?_
    refine eg_aload_n dX2_copyGiven_64 rfl rfl ?_
    refine eg_getI gf_RX2_26 rfl (by assumption) dX2_copyGiven_65 ?_
    refine eg_topi h5 ?_
    refine eg_copy0 gl_RX2_36 (hu4 s (by omega)).2 (hs4 s (by omega)).2 (by omega) (by omega) (by omega) (Nat.le_of_ble_eq_true rfl) (by omega) dX2_copyGiven_68 ?_
    refine eg_iinc dX2_copyGiven_71 (by decide) rfl (eg_inc s) rfl ?_
    refine eg_goto 42 dX2_copyGiven_74 (by decide) ?_
    refine ih (s + 1) _ (h.eq ?_) (by omega) ⟨fun x z g1 g2 => ?_, fun q g1 g2 => ?_⟩ hQ
    · funext j; exact if_neg (by omega)
    · by_cases e : x = s
      · subst e
        show (if v + 2 + x = v + 2 + x ∧ z < 2 ^ (w * n) then M (u + 2 + x) z else _) = _
        rw [if_pos ⟨rfl, g2⟩, hi.2 _ (by omega) (by omega)]
      · show (if v + 2 + x = v + 2 + s ∧ z < 2 ^ (w * n) then _ else M (v + 2 + x) z) = _
        rw [if_neg (by omega)]
        exact hi.1 x z (by omega) g2
    · rw [← hi.2 q g1 g2]
      funext j
      exact if_neg (by omega)
set_option maxHeartbeats 4000000 in
theorem sp_X2_copyGiven {l : Launch} {E : eg_E} {d kb nb : Nat} {Q : Option Value → eg_G → eg_I → Prop} {G : eg_G} {M : eg_I} {v u w n k : Nat} (hd : 1 ≤ d) (hs : sh_V G v) (hu : sh_V G u) (hvu : u + 20 ≤ v ∨ v + 20 ≤ u) (h : in_V M u w n k) (hQ : ∀ M', (in_V M' v w n k ∧ (∀ x s, x < n + k → s < 2 ^ (w * n) → M' (v + 2 + x) s = M (u + 2 + x) s) ∧ ∀ q, q ≠ v → ¬ (v + 2 ≤ q ∧ q < v + 2 + (n + k)) → M' q = M q) → Q none G M') : eg_J l E mX2_copyGiven d kb nb Q 0 [some (.ref v), some (.ref u), none] [] G M := by
  obtain ⟨hs1, hs2, hs3, hs4⟩ := id hs
  obtain ⟨hu1, hu2, hu3, hu4⟩ := id hu
  obtain ⟨h1, h2, h3, h4, h5, hw1, hw4, hn1, hn2, hk4⟩ := id h
  refine eg_aload_n dX2_copyGiven_0 rfl rfl ?_
  refine eg_aload_n dX2_copyGiven_1 rfl rfl ?_
  refine eg_getI gf_RX2_16 rfl (by assumption) dX2_copyGiven_2 ?_
  refine eg_topi h1 ?_
  refine eg_putI gp_RX2_16 (fun q => by cases q) rfl rfl rfl (by assumption) dX2_copyGiven_5 ?_
  refine eg_aload_n dX2_copyGiven_8 rfl rfl ?_
  refine eg_aload_n dX2_copyGiven_9 rfl rfl ?_
  refine eg_getI gf_RX2_20 rfl (by assumption) dX2_copyGiven_10 ?_
  refine eg_topi (show _ = nI (2 ^ w - 1) by rw [eg_set_ne (by omega)]; exact h2) ?_
  refine eg_putI gp_RX2_20 (fun q => by cases q) rfl rfl rfl (by assumption) dX2_copyGiven_13 ?_
  refine eg_aload_n dX2_copyGiven_16 rfl rfl ?_
  refine eg_aload_n dX2_copyGiven_17 rfl rfl ?_
  refine eg_getI gf_RX2_23 rfl (by assumption) dX2_copyGiven_18 ?_
  refine eg_topi (show _ = nI (n) by rw [eg_set_ne (by omega), eg_set_ne (by omega)]; exact h3) ?_
  refine eg_putI gp_RX2_23 (fun q => by cases q) rfl rfl rfl (by assumption) dX2_copyGiven_21 ?_
  refine eg_aload_n dX2_copyGiven_24 rfl rfl ?_
  refine eg_aload_n dX2_copyGiven_25 rfl rfl ?_
  refine eg_getI gf_RX2_29 rfl (by assumption) dX2_copyGiven_26 ?_
  refine eg_topi (show _ = nI (k) by rw [eg_set_ne (by omega), eg_set_ne (by omega), eg_set_ne (by omega)]; exact h4) ?_
  refine eg_putI gp_RX2_29 (fun q => by cases q) rfl rfl rfl (by assumption) dX2_copyGiven_29 ?_
  refine eg_aload_n dX2_copyGiven_32 rfl rfl ?_
  refine eg_aload_n dX2_copyGiven_33 rfl rfl ?_
  refine eg_getI gf_RX2_26 rfl (by assumption) dX2_copyGiven_34 ?_
  refine eg_topi (show _ = nI (2 ^ (w * n)) by rw [eg_set_ne (by omega), eg_set_ne (by omega), eg_set_ne (by omega), eg_set_ne (by omega)]; exact h5) ?_
  refine eg_putI gp_RX2_26 (fun q => by cases q) rfl rfl rfl (by assumption) dX2_copyGiven_37 ?_
  refine eg_iconst dX2_copyGiven_40 (v := nI 0) (by decide) ?_
  refine eg_istore_n dX2_copyGiven_41 rfl (by decide) rfl ?_
  refine lp_X2_copyGiven (M0 := M) hd hs hu hvu (n + k) 0 _ ⟨?_, ?_, ?_, ?_, ?_, hw1, hw4, hn1, hn2, hk4⟩ (by omega) ⟨fun x z g1 => absurd g1 (by omega), fun q g1 g2 => ?_⟩ hQ
  · rw [eg_set_j (by decide), eg_set_j (by decide), eg_set_j (by decide), eg_set_j (by decide), eg_set_eq]
  · rw [eg_set_j (by decide), eg_set_j (by decide), eg_set_j (by decide), eg_set_eq]
  · rw [eg_set_j (by decide), eg_set_j (by decide), eg_set_eq]
  · rw [eg_set_j (by decide), eg_set_eq]
  · rw [eg_set_eq]
  · rw [eg_set_ne g1, eg_set_ne g1, eg_set_ne g1, eg_set_ne g1, eg_set_ne g1]
set_option maxHeartbeats 4000000 in
theorem sp_X0_prepare {l : Launch} {E : eg_E} {d kb nb : Nat} {Q : Option Value → eg_G → eg_I → Prop} {G : eg_G} {M : eg_I} {h v w n k ca ta : Nat} (hd : 2 ≤ d) (hs : sh_H G h) (hu : sh_V G v) (hv : v + 20 ≤ h) (hca : G.2.1 ca = some (.inr (.int, 13))) (hta : G.2.1 ta = some (.inr (.int, 256))) (hca2 : ca < h) (hta2 : ta < h) (hin : in_V M v w n k) (hQ : ∀ M', (in_V M' (h + 3) w n k ∧ (∀ x s, x < n + k → s < 2 ^ (w * n) → M' (h + 3 + 2 + x) s = M (v + 2 + x) s) ∧ (∀ o, o < 13 → M' (h + 1) o = M ca o) ∧ (∀ s, s < 256 → M' (h + 2) s = M ta s) ∧ ∀ q, q < h + 1 ∨ h + 23 ≤ q → M' q = M q) → Q none G M') : eg_J l E mX0_prepare d kb nb Q 0 [some (.ref h), some (.ref v), some (.ref ca), some (.ref ta)] [] G M := by
  obtain ⟨g0, g1, g2, g3, g4, g5, gV, g6, gR, g7, gF⟩ := id hs
  obtain ⟨gv1, gv2, gv3, gv4⟩ := id gV
  obtain ⟨gr0, gr1, gr2, gr3, gr4, gr5, gr6⟩ := id gR
  obtain ⟨gf0, gf1, gf2, gf3, gf4, gf5, gf6⟩ := id gF
  obtain ⟨i1, i2, i3, i4, i5, hw1, hw4, hn1, hn2, hk4⟩ := id hin
  refine eg_aload_n dX0_prepare_0 rfl rfl ?_
  refine eg_getR gf_RX0_21 rfl (by assumption) (by assumption) dX0_prepare_1 ?_
  refine eg_aload_n dX0_prepare_4 rfl rfl ?_
  refine eg_callV1 0 0 gk_X2_copyGiven gi_X2_copyGiven (by assumption) rfl gl_RX0_39 rfl (Nat.le_of_ble_eq_true rfl) (Nat.le_of_ble_eq_true rfl) (Nat.zero_le _) (Nat.zero_le _) (by omega) dX0_prepare_5 ?_
  refine sp_X2_copyGiven (by omega) gV hu (by omega) hin (fun M1 h1 => ?_)
  refine eg_aload_n dX0_prepare_8 rfl rfl ?_
  refine eg_iconst dX0_prepare_9 (v := nI 0) (by decide) ?_
  refine eg_aload_n dX0_prepare_10 rfl rfl ?_
  refine eg_getR gf_RX0_9 rfl (by assumption) (by assumption) dX0_prepare_11 ?_
  refine eg_iconst dX0_prepare_14 (v := nI 0) (by decide) ?_
  refine eg_bipush dX0_prepare_15 (v := nI 13) (by decide) ?_
  refine eg_copy0 gl_RX0_43 hca g2 (N0 := 13) (N1 := 13) (cnt := 13) (by omega) (by omega) (by omega) (Nat.le_of_ble_eq_true rfl) (by omega) dX0_prepare_17 ?_
  refine eg_aload_n dX0_prepare_20 rfl rfl ?_
  refine eg_iconst dX0_prepare_21 (v := nI 0) (by decide) ?_
  refine eg_aload_n dX0_prepare_22 rfl rfl ?_
  refine eg_getR gf_RX0_15 rfl (by assumption) (by assumption) dX0_prepare_23 ?_
  refine eg_iconst dX0_prepare_26 (v := nI 0) (by decide) ?_
  refine eg_sipush dX0_prepare_27 (v := nI 256) (by decide) ?_
  refine eg_copy0 gl_RX0_43 hta g4 (N0 := 256) (N1 := 256) (cnt := 256) (by omega) (by omega) (by omega) (Nat.le_of_ble_eq_true rfl) (by omega) dX0_prepare_30 ?_
  exact eg_vret rfl dX0_prepare_33 (hQ _ ⟨h1.1.eq (by funext j; show (if h + 3 = h + 2 ∧ _ then _ else (if h + 3 = h + 1 ∧ _ then _ else M1 (h + 3) j)) = _; rw [if_neg (by omega), if_neg (by omega)]), fun x s g1 g2 => by
        show (if h + 3 + 2 + x = h + 2 ∧ _ then _ else (if h + 3 + 2 + x = h + 1 ∧ _ then _ else M1 (h + 3 + 2 + x) s)) = _
        rw [if_neg (by omega), if_neg (by omega)]
        exact h1.2.1 x s g1 g2, fun o ho => by
        show (if h + 1 = h + 2 ∧ _ then _ else (if h + 1 = h + 1 ∧ o < 13 then M1 ca o else _)) = _
        rw [if_neg (by omega), if_pos ⟨rfl, ho⟩, h1.2.2 ca (by omega) (by omega)], fun s hsz => by
        show (if h + 2 = h + 2 ∧ s < 256 then (if ta = h + 1 ∧ s < 13 then M1 ca s else M1 ta s) else _) = _
        rw [if_pos ⟨rfl, hsz⟩, if_neg (by omega), h1.2.2 ta (by omega) (by omega)], fun q hq => by
        rw [← h1.2.2 q (by omega) (by omega)]
        funext j
        show (if q = h + 2 ∧ _ then _ else (if q = h + 1 ∧ _ then _ else M1 q j)) = _
        rw [if_neg (by omega), if_neg (by omega)]⟩)
set_option maxHeartbeats 4000000 in
theorem sp_X0_findGiven {l : Launch} {E : eg_E} {d kb nb : Nat} {Q : Option Value → eg_G → eg_I → Prop} {G : eg_G} {M : eg_I} {h w n k : Nat} (hd : 2 ≤ d) (hs : sh_H G h) (hin : in_V M (h + 3) w n k) (hS : ∀ v, v < n + k → (∀ u, u < v → (∃ j, j < 2 ^ (w * n) ∧ ¬ M (h + 3 + 2 + u) j = M (h + 2) j)) → (∀ j, j < 2 ^ (w * n) → M (h + 3 + 2 + v) j = M (h + 2) j) → Q none G (eg_set (eg_set (eg_set M (h + 27) 3 (nI 0)) (h + 27) 4 (nI v)) h 10 (nI 1))) (hN : (∀ u, u < n + k → (∃ j, j < 2 ^ (w * n) ∧ ¬ M (h + 3 + 2 + u) j = M (h + 2) j)) → Q none G M) : eg_J l E mX0_findGiven d kb nb Q 0 [some (.ref h), none] [] G M := by
  obtain ⟨g0, g1, g2, g3, g4, g5, gV, g6, gR, g7, gF⟩ := id hs
  obtain ⟨gv1, gv2, gv3, gv4⟩ := id gV
  obtain ⟨gr0, gr1, gr2, gr3, gr4, gr5, gr6⟩ := id gR
  obtain ⟨gf0, gf1, gf2, gf3, gf4, gf5, gf6⟩ := id gF
  obtain ⟨i1, i2, i3, i4, i5, hw1, hw4, hn1, hn2, hk4⟩ := id hin
  refine eg_aload_n dX0_findGiven_0 rfl rfl ?_
  refine eg_getR gf_RX0_21 rfl (by assumption) (by assumption) dX0_findGiven_1 ?_
  refine eg_aload_n dX0_findGiven_4 rfl rfl ?_
  refine eg_getR gf_RX0_21 rfl (by assumption) (by assumption) dX0_findGiven_5 ?_
  refine eg_callV0 0 0 gk_X2_given gi_X2_given (by assumption) rfl gl_RX0_75 rfl (Nat.le_of_ble_eq_true rfl) (Nat.le_of_ble_eq_true rfl) (Nat.zero_le _) (Nat.zero_le _) (by omega) dX0_findGiven_8 ?_
  refine sp_X2_given gv1 hin ?_
  refine eg_aload_n dX0_findGiven_11 rfl rfl ?_
  refine eg_getR gf_RX0_15 rfl (by assumption) (by assumption) dX0_findGiven_12 ?_
  refine eg_callV2 0 0 gk_X2_leastBelow gi_X2_leastBelow (by assumption) rfl gl_RX0_79 rfl (Nat.le_of_ble_eq_true rfl) (Nat.le_of_ble_eq_true rfl) (Nat.zero_le _) (Nat.zero_le _) (by omega) dX0_findGiven_15 ?_
  refine sp_X2_leastBelow (k := k) (by omega) gV g4 (by omega) hin (fun z1 => ?_) (fun v z1 z2 z3 => ?_)
  · refine eg_istore_n dX0_findGiven_18 rfl (by decide) rfl ?_
    refine eg_iload_n dX0_findGiven_19 rfl rfl ?_
    refine eg_if_lt 36 dX0_findGiven_20 (by decide) (fun _ => ?_) (fun z => absurd (by decide) z)
    exact eg_vret rfl dX0_findGiven_36 (hN z1)
  · refine eg_istore_n dX0_findGiven_18 rfl (by decide) rfl ?_
    refine eg_iload_n dX0_findGiven_19 rfl rfl ?_
    refine eg_if_lt 36 dX0_findGiven_20 (by decide) (fun z => absurd z (nI_pos (by omega))) (fun _ => ?_)
    refine eg_aload_n dX0_findGiven_23 rfl rfl ?_
    refine eg_getR gf_RX0_32 rfl g0 g7 dX0_findGiven_24 ?_
    refine eg_iload_n dX0_findGiven_27 rfl rfl ?_
    refine eg_callV1 0 0 gk_X1_empty gi_X1_empty gf0 rfl gl_RX0_83 rfl (Nat.le_of_ble_eq_true rfl) (Nat.le_of_ble_eq_true rfl) (Nat.zero_le _) (Nat.zero_le _) (by omega) dX0_findGiven_28 ?_
    refine sp_X1_empty gF ?_
    refine eg_aload_n dX0_findGiven_31 rfl rfl ?_
    refine eg_iconst dX0_findGiven_32 (v := nI 1) (by decide) ?_
    refine eg_putI gp_RX0_65 (fun q => by cases q) rfl rfl rfl g0 dX0_findGiven_33 ?_
    exact eg_vret rfl dX0_findGiven_36 (hS v z1 z2 z3)
def hu_E (M M' : eg_I) (h : Nat) : Prop := ∀ q, ¬ (h ≤ q ∧ q < h + 31) → M' q = M q
set_option maxHeartbeats 4000000 in
theorem lp_X0_run1 {h n k L rd : Nat} {σ : ss_S} {x1 x2 x3 : Int32} {l5 : Option Value} {M0 M : eg_I} {l : Launch} {E : eg_E} {G : eg_G} {d kb nb : Nat} {Q : Option Value → eg_G → eg_I → Prop} (hs : sh_H G h) (hE : hu_E M0 M h) (hS : hu_S M h (n + k) L σ) (hL : L ≤ 30000) (h9 : M h 9 = nI rd) (hQ : (∀ M', hu_E M0 M' h → M' h 8 = nI (σ, rd).1.1 → M' h 9 = nI (σ, rd).2 → M' h 10 = nI (σ, rd).1.2.1 → M' h 11 = ss_ans (σ, rd) → (¬ ((σ, rd).1.2.2.1 = true ∨ (σ, rd).1.2.1 = 0) → in_R M' (h + 27) (σ, rd).1.2.2.2.1 (σ, rd).1.2.2.2.2.1 (σ, rd).1.2.2.2.2.2.1 (σ, rd).1.2.2.2.2.2.2 (n + k + (σ, rd).1.2.2.2.1 - 1)) → Q (some (.int (ss_ans (σ, rd)))) G M')) : eg_J l E mX0_run d kb nb Q 87 [some (.ref h), some (.int x1), some (.int x2), some (.int x3), some (.int (nI rd)), l5] [] G M := by
  obtain ⟨g0, g1, g2, g3, g4, g5, gV, g6, gR, g7, gF⟩ := id hs
  obtain ⟨gv1, gv2, gv3, gv4⟩ := id gV
  obtain ⟨gr0, gr1, gr2, gr3, gr4, gr5, gr6⟩ := id gR
  obtain ⟨gf0, gf1, gf2, gf3, gf4, gf5, gf6⟩ := id gF
  obtain ⟨e1, e2, e3, e4, e5, e6⟩ := id hS
  refine eg_aload_n dX0_run_87 rfl rfl ?_
  refine eg_getI gf_RX0_56 rfl (by assumption) dX0_run_88 ?_
  refine eg_topi e1 ?_
  refine eg_if_eq 103 dX0_run_91 (by decide) (fun c => ?_) (fun c => ?_)
  · refine eg_aload_n dX0_run_103 rfl rfl ?_
    refine eg_aload_n dX0_run_104 rfl rfl ?_
    refine eg_getI gf_RX0_65 rfl (by assumption) dX0_run_105 ?_
    refine eg_topi e3 ?_
    refine eg_if_ne 116 dX0_run_108 (by decide) (fun c2 => ?_) (fun c2 => ?_)
    · refine eg_iload dX0_run_116 rfl ?_
      refine eg_putI gp_RX0_35 (fun q => by cases q) rfl rfl rfl (by assumption) dX0_run_118 ?_
      refine eg_aload_n dX0_run_121 rfl rfl ?_
      refine eg_getI gf_RX0_35 rfl (by assumption) dX0_run_122 ?_
      refine eg_topi eg_set_eq ?_
      first
        | (have hsp : σ.2.2.1 = true := Classical.byContradiction fun z => c (by rw [if_neg z])
           have ea : ss_ans (σ, rd) = -6 := if_pos hsp
           rw [ea] at hQ
           exact eg_iret rfl dX0_run_125 (by
             refine hQ _ (fun q z => ?_) ?_ ?_ ?_ eg_set_eq (fun z => ?_)
             · rw [eg_set_ne (by omega)]; exact hE q z
             · rw [eg_set_j (by decide)]; exact e2
             · rw [eg_set_j (by decide)]; exact h9
             · rw [eg_set_j (by decide)]; exact e3
             · exact (e4 (by show 0 < σ.2.1; simp only [not_or] at z; omega)).eq (fun q z1 z2 => eg_set_ne (by omega))))
        | (have hsp : ¬ σ.2.2.1 = true := fun z => absurd (c.symm.trans (if_pos z)) (by decide)
           have hh : σ.2.1 = 0 := (nI_eq (by omega) (by omega)).mp (c2.trans nI_0.symm)
           have ea : ss_ans (σ, rd) = -5 := by unfold ss_ans; rw [if_neg hsp, if_pos hh]
           rw [ea] at hQ
           exact eg_iret rfl dX0_run_125 (by
             refine hQ _ (fun q z => ?_) ?_ ?_ ?_ eg_set_eq (fun z => ?_)
             · rw [eg_set_ne (by omega)]; exact hE q z
             · rw [eg_set_j (by decide)]; exact e2
             · rw [eg_set_j (by decide)]; exact h9
             · rw [eg_set_j (by decide)]; exact e3
             · exact (e4 (by show 0 < σ.2.1; simp only [not_or] at z; omega)).eq (fun q z1 z2 => eg_set_ne (by omega))))
        | (have hsp : ¬ σ.2.2.1 = true := fun z => absurd (c.symm.trans (if_pos z)) (by decide)
           have hh : ¬ σ.2.1 = 0 := fun z => c2 (by rw [z]; rfl)
           have ea : ss_ans (σ, rd) = nI rd := by unfold ss_ans; rw [if_neg hsp, if_neg hh]
           rw [ea] at hQ
           exact eg_iret rfl dX0_run_125 (by
             refine hQ _ (fun q z => ?_) ?_ ?_ ?_ eg_set_eq (fun z => ?_)
             · rw [eg_set_ne (by omega)]; exact hE q z
             · rw [eg_set_j (by decide)]; exact e2
             · rw [eg_set_j (by decide)]; exact h9
             · rw [eg_set_j (by decide)]; exact e3
             · exact (e4 (by show 0 < σ.2.1; simp only [not_or] at z; omega)).eq (fun q z1 z2 => eg_set_ne (by omega))))
    · refine eg_bipush dX0_run_111 (v := -5) (by decide) ?_
      refine eg_goto 118 dX0_run_113 (by decide) ?_
      refine eg_putI gp_RX0_35 (fun q => by cases q) rfl rfl rfl (by assumption) dX0_run_118 ?_
      refine eg_aload_n dX0_run_121 rfl rfl ?_
      refine eg_getI gf_RX0_35 rfl (by assumption) dX0_run_122 ?_
      refine eg_topi eg_set_eq ?_
      first
        | (have hsp : σ.2.2.1 = true := Classical.byContradiction fun z => c (by rw [if_neg z])
           have ea : ss_ans (σ, rd) = -6 := if_pos hsp
           rw [ea] at hQ
           exact eg_iret rfl dX0_run_125 (by
             refine hQ _ (fun q z => ?_) ?_ ?_ ?_ eg_set_eq (fun z => ?_)
             · rw [eg_set_ne (by omega)]; exact hE q z
             · rw [eg_set_j (by decide)]; exact e2
             · rw [eg_set_j (by decide)]; exact h9
             · rw [eg_set_j (by decide)]; exact e3
             · exact (e4 (by show 0 < σ.2.1; simp only [not_or] at z; omega)).eq (fun q z1 z2 => eg_set_ne (by omega))))
        | (have hsp : ¬ σ.2.2.1 = true := fun z => absurd (c.symm.trans (if_pos z)) (by decide)
           have hh : σ.2.1 = 0 := (nI_eq (by omega) (by omega)).mp (c2.trans nI_0.symm)
           have ea : ss_ans (σ, rd) = -5 := by unfold ss_ans; rw [if_neg hsp, if_pos hh]
           rw [ea] at hQ
           exact eg_iret rfl dX0_run_125 (by
             refine hQ _ (fun q z => ?_) ?_ ?_ ?_ eg_set_eq (fun z => ?_)
             · rw [eg_set_ne (by omega)]; exact hE q z
             · rw [eg_set_j (by decide)]; exact e2
             · rw [eg_set_j (by decide)]; exact h9
             · rw [eg_set_j (by decide)]; exact e3
             · exact (e4 (by show 0 < σ.2.1; simp only [not_or] at z; omega)).eq (fun q z1 z2 => eg_set_ne (by omega))))
        | (have hsp : ¬ σ.2.2.1 = true := fun z => absurd (c.symm.trans (if_pos z)) (by decide)
           have hh : ¬ σ.2.1 = 0 := fun z => c2 (by rw [z]; rfl)
           have ea : ss_ans (σ, rd) = nI rd := by unfold ss_ans; rw [if_neg hsp, if_neg hh]
           rw [ea] at hQ
           exact eg_iret rfl dX0_run_125 (by
             refine hQ _ (fun q z => ?_) ?_ ?_ ?_ eg_set_eq (fun z => ?_)
             · rw [eg_set_ne (by omega)]; exact hE q z
             · rw [eg_set_j (by decide)]; exact e2
             · rw [eg_set_j (by decide)]; exact h9
             · rw [eg_set_j (by decide)]; exact e3
             · exact (e4 (by show 0 < σ.2.1; simp only [not_or] at z; omega)).eq (fun q z1 z2 => eg_set_ne (by omega))))
  · refine eg_aload_n dX0_run_94 rfl rfl ?_
    refine eg_bipush dX0_run_95 (v := -6) (by decide) ?_
    refine eg_putI gp_RX0_35 (fun q => by cases q) rfl rfl rfl (by assumption) dX0_run_97 ?_
    refine eg_goto 121 dX0_run_100 (by decide) ?_
    refine eg_aload_n dX0_run_121 rfl rfl ?_
    refine eg_getI gf_RX0_35 rfl (by assumption) dX0_run_122 ?_
    refine eg_topi eg_set_eq ?_
    first
      | (have hsp : σ.2.2.1 = true := Classical.byContradiction fun z => c (by rw [if_neg z])
         have ea : ss_ans (σ, rd) = -6 := if_pos hsp
         rw [ea] at hQ
         exact eg_iret rfl dX0_run_125 (by
           refine hQ _ (fun q z => ?_) ?_ ?_ ?_ eg_set_eq (fun z => ?_)
           · rw [eg_set_ne (by omega)]; exact hE q z
           · rw [eg_set_j (by decide)]; exact e2
           · rw [eg_set_j (by decide)]; exact h9
           · rw [eg_set_j (by decide)]; exact e3
           · exact (e4 (by show 0 < σ.2.1; simp only [not_or] at z; omega)).eq (fun q z1 z2 => eg_set_ne (by omega))))
      | (have hsp : ¬ σ.2.2.1 = true := fun z => absurd (c.symm.trans (if_pos z)) (by decide)
         have hh : σ.2.1 = 0 := (nI_eq (by omega) (by omega)).mp (c2.trans nI_0.symm)
         have ea : ss_ans (σ, rd) = -5 := by unfold ss_ans; rw [if_neg hsp, if_pos hh]
         rw [ea] at hQ
         exact eg_iret rfl dX0_run_125 (by
           refine hQ _ (fun q z => ?_) ?_ ?_ ?_ eg_set_eq (fun z => ?_)
           · rw [eg_set_ne (by omega)]; exact hE q z
           · rw [eg_set_j (by decide)]; exact e2
           · rw [eg_set_j (by decide)]; exact h9
           · rw [eg_set_j (by decide)]; exact e3
           · exact (e4 (by show 0 < σ.2.1; simp only [not_or] at z; omega)).eq (fun q z1 z2 => eg_set_ne (by omega))))
      | (have hsp : ¬ σ.2.2.1 = true := fun z => absurd (c.symm.trans (if_pos z)) (by decide)
         have hh : ¬ σ.2.1 = 0 := fun z => c2 (by rw [z]; rfl)
         have ea : ss_ans (σ, rd) = nI rd := by unfold ss_ans; rw [if_neg hsp, if_neg hh]
         rw [ea] at hQ
         exact eg_iret rfl dX0_run_125 (by
           refine hQ _ (fun q z => ?_) ?_ ?_ ?_ eg_set_eq (fun z => ?_)
           · rw [eg_set_ne (by omega)]; exact hE q z
           · rw [eg_set_j (by decide)]; exact e2
           · rw [eg_set_j (by decide)]; exact h9
           · rw [eg_set_j (by decide)]; exact e3
           · exact (e4 (by show 0 < σ.2.1; simp only [not_or] at z; omega)).eq (fun q z1 z2 => eg_set_ne (by omega))))
set_option maxHeartbeats 4000000 in
theorem lp_X0_run {l : Launch} {E : eg_E} {G : eg_G} {h w n k : Nat} {co : Nat → Nat} {tg : Nat → Int32} {L : Nat} {al : Bool} {cost : Nat} {V : Nat → Nat → Int32} {x2 x3 : Int32} {M0 : eg_I} {d kb nb : Nat} {Q : Option Value → eg_G → eg_I → Prop} (hs : sh_H G h) (hd : 43 ≤ d) (hcost : cost ≤ 30) : ∀ (t rd : Nat) (σ : ss_S) (M : eg_I), rd + t = cost → hu_E M0 M h → hu_C M h w n k co tg L al → hu_P M h (2 ^ (w * n)) (n + k) 0 (fun _ => 0) (fun _ => 0) (fun _ => 0) V → hu_S M h (n + k) L σ → M h 9 = nI rd → (∀ M', hu_E M0 M' h → M' h 8 = nI (ss_rds w (2 ^ (w * n)) (n + k) co tg L al V t rd σ).1.1 → M' h 9 = nI (ss_rds w (2 ^ (w * n)) (n + k) co tg L al V t rd σ).2 → M' h 10 = nI (ss_rds w (2 ^ (w * n)) (n + k) co tg L al V t rd σ).1.2.1 → M' h 11 = ss_ans (ss_rds w (2 ^ (w * n)) (n + k) co tg L al V t rd σ) → (¬ ((ss_rds w (2 ^ (w * n)) (n + k) co tg L al V t rd σ).1.2.2.1 = true ∨ (ss_rds w (2 ^ (w * n)) (n + k) co tg L al V t rd σ).1.2.1 = 0) → in_R M' (h + 27) (ss_rds w (2 ^ (w * n)) (n + k) co tg L al V t rd σ).1.2.2.2.1 (ss_rds w (2 ^ (w * n)) (n + k) co tg L al V t rd σ).1.2.2.2.2.1 (ss_rds w (2 ^ (w * n)) (n + k) co tg L al V t rd σ).1.2.2.2.2.2.1 (ss_rds w (2 ^ (w * n)) (n + k) co tg L al V t rd σ).1.2.2.2.2.2.2 (n + k + (ss_rds w (2 ^ (w * n)) (n + k) co tg L al V t rd σ).1.2.2.2.1 - 1)) → Q (some (.int (ss_ans (ss_rds w (2 ^ (w * n)) (n + k) co tg L al V t rd σ)))) G M') → eg_J l E mX0_run d kb nb Q 40 [some (.ref h), some (.int (nI cost)), some (.int x2), some (.int x3), some (.int (nI rd)), some (.int (nI (rd + 1)))] [] G M := by
  intro t
  induction t with
  | zero =>
    intro rd σ M hrd hE hc hP hS h9 hQ
    obtain ⟨g0, g1, g2, g3, g4, g5, gV, g6, gR, g7, gF⟩ := id hs
    obtain ⟨gv1, gv2, gv3, gv4⟩ := id gV
    obtain ⟨gr0, gr1, gr2, gr3, gr4, gr5, gr6⟩ := id gR
    obtain ⟨gf0, gf1, gf2, gf3, gf4, gf5, gf6⟩ := id gF
    obtain ⟨c1, c2, c3, c4, c5, c6⟩ := id hc
    obtain ⟨e1, e2, e3, e4, e5, e6⟩ := id hS
    obtain ⟨v1, v2, v3, v4, v5, hw1, hw4, hn1, hn2, hk4⟩ := id c1
    have hA := wd_asg hw4 hn2
    refine eg_iload dX0_run_40 rfl ?_
    refine eg_iload_n dX0_run_42 rfl rfl ?_
    refine eg_icmp_gt 87 dX0_run_43 (by decide) (fun c43 => ?_) (fun c43 => absurd (nI_lt (by omega) (by omega)) c43)
    exact lp_X0_run1 hs hE hS c6 h9 hQ
  | succ t ih =>
    intro rd σ M hrd hE hc hP hS h9 hQ
    obtain ⟨g0, g1, g2, g3, g4, g5, gV, g6, gR, g7, gF⟩ := id hs
    obtain ⟨gv1, gv2, gv3, gv4⟩ := id gV
    obtain ⟨gr0, gr1, gr2, gr3, gr4, gr5, gr6⟩ := id gR
    obtain ⟨gf0, gf1, gf2, gf3, gf4, gf5, gf6⟩ := id gF
    obtain ⟨c1, c2', c3, c4, c5, c6⟩ := id hc
    obtain ⟨e1, e2, e3, e4, e5, e6⟩ := id hS
    obtain ⟨v1, v2, v3, v4, v5, hw1, hw4, hn1, hn2, hk4⟩ := id c1
    have hA := wd_asg hw4 hn2
    refine eg_iload dX0_run_40 rfl ?_
    refine eg_iload_n dX0_run_42 rfl rfl ?_
    refine eg_icmp_gt 87 dX0_run_43 (by decide) (fun c43 => absurd c43 (nI_nlt (by omega) (by omega))) (fun c43 => ?_)
    refine eg_aload_n dX0_run_46 rfl rfl ?_
    refine eg_getI gf_RX0_65 rfl (by assumption) dX0_run_47 ?_
    refine eg_topi e3 ?_
    refine eg_if_ne 87 dX0_run_50 (by decide) (fun c => ?_) (fun c => ?_)
    · have hh : 0 < σ.2.1 := Nat.pos_of_ne_zero (fun z => c (by rw [z]; rfl))
      rw [show ss_rds w (2 ^ (w * n)) (n + k) co tg L al V (t + 1) rd σ = (σ, rd) from if_pos (Or.inl hh)] at hQ
      exact lp_X0_run1 hs hE hS c6 h9 hQ
    · refine eg_aload_n dX0_run_53 rfl rfl ?_
      refine eg_getI gf_RX0_56 rfl (by assumption) dX0_run_54 ?_
      refine eg_topi e1 ?_
      refine eg_if_ne 87 dX0_run_57 (by decide) (fun c2 => ?_) (fun c2 => ?_)
      · have hsp : σ.2.2.1 = true := Classical.byContradiction fun z => c2 (by rw [if_neg z])
        rw [show ss_rds w (2 ^ (w * n)) (n + k) co tg L al V (t + 1) rd σ = (σ, rd) from if_pos (Or.inr hsp)] at hQ
        exact lp_X0_run1 hs hE hS c6 h9 hQ
      · have hh : σ.2.1 = 0 := (nI_eq (by omega) (by omega)).mp (c.trans nI_0.symm)
        have hsp : ¬ σ.2.2.1 = true := fun z => absurd (c2.symm.trans (if_pos z)) (by decide)
        rw [show ss_rds w (2 ^ (w * n)) (n + k) co tg L al V (t + 1) rd σ = ss_rds w (2 ^ (w * n)) (n + k) co tg L al V t (rd + 1) (ss_fill w (2 ^ (w * n)) (n + k) co tg L al 12 0 (rd + 1) (fun _ => 0) (fun _ => 0) (fun _ => 0) V σ) from if_neg (fun z => z.elim (fun z => by omega) hsp)] at hQ
        refine eg_aload_n dX0_run_60 rfl rfl ?_
        refine eg_dup dX0_run_61 rfl ?_
        refine eg_getI gf_RX0_62 rfl (by assumption) dX0_run_62 ?_
        refine eg_topi h9 ?_
        refine eg_iconst dX0_run_65 (v := nI 1) (by decide) ?_
        refine eg_iadd dX0_run_66 ?_
        refine eg_topi (nI_add rd 1) ?_
        refine eg_putI gp_RX0_62 (fun q => by cases q) rfl rfl rfl (by assumption) dX0_run_67 ?_
        refine eg_iload dX0_run_70 rfl ?_
        refine eg_istore dX0_run_72 (by decide) rfl ?_
        refine eg_aload_n dX0_run_74 rfl rfl ?_
        refine eg_iconst dX0_run_75 (v := nI 0) (by decide) ?_
        refine eg_iload dX0_run_76 rfl ?_
        have hc1 : hu_C (eg_set M h 9 (nI (rd + 1))) h w n k co tg L al := ⟨c1.eq (eg_set_ne (by omega)), fun o ho => by rw [eg_set_ne (by omega)]; exact c2' o ho, fun s z => by rw [eg_set_ne (by omega)]; exact c3 s z, by rw [eg_set_j (by decide)]; exact c4, by rw [eg_set_j (by decide)]; exact c5, c6⟩
        refine eg_callV2 0 0 gk_X0_fill gi_X0_fill (by assumption) rfl gl_RX0_71 rfl (Nat.le_of_ble_eq_true rfl) (Nat.le_of_ble_eq_true rfl) (Nat.zero_le _) (Nat.zero_le _) (by omega) dX0_run_78 ?_
        refine sp_FS hs 12 _ _ _ _ 0 (rd + 1) (fun _ => 0) (fun _ => 0) (fun _ => 0) V σ (eg_set M h 9 (nI (rd + 1))) (by omega) (by omega) (by omega) hc1 ⟨fun u s z1 z2 => by rw [eg_set_ne (by omega)]; exact hP.1 u s z1 z2, fun j z => absurd z (by omega)⟩ ⟨by rw [eg_set_j (by decide)]; exact e1, by rw [eg_set_j (by decide)]; exact e2, by rw [eg_set_j (by decide)]; exact e3, fun z => absurd z (by omega), e5, e6⟩ (fun M2 f2 p2 s2 => ?_)
        generalize ss_fill w (2 ^ (w * n)) (n + k) co tg L al 12 0 (rd + 1) (fun _ => 0) (fun _ => 0) (fun _ => 0) V σ = σ2 at s2 hQ
        refine eg_iinc dX0_run_81 (by decide) rfl (eg_inc (rd + 1)) rfl ?_
        refine eg_goto 40 dX0_run_84 (by decide) ?_
        refine ih (rd + 1) σ2 M2 (by omega) (fun q z => ?_) ?_ p2 s2 ?_ hQ
        · rw [f2.1 q z, eg_set_ne (by omega)]; exact hE q z
        · exact hc1.fr f2
        · rw [f2.2.2 9 (by decide) (by decide) (by decide), eg_set_eq]
set_option maxHeartbeats 4000000 in
theorem sp_X0_run {l : Launch} {E : eg_E} {G : eg_G} {h w n k : Nat} {co : Nat → Nat} {tg : Nat → Int32} {L : Nat} {al : Bool} {cost : Nat} {V : Nat → Nat → Int32} {x3 : Int32} {M : eg_I} {d kb nb : Nat} {Q : Option Value → eg_G → eg_I → Prop} (hs : sh_H G h) (hd : 43 ≤ d) (hcost : cost ≤ 30) (hL : L ≤ 30000) (hx3 : x3 = if al = true then 1 else 0) (hn3 : narrow .boolean (.int x3) = .int x3) (hf3 : fits .boolean (.int x3) = true) (hin : in_V M (h + 3) w n k) (hV : ∀ u s, u < n + k → s < (2 ^ (w * n)) → M (h + 3 + 2 + u) s = V u s) (hco : ∀ o, o < 13 → M (h + 1) o = nI (co o) ∧ co o ≤ 9) (hT : ∀ s, s < (2 ^ (w * n)) → M (h + 2) s = tg s) (hG : (∀ v M', v < n + k → (∀ u, u < v → (∃ j, j < 2 ^ (w * n) ∧ ¬ V u j = tg j)) → (∀ j, j < 2 ^ (w * n) → V v j = tg j) → hu_E M M' h → M' h 8 = nI 0 → M' h 9 = nI 0 → M' h 10 = nI 1 → M' h 11 = nI 0 → M' (h + 27) 3 = nI 0 → M' (h + 27) 4 = nI v → Q (some (.int (nI 0))) G M')) (hR : ((∀ u, u < n + k → (∃ j, j < 2 ^ (w * n) ∧ ¬ V u j = tg j)) → (∀ M', hu_E M M' h → M' h 8 = nI (ss_rds w (2 ^ (w * n)) (n + k) co tg L al V cost 0 ss_0).1.1 → M' h 9 = nI (ss_rds w (2 ^ (w * n)) (n + k) co tg L al V cost 0 ss_0).2 → M' h 10 = nI (ss_rds w (2 ^ (w * n)) (n + k) co tg L al V cost 0 ss_0).1.2.1 → M' h 11 = ss_ans (ss_rds w (2 ^ (w * n)) (n + k) co tg L al V cost 0 ss_0) → (¬ ((ss_rds w (2 ^ (w * n)) (n + k) co tg L al V cost 0 ss_0).1.2.2.1 = true ∨ (ss_rds w (2 ^ (w * n)) (n + k) co tg L al V cost 0 ss_0).1.2.1 = 0) → in_R M' (h + 27) (ss_rds w (2 ^ (w * n)) (n + k) co tg L al V cost 0 ss_0).1.2.2.2.1 (ss_rds w (2 ^ (w * n)) (n + k) co tg L al V cost 0 ss_0).1.2.2.2.2.1 (ss_rds w (2 ^ (w * n)) (n + k) co tg L al V cost 0 ss_0).1.2.2.2.2.2.1 (ss_rds w (2 ^ (w * n)) (n + k) co tg L al V cost 0 ss_0).1.2.2.2.2.2.2 (n + k + (ss_rds w (2 ^ (w * n)) (n + k) co tg L al V cost 0 ss_0).1.2.2.2.1 - 1)) → Q (some (.int (ss_ans (ss_rds w (2 ^ (w * n)) (n + k) co tg L al V cost 0 ss_0)))) G M'))) : eg_J l E mX0_run d kb nb Q 0 [some (.ref h), some (.int (nI cost)), some (.int (nI L)), some (.int x3), none, none] [] G M := by
  obtain ⟨g0, g1, g2, g3, g4, g5, gV, g6, gR, g7, gF⟩ := id hs
  obtain ⟨gv1, gv2, gv3, gv4⟩ := id gV
  obtain ⟨gr0, gr1, gr2, gr3, gr4, gr5, gr6⟩ := id gR
  obtain ⟨gf0, gf1, gf2, gf3, gf4, gf5, gf6⟩ := id gF
  obtain ⟨i1, i2, i3, i4, i5, hw1, hw4, hn1, hn2, hk4⟩ := id hin
  refine eg_aload_n dX0_run_0 rfl rfl ?_
  refine eg_iload_n dX0_run_1 rfl rfl ?_
  refine eg_putI gp_RX0_49 (fun q => by cases q) rfl rfl rfl (by assumption) dX0_run_2 ?_
  refine eg_aload_n dX0_run_5 rfl rfl ?_
  refine eg_iload_n dX0_run_6 rfl rfl ?_
  refine eg_putI gp_RX0_52 (fun q => by cases q) rfl hn3 hf3 (by assumption) dX0_run_7 ?_
  refine eg_aload_n dX0_run_10 rfl rfl ?_
  refine eg_iconst dX0_run_11 (v := nI 0) (by decide) ?_
  refine eg_putI gp_RX0_56 (fun q => by cases q) rfl rfl rfl (by assumption) dX0_run_12 ?_
  refine eg_aload_n dX0_run_15 rfl rfl ?_
  refine eg_iconst dX0_run_16 (v := nI 0) (by decide) ?_
  refine eg_putI gp_RX0_59 (fun q => by cases q) rfl rfl rfl (by assumption) dX0_run_17 ?_
  refine eg_aload_n dX0_run_20 rfl rfl ?_
  refine eg_iconst dX0_run_21 (v := nI 0) (by decide) ?_
  refine eg_putI gp_RX0_62 (fun q => by cases q) rfl rfl rfl (by assumption) dX0_run_22 ?_
  refine eg_aload_n dX0_run_25 rfl rfl ?_
  refine eg_iconst dX0_run_26 (v := nI 0) (by decide) ?_
  refine eg_putI gp_RX0_65 (fun q => by cases q) rfl rfl rfl (by assumption) dX0_run_27 ?_
  generalize hM1 : eg_set (eg_set (eg_set (eg_set (eg_set (eg_set M h 5 (nI L)) h 6 x3) h 7 (nI 0)) h 8 (nI 0)) h 9 (nI 0)) h 10 (nI 0) = M1
  have o1 : ∀ q, q ≠ h → M1 q = M q := fun q z => by rw [← hM1, eg_set_ne z, eg_set_ne z, eg_set_ne z, eg_set_ne z, eg_set_ne z, eg_set_ne z]
  have a5 : M1 h 5 = nI L := by rw [← hM1, eg_set_j (by decide), eg_set_j (by decide), eg_set_j (by decide), eg_set_j (by decide), eg_set_j (by decide), eg_set_eq]
  have a6 : M1 h 6 = x3 := by rw [← hM1, eg_set_j (by decide), eg_set_j (by decide), eg_set_j (by decide), eg_set_j (by decide), eg_set_eq]
  have a7 : M1 h 7 = nI 0 := by rw [← hM1, eg_set_j (by decide), eg_set_j (by decide), eg_set_j (by decide), eg_set_eq]
  have a8 : M1 h 8 = nI 0 := by rw [← hM1, eg_set_j (by decide), eg_set_j (by decide), eg_set_eq]
  have a9 : M1 h 9 = nI 0 := by rw [← hM1, eg_set_j (by decide), eg_set_eq]
  have a10 : M1 h 10 = nI 0 := by rw [← hM1, eg_set_eq]
  have in1 := hin.eq (o1 (h + 3) (by omega))
  have V1 : ∀ u s, u < n + k → s < 2 ^ (w * n) → M1 (h + 3 + 2 + u) s = V u s := fun u s z1 z2 => by rw [o1 _ (by omega)]; exact hV u s z1 z2
  have T1 : ∀ s, s < 2 ^ (w * n) → M1 (h + 2) s = tg s := fun s z => by rw [o1 _ (by omega)]; exact hT s z
  refine eg_aload_n dX0_run_30 rfl rfl ?_
  refine eg_callV0 0 0 gk_X0_findGiven gi_X0_findGiven (by assumption) rfl gl_RX0_68 rfl (Nat.le_of_ble_eq_true rfl) (Nat.le_of_ble_eq_true rfl) (Nat.zero_le _) (Nat.zero_le _) (by omega) dX0_run_31 ?_
  refine sp_X0_findGiven (k := k) (by omega) hs in1 (fun v z1 z2 z3 => ?_) (fun z1 => ?_)
  · refine eg_iconst dX0_run_34 (v := nI 0) (by decide) ?_
    refine eg_istore dX0_run_35 (by decide) rfl ?_
    refine eg_iconst dX0_run_37 (v := nI 1) (by decide) ?_
    refine eg_istore dX0_run_38 (by decide) rfl ?_
    have b7 : eg_set (eg_set (eg_set M1 (h + 27) 3 (nI 0)) (h + 27) 4 (nI v)) h 10 (nI 1) h 7 = nI 0 := by rw [eg_set_j (by decide), eg_set_ne (by omega), eg_set_ne (by omega)]; exact a7
    have tail : ∀ l5, eg_J l E mX0_run d kb nb Q 87 [some (.ref h), some (.int (nI cost)), some (.int (nI L)), some (.int x3), some (.int (nI 0)), l5] [] G (eg_set (eg_set (eg_set M1 (h + 27) 3 (nI 0)) (h + 27) 4 (nI v)) h 10 (nI 1)) := by
      intro l5
      refine eg_aload_n dX0_run_87 rfl rfl ?_
      refine eg_getI gf_RX0_56 rfl g0 dX0_run_88 ?_
      refine eg_if_eq 103 dX0_run_91 (by decide) (fun _ => ?_) (fun z => absurd b7 z)
      refine eg_aload_n dX0_run_103 rfl rfl ?_
      refine eg_aload_n dX0_run_104 rfl rfl ?_
      refine eg_getI gf_RX0_65 rfl g0 dX0_run_105 ?_
      refine eg_if_ne 116 dX0_run_108 (by decide) (fun _ => ?_) (fun z => absurd (eg_set_eq.symm.trans z) (by decide))
      refine eg_iload dX0_run_116 rfl ?_
      refine eg_putI gp_RX0_35 (fun q => by cases q) rfl rfl rfl g0 dX0_run_118 ?_
      refine eg_aload_n dX0_run_121 rfl rfl ?_
      refine eg_getI gf_RX0_35 rfl g0 dX0_run_122 ?_
      refine eg_topi eg_set_eq ?_
      refine eg_iret rfl dX0_run_125 (hG v _ z1 (fun u y => ?_) (fun j y => ?_) (fun q y => ?_) ?_ ?_ ?_ eg_set_eq ?_ ?_)
      · obtain ⟨j, y1, y2⟩ := z2 u y
        rw [V1 u j (by omega) y1, T1 j y1] at y2
        exact ⟨j, y1, y2⟩
      · have := z3 j y
        rw [V1 v j z1 y, T1 j y] at this
        exact this
      · rw [eg_set_ne (by omega), eg_set_ne (by omega), eg_set_ne (by omega), eg_set_ne (by omega)]; exact o1 q (by omega)
      · rw [eg_set_j (by decide), eg_set_j (by decide), eg_set_ne (by omega), eg_set_ne (by omega)]; exact a8
      · rw [eg_set_j (by decide), eg_set_j (by decide), eg_set_ne (by omega), eg_set_ne (by omega)]; exact a9
      · rw [eg_set_j (by decide), eg_set_eq]
      · rw [eg_set_ne (by omega), eg_set_ne (by omega), eg_set_j (by decide), eg_set_eq]
      · rw [eg_set_ne (by omega), eg_set_ne (by omega), eg_set_eq]
    refine eg_iload dX0_run_40 rfl ?_
    refine eg_iload_n dX0_run_42 rfl rfl ?_
    refine eg_icmp_gt 87 dX0_run_43 (by decide) (fun _ => tail _) (fun _ => ?_)
    refine eg_aload_n dX0_run_46 rfl rfl ?_
    refine eg_getI gf_RX0_65 rfl g0 dX0_run_47 ?_
    refine eg_if_ne 87 dX0_run_50 (by decide) (fun _ => tail _) (fun z => absurd (eg_set_eq.symm.trans z) (by decide))
  · refine eg_iconst dX0_run_34 (v := nI 0) (by decide) ?_
    refine eg_istore dX0_run_35 (by decide) rfl ?_
    refine eg_iconst dX0_run_37 (v := nI 1) (by decide) ?_
    refine eg_istore dX0_run_38 (by decide) rfl ?_
    refine lp_X0_run hs (by omega) hcost cost 0 ss_0 M1 (by omega) (fun q z => o1 q (by omega)) ⟨in1, fun o ho => ⟨by rw [o1 _ (by omega)]; exact (hco o ho).1, (hco o ho).2⟩, T1, a5, by rw [a6]; exact hx3, hL⟩ ⟨V1, fun j z => absurd z (by omega)⟩ ⟨a7, a8, a10, fun z => absurd z (by decide), by decide, by show 0 ≤ L; omega⟩ a9 (hR (fun u y => ?_))
    obtain ⟨j, y1, y2⟩ := z1 u y
    rw [V1 u j (by omega) y1, T1 j y1] at y2
    exact ⟨j, y1, y2⟩
end
section
/-! ShortestCode: its calls against the pure ones -/
def ci_E (M M' : eg_I) (b : Nat) : Prop := ∀ q, ¬ (b ≤ q ∧ q < b + 63) → M' q = M q
theorem ci_E.rf {M : eg_I} {b : Nat} : ci_E M M b := fun _ _ => rfl
theorem nI_rng {x : Int32} {a c : Nat} (h1 : ¬ x < nI a) (h2 : ¬ nI c < x) (hc : c < 2 ^ 31) (ha : a < 2 ^ 31) : ∃ X, x = nI X ∧ a ≤ X ∧ X ≤ c := by
  have h0 : ¬ x < 0 := fun q => h1 (by
    have q1 := Int32.lt_iff_toInt_lt.mp q
    refine Int32.lt_iff_toInt_lt.mpr ?_
    rw [nI_toInt ha]
    rw [Int32.toInt_zero] at q1
    omega)
  obtain ⟨j, hj, e⟩ := nI_of h0
  subst e
  exact ⟨j, rfl, Nat.le_of_not_lt (fun q => h1 (nI_lt q (by omega))), Nat.le_of_not_lt (fun q => h2 (nI_lt q hj))⟩
def ok_U (w n k : Nat) (cf : Nat → Int32) (co : Nat → Nat) (len : Nat) (op lf rt : Nat → Nat) (res : Nat) (fnd : Bool) (flen : Nat) (fop flf frt : Nat → Nat) (fres : Nat) : Prop :=
  1 ≤ w ∧ w ≤ 4 ∧ 1 ≤ n ∧ n ≤ 2 ∧ k ≤ 4 ∧ (∀ i, i < k → ∃ x, x < 2 ^ w ∧ cf i = nI x) ∧ (∀ o, o < 13 → co o ≤ 9) ∧ pg_ok (n + k) len op lf rt res ∧ (fnd = true → pg_ok (n + k) flen fop flf frt fres)
def ci_U (M : eg_I) (b w n k : Nat) (cf : Nat → Int32) (co : Nat → Nat) (tg : Nat → Int32) (len : Nat) (op lf rt : Nat → Nat) (res : Nat) (fnd : Bool) (flen : Nat) (fop flf frt : Nat → Nat) (fres : Nat) (t0 t1 t2 t3 : Int32) : Prop :=
  in_V M (b + 3) w n k ∧ (∀ u s, u < n + k + len → s < 2 ^ (w * n) → M (b + 3 + 2 + u) s = sv w n k cf op lf rt u s) ∧ (∀ o, o < 13 → M (b + 1) o = nI (co o)) ∧ (∀ s, s < 256 → M (b + 2) s = tg s) ∧ in_R M (b + 23) len op lf rt res ∧ M b 7 = (if fnd = true then 1 else 0) ∧ (fnd = true → in_R M (b + 27) flen fop flf frt fres) ∧ M (b + 32) 8 = t0 ∧ M (b + 32) 9 = t1 ∧ M (b + 32) 10 = t2 ∧ M (b + 32) 11 = t3
set_option maxHeartbeats 2000000 in
theorem sp_X3_valueCount {l : Launch} {E : eg_E} {d kb nb : Nat} {Q : Option Value → eg_G → eg_I → Prop} {G : eg_G} {M : eg_I} {b w n k len : Nat} (hd : 1 ≤ d) (hs : sh_C G b) (h : in_V M (b + 3) w n k) (h3 : M (b + 23) 3 = nI len) (hQ : Q (some (.int (nI (n + k + len)))) G M) : eg_J l E mX3_valueCount d kb nb Q 0 [some (.ref b)] [] G M := by
  obtain ⟨k0, k1, k2, k3, k4, k5, kV, k6, kR, k7, kF, k8, k9, k10, kH⟩ := id hs
  obtain ⟨gv1, gv2, gv3, gv4⟩ := id kV
  obtain ⟨gr0, gr1, gr2, gr3, gr4, gr5, gr6⟩ := id kR
  obtain ⟨gf0, gf1, gf2, gf3, gf4, gf5, gf6⟩ := id kF
  have kh0 := kH.1
  refine eg_aload_n dX3_valueCount_0 rfl rfl ?_
  refine eg_getR gf_RX3_19 rfl (by assumption) (by assumption) dX3_valueCount_1 ?_
  refine eg_callV0 0 0 gk_X2_given gi_X2_given (by assumption) rfl gl_RX3_73 rfl (Nat.le_of_ble_eq_true rfl) (Nat.le_of_ble_eq_true rfl) (Nat.zero_le _) (Nat.zero_le _) (by omega) dX3_valueCount_4 ?_
  refine sp_X2_given gv1 h ?_
  refine eg_aload_n dX3_valueCount_7 rfl rfl ?_
  refine eg_getR gf_RX3_26 rfl (by assumption) (by assumption) dX3_valueCount_8 ?_
  refine eg_getI gf_RX3_64 rfl (by assumption) dX3_valueCount_11 ?_
  refine eg_topi h3 ?_
  refine eg_iadd dX3_valueCount_14 ?_
  refine eg_topi (nI_add (n + k) len) ?_
  exact eg_iret rfl dX3_valueCount_15 hQ
set_option maxHeartbeats 2000000 in
theorem sp_X3_isValue {l : Launch} {E : eg_E} {d kb nb : Nat} {Q : Option Value → eg_G → eg_I → Prop} {G : eg_G} {M : eg_I} {b w n k len : Nat} {x : Int32} (hd : 2 ≤ d) (hs : sh_C G b) (h : in_V M (b + 3) w n k) (h3 : M (b + 23) 3 = nI len) (hT : ¬ x < 0 → ¬ nI (n + k + len) ≤ x → Q (some (.int 1)) G M) (hF : x < 0 ∨ nI (n + k + len) ≤ x → Q (some (.int 0)) G M) : eg_J l E mX3_isValue d kb nb Q 0 [some (.ref b), some (.int x)] [] G M := by
  obtain ⟨k0, k1, k2, k3, k4, k5, kV, k6, kR, k7, kF, k8, k9, k10, kH⟩ := id hs
  obtain ⟨gv1, gv2, gv3, gv4⟩ := id kV
  obtain ⟨gr0, gr1, gr2, gr3, gr4, gr5, gr6⟩ := id kR
  obtain ⟨gf0, gf1, gf2, gf3, gf4, gf5, gf6⟩ := id kF
  have kh0 := kH.1
  refine eg_iload_n dX3_isValue_0 rfl rfl ?_
  refine eg_if_lt 16 dX3_isValue_1 (by decide) (fun ca => ?_) (fun ca => ?_)
  · refine eg_iconst dX3_isValue_16 (v := nI 0) (by decide) ?_
    exact eg_zret rfl rfl dX3_isValue_17 (by first | exact hT ca cb | exact hF (Or.inl ca) | exact hF (Or.inr cb))
  · refine eg_iload_n dX3_isValue_4 rfl rfl ?_
    refine eg_aload_n dX3_isValue_5 rfl rfl ?_
    refine eg_callV0 0 0 gk_X3_valueCount gi_X3_valueCount (by assumption) rfl gl_RX3_93 rfl (Nat.le_of_ble_eq_true rfl) (Nat.le_of_ble_eq_true rfl) (Nat.zero_le _) (Nat.zero_le _) (by omega) dX3_isValue_6 ?_
    refine sp_X3_valueCount (by omega) hs h h3 ?_
    refine eg_icmp_ge 16 dX3_isValue_9 (by decide) (fun cb => ?_) (fun cb => ?_)
    · refine eg_iconst dX3_isValue_16 (v := nI 0) (by decide) ?_
      exact eg_zret rfl rfl dX3_isValue_17 (by first | exact hT ca cb | exact hF (Or.inl ca) | exact hF (Or.inr cb))
    · refine eg_iconst dX3_isValue_12 (v := nI 1) (by decide) ?_
      refine eg_goto 17 dX3_isValue_13 (by decide) ?_
      exact eg_zret rfl rfl dX3_isValue_17 (by first | exact hT ca cb | exact hF (Or.inl ca) | exact hF (Or.inr cb))
set_option maxHeartbeats 2000000 in
theorem ap_C_cost {l : Launch} {E : eg_E} {d kb nb : Nat} {Q : Option Value → eg_G → eg_I → Prop} {G : eg_G} {M : eg_I} {b : Nat} {S : st_T} (hs : sh_C G b) (hok : st_ok S) (hI : ci_I M b S) {x y : Int32} (hd : 1 ≤ d) (hQ : ∀ M', ci_I M' b (ap_cost S x y).2 → ci_E M M' b → Q (some (.int (ap_cost S x y).1)) G M') : eg_J l E mX3_cost d kb nb Q 0 [some (.ref b), some (.int x), some (.int y), none] [] G M := by
  obtain ⟨k0, k1, k2, k3, k4, k5, kV, k6, kR, k7, kF, k8, k9, k10, kH⟩ := id hs
  obtain ⟨gv1, gv2, gv3, gv4⟩ := id kV
  obtain ⟨gr0, gr1, gr2, gr3, gr4, gr5, gr6⟩ := id kR
  obtain ⟨gf0, gf1, gf2, gf3, gf4, gf5, gf6⟩ := id kF
  have kh0 := kH.1
  obtain ⟨⟨w, n, k⟩, cf, co, tg, ⟨len, op, lf, rt, res⟩, ⟨fnd, flen, fop, flf, frt, fres⟩, t0, t1, t2, t3⟩ := S
  replace hI : ci_U M b w n k cf co tg len op lf rt res fnd flen fop flf frt fres t0 t1 t2 t3 := hI
  replace hok : ok_U w n k cf co len op lf rt res fnd flen fop flf frt fres := hok
  obtain ⟨a1, a2, a3, a4, a5, a6, a7, a8, a9, a10, a11⟩ := id hI
  obtain ⟨i1, i2, i3, i4, i5, hw1, hw4, hn1, hn2, hk4⟩ := id a1
  obtain ⟨p3, p4, pl, pa⟩ := id a5
  obtain ⟨-, -, -, -, -, cw, co9, pok, fok⟩ := id hok
  obtain ⟨-, pok2, pok3⟩ := id pok
  have hA := wd_asg hw4 hn2
  refine eg_iload_n dX3_cost_0 rfl rfl ?_
  refine eg_callS1 0 0 gk_X3_isOperation gi_X3_isOperation gl_RX3_77 rfl (Nat.le_of_ble_eq_true rfl) (Nat.le_of_ble_eq_true rfl) (Nat.zero_le _) (Nat.zero_le _) (by omega) dX3_cost_1 ?_
  refine sp_X3_isOperation (fun z1 z2 => ?_) (fun z => ?_)
  · refine eg_if_ne 9 dX3_cost_4 (by decide) (fun _ => ?_) (fun z => absurd z (by decide))
    obtain ⟨ex, hx⟩ := nI_cl z1 z2 (by omega)
    generalize x.toNatClampNeg = X at ex hx
    subst ex
    refine eg_iload_n dX3_cost_9 rfl rfl ?_
    refine eg_if_lt 19 dX3_cost_10 (by decide) (fun ca => ?_) (fun ca => ?_)
    · refine eg_bipush dX3_cost_19 (v := -2) (by decide) ?_
      exact eg_iret rfl dX3_cost_21 (by
            have e : ap_cost ((w, n, k), cf, co, tg, (len, op, lf, rt, res), (fnd, flen, fop, flf, frt, fres), t0, t1, t2, t3) (nI X) y = (-2, ((w, n, k), cf, co, tg, (len, op, lf, rt, res), (fnd, flen, fop, flf, frt, fres), t0, t1, t2, t3)) := by
              unfold ap_cost
              rw [if_neg (fun q => q.elim z1 z2), if_pos (by first | exact Or.inl ca | exact Or.inr (Int32.not_le.mp cb))]
            rw [e] at hQ
            exact hQ M hI ci_E.rf)
    · refine eg_iload_n dX3_cost_13 rfl rfl ?_
      refine eg_bipush dX3_cost_14 (v := nI 9) (by decide) ?_
      refine eg_icmp_le 22 dX3_cost_16 (by decide) (fun cb => ?_) (fun cb => ?_)
      · obtain ⟨ey, hy⟩ := nI_cm ca (Int32.not_lt.mpr cb) (by omega)
        have e : ap_cost ((w, n, k), cf, co, tg, (len, op, lf, rt, res), (fnd, flen, fop, flf, frt, fres), t0, t1, t2, t3) (nI X) y = (nI (co X), ((w, n, k), cf, ss_up co X y.toNatClampNeg, tg, (len, op, lf, rt, res), (fnd, flen, fop, flf, frt, fres), t0, t1, t2, t3)) := by
          unfold ap_cost
          rw [if_neg (fun q => q.elim z1 z2), if_neg (fun q => q.elim ca (Int32.not_lt.mpr cb)), nI_clamp (by omega)]
        generalize y.toNatClampNeg = Y at e ey hy
        rw [e] at hQ
        replace hQ : ∀ M', ci_U M' b w n k cf (ss_up co X Y) tg len op lf rt res fnd flen fop flf frt fres t0 t1 t2 t3 → ci_E M M' b → Q (some (.int (nI (co X)))) G M' := hQ
        subst ey
        refine eg_aload_n dX3_cost_22 rfl rfl ?_
        refine eg_getR gf_RX3_9 rfl (by assumption) (by assumption) dX3_cost_23 ?_
        refine eg_iload_n dX3_cost_26 rfl rfl ?_
        refine eg_ialdN (by assumption) (by omega) (by decide) dX3_cost_27 ?_
        refine eg_topi (a3 X hx) ?_
        refine eg_istore_n dX3_cost_28 rfl (by decide) rfl ?_
        refine eg_aload_n dX3_cost_29 rfl rfl ?_
        refine eg_getR gf_RX3_9 rfl (by assumption) (by assumption) dX3_cost_30 ?_
        refine eg_iload_n dX3_cost_33 rfl rfl ?_
        refine eg_iload_n dX3_cost_34 rfl rfl ?_
        refine eg_iastN (by assumption) (by omega) (by decide) dX3_cost_35 ?_
        refine eg_iload_n dX3_cost_36 rfl rfl ?_
        exact eg_iret rfl dX3_cost_37 (hQ _ (⟨a1.eq (by rw [eg_set_ne (by omega)]), fun u s q1 q2 => by rw [eg_set_ne (by omega)]; exact a2 u s q1 q2, fun o ho => by
                by_cases q : o = X
                · subst q; rw [eg_set_eq, ss_up_e]
                · rw [eg_set_j q, ss_up_n q]; exact a3 o ho, fun s q => by rw [eg_set_ne (by omega)]; exact a4 s q, a5.eq (fun q q1 q2 => by rw [eg_set_ne (by omega)]), by rw [eg_set_ne (by omega)]; exact a6, fun q => (a7 q).eq (fun q q1 q2 => by rw [eg_set_ne (by omega)]), by rw [eg_set_ne (by omega)]; exact a8, by rw [eg_set_ne (by omega)]; exact a9, by rw [eg_set_ne (by omega)]; exact a10, by rw [eg_set_ne (by omega)]; exact a11⟩) (fun q z => eg_set_ne (by omega)))
      · refine eg_bipush dX3_cost_19 (v := -2) (by decide) ?_
        exact eg_iret rfl dX3_cost_21 (by
              have e : ap_cost ((w, n, k), cf, co, tg, (len, op, lf, rt, res), (fnd, flen, fop, flf, frt, fres), t0, t1, t2, t3) (nI X) y = (-2, ((w, n, k), cf, co, tg, (len, op, lf, rt, res), (fnd, flen, fop, flf, frt, fres), t0, t1, t2, t3)) := by
                unfold ap_cost
                rw [if_neg (fun q => q.elim z1 z2), if_pos (by first | exact Or.inl ca | exact Or.inr (Int32.not_le.mp cb))]
              rw [e] at hQ
              exact hQ M hI ci_E.rf)
  · refine eg_if_ne 9 dX3_cost_4 (by decide) (fun z => absurd (show nI 0 = 0 from rfl) z) (fun _ => ?_)
    refine eg_iconst dX3_cost_7 (v := -1) (by decide) ?_
    have e : ap_cost ((w, n, k), cf, co, tg, (len, op, lf, rt, res), (fnd, flen, fop, flf, frt, fres), t0, t1, t2, t3) x y = (-1, ((w, n, k), cf, co, tg, (len, op, lf, rt, res), (fnd, flen, fop, flf, frt, fres), t0, t1, t2, t3)) := if_pos z
    rw [e] at hQ
    exact eg_iret rfl dX3_cost_8 (hQ M hI ci_E.rf)
set_option maxHeartbeats 2000000 in
theorem ap_C_target {l : Launch} {E : eg_E} {d kb nb : Nat} {Q : Option Value → eg_G → eg_I → Prop} {G : eg_G} {M : eg_I} {b : Nat} {S : st_T} (hs : sh_C G b) (hok : st_ok S) (hI : ci_I M b S) {x y : Int32} (hd : 1 ≤ d) (hQ : ∀ M', ci_I M' b (ap_target S x y).2 → ci_E M M' b → Q (some (.int (ap_target S x y).1)) G M') : eg_J l E mX3_target d kb nb Q 0 [some (.ref b), some (.int x), some (.int y), none] [] G M := by
  obtain ⟨k0, k1, k2, k3, k4, k5, kV, k6, kR, k7, kF, k8, k9, k10, kH⟩ := id hs
  obtain ⟨gv1, gv2, gv3, gv4⟩ := id kV
  obtain ⟨gr0, gr1, gr2, gr3, gr4, gr5, gr6⟩ := id kR
  obtain ⟨gf0, gf1, gf2, gf3, gf4, gf5, gf6⟩ := id kF
  have kh0 := kH.1
  obtain ⟨⟨w, n, k⟩, cf, co, tg, ⟨len, op, lf, rt, res⟩, ⟨fnd, flen, fop, flf, frt, fres⟩, t0, t1, t2, t3⟩ := S
  replace hI : ci_U M b w n k cf co tg len op lf rt res fnd flen fop flf frt fres t0 t1 t2 t3 := hI
  replace hok : ok_U w n k cf co len op lf rt res fnd flen fop flf frt fres := hok
  obtain ⟨a1, a2, a3, a4, a5, a6, a7, a8, a9, a10, a11⟩ := id hI
  obtain ⟨i1, i2, i3, i4, i5, hw1, hw4, hn1, hn2, hk4⟩ := id a1
  obtain ⟨p3, p4, pl, pa⟩ := id a5
  obtain ⟨-, -, -, -, -, cw, co9, pok, fok⟩ := id hok
  obtain ⟨-, pok2, pok3⟩ := id pok
  have hA := wd_asg hw4 hn2
  refine eg_aload_n dX3_target_0 rfl rfl ?_
  refine eg_getR gf_RX3_19 rfl (by assumption) (by assumption) dX3_target_1 ?_
  refine eg_iload_n dX3_target_4 rfl rfl ?_
  refine eg_callV1 0 0 gk_X2_isAssignment gi_X2_isAssignment (by assumption) rfl gl_RX3_80 rfl (Nat.le_of_ble_eq_true rfl) (Nat.le_of_ble_eq_true rfl) (Nat.zero_le _) (Nat.zero_le _) (by omega) dX3_target_5 ?_
  refine sp_X2_isAssignment gv1 a1 (fun z1 z2 => ?_) (fun z => ?_)
  · refine eg_if_ne 13 dX3_target_8 (by decide) (fun _ => ?_) (fun z => absurd z (by decide))
    obtain ⟨ex, hx⟩ := nI_cl z1 z2 (by omega)
    generalize x.toNatClampNeg = X at ex hx
    subst ex
    refine eg_aload_n dX3_target_13 rfl rfl ?_
    refine eg_getR gf_RX3_19 rfl (by assumption) (by assumption) dX3_target_14 ?_
    refine eg_iload_n dX3_target_17 rfl rfl ?_
    refine eg_callV1 0 0 gk_X2_isWord gi_X2_isWord (by assumption) rfl gl_RX3_60 rfl (Nat.le_of_ble_eq_true rfl) (Nat.le_of_ble_eq_true rfl) (Nat.zero_le _) (Nat.zero_le _) (by omega) dX3_target_18 ?_
    refine sp_X2_isWord gv1 a1 (fun y1 y2 => ?_) (fun yz => ?_)
    · refine eg_if_ne 27 dX3_target_21 (by decide) (fun _ => ?_) (fun z => absurd z (by decide))
      have e : ap_target ((w, n, k), cf, co, tg, (len, op, lf, rt, res), (fnd, flen, fop, flf, frt, fres), t0, t1, t2, t3) (nI X) y = (tg X, ((w, n, k), cf, co, ss_up tg X y, (len, op, lf, rt, res), (fnd, flen, fop, flf, frt, fres), t0, t1, t2, t3)) := by
        unfold ap_target
        rw [if_neg (fun q => q.elim z1 z2), if_neg (fun q => q.elim y1 y2), nI_clamp (by omega)]
      rw [e] at hQ
      replace hQ : ∀ M', ci_U M' b w n k cf co (ss_up tg X y) len op lf rt res fnd flen fop flf frt fres t0 t1 t2 t3 → ci_E M M' b → Q (some (.int (tg X))) G M' := hQ
      refine eg_aload_n dX3_target_27 rfl rfl ?_
      refine eg_getR gf_RX3_13 rfl (by assumption) (by assumption) dX3_target_28 ?_
      refine eg_iload_n dX3_target_31 rfl rfl ?_
      refine eg_ialdN (by assumption) (by omega) (by decide) dX3_target_32 ?_
      refine eg_topi (a4 X (by omega)) ?_
      refine eg_istore_n dX3_target_33 rfl (by decide) rfl ?_
      refine eg_aload_n dX3_target_34 rfl rfl ?_
      refine eg_getR gf_RX3_13 rfl (by assumption) (by assumption) dX3_target_35 ?_
      refine eg_iload_n dX3_target_38 rfl rfl ?_
      refine eg_iload_n dX3_target_39 rfl rfl ?_
      refine eg_iastN (by assumption) (by omega) (by decide) dX3_target_40 ?_
      refine eg_iload_n dX3_target_41 rfl rfl ?_
      exact eg_iret rfl dX3_target_42 (hQ _ (⟨a1.eq (by rw [eg_set_ne (by omega)]), fun u s q1 q2 => by rw [eg_set_ne (by omega)]; exact a2 u s q1 q2, fun o ho => by rw [eg_set_ne (by omega)]; exact a3 o ho, fun s hs2 => by
                by_cases q : s = X
                · subst q; rw [eg_set_eq, ss_up_e]
                · rw [eg_set_j q, ss_up_n q]; exact a4 s hs2, a5.eq (fun q q1 q2 => by rw [eg_set_ne (by omega)]), by rw [eg_set_ne (by omega)]; exact a6, fun q => (a7 q).eq (fun q q1 q2 => by rw [eg_set_ne (by omega)]), by rw [eg_set_ne (by omega)]; exact a8, by rw [eg_set_ne (by omega)]; exact a9, by rw [eg_set_ne (by omega)]; exact a10, by rw [eg_set_ne (by omega)]; exact a11⟩) (fun q z => eg_set_ne (by omega)))
    · refine eg_if_ne 27 dX3_target_21 (by decide) (fun z => absurd (show nI 0 = 0 from rfl) z) (fun _ => ?_)
      refine eg_bipush dX3_target_24 (v := -2) (by decide) ?_
      have e : ap_target ((w, n, k), cf, co, tg, (len, op, lf, rt, res), (fnd, flen, fop, flf, frt, fres), t0, t1, t2, t3) (nI X) y = (-2, ((w, n, k), cf, co, tg, (len, op, lf, rt, res), (fnd, flen, fop, flf, frt, fres), t0, t1, t2, t3)) := by
        unfold ap_target
        rw [if_neg (fun q => q.elim z1 z2), if_pos yz]
      rw [e] at hQ
      exact eg_iret rfl dX3_target_26 (hQ M hI ci_E.rf)
  · refine eg_if_ne 13 dX3_target_8 (by decide) (fun z => absurd (show nI 0 = 0 from rfl) z) (fun _ => ?_)
    refine eg_iconst dX3_target_11 (v := -1) (by decide) ?_
    have e : ap_target ((w, n, k), cf, co, tg, (len, op, lf, rt, res), (fnd, flen, fop, flf, frt, fres), t0, t1, t2, t3) x y = (-1, ((w, n, k), cf, co, tg, (len, op, lf, rt, res), (fnd, flen, fop, flf, frt, fres), t0, t1, t2, t3)) := if_pos z
    rw [e] at hQ
    exact eg_iret rfl dX3_target_12 (hQ M hI ci_E.rf)
set_option maxHeartbeats 2000000 in
theorem ap_C_result {l : Launch} {E : eg_E} {d kb nb : Nat} {Q : Option Value → eg_G → eg_I → Prop} {G : eg_G} {M : eg_I} {b : Nat} {S : st_T} (hs : sh_C G b) (hok : st_ok S) (hI : ci_I M b S) {x : Int32} (hd : 3 ≤ d) (hQ : ∀ M', ci_I M' b (ap_result S x).2 → ci_E M M' b → Q (some (.int (ap_result S x).1)) G M') : eg_J l E mX3_result d kb nb Q 0 [some (.ref b), some (.int x), none] [] G M := by
  obtain ⟨k0, k1, k2, k3, k4, k5, kV, k6, kR, k7, kF, k8, k9, k10, kH⟩ := id hs
  obtain ⟨gv1, gv2, gv3, gv4⟩ := id kV
  obtain ⟨gr0, gr1, gr2, gr3, gr4, gr5, gr6⟩ := id kR
  obtain ⟨gf0, gf1, gf2, gf3, gf4, gf5, gf6⟩ := id kF
  have kh0 := kH.1
  obtain ⟨⟨w, n, k⟩, cf, co, tg, ⟨len, op, lf, rt, res⟩, ⟨fnd, flen, fop, flf, frt, fres⟩, t0, t1, t2, t3⟩ := S
  replace hI : ci_U M b w n k cf co tg len op lf rt res fnd flen fop flf frt fres t0 t1 t2 t3 := hI
  replace hok : ok_U w n k cf co len op lf rt res fnd flen fop flf frt fres := hok
  obtain ⟨a1, a2, a3, a4, a5, a6, a7, a8, a9, a10, a11⟩ := id hI
  obtain ⟨i1, i2, i3, i4, i5, hw1, hw4, hn1, hn2, hk4⟩ := id a1
  obtain ⟨p3, p4, pl, pa⟩ := id a5
  obtain ⟨-, -, -, -, -, cw, co9, pok, fok⟩ := id hok
  obtain ⟨-, pok2, pok3⟩ := id pok
  have hA := wd_asg hw4 hn2
  refine eg_aload_n dX3_result_0 rfl rfl ?_
  refine eg_iload_n dX3_result_1 rfl rfl ?_
  refine eg_callV1 0 0 gk_X3_isValue gi_X3_isValue (by assumption) rfl gl_RX3_90 rfl (Nat.le_of_ble_eq_true rfl) (Nat.le_of_ble_eq_true rfl) (Nat.zero_le _) (Nat.zero_le _) (by omega) dX3_result_2 ?_
  refine sp_X3_isValue (k := k) (by omega) hs a1 p3 (fun z1 z2 => ?_) (fun z => ?_)
  · refine eg_if_ne 10 dX3_result_5 (by decide) (fun _ => ?_) (fun z => absurd z (by decide))
    obtain ⟨ex, hx⟩ := nI_cl z1 z2 (by omega)
    have e : ap_result ((w, n, k), cf, co, tg, (len, op, lf, rt, res), (fnd, flen, fop, flf, frt, fres), t0, t1, t2, t3) x = (nI res, ((w, n, k), cf, co, tg, (len, op, lf, rt, x.toNatClampNeg), (fnd, flen, fop, flf, frt, fres), t0, t1, t2, t3)) := if_neg (fun q => q.elim z1 z2)
    generalize x.toNatClampNeg = X at ex hx e
    rw [e] at hQ
    replace hQ : ∀ M', ci_U M' b w n k cf co tg len op lf rt X fnd flen fop flf frt fres t0 t1 t2 t3 → ci_E M M' b → Q (some (.int (nI res))) G M' := hQ
    subst ex
    refine eg_aload_n dX3_result_10 rfl rfl ?_
    refine eg_getR gf_RX3_26 rfl (by assumption) (by assumption) dX3_result_11 ?_
    refine eg_getI gf_RX3_87 rfl (by assumption) dX3_result_14 ?_
    refine eg_topi p4 ?_
    refine eg_istore_n dX3_result_17 rfl (by decide) rfl ?_
    refine eg_aload_n dX3_result_18 rfl rfl ?_
    refine eg_getR gf_RX3_26 rfl (by assumption) (by assumption) dX3_result_19 ?_
    refine eg_iload_n dX3_result_22 rfl rfl ?_
    refine eg_putI gp_RX3_87 (fun q => by cases q) rfl rfl rfl (by assumption) dX3_result_23 ?_
    refine eg_iload_n dX3_result_26 rfl rfl ?_
    exact eg_iret rfl dX3_result_27 (hQ _ (⟨a1.eq (by rw [eg_set_ne (by omega)]), fun u s q1 q2 => by rw [eg_set_ne (by omega)]; exact a2 u s q1 q2, fun o ho => by rw [eg_set_ne (by omega)]; exact a3 o ho, fun s q => by rw [eg_set_ne (by omega)]; exact a4 s q, ⟨by rw [eg_set_j (by decide)]; exact p3, eg_set_eq, pl, fun j hj => by rw [eg_set_ne (by omega), eg_set_ne (by omega), eg_set_ne (by omega)]; exact pa j hj⟩, by rw [eg_set_ne (by omega)]; exact a6, fun q => (a7 q).eq (fun q q1 q2 => by rw [eg_set_ne (by omega)]), by rw [eg_set_ne (by omega)]; exact a8, by rw [eg_set_ne (by omega)]; exact a9, by rw [eg_set_ne (by omega)]; exact a10, by rw [eg_set_ne (by omega)]; exact a11⟩) (fun q z => eg_set_ne (by omega)))
  · refine eg_if_ne 10 dX3_result_5 (by decide) (fun z => absurd (show nI 0 = 0 from rfl) z) (fun _ => ?_)
    refine eg_iconst dX3_result_8 (v := -1) (by decide) ?_
    have e : ap_result ((w, n, k), cf, co, tg, (len, op, lf, rt, res), (fnd, flen, fop, flf, frt, fres), t0, t1, t2, t3) x = (-1, ((w, n, k), cf, co, tg, (len, op, lf, rt, res), (fnd, flen, fop, flf, frt, fres), t0, t1, t2, t3)) := if_pos z
    rw [e] at hQ
    exact eg_iret rfl dX3_result_9 (hQ M hI ci_E.rf)
set_option maxHeartbeats 2000000 in
theorem ap_C_drop {l : Launch} {E : eg_E} {d kb nb : Nat} {Q : Option Value → eg_G → eg_I → Prop} {G : eg_G} {M : eg_I} {b : Nat} {S : st_T} (hs : sh_C G b) (hok : st_ok S) (hI : ci_I M b S) (hd : 2 ≤ d) (hQ : ∀ M', ci_I M' b (ap_drop S).2 → ci_E M M' b → Q (some (.int (ap_drop S).1)) G M') : eg_J l E mX3_drop d kb nb Q 0 [some (.ref b)] [] G M := by
  obtain ⟨k0, k1, k2, k3, k4, k5, kV, k6, kR, k7, kF, k8, k9, k10, kH⟩ := id hs
  obtain ⟨gv1, gv2, gv3, gv4⟩ := id kV
  obtain ⟨gr0, gr1, gr2, gr3, gr4, gr5, gr6⟩ := id kR
  obtain ⟨gf0, gf1, gf2, gf3, gf4, gf5, gf6⟩ := id kF
  have kh0 := kH.1
  obtain ⟨⟨w, n, k⟩, cf, co, tg, ⟨len, op, lf, rt, res⟩, ⟨fnd, flen, fop, flf, frt, fres⟩, t0, t1, t2, t3⟩ := S
  replace hI : ci_U M b w n k cf co tg len op lf rt res fnd flen fop flf frt fres t0 t1 t2 t3 := hI
  replace hok : ok_U w n k cf co len op lf rt res fnd flen fop flf frt fres := hok
  obtain ⟨a1, a2, a3, a4, a5, a6, a7, a8, a9, a10, a11⟩ := id hI
  obtain ⟨i1, i2, i3, i4, i5, hw1, hw4, hn1, hn2, hk4⟩ := id a1
  obtain ⟨p3, p4, pl, pa⟩ := id a5
  obtain ⟨-, -, -, -, -, cw, co9, pok, fok⟩ := id hok
  obtain ⟨-, pok2, pok3⟩ := id pok
  have hA := wd_asg hw4 hn2
  by_cases h0 : len = 0
  · rw [show ap_drop ((w, n, k), cf, co, tg, (len, op, lf, rt, res), (fnd, flen, fop, flf, frt, fres), t0, t1, t2, t3) = (-3, ((w, n, k), cf, co, tg, (len, op, lf, rt, res), (fnd, flen, fop, flf, frt, fres), t0, t1, t2, t3)) from if_pos h0] at hQ
    refine eg_aload_n dX3_drop_0 rfl rfl ?_
    refine eg_getR gf_RX3_26 rfl (by assumption) (by assumption) dX3_drop_1 ?_
    refine eg_getI gf_RX3_64 rfl (by assumption) dX3_drop_4 ?_
    refine eg_topi p3 ?_
    refine eg_iconst dX3_drop_7 (v := nI 1) (by decide) ?_
    refine eg_icmp_ge 14 dX3_drop_8 (by decide) (fun c8 => absurd c8 (nI_ge (a := len) (b := 1) (by omega) (by omega))) (fun c8 => ?_)
    refine eg_bipush dX3_drop_11 (v := -3) (by decide) ?_
    exact eg_iret rfl dX3_drop_13 (hQ M hI ci_E.rf)
  · refine eg_aload_n dX3_drop_0 rfl rfl ?_
    refine eg_getR gf_RX3_26 rfl (by assumption) (by assumption) dX3_drop_1 ?_
    refine eg_getI gf_RX3_64 rfl (by assumption) dX3_drop_4 ?_
    refine eg_topi p3 ?_
    refine eg_iconst dX3_drop_7 (v := nI 1) (by decide) ?_
    refine eg_icmp_ge 14 dX3_drop_8 (by decide) (fun c8 => ?_) (fun c8 => absurd (nI_le (a := 1) (by omega) (by omega)) c8)
    refine eg_aload_n dX3_drop_14 rfl rfl ?_
    refine eg_getR gf_RX3_26 rfl (by assumption) (by assumption) dX3_drop_15 ?_
    refine eg_dup dX3_drop_18 rfl ?_
    refine eg_getI gf_RX3_64 rfl (by assumption) dX3_drop_19 ?_
    refine eg_topi p3 ?_
    refine eg_iconst dX3_drop_22 (v := nI 1) (by decide) ?_
    refine eg_isub dX3_drop_23 ?_
    refine eg_topi (show nI len - nI 1 = nI (len - 1) from pk_sub (by omega)) ?_
    refine eg_putI gp_RX3_64 (fun q => by cases q) rfl rfl rfl (by assumption) dX3_drop_24 ?_
    generalize hM1 : eg_set M (b + 23) 3 (nI (len - 1)) = M1
    have o1 : ∀ q, q ≠ b + 23 → M1 q = M q := fun q z => by rw [← hM1, eg_set_ne z]
    have m3 : M1 (b + 23) 3 = nI (len - 1) := by rw [← hM1, eg_set_eq]
    have m4 : M1 (b + 23) 4 = nI res := by rw [← hM1, eg_set_j (by decide)]; exact p4
    have b1 := a1.eq (o1 (b + 3) (by omega))
    refine eg_aload_n dX3_drop_27 rfl rfl ?_
    refine eg_getR gf_RX3_26 rfl (by assumption) (by assumption) dX3_drop_28 ?_
    refine eg_getI gf_RX3_87 rfl (by assumption) dX3_drop_31 ?_
    refine eg_topi m4 ?_
    refine eg_aload_n dX3_drop_34 rfl rfl ?_
    refine eg_callV0 0 0 gk_X3_valueCount gi_X3_valueCount (by assumption) rfl gl_RX3_93 rfl (Nat.le_of_ble_eq_true rfl) (Nat.le_of_ble_eq_true rfl) (Nat.zero_le _) (Nat.zero_le _) (by omega) dX3_drop_35 ?_
    refine sp_X3_valueCount (by omega) hs b1 m3 ?_
    refine eg_icmp_ne 49 dX3_drop_38 (by decide) (fun c => ?_) (fun c => ?_)
    · have hne : ¬ res = n + k + (len - 1) := fun q => c (by rw [q])
      have e : ap_drop ((w, n, k), cf, co, tg, (len, op, lf, rt, res), (fnd, flen, fop, flf, frt, fres), t0, t1, t2, t3) = (nI (len - 1), ((w, n, k), cf, co, tg, (len - 1, op, lf, rt, res), (fnd, flen, fop, flf, frt, fres), t0, t1, t2, t3)) := by
        unfold ap_drop
        rw [if_neg h0, if_neg hne]
      rw [e] at hQ
      replace hQ : ∀ M', ci_U M' b w n k cf co tg (len - 1) op lf rt res fnd flen fop flf frt fres t0 t1 t2 t3 → ci_E M M' b → Q (some (.int (nI (len - 1)))) G M' := hQ
      refine eg_aload_n dX3_drop_49 rfl rfl ?_
      refine eg_getR gf_RX3_26 rfl k0 k6 dX3_drop_50 ?_
      refine eg_getI gf_RX3_64 rfl gr0 dX3_drop_53 ?_
      refine eg_topi m3 ?_
      exact eg_iret rfl dX3_drop_56 (hQ M1 (⟨b1, fun u s q1 q2 => by rw [o1 _ (by omega)]; exact a2 u s (by omega) q2, fun o ho => by rw [o1 _ (by omega)]; exact a3 o ho, fun s q => by rw [o1 _ (by omega)]; exact a4 s q, ⟨m3, m4, by omega, fun j hj => by rw [o1 _ (by omega), o1 _ (by omega), o1 _ (by omega)]; exact pa j (by omega)⟩, by rw [o1 _ (by omega)]; exact a6, fun q => (a7 q).eq (fun q q1 q2 => by rw [o1 _ (by omega)]), by rw [o1 _ (by omega)]; exact a8, by rw [o1 _ (by omega)]; exact a9, by rw [o1 _ (by omega)]; exact a10, by rw [o1 _ (by omega)]; exact a11⟩) (fun q z => o1 q (by omega)))
    · have heq : res = n + k + (len - 1) := (nI_eq (by omega) (by omega)).mp c
      have e : ap_drop ((w, n, k), cf, co, tg, (len, op, lf, rt, res), (fnd, flen, fop, flf, frt, fres), t0, t1, t2, t3) = (nI (len - 1), ((w, n, k), cf, co, tg, (len - 1, op, lf, rt, 0), (fnd, flen, fop, flf, frt, fres), t0, t1, t2, t3)) := by
        unfold ap_drop
        rw [if_neg h0, if_pos heq]
      rw [e] at hQ
      replace hQ : ∀ M', ci_U M' b w n k cf co tg (len - 1) op lf rt 0 fnd flen fop flf frt fres t0 t1 t2 t3 → ci_E M M' b → Q (some (.int (nI (len - 1)))) G M' := hQ
      refine eg_aload_n dX3_drop_41 rfl rfl ?_
      refine eg_getR gf_RX3_26 rfl (by assumption) (by assumption) dX3_drop_42 ?_
      refine eg_iconst dX3_drop_45 (v := nI 0) (by decide) ?_
      refine eg_putI gp_RX3_87 (fun q => by cases q) rfl rfl rfl (by assumption) dX3_drop_46 ?_
      refine eg_aload_n dX3_drop_49 rfl rfl ?_
      refine eg_getR gf_RX3_26 rfl (by assumption) (by assumption) dX3_drop_50 ?_
      refine eg_getI gf_RX3_64 rfl (by assumption) dX3_drop_53 ?_
      refine eg_topi (show _ = nI (len - 1) by rw [eg_set_j (by decide)]; exact m3) ?_
      exact eg_iret rfl dX3_drop_56 (hQ _ (⟨b1.eq (eg_set_ne (by omega)), fun u s q1 q2 => by rw [eg_set_ne (by omega), o1 _ (by omega)]; exact a2 u s (by omega) q2, fun o ho => by rw [eg_set_ne (by omega), o1 _ (by omega)]; exact a3 o ho, fun s q => by rw [eg_set_ne (by omega), o1 _ (by omega)]; exact a4 s q, ⟨by rw [eg_set_j (by decide)]; exact m3, eg_set_eq, by omega, fun j hj => by rw [eg_set_ne (by omega), eg_set_ne (by omega), eg_set_ne (by omega), o1 _ (by omega), o1 _ (by omega), o1 _ (by omega)]; exact pa j (by omega)⟩, by rw [eg_set_ne (by omega), o1 _ (by omega)]; exact a6, fun q => (a7 q).eq (fun q q1 q2 => by rw [eg_set_ne (by omega), o1 _ (by omega)]), by rw [eg_set_ne (by omega), o1 _ (by omega)]; exact a8, by rw [eg_set_ne (by omega), o1 _ (by omega)]; exact a9, by rw [eg_set_ne (by omega), o1 _ (by omega)]; exact a10, by rw [eg_set_ne (by omega), o1 _ (by omega)]; exact a11⟩) (fun q z => by rw [eg_set_ne (by omega)]; exact o1 q (by omega)))
end
section
/-! ShortestCode: makeFrom, words, constant, aim, add, reads -/
set_option maxHeartbeats 2000000 in
theorem lp_X3_makeFrom {l : Launch} {E : eg_E} {d kb nb : Nat} {Q : Option Value → eg_G → eg_I → Prop} {G : eg_G} {b w n k len res : Nat} {cf : Nat → Int32} {op lf rt : Nat → Nat} {M0 : eg_I} (hd : 3 ≤ d) (hs : sh_C G b) (hpk : ∀ j, j < len → op j < 13 ∧ lf j < n + k + j ∧ rt j < n + k + j) : ∀ (t x : Nat) (M : eg_I) (l1 : Option Value), in_V M (b + 3) w n k → in_R M (b + 23) len op lf rt res → x + t = len → (∀ u s, u < n + k + x → s < 2 ^ (w * n) → M (b + 3 + 2 + u) s = sv w n k cf op lf rt u s) → (∀ q, ¬ (b + 5 ≤ q ∧ q < b + 23) → M q = M0 q) → (∀ M', (∀ u s, u < n + k + len → s < 2 ^ (w * n) → M' (b + 3 + 2 + u) s = sv w n k cf op lf rt u s) → (∀ q, ¬ (b + 5 ≤ q ∧ q < b + 23) → M' q = M0 q) → Q none G M') → eg_J l E mX3_makeFrom d kb nb Q 10 [some (.ref b), l1, some (.int (nI (n + k))), some (.int (nI x))] [] G M := by
  intro t
  induction t with
  | zero =>
    intro x M l1 h hr hxt hrow hfr hQ
    obtain ⟨k0, k1, k2, k3, k4, k5, kV, k6, kR, k7, kF, k8, k9, k10, kH⟩ := id hs
    obtain ⟨gv1, gv2, gv3, gv4⟩ := id kV
    obtain ⟨gr0, gr1, gr2, gr3, gr4, gr5, gr6⟩ := id kR
    obtain ⟨gf0, gf1, gf2, gf3, gf4, gf5, gf6⟩ := id kF
    have kh0 := kH.1
    obtain ⟨i1, i2, i3, i4, i5, hw1, hw4, hn1, hn2, hk4⟩ := id h
    obtain ⟨p3, p4, pl, pa⟩ := id hr
    have hA := wd_asg hw4 hn2
    refine eg_iload_n dX3_makeFrom_10 rfl rfl ?_
    refine eg_aload_n dX3_makeFrom_11 rfl rfl ?_
    refine eg_getR gf_RX3_26 rfl (by assumption) (by assumption) dX3_makeFrom_12 ?_
    refine eg_getI gf_RX3_64 rfl (by assumption) dX3_makeFrom_15 ?_
    refine eg_topi p3 ?_
    refine eg_icmp_ge 64 dX3_makeFrom_18 (by decide) (fun c18 => ?_) (fun c18 => absurd (nI_le (by omega) (by omega)) c18)
    exact eg_vret rfl dX3_makeFrom_64 (hQ M (fun u s z1 z2 => hrow u s (by omega) z2) hfr)
  | succ t ih =>
    intro x M l1 h hr hxt hrow hfr hQ
    obtain ⟨k0, k1, k2, k3, k4, k5, kV, k6, kR, k7, kF, k8, k9, k10, kH⟩ := id hs
    obtain ⟨gv1, gv2, gv3, gv4⟩ := id kV
    obtain ⟨gr0, gr1, gr2, gr3, gr4, gr5, gr6⟩ := id kR
    obtain ⟨gf0, gf1, gf2, gf3, gf4, gf5, gf6⟩ := id kF
    have kh0 := kH.1
    obtain ⟨i1, i2, i3, i4, i5, hw1, hw4, hn1, hn2, hk4⟩ := id h
    obtain ⟨p3, p4, pl, pa⟩ := id hr
    have hA := wd_asg hw4 hn2
    refine eg_iload_n dX3_makeFrom_10 rfl rfl ?_
    refine eg_aload_n dX3_makeFrom_11 rfl rfl ?_
    refine eg_getR gf_RX3_26 rfl (by assumption) (by assumption) dX3_makeFrom_12 ?_
    refine eg_getI gf_RX3_64 rfl (by assumption) dX3_makeFrom_15 ?_
    refine eg_topi p3 ?_
    refine eg_icmp_ge 64 dX3_makeFrom_18 (by decide) (fun c18 => absurd c18 (nI_ge (by omega) (by omega))) (fun c18 => ?_)
    refine eg_aload_n dX3_makeFrom_21 rfl rfl ?_
    refine eg_getR gf_RX3_19 rfl (by assumption) (by assumption) dX3_makeFrom_22 ?_
    refine eg_iload_n dX3_makeFrom_25 rfl rfl ?_
    refine eg_iload_n dX3_makeFrom_26 rfl rfl ?_
    refine eg_iadd dX3_makeFrom_27 ?_
    refine eg_topi (nI_add (n + k) x) ?_
    refine eg_aload_n dX3_makeFrom_28 rfl rfl ?_
    refine eg_getR gf_RX3_26 rfl (by assumption) (by assumption) dX3_makeFrom_29 ?_
    refine eg_getR gf_RX3_106 rfl (by assumption) (by assumption) dX3_makeFrom_32 ?_
    refine eg_iload_n dX3_makeFrom_35 rfl rfl ?_
    refine eg_ialdN (by assumption) (by omega) (by decide) dX3_makeFrom_36 ?_
    refine eg_topi (pa x (by omega)).1 ?_
    refine eg_aload_n dX3_makeFrom_37 rfl rfl ?_
    refine eg_getR gf_RX3_26 rfl (by assumption) (by assumption) dX3_makeFrom_38 ?_
    refine eg_getR gf_RX3_109 rfl (by assumption) (by assumption) dX3_makeFrom_41 ?_
    refine eg_iload_n dX3_makeFrom_44 rfl rfl ?_
    refine eg_ialdN (by assumption) (by omega) (by decide) dX3_makeFrom_45 ?_
    refine eg_topi (pa x (by omega)).2.1 ?_
    refine eg_aload_n dX3_makeFrom_46 rfl rfl ?_
    refine eg_getR gf_RX3_26 rfl (by assumption) (by assumption) dX3_makeFrom_47 ?_
    refine eg_getR gf_RX3_112 rfl (by assumption) (by assumption) dX3_makeFrom_50 ?_
    refine eg_iload_n dX3_makeFrom_53 rfl rfl ?_
    refine eg_ialdN (by assumption) (by omega) (by decide) dX3_makeFrom_54 ?_
    refine eg_topi (pa x (by omega)).2.2 ?_
    have hp := hpk x (by omega)
    refine eg_callV4 0 0 gk_X2_make gi_X2_make (by assumption) rfl gl_RX3_162 rfl (Nat.le_of_ble_eq_true rfl) (Nat.le_of_ble_eq_true rfl) (Nat.zero_le _) (Nat.zero_le _) (by omega) dX3_makeFrom_55 ?_
    refine sp_X2_make (by omega) kV hp.1 (by omega) (by omega) (by omega) h ?_
    refine eg_iinc dX3_makeFrom_58 (by decide) rfl (eg_inc x) rfl ?_
    refine eg_goto 10 dX3_makeFrom_61 (by decide) ?_
    refine ih (x + 1) _ _ (h.eq (eg_fl_ne (by omega))) (hr.eq (fun q z1 z2 => eg_fl_ne (by omega))) (by omega) (fun u s z1 z2 => ?_) (fun q z => ?_) hQ
    · by_cases e : u = n + k + x
      · subst e
        rw [eg_fl_in (by omega) z2, sv_op (fun j hj => (hpk j hj).2) (show x < len by omega), hrow _ s (by omega) z2, hrow _ s (by omega) z2]
      · rw [eg_fl_ne (by omega)]
        exact hrow u s (by omega) z2
    · rw [eg_fl_ne (by omega)]
      exact hfr q z
set_option maxHeartbeats 2000000 in
theorem sp_X3_makeFrom {l : Launch} {E : eg_E} {d kb nb : Nat} {Q : Option Value → eg_G → eg_I → Prop} {G : eg_G} {M : eg_I} {b w n k len res : Nat} {cf : Nat → Int32} {op lf rt : Nat → Nat} (hd : 3 ≤ d) (hs : sh_C G b) (hpk : ∀ j, j < len → op j < 13 ∧ lf j < n + k + j ∧ rt j < n + k + j) {x : Nat} (h : in_V M (b + 3) w n k) (hr : in_R M (b + 23) len op lf rt res) (hx : x ≤ len) (hrow : ∀ u s, u < n + k + x → s < 2 ^ (w * n) → M (b + 3 + 2 + u) s = sv w n k cf op lf rt u s) (hQ : (∀ M', (∀ u s, u < n + k + len → s < 2 ^ (w * n) → M' (b + 3 + 2 + u) s = sv w n k cf op lf rt u s) → (∀ q, ¬ (b + 5 ≤ q ∧ q < b + 23) → M' q = M q) → Q none G M')) : eg_J l E mX3_makeFrom d kb nb Q 0 [some (.ref b), some (.int (nI x)), none, none] [] G M := by
  obtain ⟨k0, k1, k2, k3, k4, k5, kV, k6, kR, k7, kF, k8, k9, k10, kH⟩ := id hs
  obtain ⟨gv1, gv2, gv3, gv4⟩ := id kV
  obtain ⟨gr0, gr1, gr2, gr3, gr4, gr5, gr6⟩ := id kR
  obtain ⟨gf0, gf1, gf2, gf3, gf4, gf5, gf6⟩ := id kF
  have kh0 := kH.1
  refine eg_aload_n dX3_makeFrom_0 rfl rfl ?_
  refine eg_getR gf_RX3_19 rfl (by assumption) (by assumption) dX3_makeFrom_1 ?_
  refine eg_callV0 0 0 gk_X2_given gi_X2_given (by assumption) rfl gl_RX3_73 rfl (Nat.le_of_ble_eq_true rfl) (Nat.le_of_ble_eq_true rfl) (Nat.zero_le _) (Nat.zero_le _) (by omega) dX3_makeFrom_4 ?_
  refine sp_X2_given gv1 h ?_
  refine eg_istore_n dX3_makeFrom_7 rfl (by decide) rfl ?_
  refine eg_iload_n dX3_makeFrom_8 rfl rfl ?_
  refine eg_istore_n dX3_makeFrom_9 rfl (by decide) rfl ?_
  exact lp_X3_makeFrom hd hs hpk (len - x) x M _ h hr (by omega) hrow (fun _ _ => rfl) hQ
set_option maxHeartbeats 2000000 in
theorem lp_X3_words {l : Launch} {E : eg_E} {d kb nb : Nat} {Q : Option Value → eg_G → eg_I → Prop} {G : eg_G} {b : Nat} {x y : Int32} (hs : sh_C G b) : ∀ (t s : Nat) (M : eg_I), s + t = 256 → eg_J l E mX3_words d kb nb Q 62 [some (.ref b), some (.int x), some (.int y), some (.int (nI 256))] [] G (eg_fl M (b + 2) s 256 (fun _ => nI 0)) → eg_J l E mX3_words d kb nb Q 42 [some (.ref b), some (.int x), some (.int y), some (.int (nI s))] [] G M := by
  intro t
  induction t with
  | zero =>
    intro s M hst hQ
    obtain ⟨k0, k1, k2, k3, k4, k5, kV, k6, kR, k7, kF, k8, k9, k10, kH⟩ := id hs
    obtain ⟨gv1, gv2, gv3, gv4⟩ := id kV
    obtain ⟨gr0, gr1, gr2, gr3, gr4, gr5, gr6⟩ := id kR
    obtain ⟨gf0, gf1, gf2, gf3, gf4, gf5, gf6⟩ := id kF
    have kh0 := kH.1
    refine eg_iload_n dX3_words_42 rfl rfl ?_
    refine eg_sipush dX3_words_43 (v := nI 256) (by decide) ?_
    refine eg_icmp_ge 62 dX3_words_46 (by decide) (fun c46 => ?_) (fun c46 => absurd (nI_le (a := 256) (by omega) (by omega)) c46)
    have e : s = 256 := by omega
    subst e
    rw [eg_fl_0 (by omega)] at hQ
    exact hQ
  | succ t ih =>
    intro s M hst hQ
    obtain ⟨k0, k1, k2, k3, k4, k5, kV, k6, kR, k7, kF, k8, k9, k10, kH⟩ := id hs
    obtain ⟨gv1, gv2, gv3, gv4⟩ := id kV
    obtain ⟨gr0, gr1, gr2, gr3, gr4, gr5, gr6⟩ := id kR
    obtain ⟨gf0, gf1, gf2, gf3, gf4, gf5, gf6⟩ := id kF
    have kh0 := kH.1
    refine eg_iload_n dX3_words_42 rfl rfl ?_
    refine eg_sipush dX3_words_43 (v := nI 256) (by decide) ?_
    refine eg_icmp_ge 62 dX3_words_46 (by decide) (fun c46 => absurd c46 (nI_ge (b := 256) (by omega) (by omega))) (fun c46 => ?_)
    refine eg_aload_n dX3_words_49 rfl rfl ?_
    refine eg_getR gf_RX3_13 rfl (by assumption) (by assumption) dX3_words_50 ?_
    refine eg_iload_n dX3_words_53 rfl rfl ?_
    refine eg_iconst dX3_words_54 (v := nI 0) (by decide) ?_
    refine eg_iastN (by assumption) (by omega) (by decide) dX3_words_55 ?_
    refine eg_iinc dX3_words_56 (by decide) rfl (eg_inc s) rfl ?_
    refine eg_goto 42 dX3_words_59 (by decide) ?_
    exact ih (s + 1) _ (by omega) (eg_fl_q (P := fun z => eg_J l E mX3_words d kb nb Q 62 [some (.ref b), some (.int x), some (.int y), some (.int (nI 256))] [] G z) (f := fun _ => nI 0) (by omega) (fun j g1 _ => rfl) hQ)
set_option maxHeartbeats 2000000 in
theorem ap_C_words {l : Launch} {E : eg_E} {d kb nb : Nat} {Q : Option Value → eg_G → eg_I → Prop} {G : eg_G} {M : eg_I} {b : Nat} {S : st_T} (hs : sh_C G b) (hok : st_ok S) (hI : ci_I M b S) {x y : Int32} (hd : 1 ≤ d) (hQ : ∀ M', ci_I M' b (ap_words S x y).2 → ci_E M M' b → Q (some (.int (ap_words S x y).1)) G M') : eg_J l E mX3_words d kb nb Q 0 [some (.ref b), some (.int x), some (.int y), none] [] G M := by
  obtain ⟨k0, k1, k2, k3, k4, k5, kV, k6, kR, k7, kF, k8, k9, k10, kH⟩ := id hs
  obtain ⟨gv1, gv2, gv3, gv4⟩ := id kV
  obtain ⟨gr0, gr1, gr2, gr3, gr4, gr5, gr6⟩ := id kR
  obtain ⟨gf0, gf1, gf2, gf3, gf4, gf5, gf6⟩ := id kF
  have kh0 := kH.1
  obtain ⟨⟨w, n, k⟩, cf, co, tg, ⟨len, op, lf, rt, res⟩, ⟨fnd, flen, fop, flf, frt, fres⟩, t0, t1, t2, t3⟩ := S
  replace hI : ci_U M b w n k cf co tg len op lf rt res fnd flen fop flf frt fres t0 t1 t2 t3 := hI
  replace hok : ok_U w n k cf co len op lf rt res fnd flen fop flf frt fres := hok
  obtain ⟨a1, a2, a3, a4, a5, a6, a7, a8, a9, a10, a11⟩ := id hI
  obtain ⟨i1, i2, i3, i4, i5, hw1, hw4, hn1, hn2, hk4⟩ := id a1
  obtain ⟨p3, p4, pl, pa⟩ := id a5
  obtain ⟨-, -, -, -, -, cw, co9, pok, fok⟩ := id hok
  obtain ⟨-, pok2, pok3⟩ := id pok
  have hA := wd_asg hw4 hn2
  refine eg_iload_n dX3_words_0 rfl rfl ?_
  refine eg_iconst dX3_words_1 (v := nI 1) (by decide) ?_
  refine eg_icmp_lt 20 dX3_words_2 (by decide) (fun c1 => ?_) (fun c1 => ?_)
  · refine eg_bipush dX3_words_20 (v := -2) (by decide) ?_
    exact eg_iret rfl dX3_words_22 (by
          have e : ap_words ((w, n, k), cf, co, tg, (len, op, lf, rt, res), (fnd, flen, fop, flf, frt, fres), t0, t1, t2, t3) x y = (-2, ((w, n, k), cf, co, tg, (len, op, lf, rt, res), (fnd, flen, fop, flf, frt, fres), t0, t1, t2, t3)) := if_pos (by first | exact Or.inl c1 | exact Or.inr (Or.inl c2) | exact Or.inr (Or.inr (Or.inl c3)) | exact Or.inr (Or.inr (Or.inr (Int32.not_le.mp c4))))
          rw [e] at hQ
          exact hQ M hI ci_E.rf)
  · refine eg_iload_n dX3_words_5 rfl rfl ?_
    refine eg_iconst dX3_words_6 (v := nI 4) (by decide) ?_
    refine eg_icmp_gt 20 dX3_words_7 (by decide) (fun c2 => ?_) (fun c2 => ?_)
    · refine eg_bipush dX3_words_20 (v := -2) (by decide) ?_
      exact eg_iret rfl dX3_words_22 (by
            have e : ap_words ((w, n, k), cf, co, tg, (len, op, lf, rt, res), (fnd, flen, fop, flf, frt, fres), t0, t1, t2, t3) x y = (-2, ((w, n, k), cf, co, tg, (len, op, lf, rt, res), (fnd, flen, fop, flf, frt, fres), t0, t1, t2, t3)) := if_pos (by first | exact Or.inl c1 | exact Or.inr (Or.inl c2) | exact Or.inr (Or.inr (Or.inl c3)) | exact Or.inr (Or.inr (Or.inr (Int32.not_le.mp c4))))
            rw [e] at hQ
            exact hQ M hI ci_E.rf)
    · refine eg_iload_n dX3_words_10 rfl rfl ?_
      refine eg_iconst dX3_words_11 (v := nI 1) (by decide) ?_
      refine eg_icmp_lt 20 dX3_words_12 (by decide) (fun c3 => ?_) (fun c3 => ?_)
      · refine eg_bipush dX3_words_20 (v := -2) (by decide) ?_
        exact eg_iret rfl dX3_words_22 (by
              have e : ap_words ((w, n, k), cf, co, tg, (len, op, lf, rt, res), (fnd, flen, fop, flf, frt, fres), t0, t1, t2, t3) x y = (-2, ((w, n, k), cf, co, tg, (len, op, lf, rt, res), (fnd, flen, fop, flf, frt, fres), t0, t1, t2, t3)) := if_pos (by first | exact Or.inl c1 | exact Or.inr (Or.inl c2) | exact Or.inr (Or.inr (Or.inl c3)) | exact Or.inr (Or.inr (Or.inr (Int32.not_le.mp c4))))
              rw [e] at hQ
              exact hQ M hI ci_E.rf)
      · refine eg_iload_n dX3_words_15 rfl rfl ?_
        refine eg_iconst dX3_words_16 (v := nI 2) (by decide) ?_
        refine eg_icmp_le 23 dX3_words_17 (by decide) (fun c4 => ?_) (fun c4 => ?_)
        · have e : ap_words ((w, n, k), cf, co, tg, (len, op, lf, rt, res), (fnd, flen, fop, flf, frt, fres), t0, t1, t2, t3) x y = (nI (2 ^ (x.toNatClampNeg * y.toNatClampNeg)), ((x.toNatClampNeg, y.toNatClampNeg, 0), cf, co, (fun _ => 0), (0, op, lf, rt, 0), (false, flen, fop, flf, frt, fres), t0, t1, t2, t3)) := if_neg (fun q => q.elim c1 (fun q => q.elim c2 (fun q => q.elim c3 (Int32.not_lt.mpr c4))))
          rw [e] at hQ
          obtain ⟨X, rfl, hX1, hX4⟩ := nI_rng c1 c2 (by omega) (by omega)
          obtain ⟨Y, rfl, hY1, hY2⟩ := nI_rng c3 (Int32.not_lt.mpr c4) (by omega) (by omega)
          rw [nI_clamp (by omega), nI_clamp (by omega)] at hQ
          replace hQ : ∀ M', ci_U M' b X Y 0 cf co ((fun _ => 0)) 0 op lf rt 0 false flen fop flf frt fres t0 t1 t2 t3 → ci_E M M' b → Q (some (.int (nI (2 ^ (X * Y))))) G M' := hQ
          refine eg_aload_n dX3_words_23 rfl rfl ?_
          refine eg_getR gf_RX3_19 rfl (by assumption) (by assumption) dX3_words_24 ?_
          refine eg_iload_n dX3_words_27 rfl rfl ?_
          refine eg_iload_n dX3_words_28 rfl rfl ?_
          refine eg_callV2 0 0 gk_X2_setInputs gi_X2_setInputs (by assumption) rfl gl_RX3_44 rfl (Nat.le_of_ble_eq_true rfl) (Nat.le_of_ble_eq_true rfl) (Nat.zero_le _) (Nat.zero_le _) (by omega) dX3_words_29 ?_
          refine sp_X2_setInputs kV hX1 hX4 hY1 hY2 (fun M1 h1 => ?_)
          refine eg_aload_n dX3_words_32 rfl rfl ?_
          refine eg_getR gf_RX3_26 rfl (by assumption) (by assumption) dX3_words_33 ?_
          refine eg_iconst dX3_words_36 (v := nI 0) (by decide) ?_
          refine eg_callV1 0 0 gk_X1_empty gi_X1_empty (by assumption) rfl gl_RX3_48 rfl (Nat.le_of_ble_eq_true rfl) (Nat.le_of_ble_eq_true rfl) (Nat.zero_le _) (Nat.zero_le _) (by omega) dX3_words_37 ?_
          refine sp_X1_empty kR ?_
          refine eg_iconst dX3_words_40 (v := nI 0) (by decide) ?_
          refine eg_istore_n dX3_words_41 rfl (by decide) rfl ?_
          refine lp_X3_words hs 256 0 _ (by omega) ?_
          refine eg_aload_n dX3_words_62 rfl rfl ?_
          refine eg_iconst dX3_words_63 (v := nI 0) (by decide) ?_
          refine eg_putI gp_RX3_52 (fun q => by cases q) rfl rfl rfl k0 dX3_words_64 ?_
          generalize hM3 : eg_set (eg_fl (eg_set (eg_set M1 (b + 23) 3 (nI 0)) (b + 23) 4 (nI 0)) (b + 2) 0 256 (fun _ => nI 0)) b 7 (nI 0) = M3
          have o3 : ∀ q, q ≠ b → q ≠ b + 2 → q ≠ b + 23 → M3 q = M1 q := fun q z1 z2 z3 => by rw [← hM3, eg_set_ne z1, eg_fl_ne z2, eg_set_ne z3, eg_set_ne z3]
          have b1 := h1.1.eq (o3 (b + 3) (by omega) (by omega) (by omega))
          refine eg_aload_n dX3_words_67 rfl rfl ?_
          refine eg_getR gf_RX3_19 rfl k0 k5 dX3_words_68 ?_
          refine eg_getI gf_RX3_56 rfl gv1 dX3_words_71 ?_
          refine eg_topi b1.2.2.2.2.1 ?_
          have oo : ∀ q, ¬ (b + 3 ≤ q ∧ q < b + 23) → q ≠ b → q ≠ b + 2 → q ≠ b + 23 → M3 q = M q := fun q z1 z2 z3 z4 => by rw [o3 q z2 z3 z4, h1.2.2 q (by omega) (by omega)]
          refine eg_iret rfl dX3_words_74 (hQ M3 ⟨b1, fun u s q1 q2 => ?_, fun o ho => ?_, fun s q => ?_, ⟨?_, ?_, by omega, fun j hj => absurd hj (by omega)⟩, ?_, fun q => absurd q (by decide), ?_, ?_, ?_, ?_⟩ (fun q z => oo q (by omega) (by omega) (by omega) (by omega)))
          · rw [o3 _ (by omega) (by omega) (by omega), h1.2.1 u s (by omega) q2, sv_in (by omega)]
          · rw [oo _ (by omega) (by omega) (by omega) (by omega)]; exact a3 o ho
          · rw [← hM3, eg_set_ne (by omega), eg_fl_in (by omega) q]; rfl
          · rw [← hM3, eg_set_ne (by omega), eg_fl_ne (by omega), eg_set_j (by decide), eg_set_eq]
          · rw [← hM3, eg_set_ne (by omega), eg_fl_ne (by omega), eg_set_eq]
          · rw [← hM3, eg_set_eq]; rfl
          · rw [oo _ (by omega) (by omega) (by omega) (by omega)]; exact a8
          · rw [oo _ (by omega) (by omega) (by omega) (by omega)]; exact a9
          · rw [oo _ (by omega) (by omega) (by omega) (by omega)]; exact a10
          · rw [oo _ (by omega) (by omega) (by omega) (by omega)]; exact a11
        · refine eg_bipush dX3_words_20 (v := -2) (by decide) ?_
          exact eg_iret rfl dX3_words_22 (by
                have e : ap_words ((w, n, k), cf, co, tg, (len, op, lf, rt, res), (fnd, flen, fop, flf, frt, fres), t0, t1, t2, t3) x y = (-2, ((w, n, k), cf, co, tg, (len, op, lf, rt, res), (fnd, flen, fop, flf, frt, fres), t0, t1, t2, t3)) := if_pos (by first | exact Or.inl c1 | exact Or.inr (Or.inl c2) | exact Or.inr (Or.inr (Or.inl c3)) | exact Or.inr (Or.inr (Or.inr (Int32.not_le.mp c4))))
                rw [e] at hQ
                exact hQ M hI ci_E.rf)
set_option maxHeartbeats 2000000 in
theorem ap_C_constant {l : Launch} {E : eg_E} {d kb nb : Nat} {Q : Option Value → eg_G → eg_I → Prop} {G : eg_G} {M : eg_I} {b : Nat} {S : st_T} (hs : sh_C G b) (hok : st_ok S) (hI : ci_I M b S) {x : Int32} (hd : 2 ≤ d) (hQ : ∀ M', ci_I M' b (ap_constant S x).2 → ci_E M M' b → Q (some (.int (ap_constant S x).1)) G M') : eg_J l E mX3_constant d kb nb Q 0 [some (.ref b), some (.int x)] [] G M := by
  obtain ⟨k0, k1, k2, k3, k4, k5, kV, k6, kR, k7, kF, k8, k9, k10, kH⟩ := id hs
  obtain ⟨gv1, gv2, gv3, gv4⟩ := id kV
  obtain ⟨gr0, gr1, gr2, gr3, gr4, gr5, gr6⟩ := id kR
  obtain ⟨gf0, gf1, gf2, gf3, gf4, gf5, gf6⟩ := id kF
  have kh0 := kH.1
  obtain ⟨⟨w, n, k⟩, cf, co, tg, ⟨len, op, lf, rt, res⟩, ⟨fnd, flen, fop, flf, frt, fres⟩, t0, t1, t2, t3⟩ := S
  replace hI : ci_U M b w n k cf co tg len op lf rt res fnd flen fop flf frt fres t0 t1 t2 t3 := hI
  replace hok : ok_U w n k cf co len op lf rt res fnd flen fop flf frt fres := hok
  obtain ⟨a1, a2, a3, a4, a5, a6, a7, a8, a9, a10, a11⟩ := id hI
  obtain ⟨i1, i2, i3, i4, i5, hw1, hw4, hn1, hn2, hk4⟩ := id a1
  obtain ⟨p3, p4, pl, pa⟩ := id a5
  obtain ⟨-, -, -, -, -, cw, co9, pok, fok⟩ := id hok
  obtain ⟨-, pok2, pok3⟩ := id pok
  have hA := wd_asg hw4 hn2
  refine eg_aload_n dX3_constant_0 rfl rfl ?_
  refine eg_getR gf_RX3_19 rfl (by assumption) (by assumption) dX3_constant_1 ?_
  refine eg_iload_n dX3_constant_4 rfl rfl ?_
  refine eg_callV1 0 0 gk_X2_isWord gi_X2_isWord (by assumption) rfl gl_RX3_60 rfl (Nat.le_of_ble_eq_true rfl) (Nat.le_of_ble_eq_true rfl) (Nat.zero_le _) (Nat.zero_le _) (by omega) dX3_constant_5 ?_
  refine sp_X2_isWord gv1 a1 (fun z1 z2 => ?_) (fun z => ?_)
  · refine eg_if_ne 14 dX3_constant_8 (by decide) (fun _ => ?_) (fun z => absurd z (by decide))
    refine eg_aload_n dX3_constant_14 rfl rfl ?_
    refine eg_getR gf_RX3_26 rfl (by assumption) (by assumption) dX3_constant_15 ?_
    refine eg_getI gf_RX3_64 rfl (by assumption) dX3_constant_18 ?_
    refine eg_topi p3 ?_
    refine eg_if_le 27 dX3_constant_21 (by decide) (fun c1 => ?_) (fun c1 => ?_)
    · have hl : ¬ 0 < len := fun q => absurd c1 (nI_nle q (by omega))
      refine eg_aload_n dX3_constant_27 rfl rfl ?_
      refine eg_getR gf_RX3_19 rfl (by assumption) (by assumption) dX3_constant_28 ?_
      refine eg_getI gf_RX3_67 rfl (by assumption) dX3_constant_31 ?_
      refine eg_topi i4 ?_
      refine eg_iconst dX3_constant_34 (v := nI 4) (by decide) ?_
      refine eg_icmp_lt 41 dX3_constant_35 (by decide) (fun c2 => ?_) (fun c2 => ?_)
      · have hk : ¬ 4 ≤ k := fun q => absurd c2 (nI_nlt q (by omega))
        have e : ap_constant ((w, n, k), cf, co, tg, (len, op, lf, rt, res), (fnd, flen, fop, flf, frt, fres), t0, t1, t2, t3) x = (nI (n + k), ((w, n, k + 1), ss_up cf k x, co, tg, (len, op, lf, rt, res), (false, flen, fop, flf, frt, fres), t0, t1, t2, t3)) := by
          unfold ap_constant
          rw [if_neg (fun q => q.elim z1 z2), if_neg hl, if_neg hk]
        rw [e] at hQ
        replace hQ : ∀ M', ci_U M' b w n (k + 1) (ss_up cf k x) co tg len op lf rt res false flen fop flf frt fres t0 t1 t2 t3 → ci_E M M' b → Q (some (.int (nI (n + k)))) G M' := hQ
        refine eg_aload_n dX3_constant_41 rfl rfl ?_
        refine eg_getR gf_RX3_19 rfl (by assumption) (by assumption) dX3_constant_42 ?_
        refine eg_iload_n dX3_constant_45 rfl rfl ?_
        refine eg_callV1 0 0 gk_X2_appendConstant gi_X2_appendConstant (by assumption) rfl gl_RX3_70 rfl (Nat.le_of_ble_eq_true rfl) (Nat.le_of_ble_eq_true rfl) (Nat.zero_le _) (Nat.zero_le _) (by omega) dX3_constant_46 ?_
        refine sp_X2_appendConstant (by omega) kV a1 ?_
        refine eg_aload_n dX3_constant_49 rfl rfl ?_
        refine eg_iconst dX3_constant_50 (v := nI 0) (by decide) ?_
        refine eg_putI gp_RX3_52 (fun q => by cases q) rfl rfl rfl (by assumption) dX3_constant_51 ?_
        generalize hM2 : eg_set (eg_set (eg_fl M (b + 3 + 2 + (n + k)) 0 (2 ^ (w * n)) (fun _ => x)) (b + 3) 4 (nI (k + 1))) b 7 (nI 0) = M2
        have o2 : ∀ q, q ≠ b → q ≠ b + 3 → q ≠ b + 3 + 2 + (n + k) → M2 q = M q := fun q y1 y2 y3 => by rw [← hM2, eg_set_ne y1, eg_set_ne y2, eg_fl_ne y3]
        have hf : ∀ j, j ≠ 4 → M2 (b + 3) j = M (b + 3) j := fun j y => by rw [← hM2, eg_set_ne (by omega), eg_set_j y, eg_fl_ne (by omega)]
        have b1 : in_V M2 (b + 3) w n (k + 1) := ⟨by rw [hf 1 (by decide)]; exact i1, by rw [hf 2 (by decide)]; exact i2, by rw [hf 3 (by decide)]; exact i3, by rw [← hM2, eg_set_ne (by omega), eg_set_eq], by rw [hf 5 (by decide)]; exact i5, hw1, hw4, hn1, hn2, by omega⟩
        refine eg_aload_n dX3_constant_54 rfl rfl ?_
        refine eg_getR gf_RX3_19 rfl (by assumption) (by assumption) dX3_constant_55 ?_
        refine eg_callV0 0 0 gk_X2_given gi_X2_given (by assumption) rfl gl_RX3_73 rfl (Nat.le_of_ble_eq_true rfl) (Nat.le_of_ble_eq_true rfl) (Nat.zero_le _) (Nat.zero_le _) (by omega) dX3_constant_58 ?_
        refine sp_X2_given gv1 b1 ?_
        refine eg_iconst dX3_constant_61 (v := nI 1) (by decide) ?_
        refine eg_isub dX3_constant_62 ?_
        refine eg_topi (show nI (n + (k + 1)) - nI 1 = nI (n + k) from pk_sub (by omega)) ?_
        exact eg_iret rfl dX3_constant_63 (hQ M2 (⟨b1, fun u s q1 q2 => by
              by_cases e : u = n + k
              · subst e
                rw [← hM2, eg_set_ne (by omega), eg_set_ne (by omega), eg_fl_in (by omega) q2, sv_c (by omega), ss_up_e]
              · rw [o2 _ (by omega) (by omega) (by omega), a2 u s (by omega) q2]
                by_cases e2 : u < n
                · rw [sv_in e2, sv_in e2]
                · obtain ⟨v, rfl⟩ : ∃ v, u = n + v := ⟨u - n, by omega⟩
                  rw [sv_c (by omega), sv_c (by omega), ss_up_n (by omega)], fun o ho => by rw [o2 _ (by omega) (by omega) (by omega)]; exact a3 o ho, fun s q => by rw [o2 _ (by omega) (by omega) (by omega)]; exact a4 s q, a5.eq (fun q q1 q2 => by rw [o2 _ (by omega) (by omega) (by omega)]), by rw [← hM2, eg_set_eq]; rfl, fun q => absurd q (by decide), by rw [o2 _ (by omega) (by omega) (by omega)]; exact a8, by rw [o2 _ (by omega) (by omega) (by omega)]; exact a9, by rw [o2 _ (by omega) (by omega) (by omega)]; exact a10, by rw [o2 _ (by omega) (by omega) (by omega)]; exact a11⟩) (fun q z => o2 q (by omega) (by omega) (by omega)))
      · refine eg_bipush dX3_constant_38 (v := -4) (by decide) ?_
        exact eg_iret rfl dX3_constant_40 (by
              have hk : 4 ≤ k := Nat.le_of_not_lt (fun q => c2 (nI_lt q (by omega)))
              have e : ap_constant ((w, n, k), cf, co, tg, (len, op, lf, rt, res), (fnd, flen, fop, flf, frt, fres), t0, t1, t2, t3) x = (-4, ((w, n, k), cf, co, tg, (len, op, lf, rt, res), (fnd, flen, fop, flf, frt, fres), t0, t1, t2, t3)) := by
                unfold ap_constant
                rw [if_neg (fun q => q.elim z1 z2), if_neg hl, if_pos hk]
              rw [e] at hQ
              exact hQ M hI ci_E.rf)
    · refine eg_bipush dX3_constant_24 (v := -3) (by decide) ?_
      exact eg_iret rfl dX3_constant_26 (by
            have hl : 0 < len := Nat.pos_of_ne_zero (fun q => c1 (by rw [q]; decide))
            have e : ap_constant ((w, n, k), cf, co, tg, (len, op, lf, rt, res), (fnd, flen, fop, flf, frt, fres), t0, t1, t2, t3) x = (-3, ((w, n, k), cf, co, tg, (len, op, lf, rt, res), (fnd, flen, fop, flf, frt, fres), t0, t1, t2, t3)) := by
              unfold ap_constant
              rw [if_neg (fun q => q.elim z1 z2), if_pos hl]
            rw [e] at hQ
            exact hQ M hI ci_E.rf)
  · refine eg_if_ne 14 dX3_constant_8 (by decide) (fun z => absurd (show nI 0 = 0 from rfl) z) (fun _ => ?_)
    refine eg_bipush dX3_constant_11 (v := -2) (by decide) ?_
    have e : ap_constant ((w, n, k), cf, co, tg, (len, op, lf, rt, res), (fnd, flen, fop, flf, frt, fres), t0, t1, t2, t3) x = (-2, ((w, n, k), cf, co, tg, (len, op, lf, rt, res), (fnd, flen, fop, flf, frt, fres), t0, t1, t2, t3)) := if_pos z
    rw [e] at hQ
    exact eg_iret rfl dX3_constant_13 (hQ M hI ci_E.rf)
set_option maxHeartbeats 2000000 in
theorem lp_X3_aim {l : Launch} {E : eg_E} {d kb nb : Nat} {Q : Option Value → eg_G → eg_I → Prop} {G : eg_G} {b w n k res : Nat} {M0 : eg_I} (hs : sh_C G b) (hres : res < 18) : ∀ (t s : Nat) (M : eg_I), in_V M (b + 3) w n k → s + t = 2 ^ (w * n) → M = eg_fl M0 (b + 2) 0 s (fun j => M0 (b + 3 + 2 + res) j) → (∀ M', M' = eg_fl M0 (b + 2) 0 (2 ^ (w * n)) (fun j => M0 (b + 3 + 2 + res) j) → Q (some (.int (nI (cnt (fun s => ¬ M0 (b + 2) s = M0 (b + 3 + 2 + res) s) (2 ^ (w * n)))))) G M') → eg_J l E mX3_aim d kb nb Q 20 [some (.ref b), some (.ref (b + 3 + 2 + res)), some (.int (nI (cnt (fun s => ¬ M0 (b + 2) s = M0 (b + 3 + 2 + res) s) s))), some (.int (nI s))] [] G M := by
  intro t
  induction t with
  | zero =>
    intro s M h hst hM hQ
    obtain ⟨k0, k1, k2, k3, k4, k5, kV, k6, kR, k7, kF, k8, k9, k10, kH⟩ := id hs
    obtain ⟨gv1, gv2, gv3, gv4⟩ := id kV
    obtain ⟨gr0, gr1, gr2, gr3, gr4, gr5, gr6⟩ := id kR
    obtain ⟨gf0, gf1, gf2, gf3, gf4, gf5, gf6⟩ := id kF
    have kh0 := kH.1
    obtain ⟨i1, i2, i3, i4, i5, hw1, hw4, hn1, hn2, hk4⟩ := id h
    have hA := wd_asg hw4 hn2
    have er : ∀ j, M (b + 3 + 2 + res) j = M0 (b + 3 + 2 + res) j := fun j => by rw [hM, eg_fl_ne (by omega)]
    have et : ∀ j, s ≤ j → M (b + 2) j = M0 (b + 2) j := fun j hj => by rw [hM, eg_fl_out (Or.inr hj)]
    refine eg_iload_n dX3_aim_20 rfl rfl ?_
    refine eg_aload_n dX3_aim_21 rfl rfl ?_
    refine eg_getR gf_RX3_19 rfl (by assumption) (by assumption) dX3_aim_22 ?_
    refine eg_getI gf_RX3_56 rfl (by assumption) dX3_aim_25 ?_
    refine eg_topi i5 ?_
    refine eg_icmp_ge 61 dX3_aim_28 (by decide) (fun c28 => ?_) (fun c28 => absurd (nI_le (by omega) (by omega)) c28)
    refine eg_iload_n dX3_aim_61 rfl rfl ?_
    have e : s = 2 ^ (w * n) := by omega
    rw [e] at hM ⊢
    exact eg_iret rfl dX3_aim_62 (hQ M hM)
  | succ t ih =>
    intro s M h hst hM hQ
    obtain ⟨k0, k1, k2, k3, k4, k5, kV, k6, kR, k7, kF, k8, k9, k10, kH⟩ := id hs
    obtain ⟨gv1, gv2, gv3, gv4⟩ := id kV
    obtain ⟨gr0, gr1, gr2, gr3, gr4, gr5, gr6⟩ := id kR
    obtain ⟨gf0, gf1, gf2, gf3, gf4, gf5, gf6⟩ := id kF
    have kh0 := kH.1
    obtain ⟨i1, i2, i3, i4, i5, hw1, hw4, hn1, hn2, hk4⟩ := id h
    have hA := wd_asg hw4 hn2
    have er : ∀ j, M (b + 3 + 2 + res) j = M0 (b + 3 + 2 + res) j := fun j => by rw [hM, eg_fl_ne (by omega)]
    have et : ∀ j, s ≤ j → M (b + 2) j = M0 (b + 2) j := fun j hj => by rw [hM, eg_fl_out (Or.inr hj)]
    refine eg_iload_n dX3_aim_20 rfl rfl ?_
    refine eg_aload_n dX3_aim_21 rfl rfl ?_
    refine eg_getR gf_RX3_19 rfl (by assumption) (by assumption) dX3_aim_22 ?_
    refine eg_getI gf_RX3_56 rfl (by assumption) dX3_aim_25 ?_
    refine eg_topi i5 ?_
    refine eg_icmp_ge 61 dX3_aim_28 (by decide) (fun c28 => absurd c28 (nI_ge (by omega) (by omega))) (fun c28 => ?_)
    refine eg_aload_n dX3_aim_31 rfl rfl ?_
    refine eg_getR gf_RX3_13 rfl (by assumption) (by assumption) dX3_aim_32 ?_
    refine eg_iload_n dX3_aim_35 rfl rfl ?_
    refine eg_ialdN (by assumption) (by omega) (by decide) dX3_aim_36 ?_
    refine eg_topi (et s (Nat.le_refl _)) ?_
    refine eg_aload_n dX3_aim_37 rfl rfl ?_
    refine eg_iload_n dX3_aim_38 rfl rfl ?_
    refine eg_ialdN (gv4 res hres).2 (by omega) (by decide) dX3_aim_39 ?_
    refine eg_topi (er s) ?_
    refine eg_icmp_eq 55 dX3_aim_40 (by decide) (fun c => ?_) (fun c => ?_)
    · refine eg_iinc dX3_aim_55 (by decide) rfl (eg_inc s) rfl ?_
      refine eg_goto 20 dX3_aim_58 (by decide) ?_
      have ex : eg_fl M0 (b + 2) 0 (s + 1) (fun j => M0 (b + 3 + 2 + res) j) = eg_set (eg_fl M0 (b + 2) 0 s (fun j => M0 (b + 3 + 2 + res) j)) (b + 2) s (M0 (b + 3 + 2 + res) s) := eg_fl_r (by omega)
      have ec : cnt (fun s => ¬ M0 (b + 2) s = M0 (b + 3 + 2 + res) s) (s + 1) = cnt (fun s => ¬ M0 (b + 2) s = M0 (b + 3 + 2 + res) s) s := by
        rw [cnt, if_neg (fun q => q c), Nat.add_zero]
      have h9 := ih (s + 1) M h (by omega) (by
        rw [ex, ← hM]
        funext q j
        unfold eg_set
        by_cases e : q = b + 2 ∧ j = s
        · rw [if_pos e, e.1, e.2, et s (Nat.le_refl _), c]
        · rw [if_neg e]) hQ
      rw [ec] at h9
      exact h9
    · refine eg_aload_n dX3_aim_43 rfl rfl ?_
      refine eg_getR gf_RX3_13 rfl (by assumption) (by assumption) dX3_aim_44 ?_
      refine eg_iload_n dX3_aim_47 rfl rfl ?_
      refine eg_aload_n dX3_aim_48 rfl rfl ?_
      refine eg_iload_n dX3_aim_49 rfl rfl ?_
      refine eg_ialdN (gv4 res hres).2 (by omega) (by decide) dX3_aim_50 ?_
      refine eg_topi (er s) ?_
      refine eg_iastN (by assumption) (by omega) (by decide) dX3_aim_51 ?_
      refine eg_iinc dX3_aim_52 (by decide) rfl (eg_inc (cnt (fun s => ¬ M0 (b + 2) s = M0 (b + 3 + 2 + res) s) s)) rfl ?_
      refine eg_iinc dX3_aim_55 (by decide) rfl (eg_inc s) rfl ?_
      refine eg_goto 20 dX3_aim_58 (by decide) ?_
      have ex : eg_fl M0 (b + 2) 0 (s + 1) (fun j => M0 (b + 3 + 2 + res) j) = eg_set (eg_fl M0 (b + 2) 0 s (fun j => M0 (b + 3 + 2 + res) j)) (b + 2) s (M0 (b + 3 + 2 + res) s) := eg_fl_r (by omega)
      have ec : cnt (fun s => ¬ M0 (b + 2) s = M0 (b + 3 + 2 + res) s) (s + 1) = cnt (fun s => ¬ M0 (b + 2) s = M0 (b + 3 + 2 + res) s) s + 1 := by
        rw [cnt, if_pos c]
      have h9 := ih (s + 1) (eg_set M (b + 2) s (M0 (b + 3 + 2 + res) s)) (h.eq (eg_set_ne (by omega))) (by omega) (by rw [ex, ← hM]) hQ
      rw [ec] at h9
      exact h9
set_option maxHeartbeats 2000000 in
theorem ap_C_aim {l : Launch} {E : eg_E} {d kb nb : Nat} {Q : Option Value → eg_G → eg_I → Prop} {G : eg_G} {M : eg_I} {b : Nat} {S : st_T} (hs : sh_C G b) (hok : st_ok S) (hI : ci_I M b S) (hd : 1 ≤ d) (hQ : ∀ M', ci_I M' b (ap_aim S).2 → ci_E M M' b → Q (some (.int (ap_aim S).1)) G M') : eg_J l E mX3_aim d kb nb Q 0 [some (.ref b), none, none, none] [] G M := by
  obtain ⟨k0, k1, k2, k3, k4, k5, kV, k6, kR, k7, kF, k8, k9, k10, kH⟩ := id hs
  obtain ⟨gv1, gv2, gv3, gv4⟩ := id kV
  obtain ⟨gr0, gr1, gr2, gr3, gr4, gr5, gr6⟩ := id kR
  obtain ⟨gf0, gf1, gf2, gf3, gf4, gf5, gf6⟩ := id kF
  have kh0 := kH.1
  obtain ⟨⟨w, n, k⟩, cf, co, tg, ⟨len, op, lf, rt, res⟩, ⟨fnd, flen, fop, flf, frt, fres⟩, t0, t1, t2, t3⟩ := S
  replace hI : ci_U M b w n k cf co tg len op lf rt res fnd flen fop flf frt fres t0 t1 t2 t3 := hI
  replace hok : ok_U w n k cf co len op lf rt res fnd flen fop flf frt fres := hok
  obtain ⟨a1, a2, a3, a4, a5, a6, a7, a8, a9, a10, a11⟩ := id hI
  obtain ⟨i1, i2, i3, i4, i5, hw1, hw4, hn1, hn2, hk4⟩ := id a1
  obtain ⟨p3, p4, pl, pa⟩ := id a5
  obtain ⟨-, -, -, -, -, cw, co9, pok, fok⟩ := id hok
  obtain ⟨-, pok2, pok3⟩ := id pok
  have hA := wd_asg hw4 hn2
  refine eg_aload_n dX3_aim_0 rfl rfl ?_
  refine eg_getR gf_RX3_19 rfl (by assumption) (by assumption) dX3_aim_1 ?_
  refine eg_getR gf_RX3_83 rfl (by assumption) (by assumption) dX3_aim_4 ?_
  refine eg_aload_n dX3_aim_7 rfl rfl ?_
  refine eg_getR gf_RX3_26 rfl (by assumption) (by assumption) dX3_aim_8 ?_
  refine eg_getI gf_RX3_87 rfl (by assumption) dX3_aim_11 ?_
  refine eg_topi p4 ?_
  refine eg_aaldN rfl (by assumption) (by omega) (by decide) (gv4 res (by omega)).1 dX3_aim_14 ?_
  refine eg_astore_n dX3_aim_15 rfl (by decide) rfl ?_
  refine eg_iconst dX3_aim_16 (v := nI 0) (by decide) ?_
  refine eg_istore_n dX3_aim_17 rfl (by decide) rfl ?_
  refine eg_iconst dX3_aim_18 (v := nI 0) (by decide) ?_
  refine eg_istore_n dX3_aim_19 rfl (by decide) rfl ?_
  refine lp_X3_aim (k := k) (M0 := M) hs (by omega) (2 ^ (w * n)) 0 M a1 (by omega) (by rw [eg_fl_0 (Nat.le_refl _)]) (fun M2 h2 => ?_)
  have ec : ∀ t, t ≤ 2 ^ (w * n) → cnt (fun s => ¬ M (b + 2) s = M (b + 3 + 2 + res) s) t = cnt (fun s => ¬ tg s = sv w n k cf op lf rt res s) t := by
    intro t ht
    induction t with
    | zero => rfl
    | succ t iht =>
      rw [cnt, cnt, iht (by omega), a4 t (by omega), a2 res t (by omega) (by omega)]
  rw [ec _ (Nat.le_refl _)]
  have o2 : ∀ q, q ≠ b + 2 → M2 q = M q := fun q z => by rw [h2, eg_fl_ne z]
  replace hQ : ∀ M', ci_U M' b w n k cf co (fun s => if s < 2 ^ (w * n) then sv w n k cf op lf rt res s else tg s) len op lf rt res fnd flen fop flf frt fres t0 t1 t2 t3 → ci_E M M' b → Q (some (.int (nI (cnt (fun s => ¬ tg s = sv w n k cf op lf rt res s) (2 ^ (w * n)))))) G M' := hQ
  exact hQ M2 (⟨a1.eq (by rw [o2 _ (by omega)]), fun u s q1 q2 => by rw [o2 _ (by omega)]; exact a2 u s q1 q2, fun o ho => by rw [o2 _ (by omega)]; exact a3 o ho, fun s q => by
    show M2 (b + 2) s = if s < 2 ^ (w * n) then sv w n k cf op lf rt res s else tg s
    by_cases e : s < 2 ^ (w * n)
    · rw [h2, eg_fl_in (by omega) e, if_pos e, a2 res s (by omega) e]
    · rw [h2, eg_fl_out (by omega), if_neg e]; exact a4 s q, a5.eq (fun q q1 q2 => by rw [o2 _ (by omega)]), by rw [o2 _ (by omega)]; exact a6, fun q => (a7 q).eq (fun q q1 q2 => by rw [o2 _ (by omega)]), by rw [o2 _ (by omega)]; exact a8, by rw [o2 _ (by omega)]; exact a9, by rw [o2 _ (by omega)]; exact a10, by rw [o2 _ (by omega)]; exact a11⟩) (fun q z => o2 q (by omega))
end
section
/-! ShortestCode: add, reads, take -/
set_option maxHeartbeats 2000000 in
theorem ap_C_add {l : Launch} {E : eg_E} {d kb nb : Nat} {Q : Option Value → eg_G → eg_I → Prop} {G : eg_G} {M : eg_I} {b : Nat} {S : st_T} (hs : sh_C G b) (hok : st_ok S) (hI : ci_I M b S) {x y z : Int32} (hd : 4 ≤ d) (hQ : ∀ M', ci_I M' b (ap_add S x y z).2 → ci_E M M' b → Q (some (.int (ap_add S x y z).1)) G M') : eg_J l E mX3_add d kb nb Q 0 [some (.ref b), some (.int x), some (.int y), some (.int z), none] [] G M := by
  obtain ⟨k0, k1, k2, k3, k4, k5, kV, k6, kR, k7, kF, k8, k9, k10, kH⟩ := id hs
  obtain ⟨gv1, gv2, gv3, gv4⟩ := id kV
  obtain ⟨gr0, gr1, gr2, gr3, gr4, gr5, gr6⟩ := id kR
  obtain ⟨gf0, gf1, gf2, gf3, gf4, gf5, gf6⟩ := id kF
  have kh0 := kH.1
  obtain ⟨⟨w, n, k⟩, cf, co, tg, ⟨len, op, lf, rt, res⟩, ⟨fnd, flen, fop, flf, frt, fres⟩, t0, t1, t2, t3⟩ := S
  replace hI : ci_U M b w n k cf co tg len op lf rt res fnd flen fop flf frt fres t0 t1 t2 t3 := hI
  replace hok : ok_U w n k cf co len op lf rt res fnd flen fop flf frt fres := hok
  obtain ⟨a1, a2, a3, a4, a5, a6, a7, a8, a9, a10, a11⟩ := id hI
  obtain ⟨i1, i2, i3, i4, i5, hw1, hw4, hn1, hn2, hk4⟩ := id a1
  obtain ⟨p3, p4, pl, pa⟩ := id a5
  obtain ⟨-, -, -, -, -, cw, co9, pok, fok⟩ := id hok
  obtain ⟨-, pok2, pok3⟩ := id pok
  have hA := wd_asg hw4 hn2
  refine eg_iload_n dX3_add_0 rfl rfl ?_
  refine eg_callS1 0 0 gk_X3_isOperation gi_X3_isOperation gl_RX3_77 rfl (Nat.le_of_ble_eq_true rfl) (Nat.le_of_ble_eq_true rfl) (Nat.zero_le _) (Nat.zero_le _) (by omega) dX3_add_1 ?_
  refine sp_X3_isOperation (fun z1 z2 => ?_) (fun zz => ?_)
  · refine eg_if_eq 23 dX3_add_4 (by decide) (fun z => absurd z (by decide)) (fun _ => ?_)
    refine eg_aload_n dX3_add_7 rfl rfl ?_
    refine eg_iload_n dX3_add_8 rfl rfl ?_
    refine eg_callV1 0 0 gk_X3_isValue gi_X3_isValue k0 rfl gl_RX3_90 rfl (Nat.le_of_ble_eq_true rfl) (Nat.le_of_ble_eq_true rfl) (Nat.zero_le _) (Nat.zero_le _) (by omega) dX3_add_9 ?_
    refine sp_X3_isValue (k := k) (by omega) hs a1 p3 (fun y1 y2 => ?_) (fun yy => ?_)
    · refine eg_if_eq 23 dX3_add_12 (by decide) (fun z => absurd z (by decide)) (fun _ => ?_)
      refine eg_aload_n dX3_add_15 rfl rfl ?_
      refine eg_iload_n dX3_add_16 rfl rfl ?_
      refine eg_callV1 0 0 gk_X3_isValue gi_X3_isValue k0 rfl gl_RX3_90 rfl (Nat.le_of_ble_eq_true rfl) (Nat.le_of_ble_eq_true rfl) (Nat.zero_le _) (Nat.zero_le _) (by omega) dX3_add_17 ?_
      refine sp_X3_isValue (k := k) (by omega) hs a1 p3 (fun v1 v2 => ?_) (fun vv => ?_)
      · refine eg_if_ne 25 dX3_add_20 (by decide) (fun _ => ?_) (fun z => absurd z (by decide))
        obtain ⟨ex, hX⟩ := nI_cl z1 z2 (by omega)
        obtain ⟨ey, hY⟩ := nI_cl y1 y2 (by omega)
        obtain ⟨ez, hZ⟩ := nI_cl v1 v2 (by omega)
        have hge : ¬ ((x < 0 ∨ nI 13 ≤ x) ∨ (y < 0 ∨ nI (n + k + len) ≤ y) ∨ (z < 0 ∨ nI (n + k + len) ≤ z)) := fun q => q.elim (fun q => q.elim z1 z2) (fun q => q.elim (fun q => q.elim y1 y2) (fun q => q.elim v1 v2))
        refine eg_aload_n dX3_add_25 rfl rfl ?_
        refine eg_getR gf_RX3_26 rfl (by assumption) (by assumption) dX3_add_26 ?_
        refine eg_getI gf_RX3_64 rfl (by assumption) dX3_add_29 ?_
        refine eg_topi p3 ?_
        refine eg_bipush dX3_add_32 (v := nI 12) (by decide) ?_
        refine eg_icmp_lt 40 dX3_add_34 (by decide) (fun c1 => ?_) (fun c1 => ?_)
        · have hl : ¬ 12 ≤ len := fun q => absurd c1 (nI_nlt q (by omega))
          have e : ap_add ((w, n, k), cf, co, tg, (len, op, lf, rt, res), (fnd, flen, fop, flf, frt, fres), t0, t1, t2, t3) x y z = (nI (n + k + len), ((w, n, k), cf, co, tg, (len + 1, ss_up op len x.toNatClampNeg, ss_up lf len y.toNatClampNeg, ss_up rt len (if x.toNatClampNeg = 0 ∨ x.toNatClampNeg = 1 then 0 else z.toNatClampNeg), n + k + len), (fnd, flen, fop, flf, frt, fres), t0, t1, t2, t3)) := by
            unfold ap_add
            rw [if_neg hge, if_neg hl]
          rw [e] at hQ
          generalize x.toNatClampNeg = X at ex hX hQ
          generalize y.toNatClampNeg = Y at ey hY hQ
          generalize z.toNatClampNeg = Z at ez hZ hQ
          subst ex
          subst ey
          subst ez
          refine eg_aload_n dX3_add_40 rfl rfl ?_
          refine eg_callV0 0 0 gk_X3_valueCount gi_X3_valueCount (by assumption) rfl gl_RX3_93 rfl (Nat.le_of_ble_eq_true rfl) (Nat.le_of_ble_eq_true rfl) (Nat.zero_le _) (Nat.zero_le _) (by omega) dX3_add_41 ?_
          refine sp_X3_valueCount (by omega) hs a1 p3 ?_
          refine eg_istore dX3_add_44 (by decide) rfl ?_
          refine eg_aload_n dX3_add_46 rfl rfl ?_
          refine eg_getR gf_RX3_26 rfl (by assumption) (by assumption) dX3_add_47 ?_
          refine eg_aload_n dX3_add_50 rfl rfl ?_
          refine eg_getR gf_RX3_26 rfl (by assumption) (by assumption) dX3_add_51 ?_
          refine eg_getI gf_RX3_64 rfl (by assumption) dX3_add_54 ?_
          refine eg_topi p3 ?_
          refine eg_iload_n dX3_add_57 rfl rfl ?_
          refine eg_iload_n dX3_add_58 rfl rfl ?_
          refine eg_iload_n dX3_add_59 rfl rfl ?_
          refine eg_callS1 0 0 gk_X3_takesOne gi_X3_takesOne gl_RX3_96 rfl (Nat.le_of_ble_eq_true rfl) (Nat.le_of_ble_eq_true rfl) (Nat.zero_le _) (Nat.zero_le _) (by omega) dX3_add_60 ?_
          refine sp_X3_takesOne hX (fun ht => ?_) (fun ht => ?_)
          · rw [if_pos ht] at hQ
            replace hQ : ∀ M', ci_U M' b w n k cf co tg (len + 1) (ss_up op len X) (ss_up lf len Y) (ss_up rt len 0) (n + k + len) fnd flen fop flf frt fres t0 t1 t2 t3 → ci_E M M' b → Q (some (.int (nI (n + k + len)))) G M' := hQ
            refine eg_if_eq 70 dX3_add_63 (by decide) (fun z => absurd z (by decide)) (fun _ => ?_)
            refine eg_iconst dX3_add_66 (v := nI 0) (by decide) ?_
            refine eg_goto 71 dX3_add_67 (by decide) ?_
            refine eg_callV4 0 0 gk_X1_put gi_X1_put gr0 rfl gl_RX3_99 rfl (Nat.le_of_ble_eq_true rfl) (Nat.le_of_ble_eq_true rfl) (Nat.zero_le _) (Nat.zero_le _) (by omega) dX3_add_71 ?_
            refine sp_X1_put kR (by omega) ?_
            refine eg_aload_n dX3_add_74 rfl rfl ?_
            refine eg_getR gf_RX3_26 rfl (by assumption) (by assumption) dX3_add_75 ?_
            refine eg_dup dX3_add_78 rfl ?_
            refine eg_getI gf_RX3_64 rfl (by assumption) dX3_add_79 ?_
            refine eg_topi (show _ = nI len by rw [eg_set_ne (by omega), eg_set_ne (by omega), eg_set_ne (by omega)]; exact p3) ?_
            refine eg_iconst dX3_add_82 (v := nI 1) (by decide) ?_
            refine eg_iadd dX3_add_83 ?_
            refine eg_topi (nI_add len 1) ?_
            refine eg_putI gp_RX3_64 (fun q => by cases q) rfl rfl rfl (by assumption) dX3_add_84 ?_
            refine eg_aload_n dX3_add_87 rfl rfl ?_
            refine eg_getR gf_RX3_26 rfl (by assumption) (by assumption) dX3_add_88 ?_
            refine eg_iload dX3_add_91 rfl ?_
            refine eg_putI gp_RX3_87 (fun q => by cases q) rfl rfl rfl (by assumption) dX3_add_93 ?_
            generalize hM2 : eg_set (eg_set (eg_set (eg_set (eg_set M (b + 23 + 1) len (nI X)) (b + 23 + 2) len (nI Y)) (b + 23 + 3) len (nI 0)) (b + 23) 3 (nI (len + 1))) (b + 23) 4 (nI (n + k + len)) = M2
            have o2 : ∀ q, ¬ (b + 23 ≤ q ∧ q < b + 27) → M2 q = M q := fun q y => by rw [← hM2, eg_set_ne (by omega), eg_set_ne (by omega), eg_set_ne (by omega), eg_set_ne (by omega), eg_set_ne (by omega)]
            have m3 : M2 (b + 23) 3 = nI (len + 1) := by rw [← hM2, eg_set_j (by decide), eg_set_eq]
            have hr : in_R M2 (b + 23) (len + 1) (ss_up op len X) (ss_up lf len Y) (ss_up rt len (0)) (n + k + len) := by
              refine ⟨m3, by rw [← hM2, eg_set_eq], by omega, fun j hj => ?_⟩
              by_cases e : j = len
              · subst e
                rw [ss_up_e, ss_up_e, ss_up_e, ← hM2]
                refine ⟨?_, ?_, ?_⟩
                · rw [eg_set_ne (by omega), eg_set_ne (by omega), eg_set_ne (by omega), eg_set_ne (by omega), eg_set_eq]
                · rw [eg_set_ne (by omega), eg_set_ne (by omega), eg_set_ne (by omega), eg_set_eq]
                · rw [eg_set_ne (by omega), eg_set_ne (by omega), eg_set_eq]
              · rw [ss_up_n e, ss_up_n e, ss_up_n e, ← hM2]
                rw [eg_set_ne (show b + 23 + 1 ≠ b + 23 by omega), eg_set_ne (show b + 23 + 1 ≠ b + 23 by omega), eg_set_ne (show b + 23 + 2 ≠ b + 23 by omega), eg_set_ne (show b + 23 + 2 ≠ b + 23 by omega), eg_set_ne (show b + 23 + 3 ≠ b + 23 by omega), eg_set_ne (show b + 23 + 3 ≠ b + 23 by omega)]
                rw [eg_set_jj e, eg_set_jj e, eg_set_jj e, eg_set_jj e, eg_set_jj e, eg_set_jj e, eg_set_jj e, eg_set_jj e, eg_set_jj e]
                exact pa j (by omega)
            have b1 := a1.eq (o2 (b + 3) (by omega))
            have hpk : ∀ j, j < len + 1 → ss_up op len X j < 13 ∧ ss_up lf len Y j < n + k + j ∧ ss_up rt len (0) j < n + k + j := fun j hj => by
              by_cases e : j = len
              · subst e
                rw [ss_up_e, ss_up_e, ss_up_e]
                exact ⟨hX, hY, by omega⟩
              · rw [ss_up_n e, ss_up_n e, ss_up_n e]
                have := pok2 j (by omega)
                exact ⟨this.1, this.2.1, this.2.2.1⟩
            have hcg : ∀ u s, u < n + k + len → sv w n k cf (ss_up op len X) (ss_up lf len Y) (ss_up rt len (0)) u s = sv w n k cf op lf rt u s := fun u s hu => sv_congr (m := len) (fun j hj => ⟨(pok2 j hj).2.1, (pok2 j hj).2.2.1⟩) (fun j hj => ⟨ss_up_n (by omega), ss_up_n (by omega), ss_up_n (by omega)⟩) hu
            refine eg_aload_n dX3_add_96 rfl rfl ?_
            refine eg_aload_n dX3_add_97 rfl rfl ?_
            refine eg_getR gf_RX3_26 rfl (by assumption) (by assumption) dX3_add_98 ?_
            refine eg_getI gf_RX3_64 rfl (by assumption) dX3_add_101 ?_
            refine eg_topi m3 ?_
            refine eg_iconst dX3_add_104 (v := nI 1) (by decide) ?_
            refine eg_isub dX3_add_105 ?_
            refine eg_topi (show nI (len + 1) - nI 1 = nI len from pk_sub (by omega)) ?_
            refine eg_callV1 0 0 gk_X3_makeFrom gi_X3_makeFrom (by assumption) rfl gl_RX3_103 rfl (Nat.le_of_ble_eq_true rfl) (Nat.le_of_ble_eq_true rfl) (Nat.zero_le _) (Nat.zero_le _) (by omega) dX3_add_106 ?_
            refine sp_X3_makeFrom (cf := cf) (by omega) hs hpk b1 hr (by omega) (fun u s y1 y2 => by rw [o2 _ (by omega), hcg u s y1]; exact a2 u s y1 y2) (fun M3 h3 h4 => ?_)
            refine eg_iload dX3_add_109 rfl ?_
            exact eg_iret rfl dX3_add_111 (hQ M3 (⟨b1.eq (h4 _ (by omega)), fun u s q1 q2 => h3 u s (by omega) q2, fun o ho => by rw [h4 _ (by omega), o2 _ (by omega)]; exact a3 o ho, fun s q => by rw [h4 _ (by omega), o2 _ (by omega)]; exact a4 s q, hr.eq (fun q q1 q2 => h4 q (by omega)), by rw [h4 _ (by omega), o2 _ (by omega)]; exact a6, fun q => (a7 q).eq (fun q q1 q2 => by rw [h4 _ (by omega), o2 _ (by omega)]), by rw [h4 _ (by omega), o2 _ (by omega)]; exact a8, by rw [h4 _ (by omega), o2 _ (by omega)]; exact a9, by rw [h4 _ (by omega), o2 _ (by omega)]; exact a10, by rw [h4 _ (by omega), o2 _ (by omega)]; exact a11⟩) (fun q y => by rw [h4 q (by omega), o2 q (by omega)]))
          · rw [if_neg ht] at hQ
            replace hQ : ∀ M', ci_U M' b w n k cf co tg (len + 1) (ss_up op len X) (ss_up lf len Y) (ss_up rt len Z) (n + k + len) fnd flen fop flf frt fres t0 t1 t2 t3 → ci_E M M' b → Q (some (.int (nI (n + k + len)))) G M' := hQ
            refine eg_if_eq 70 dX3_add_63 (by decide) (fun _ => ?_) (fun z => absurd (show nI 0 = 0 from rfl) z)
            refine eg_iload_n dX3_add_70 rfl rfl ?_
            refine eg_callV4 0 0 gk_X1_put gi_X1_put gr0 rfl gl_RX3_99 rfl (Nat.le_of_ble_eq_true rfl) (Nat.le_of_ble_eq_true rfl) (Nat.zero_le _) (Nat.zero_le _) (by omega) dX3_add_71 ?_
            refine sp_X1_put kR (by omega) ?_
            refine eg_aload_n dX3_add_74 rfl rfl ?_
            refine eg_getR gf_RX3_26 rfl (by assumption) (by assumption) dX3_add_75 ?_
            refine eg_dup dX3_add_78 rfl ?_
            refine eg_getI gf_RX3_64 rfl (by assumption) dX3_add_79 ?_
            refine eg_topi (show _ = nI len by rw [eg_set_ne (by omega), eg_set_ne (by omega), eg_set_ne (by omega)]; exact p3) ?_
            refine eg_iconst dX3_add_82 (v := nI 1) (by decide) ?_
            refine eg_iadd dX3_add_83 ?_
            refine eg_topi (nI_add len 1) ?_
            refine eg_putI gp_RX3_64 (fun q => by cases q) rfl rfl rfl (by assumption) dX3_add_84 ?_
            refine eg_aload_n dX3_add_87 rfl rfl ?_
            refine eg_getR gf_RX3_26 rfl (by assumption) (by assumption) dX3_add_88 ?_
            refine eg_iload dX3_add_91 rfl ?_
            refine eg_putI gp_RX3_87 (fun q => by cases q) rfl rfl rfl (by assumption) dX3_add_93 ?_
            generalize hM2 : eg_set (eg_set (eg_set (eg_set (eg_set M (b + 23 + 1) len (nI X)) (b + 23 + 2) len (nI Y)) (b + 23 + 3) len (nI Z)) (b + 23) 3 (nI (len + 1))) (b + 23) 4 (nI (n + k + len)) = M2
            have o2 : ∀ q, ¬ (b + 23 ≤ q ∧ q < b + 27) → M2 q = M q := fun q y => by rw [← hM2, eg_set_ne (by omega), eg_set_ne (by omega), eg_set_ne (by omega), eg_set_ne (by omega), eg_set_ne (by omega)]
            have m3 : M2 (b + 23) 3 = nI (len + 1) := by rw [← hM2, eg_set_j (by decide), eg_set_eq]
            have hr : in_R M2 (b + 23) (len + 1) (ss_up op len X) (ss_up lf len Y) (ss_up rt len (Z)) (n + k + len) := by
              refine ⟨m3, by rw [← hM2, eg_set_eq], by omega, fun j hj => ?_⟩
              by_cases e : j = len
              · subst e
                rw [ss_up_e, ss_up_e, ss_up_e, ← hM2]
                refine ⟨?_, ?_, ?_⟩
                · rw [eg_set_ne (by omega), eg_set_ne (by omega), eg_set_ne (by omega), eg_set_ne (by omega), eg_set_eq]
                · rw [eg_set_ne (by omega), eg_set_ne (by omega), eg_set_ne (by omega), eg_set_eq]
                · rw [eg_set_ne (by omega), eg_set_ne (by omega), eg_set_eq]
              · rw [ss_up_n e, ss_up_n e, ss_up_n e, ← hM2]
                rw [eg_set_ne (show b + 23 + 1 ≠ b + 23 by omega), eg_set_ne (show b + 23 + 1 ≠ b + 23 by omega), eg_set_ne (show b + 23 + 2 ≠ b + 23 by omega), eg_set_ne (show b + 23 + 2 ≠ b + 23 by omega), eg_set_ne (show b + 23 + 3 ≠ b + 23 by omega), eg_set_ne (show b + 23 + 3 ≠ b + 23 by omega)]
                rw [eg_set_jj e, eg_set_jj e, eg_set_jj e, eg_set_jj e, eg_set_jj e, eg_set_jj e, eg_set_jj e, eg_set_jj e, eg_set_jj e]
                exact pa j (by omega)
            have b1 := a1.eq (o2 (b + 3) (by omega))
            have hpk : ∀ j, j < len + 1 → ss_up op len X j < 13 ∧ ss_up lf len Y j < n + k + j ∧ ss_up rt len (Z) j < n + k + j := fun j hj => by
              by_cases e : j = len
              · subst e
                rw [ss_up_e, ss_up_e, ss_up_e]
                exact ⟨hX, hY, by omega⟩
              · rw [ss_up_n e, ss_up_n e, ss_up_n e]
                have := pok2 j (by omega)
                exact ⟨this.1, this.2.1, this.2.2.1⟩
            have hcg : ∀ u s, u < n + k + len → sv w n k cf (ss_up op len X) (ss_up lf len Y) (ss_up rt len (Z)) u s = sv w n k cf op lf rt u s := fun u s hu => sv_congr (m := len) (fun j hj => ⟨(pok2 j hj).2.1, (pok2 j hj).2.2.1⟩) (fun j hj => ⟨ss_up_n (by omega), ss_up_n (by omega), ss_up_n (by omega)⟩) hu
            refine eg_aload_n dX3_add_96 rfl rfl ?_
            refine eg_aload_n dX3_add_97 rfl rfl ?_
            refine eg_getR gf_RX3_26 rfl (by assumption) (by assumption) dX3_add_98 ?_
            refine eg_getI gf_RX3_64 rfl (by assumption) dX3_add_101 ?_
            refine eg_topi m3 ?_
            refine eg_iconst dX3_add_104 (v := nI 1) (by decide) ?_
            refine eg_isub dX3_add_105 ?_
            refine eg_topi (show nI (len + 1) - nI 1 = nI len from pk_sub (by omega)) ?_
            refine eg_callV1 0 0 gk_X3_makeFrom gi_X3_makeFrom (by assumption) rfl gl_RX3_103 rfl (Nat.le_of_ble_eq_true rfl) (Nat.le_of_ble_eq_true rfl) (Nat.zero_le _) (Nat.zero_le _) (by omega) dX3_add_106 ?_
            refine sp_X3_makeFrom (cf := cf) (by omega) hs hpk b1 hr (by omega) (fun u s y1 y2 => by rw [o2 _ (by omega), hcg u s y1]; exact a2 u s y1 y2) (fun M3 h3 h4 => ?_)
            refine eg_iload dX3_add_109 rfl ?_
            exact eg_iret rfl dX3_add_111 (hQ M3 (⟨b1.eq (h4 _ (by omega)), fun u s q1 q2 => h3 u s (by omega) q2, fun o ho => by rw [h4 _ (by omega), o2 _ (by omega)]; exact a3 o ho, fun s q => by rw [h4 _ (by omega), o2 _ (by omega)]; exact a4 s q, hr.eq (fun q q1 q2 => h4 q (by omega)), by rw [h4 _ (by omega), o2 _ (by omega)]; exact a6, fun q => (a7 q).eq (fun q q1 q2 => by rw [h4 _ (by omega), o2 _ (by omega)]), by rw [h4 _ (by omega), o2 _ (by omega)]; exact a8, by rw [h4 _ (by omega), o2 _ (by omega)]; exact a9, by rw [h4 _ (by omega), o2 _ (by omega)]; exact a10, by rw [h4 _ (by omega), o2 _ (by omega)]; exact a11⟩) (fun q y => by rw [h4 q (by omega), o2 q (by omega)]))
        · refine eg_bipush dX3_add_37 (v := -4) (by decide) ?_
          exact eg_iret rfl dX3_add_39 (by
                  have e : ap_add ((w, n, k), cf, co, tg, (len, op, lf, rt, res), (fnd, flen, fop, flf, frt, fres), t0, t1, t2, t3) x y z = (-4, ((w, n, k), cf, co, tg, (len, op, lf, rt, res), (fnd, flen, fop, flf, frt, fres), t0, t1, t2, t3)) := by
                    unfold ap_add
                    rw [if_neg hge, if_pos (Nat.le_of_not_lt (fun q => c1 (nI_lt q (by omega))))]
                  rw [e] at hQ
                  exact hQ M hI ci_E.rf)
      · refine eg_if_ne 25 dX3_add_20 (by decide) (fun z => absurd (show nI 0 = 0 from rfl) z) (fun _ => ?_)
        refine eg_iconst dX3_add_23 (v := -1) (by decide) ?_
        have e : ap_add ((w, n, k), cf, co, tg, (len, op, lf, rt, res), (fnd, flen, fop, flf, frt, fres), t0, t1, t2, t3) x y z = (-1, ((w, n, k), cf, co, tg, (len, op, lf, rt, res), (fnd, flen, fop, flf, frt, fres), t0, t1, t2, t3)) := if_pos (Or.inr (Or.inr vv))
        rw [e] at hQ
        exact eg_iret rfl dX3_add_24 (hQ M hI ci_E.rf)
    · refine eg_if_eq 23 dX3_add_12 (by decide) (fun _ => ?_) (fun z => absurd (show nI 0 = 0 from rfl) z)
      refine eg_iconst dX3_add_23 (v := -1) (by decide) ?_
      have e : ap_add ((w, n, k), cf, co, tg, (len, op, lf, rt, res), (fnd, flen, fop, flf, frt, fres), t0, t1, t2, t3) x y z = (-1, ((w, n, k), cf, co, tg, (len, op, lf, rt, res), (fnd, flen, fop, flf, frt, fres), t0, t1, t2, t3)) := if_pos (Or.inr (Or.inl yy))
      rw [e] at hQ
      exact eg_iret rfl dX3_add_24 (hQ M hI ci_E.rf)
  · refine eg_if_eq 23 dX3_add_4 (by decide) (fun _ => ?_) (fun z => absurd (show nI 0 = 0 from rfl) z)
    refine eg_iconst dX3_add_23 (v := -1) (by decide) ?_
    have e : ap_add ((w, n, k), cf, co, tg, (len, op, lf, rt, res), (fnd, flen, fop, flf, frt, fres), t0, t1, t2, t3) x y z = (-1, ((w, n, k), cf, co, tg, (len, op, lf, rt, res), (fnd, flen, fop, flf, frt, fres), t0, t1, t2, t3)) := if_pos (Or.inl zz)
    rw [e] at hQ
    exact eg_iret rfl dX3_add_24 (hQ M hI ci_E.rf)
set_option maxHeartbeats 2000000 in
theorem ap_C_value {l : Launch} {E : eg_E} {d kb nb : Nat} {Q : Option Value → eg_G → eg_I → Prop} {G : eg_G} {M : eg_I} {b : Nat} {S : st_T} (hs : sh_C G b) (hok : st_ok S) (hI : ci_I M b S) {x y : Int32} (hd : 3 ≤ d) (hQ : Q (some (.int (ap_value S x y))) G M) : eg_J l E mX3_value d kb nb Q 0 [some (.ref b), some (.int x), some (.int y)] [] G M := by
  obtain ⟨k0, k1, k2, k3, k4, k5, kV, k6, kR, k7, kF, k8, k9, k10, kH⟩ := id hs
  obtain ⟨gv1, gv2, gv3, gv4⟩ := id kV
  obtain ⟨gr0, gr1, gr2, gr3, gr4, gr5, gr6⟩ := id kR
  obtain ⟨gf0, gf1, gf2, gf3, gf4, gf5, gf6⟩ := id kF
  have kh0 := kH.1
  obtain ⟨⟨w, n, k⟩, cf, co, tg, ⟨len, op, lf, rt, res⟩, ⟨fnd, flen, fop, flf, frt, fres⟩, t0, t1, t2, t3⟩ := S
  replace hI : ci_U M b w n k cf co tg len op lf rt res fnd flen fop flf frt fres t0 t1 t2 t3 := hI
  replace hok : ok_U w n k cf co len op lf rt res fnd flen fop flf frt fres := hok
  obtain ⟨a1, a2, a3, a4, a5, a6, a7, a8, a9, a10, a11⟩ := id hI
  obtain ⟨i1, i2, i3, i4, i5, hw1, hw4, hn1, hn2, hk4⟩ := id a1
  obtain ⟨p3, p4, pl, pa⟩ := id a5
  obtain ⟨-, -, -, -, -, cw, co9, pok, fok⟩ := id hok
  obtain ⟨-, pok2, pok3⟩ := id pok
  have hA := wd_asg hw4 hn2
  refine eg_aload_n dX3_value_0 rfl rfl ?_
  refine eg_iload_n dX3_value_1 rfl rfl ?_
  refine eg_callV1 0 0 gk_X3_isValue gi_X3_isValue (by assumption) rfl gl_RX3_90 rfl (Nat.le_of_ble_eq_true rfl) (Nat.le_of_ble_eq_true rfl) (Nat.zero_le _) (Nat.zero_le _) (by omega) dX3_value_2 ?_
  refine sp_X3_isValue (k := k) (by omega) hs a1 p3 (fun z1 z2 => ?_) (fun zz => ?_)
  · refine eg_if_eq 19 dX3_value_5 (by decide) (fun z => absurd z (by decide)) (fun _ => ?_)
    refine eg_aload_n dX3_value_8 rfl rfl ?_
    refine eg_getR gf_RX3_19 rfl k0 k5 dX3_value_9 ?_
    refine eg_iload_n dX3_value_12 rfl rfl ?_
    refine eg_callV1 0 0 gk_X2_isAssignment gi_X2_isAssignment gv1 rfl gl_RX3_80 rfl (Nat.le_of_ble_eq_true rfl) (Nat.le_of_ble_eq_true rfl) (Nat.zero_le _) (Nat.zero_le _) (by omega) dX3_value_13 ?_
    refine sp_X2_isAssignment gv1 a1 (fun y1 y2 => ?_) (fun yy => ?_)
    · refine eg_if_ne 21 dX3_value_16 (by decide) (fun _ => ?_) (fun z => absurd z (by decide))
      rw [show ap_value ((w, n, k), cf, co, tg, (len, op, lf, rt, res), (fnd, flen, fop, flf, frt, fres), t0, t1, t2, t3) x y = sv w n k cf op lf rt x.toNatClampNeg y.toNatClampNeg from if_neg (fun q => q.elim (fun q => q.elim z1 z2) (fun q => q.elim y1 y2))] at hQ
      obtain ⟨ex, hX⟩ := nI_cl z1 z2 (by omega)
      obtain ⟨ey, hY⟩ := nI_cl y1 y2 (by omega)
      generalize x.toNatClampNeg = X at ex hX hQ
      generalize y.toNatClampNeg = Y at ey hY hQ
      subst ex
      subst ey
      refine eg_aload_n dX3_value_21 rfl rfl ?_
      refine eg_getR gf_RX3_19 rfl (by assumption) (by assumption) dX3_value_22 ?_
      refine eg_getR gf_RX3_83 rfl (by assumption) (by assumption) dX3_value_25 ?_
      refine eg_iload_n dX3_value_28 rfl rfl ?_
      refine eg_aaldN rfl (by assumption) (by omega) (by decide) (gv4 X (by omega)).1 dX3_value_29 ?_
      refine eg_iload_n dX3_value_30 rfl rfl ?_
      refine eg_ialdN (gv4 X (by omega)).2 (by omega) (by decide) dX3_value_31 ?_
      refine eg_topi (a2 X Y (by omega) hY) ?_
      exact eg_iret rfl dX3_value_32 hQ
    · refine eg_if_ne 21 dX3_value_16 (by decide) (fun z => absurd (show nI 0 = 0 from rfl) z) (fun _ => ?_)
      rw [show ap_value ((w, n, k), cf, co, tg, (len, op, lf, rt, res), (fnd, flen, fop, flf, frt, fres), t0, t1, t2, t3) x y = -1 from if_pos (Or.inr yy)] at hQ
      refine eg_iconst dX3_value_19 (v := -1) (by decide) ?_
      exact eg_iret rfl dX3_value_20 hQ
  · refine eg_if_eq 19 dX3_value_5 (by decide) (fun _ => ?_) (fun z => absurd (show nI 0 = 0 from rfl) z)
    rw [show ap_value ((w, n, k), cf, co, tg, (len, op, lf, rt, res), (fnd, flen, fop, flf, frt, fres), t0, t1, t2, t3) x y = -1 from if_pos (Or.inl zz)] at hQ
    refine eg_iconst dX3_value_19 (v := -1) (by decide) ?_
    exact eg_iret rfl dX3_value_20 hQ
theorem sw_out3 {x : Int32} (h0 : ¬ x = 0) (h1 : ¬ x = 1) (h2 : ¬ x = 2) : x.toInt < 0 ∨ 2 < x.toInt := by
  by_cases a : x.toInt < 0
  · exact Or.inl a
  · by_cases b : 2 < x.toInt
    · exact Or.inr b
    · exfalso
      have : x.toInt = 0 ∨ x.toInt = 1 ∨ x.toInt = 2 := by omega
      rcases this with e | e | e
      · exact h0 (Int32.toInt_inj.mp (by rw [e]; rfl))
      · exact h1 (Int32.toInt_inj.mp (by rw [e]; rfl))
      · exact h2 (Int32.toInt_inj.mp (by rw [e]; rfl))
theorem sw_out4 {x : Int32} (h0 : ¬ x = 0) (h1 : ¬ x = 1) (h2 : ¬ x = 2) (h3 : ¬ x = 3) : x.toInt < 0 ∨ 3 < x.toInt := by
  by_cases a : x.toInt < 0
  · exact Or.inl a
  · by_cases b : 3 < x.toInt
    · exact Or.inr b
    · exfalso
      have : x.toInt = 0 ∨ x.toInt = 1 ∨ x.toInt = 2 ∨ x.toInt = 3 := by omega
      rcases this with e | e | e | e
      · exact h0 (Int32.toInt_inj.mp (by rw [e]; rfl))
      · exact h1 (Int32.toInt_inj.mp (by rw [e]; rfl))
      · exact h2 (Int32.toInt_inj.mp (by rw [e]; rfl))
      · exact h3 (Int32.toInt_inj.mp (by rw [e]; rfl))
theorem sw_out6 {x : Int32} (h0 : ¬ x = 0) (h1 : ¬ x = 1) (h2 : ¬ x = 2) (h3 : ¬ x = 3) (h4 : ¬ x = 4) (h5 : ¬ x = 5) : x.toInt < 0 ∨ 5 < x.toInt := by
  by_cases a : x.toInt < 0
  · exact Or.inl a
  · by_cases b : 5 < x.toInt
    · exact Or.inr b
    · exfalso
      have : x.toInt = 0 ∨ x.toInt = 1 ∨ x.toInt = 2 ∨ x.toInt = 3 ∨ x.toInt = 4 ∨ x.toInt = 5 := by omega
      rcases this with e | e | e | e | e | e
      · exact h0 (Int32.toInt_inj.mp (by rw [e]; rfl))
      · exact h1 (Int32.toInt_inj.mp (by rw [e]; rfl))
      · exact h2 (Int32.toInt_inj.mp (by rw [e]; rfl))
      · exact h3 (Int32.toInt_inj.mp (by rw [e]; rfl))
      · exact h4 (Int32.toInt_inj.mp (by rw [e]; rfl))
      · exact h5 (Int32.toInt_inj.mp (by rw [e]; rfl))
set_option maxHeartbeats 2000000 in
theorem ap_C_told {l : Launch} {E : eg_E} {d kb nb : Nat} {Q : Option Value → eg_G → eg_I → Prop} {G : eg_G} {M : eg_I} {b : Nat} {S : st_T} (hs : sh_C G b) (hok : st_ok S) (hI : ci_I M b S) {y : Int32} (hd : 1 ≤ d) (hQ : Q (some (.int (ap_told S y))) G M) : eg_J l E mX3_told d kb nb Q 0 [some (.ref b), some (.int y)] [] G M := by
  obtain ⟨k0, k1, k2, k3, k4, k5, kV, k6, kR, k7, kF, k8, k9, k10, kH⟩ := id hs
  obtain ⟨gv1, gv2, gv3, gv4⟩ := id kV
  obtain ⟨gr0, gr1, gr2, gr3, gr4, gr5, gr6⟩ := id kR
  obtain ⟨gf0, gf1, gf2, gf3, gf4, gf5, gf6⟩ := id kF
  have kh0 := kH.1
  obtain ⟨⟨w, n, k⟩, cf, co, tg, ⟨len, op, lf, rt, res⟩, ⟨fnd, flen, fop, flf, frt, fres⟩, t0, t1, t2, t3⟩ := S
  replace hI : ci_U M b w n k cf co tg len op lf rt res fnd flen fop flf frt fres t0 t1 t2 t3 := hI
  replace hok : ok_U w n k cf co len op lf rt res fnd flen fop flf frt fres := hok
  obtain ⟨a1, a2, a3, a4, a5, a6, a7, a8, a9, a10, a11⟩ := id hI
  obtain ⟨i1, i2, i3, i4, i5, hw1, hw4, hn1, hn2, hk4⟩ := id a1
  obtain ⟨p3, p4, pl, pa⟩ := id a5
  obtain ⟨-, -, -, -, -, cw, co9, pok, fok⟩ := id hok
  obtain ⟨-, pok2, pok3⟩ := id pok
  have hA := wd_asg hw4 hn2
  refine eg_iload_n dX3_told_0 rfl rfl ?_
  by_cases e0 : y = 0
  · rw [e0] at hQ ⊢
    refine eg_tableIn 32 dX3_told_1 (by decide) (by decide) rfl (by decide) ?_
    rw [show ap_told ((w, n, k), cf, co, tg, (len, op, lf, rt, res), (fnd, flen, fop, flf, frt, fres), t0, t1, t2, t3) 0 = t0 from rfl] at hQ
    refine eg_aload_n dX3_told_32 rfl rfl ?_
    refine eg_getR gf_RX3_40 rfl (by assumption) (by assumption) dX3_told_33 ?_
    refine eg_getI gf_RX3_150 rfl (by assumption) dX3_told_36 ?_
    refine eg_topi a8 ?_
    exact eg_iret rfl dX3_told_39 hQ
  by_cases e1 : y = 1
  · rw [e1] at hQ ⊢
    refine eg_tableIn 40 dX3_told_1 (by decide) (by decide) rfl (by decide) ?_
    rw [show ap_told ((w, n, k), cf, co, tg, (len, op, lf, rt, res), (fnd, flen, fop, flf, frt, fres), t0, t1, t2, t3) 1 = t1 from rfl] at hQ
    refine eg_aload_n dX3_told_40 rfl rfl ?_
    refine eg_getR gf_RX3_40 rfl (by assumption) (by assumption) dX3_told_41 ?_
    refine eg_getI gf_RX3_153 rfl (by assumption) dX3_told_44 ?_
    refine eg_topi a9 ?_
    exact eg_iret rfl dX3_told_47 hQ
  by_cases e2 : y = 2
  · rw [e2] at hQ ⊢
    refine eg_tableIn 48 dX3_told_1 (by decide) (by decide) rfl (by decide) ?_
    rw [show ap_told ((w, n, k), cf, co, tg, (len, op, lf, rt, res), (fnd, flen, fop, flf, frt, fres), t0, t1, t2, t3) 2 = t2 from rfl] at hQ
    refine eg_aload_n dX3_told_48 rfl rfl ?_
    refine eg_getR gf_RX3_40 rfl (by assumption) (by assumption) dX3_told_49 ?_
    refine eg_getI gf_RX3_156 rfl (by assumption) dX3_told_52 ?_
    refine eg_topi a10 ?_
    exact eg_iret rfl dX3_told_55 hQ
  by_cases e3 : y = 3
  · rw [e3] at hQ ⊢
    refine eg_tableIn 56 dX3_told_1 (by decide) (by decide) rfl (by decide) ?_
    rw [show ap_told ((w, n, k), cf, co, tg, (len, op, lf, rt, res), (fnd, flen, fop, flf, frt, fres), t0, t1, t2, t3) 3 = t3 from rfl] at hQ
    refine eg_aload_n dX3_told_56 rfl rfl ?_
    refine eg_getR gf_RX3_40 rfl (by assumption) (by assumption) dX3_told_57 ?_
    refine eg_getI gf_RX3_159 rfl (by assumption) dX3_told_60 ?_
    refine eg_topi a11 ?_
    exact eg_iret rfl dX3_told_63 hQ
  refine eg_tableOut 64 dX3_told_1 (sw_out4 e0 e1 e2 e3) (by decide) ?_
  rw [show ap_told ((w, n, k), cf, co, tg, (len, op, lf, rt, res), (fnd, flen, fop, flf, frt, fres), t0, t1, t2, t3) y = -2 by unfold ap_told; rw [if_neg e0, if_neg e1, if_neg e2, if_neg e3]] at hQ
  refine eg_bipush dX3_told_64 (v := -2) (by decide) ?_
  exact eg_iret rfl dX3_told_66 hQ
set_option maxHeartbeats 2000000 in
theorem lp_X3_programCost {l : Launch} {E : eg_E} {d kb nb : Nat} {Q : Option Value → eg_G → eg_I → Prop} {G : eg_G} {M : eg_I} {b len res : Nat} {co op lf rt : Nat → Nat} (hs : sh_C G b) (hr : in_R M (b + 23) len op lf rt res) (hco : ∀ o, o < 13 → M (b + 1) o = nI (co o)) (hop : ∀ j, j < len → op j < 13) (hQ : Q (some (.int (nI (sum_c co op len)))) G M) : ∀ (t s : Nat), s + t = len → eg_J l E mX3_programCost d kb nb Q 4 [some (.ref b), some (.int (nI (sum_c co op s))), some (.int (nI s))] [] G M := by
  intro t
  induction t with
  | zero =>
    intro s hst
    obtain ⟨k0, k1, k2, k3, k4, k5, kV, k6, kR, k7, kF, k8, k9, k10, kH⟩ := id hs
    obtain ⟨gv1, gv2, gv3, gv4⟩ := id kV
    obtain ⟨gr0, gr1, gr2, gr3, gr4, gr5, gr6⟩ := id kR
    obtain ⟨gf0, gf1, gf2, gf3, gf4, gf5, gf6⟩ := id kF
    have kh0 := kH.1
    obtain ⟨p3, p4, pl, pa⟩ := id hr
    refine eg_iload_n dX3_programCost_4 rfl rfl ?_
    refine eg_aload_n dX3_programCost_5 rfl rfl ?_
    refine eg_getR gf_RX3_26 rfl (by assumption) (by assumption) dX3_programCost_6 ?_
    refine eg_getI gf_RX3_64 rfl (by assumption) dX3_programCost_9 ?_
    refine eg_topi p3 ?_
    refine eg_icmp_ge 38 dX3_programCost_12 (by decide) (fun c12 => ?_) (fun c12 => absurd (nI_le (by omega) (by omega)) c12)
    refine eg_iload_n dX3_programCost_38 rfl rfl ?_
    have e : s = len := by omega
    subst e
    exact eg_iret rfl dX3_programCost_39 hQ
  | succ t ih =>
    intro s hst
    obtain ⟨k0, k1, k2, k3, k4, k5, kV, k6, kR, k7, kF, k8, k9, k10, kH⟩ := id hs
    obtain ⟨gv1, gv2, gv3, gv4⟩ := id kV
    obtain ⟨gr0, gr1, gr2, gr3, gr4, gr5, gr6⟩ := id kR
    obtain ⟨gf0, gf1, gf2, gf3, gf4, gf5, gf6⟩ := id kF
    have kh0 := kH.1
    obtain ⟨p3, p4, pl, pa⟩ := id hr
    refine eg_iload_n dX3_programCost_4 rfl rfl ?_
    refine eg_aload_n dX3_programCost_5 rfl rfl ?_
    refine eg_getR gf_RX3_26 rfl (by assumption) (by assumption) dX3_programCost_6 ?_
    refine eg_getI gf_RX3_64 rfl (by assumption) dX3_programCost_9 ?_
    refine eg_topi p3 ?_
    refine eg_icmp_ge 38 dX3_programCost_12 (by decide) (fun c12 => absurd c12 (nI_ge (by omega) (by omega))) (fun c12 => ?_)
    refine eg_iload_n dX3_programCost_15 rfl rfl ?_
    refine eg_aload_n dX3_programCost_16 rfl rfl ?_
    refine eg_getR gf_RX3_9 rfl (by assumption) (by assumption) dX3_programCost_17 ?_
    refine eg_aload_n dX3_programCost_20 rfl rfl ?_
    refine eg_getR gf_RX3_26 rfl (by assumption) (by assumption) dX3_programCost_21 ?_
    refine eg_getR gf_RX3_106 rfl (by assumption) (by assumption) dX3_programCost_24 ?_
    refine eg_iload_n dX3_programCost_27 rfl rfl ?_
    refine eg_ialdN (by assumption) (by omega) (by decide) dX3_programCost_28 ?_
    refine eg_topi (pa s (by omega)).1 ?_
    refine eg_ialdN (by assumption) (hop s (by omega)) (by decide) dX3_programCost_29 ?_
    refine eg_topi (hco _ (hop s (by omega))) ?_
    refine eg_iadd dX3_programCost_30 ?_
    refine eg_topi (nI_add (sum_c co op s) (co (op s))) ?_
    refine eg_istore_n dX3_programCost_31 rfl (by decide) rfl ?_
    refine eg_iinc dX3_programCost_32 (by decide) rfl (eg_inc s) rfl ?_
    refine eg_goto 4 dX3_programCost_35 (by decide) ?_
    exact ih (s + 1) (by omega)
set_option maxHeartbeats 2000000 in
theorem ap_C_count {l : Launch} {E : eg_E} {d kb nb : Nat} {Q : Option Value → eg_G → eg_I → Prop} {G : eg_G} {M : eg_I} {b : Nat} {S : st_T} (hs : sh_C G b) (hok : st_ok S) (hI : ci_I M b S) {y : Int32} (hd : 1 ≤ d) (hQ : Q (some (.int (ap_count S y))) G M) : eg_J l E mX3_count d kb nb Q 0 [some (.ref b), some (.int y)] [] G M := by
  obtain ⟨k0, k1, k2, k3, k4, k5, kV, k6, kR, k7, kF, k8, k9, k10, kH⟩ := id hs
  obtain ⟨gv1, gv2, gv3, gv4⟩ := id kV
  obtain ⟨gr0, gr1, gr2, gr3, gr4, gr5, gr6⟩ := id kR
  obtain ⟨gf0, gf1, gf2, gf3, gf4, gf5, gf6⟩ := id kF
  have kh0 := kH.1
  obtain ⟨⟨w, n, k⟩, cf, co, tg, ⟨len, op, lf, rt, res⟩, ⟨fnd, flen, fop, flf, frt, fres⟩, t0, t1, t2, t3⟩ := S
  replace hI : ci_U M b w n k cf co tg len op lf rt res fnd flen fop flf frt fres t0 t1 t2 t3 := hI
  replace hok : ok_U w n k cf co len op lf rt res fnd flen fop flf frt fres := hok
  obtain ⟨a1, a2, a3, a4, a5, a6, a7, a8, a9, a10, a11⟩ := id hI
  obtain ⟨i1, i2, i3, i4, i5, hw1, hw4, hn1, hn2, hk4⟩ := id a1
  obtain ⟨p3, p4, pl, pa⟩ := id a5
  obtain ⟨-, -, -, -, -, cw, co9, pok, fok⟩ := id hok
  obtain ⟨-, pok2, pok3⟩ := id pok
  have hA := wd_asg hw4 hn2
  refine eg_iload_n dX3_count_0 rfl rfl ?_
  by_cases e0 : y = 0
  · rw [e0] at hQ ⊢
    refine eg_tableIn 40 dX3_count_1 (by decide) (by decide) rfl (by decide) ?_
    rw [show ap_count ((w, n, k), cf, co, tg, (len, op, lf, rt, res), (fnd, flen, fop, flf, frt, fres), t0, t1, t2, t3) 0 = nI w from rfl] at hQ
    refine eg_aload_n dX3_count_40 rfl rfl ?_
    refine eg_getR gf_RX3_19 rfl (by assumption) (by assumption) dX3_count_41 ?_
    refine eg_getI gf_RX3_115 rfl (by assumption) dX3_count_44 ?_
    refine eg_topi i1 ?_
    exact eg_iret rfl dX3_count_47 hQ
  by_cases e1 : y = 1
  · rw [e1] at hQ ⊢
    refine eg_tableIn 48 dX3_count_1 (by decide) (by decide) rfl (by decide) ?_
    rw [show ap_count ((w, n, k), cf, co, tg, (len, op, lf, rt, res), (fnd, flen, fop, flf, frt, fres), t0, t1, t2, t3) 1 = nI n from rfl] at hQ
    refine eg_aload_n dX3_count_48 rfl rfl ?_
    refine eg_getR gf_RX3_19 rfl (by assumption) (by assumption) dX3_count_49 ?_
    refine eg_getI gf_RX3_118 rfl (by assumption) dX3_count_52 ?_
    refine eg_topi i3 ?_
    exact eg_iret rfl dX3_count_55 hQ
  by_cases e2 : y = 2
  · rw [e2] at hQ ⊢
    refine eg_tableIn 56 dX3_count_1 (by decide) (by decide) rfl (by decide) ?_
    rw [show ap_count ((w, n, k), cf, co, tg, (len, op, lf, rt, res), (fnd, flen, fop, flf, frt, fres), t0, t1, t2, t3) 2 = nI k from rfl] at hQ
    refine eg_aload_n dX3_count_56 rfl rfl ?_
    refine eg_getR gf_RX3_19 rfl (by assumption) (by assumption) dX3_count_57 ?_
    refine eg_getI gf_RX3_67 rfl (by assumption) dX3_count_60 ?_
    refine eg_topi i4 ?_
    exact eg_iret rfl dX3_count_63 hQ
  by_cases e3 : y = 3
  · rw [e3] at hQ ⊢
    refine eg_tableIn 64 dX3_count_1 (by decide) (by decide) rfl (by decide) ?_
    rw [show ap_count ((w, n, k), cf, co, tg, (len, op, lf, rt, res), (fnd, flen, fop, flf, frt, fres), t0, t1, t2, t3) 3 = nI len from rfl] at hQ
    refine eg_aload_n dX3_count_64 rfl rfl ?_
    refine eg_getR gf_RX3_26 rfl (by assumption) (by assumption) dX3_count_65 ?_
    refine eg_getI gf_RX3_64 rfl (by assumption) dX3_count_68 ?_
    refine eg_topi p3 ?_
    exact eg_iret rfl dX3_count_71 hQ
  by_cases e4 : y = 4
  · rw [e4] at hQ ⊢
    refine eg_tableIn 72 dX3_count_1 (by decide) (by decide) rfl (by decide) ?_
    rw [show ap_count ((w, n, k), cf, co, tg, (len, op, lf, rt, res), (fnd, flen, fop, flf, frt, fres), t0, t1, t2, t3) 4 = nI res from rfl] at hQ
    refine eg_aload_n dX3_count_72 rfl rfl ?_
    refine eg_getR gf_RX3_26 rfl (by assumption) (by assumption) dX3_count_73 ?_
    refine eg_getI gf_RX3_87 rfl (by assumption) dX3_count_76 ?_
    refine eg_topi p4 ?_
    exact eg_iret rfl dX3_count_79 hQ
  by_cases e5 : y = 5
  · rw [e5] at hQ ⊢
    refine eg_tableIn 80 dX3_count_1 (by decide) (by decide) rfl (by decide) ?_
    rw [show ap_count ((w, n, k), cf, co, tg, (len, op, lf, rt, res), (fnd, flen, fop, flf, frt, fres), t0, t1, t2, t3) 5 = nI (sum_c co op len) from rfl] at hQ
    refine eg_aload_n dX3_count_80 rfl rfl ?_
    refine eg_callV0 0 0 gk_X3_programCost gi_X3_programCost (by assumption) rfl gl_RX3_121 rfl (Nat.le_of_ble_eq_true rfl) (Nat.le_of_ble_eq_true rfl) (Nat.zero_le _) (Nat.zero_le _) (by omega) dX3_count_81 ?_
    refine eg_iconst dX3_programCost_0 (v := nI 0) (by decide) ?_
    refine eg_istore_n dX3_programCost_1 rfl (by decide) rfl ?_
    refine eg_iconst dX3_programCost_2 (v := nI 0) (by decide) ?_
    refine eg_istore_n dX3_programCost_3 rfl (by decide) rfl ?_
    exact lp_X3_programCost hs a5 a3 (fun j hj => (pok2 j hj).1) (eg_iret rfl dX3_count_84 hQ) len 0 (by omega)
  refine eg_tableOut 85 dX3_count_1 (sw_out6 e0 e1 e2 e3 e4 e5) (by decide) ?_
  rw [show ap_count ((w, n, k), cf, co, tg, (len, op, lf, rt, res), (fnd, flen, fop, flf, frt, fres), t0, t1, t2, t3) y = -2 by unfold ap_count; rw [if_neg e0, if_neg e1, if_neg e2, if_neg e3, if_neg e4, if_neg e5]] at hQ
  refine eg_bipush dX3_count_85 (v := -2) (by decide) ?_
  exact eg_iret rfl dX3_count_87 hQ
set_option maxHeartbeats 2000000 in
theorem ap_C_instr {l : Launch} {E : eg_E} {d kb nb : Nat} {Q : Option Value → eg_G → eg_I → Prop} {G : eg_G} {M : eg_I} {b : Nat} {S : st_T} (hs : sh_C G b) (hok : st_ok S) (hI : ci_I M b S) {x y : Int32} (hd : 1 ≤ d) (hQ : Q (some (.int (ap_instr S x y))) G M) : eg_J l E mX3_instruction d kb nb Q 0 [some (.ref b), some (.int x), some (.int y)] [] G M := by
  obtain ⟨k0, k1, k2, k3, k4, k5, kV, k6, kR, k7, kF, k8, k9, k10, kH⟩ := id hs
  obtain ⟨gv1, gv2, gv3, gv4⟩ := id kV
  obtain ⟨gr0, gr1, gr2, gr3, gr4, gr5, gr6⟩ := id kR
  obtain ⟨gf0, gf1, gf2, gf3, gf4, gf5, gf6⟩ := id kF
  have kh0 := kH.1
  obtain ⟨⟨w, n, k⟩, cf, co, tg, ⟨len, op, lf, rt, res⟩, ⟨fnd, flen, fop, flf, frt, fres⟩, t0, t1, t2, t3⟩ := S
  replace hI : ci_U M b w n k cf co tg len op lf rt res fnd flen fop flf frt fres t0 t1 t2 t3 := hI
  replace hok : ok_U w n k cf co len op lf rt res fnd flen fop flf frt fres := hok
  obtain ⟨a1, a2, a3, a4, a5, a6, a7, a8, a9, a10, a11⟩ := id hI
  obtain ⟨i1, i2, i3, i4, i5, hw1, hw4, hn1, hn2, hk4⟩ := id a1
  obtain ⟨p3, p4, pl, pa⟩ := id a5
  obtain ⟨-, -, -, -, -, cw, co9, pok, fok⟩ := id hok
  obtain ⟨-, pok2, pok3⟩ := id pok
  have hA := wd_asg hw4 hn2
  refine eg_iload_n dX3_instruction_0 rfl rfl ?_
  refine eg_if_lt 15 dX3_instruction_1 (by decide) (fun c1 => ?_) (fun c1 => ?_)
  · refine eg_iconst dX3_instruction_15 (v := -1) (by decide) ?_
    exact eg_iret rfl dX3_instruction_16 (by rw [show ap_instr ((w, n, k), cf, co, tg, (len, op, lf, rt, res), (fnd, flen, fop, flf, frt, fres), t0, t1, t2, t3) x y = -1 from if_pos (by first | exact Or.inl c1 | exact Or.inr (Int32.not_lt.mp c2))] at hQ; exact hQ)
  · refine eg_iload_n dX3_instruction_4 rfl rfl ?_
    refine eg_aload_n dX3_instruction_5 rfl rfl ?_
    refine eg_getR gf_RX3_26 rfl (by assumption) (by assumption) dX3_instruction_6 ?_
    refine eg_getI gf_RX3_64 rfl (by assumption) dX3_instruction_9 ?_
    refine eg_topi p3 ?_
    refine eg_icmp_lt 17 dX3_instruction_12 (by decide) (fun c2 => ?_) (fun c2 => ?_)
    · have hge : ¬ (x < 0 ∨ nI len ≤ x) := fun q => q.elim c1 (Int32.not_le.mpr c2)
      obtain ⟨ex, hX⟩ := nI_cl c1 (Int32.not_le.mpr c2) (by omega)
      refine eg_iload_n dX3_instruction_17 rfl rfl ?_
      by_cases e0 : y = 0
      · rw [e0] at hQ ⊢
        refine eg_tableIn 44 dX3_instruction_18 (by decide) (by decide) rfl (by decide) ?_
        rw [show ap_instr ((w, n, k), cf, co, tg, (len, op, lf, rt, res), (fnd, flen, fop, flf, frt, fres), t0, t1, t2, t3) x 0 = nI (op x.toNatClampNeg) by unfold ap_instr; rw [if_neg hge]; rfl] at hQ
        generalize x.toNatClampNeg = X at ex hX hQ
        subst ex
        refine eg_aload_n dX3_instruction_44 rfl rfl ?_
        refine eg_getR gf_RX3_26 rfl (by assumption) (by assumption) dX3_instruction_45 ?_
        refine eg_getR gf_RX3_106 rfl (by assumption) (by assumption) dX3_instruction_48 ?_
        refine eg_iload_n dX3_instruction_51 rfl rfl ?_
        refine eg_ialdN (by assumption) (by omega) (by decide) dX3_instruction_52 ?_
        refine eg_topi (pa X (by omega)).1 ?_
        exact eg_iret rfl dX3_instruction_53 hQ
      by_cases e1 : y = 1
      · rw [e1] at hQ ⊢
        refine eg_tableIn 54 dX3_instruction_18 (by decide) (by decide) rfl (by decide) ?_
        rw [show ap_instr ((w, n, k), cf, co, tg, (len, op, lf, rt, res), (fnd, flen, fop, flf, frt, fres), t0, t1, t2, t3) x 1 = nI (lf x.toNatClampNeg) by unfold ap_instr; rw [if_neg hge]; rfl] at hQ
        generalize x.toNatClampNeg = X at ex hX hQ
        subst ex
        refine eg_aload_n dX3_instruction_54 rfl rfl ?_
        refine eg_getR gf_RX3_26 rfl (by assumption) (by assumption) dX3_instruction_55 ?_
        refine eg_getR gf_RX3_109 rfl (by assumption) (by assumption) dX3_instruction_58 ?_
        refine eg_iload_n dX3_instruction_61 rfl rfl ?_
        refine eg_ialdN (by assumption) (by omega) (by decide) dX3_instruction_62 ?_
        refine eg_topi (pa X (by omega)).2.1 ?_
        exact eg_iret rfl dX3_instruction_63 hQ
      by_cases e2 : y = 2
      · rw [e2] at hQ ⊢
        refine eg_tableIn 64 dX3_instruction_18 (by decide) (by decide) rfl (by decide) ?_
        rw [show ap_instr ((w, n, k), cf, co, tg, (len, op, lf, rt, res), (fnd, flen, fop, flf, frt, fres), t0, t1, t2, t3) x 2 = nI (rt x.toNatClampNeg) by unfold ap_instr; rw [if_neg hge]; rfl] at hQ
        generalize x.toNatClampNeg = X at ex hX hQ
        subst ex
        refine eg_aload_n dX3_instruction_64 rfl rfl ?_
        refine eg_getR gf_RX3_26 rfl (by assumption) (by assumption) dX3_instruction_65 ?_
        refine eg_getR gf_RX3_112 rfl (by assumption) (by assumption) dX3_instruction_68 ?_
        refine eg_iload_n dX3_instruction_71 rfl rfl ?_
        refine eg_ialdN (by assumption) (by omega) (by decide) dX3_instruction_72 ?_
        refine eg_topi (pa X (by omega)).2.2 ?_
        exact eg_iret rfl dX3_instruction_73 hQ
      refine eg_tableOut 74 dX3_instruction_18 (sw_out3 e0 e1 e2) (by decide) ?_
      rw [show ap_instr ((w, n, k), cf, co, tg, (len, op, lf, rt, res), (fnd, flen, fop, flf, frt, fres), t0, t1, t2, t3) x y = -2 by unfold ap_instr; rw [if_neg hge, if_neg e0, if_neg e1, if_neg e2]] at hQ
      refine eg_bipush dX3_instruction_74 (v := -2) (by decide) ?_
      exact eg_iret rfl dX3_instruction_76 hQ
    · refine eg_iconst dX3_instruction_15 (v := -1) (by decide) ?_
      exact eg_iret rfl dX3_instruction_16 (by rw [show ap_instr ((w, n, k), cf, co, tg, (len, op, lf, rt, res), (fnd, flen, fop, flf, frt, fres), t0, t1, t2, t3) x y = -1 from if_pos (by first | exact Or.inl c1 | exact Or.inr (Int32.not_lt.mp c2))] at hQ; exact hQ)
end
section
/-! ShortestCode: differ, take, takeOut, CLEANING -/
set_option maxHeartbeats 2000000 in
theorem ap_C_differ {l : Launch} {E : eg_E} {d kb nb : Nat} {Q : Option Value → eg_G → eg_I → Prop} {G : eg_G} {M : eg_I} {b : Nat} {S : st_T} (hs : sh_C G b) (hok : st_ok S) (hI : ci_I M b S) {x y : Int32} (hd : 3 ≤ d) (hQ : Q (some (.int (ap_differ S x y))) G M) : eg_J l E mX3_differ d kb nb Q 0 [some (.ref b), some (.int x), some (.int y), none, none] [] G M := by
  obtain ⟨k0, k1, k2, k3, k4, k5, kV, k6, kR, k7, kF, k8, k9, k10, kH⟩ := id hs
  obtain ⟨gv1, gv2, gv3, gv4⟩ := id kV
  obtain ⟨gr0, gr1, gr2, gr3, gr4, gr5, gr6⟩ := id kR
  obtain ⟨gf0, gf1, gf2, gf3, gf4, gf5, gf6⟩ := id kF
  have kh0 := kH.1
  obtain ⟨⟨w, n, k⟩, cf, co, tg, ⟨len, op, lf, rt, res⟩, ⟨fnd, flen, fop, flf, frt, fres⟩, t0, t1, t2, t3⟩ := S
  replace hI : ci_U M b w n k cf co tg len op lf rt res fnd flen fop flf frt fres t0 t1 t2 t3 := hI
  replace hok : ok_U w n k cf co len op lf rt res fnd flen fop flf frt fres := hok
  obtain ⟨a1, a2, a3, a4, a5, a6, a7, a8, a9, a10, a11⟩ := id hI
  obtain ⟨i1, i2, i3, i4, i5, hw1, hw4, hn1, hn2, hk4⟩ := id a1
  obtain ⟨p3, p4, pl, pa⟩ := id a5
  obtain ⟨-, -, -, -, -, cw, co9, pok, fok⟩ := id hok
  obtain ⟨-, pok2, pok3⟩ := id pok
  have hA := wd_asg hw4 hn2
  refine eg_aload_n dX3_differ_0 rfl rfl ?_
  refine eg_iload_n dX3_differ_1 rfl rfl ?_
  refine eg_callV1 0 0 gk_X3_isValue gi_X3_isValue (by assumption) rfl gl_RX3_90 rfl (Nat.le_of_ble_eq_true rfl) (Nat.le_of_ble_eq_true rfl) (Nat.zero_le _) (Nat.zero_le _) (by omega) dX3_differ_2 ?_
  refine sp_X3_isValue (k := k) (by omega) hs a1 p3 (fun z1 z2 => ?_) (fun zz => ?_)
  · refine eg_if_eq 22 dX3_differ_5 (by decide) (fun z => absurd z (by decide)) (fun _ => ?_)
    refine eg_iload_n dX3_differ_8 rfl rfl ?_
    refine eg_bipush dX3_differ_9 (v := -2) (by decide) ?_
    refine eg_icmp_eq 24 dX3_differ_11 (by decide) (fun c1 => ?_) (fun c1 => ?_)
    · rw [show ap_differ ((w, n, k), cf, co, tg, (len, op, lf, rt, res), (fnd, flen, fop, flf, frt, fres), t0, t1, t2, t3) x y = (match lst (fun s => ¬ sv w n k cf op lf rt x.toNatClampNeg s = tg s) (2 ^ (w * n)) 0 with | some s => nI s | none => -5) by
        unfold ap_differ
        rw [if_neg (fun q => q.elim (fun q => q.elim z1 z2) (fun q => q.1 c1)), c1]
        rfl] at hQ
      obtain ⟨ex, hX⟩ := nI_cl z1 z2 (by omega)
      generalize x.toNatClampNeg = X at ex hX hQ
      subst ex
      refine eg_iload_n dX3_differ_24 rfl rfl ?_
      refine eg_bipush dX3_differ_25 (v := -2) (by decide) ?_
      refine eg_icmp_ne 37 dX3_differ_27 (by decide) (fun z => absurd c1 z) (fun _ => ?_)
      refine eg_aload_n dX3_differ_30 rfl rfl ?_
      refine eg_getR gf_RX3_13 rfl k0 k3 dX3_differ_31 ?_
      refine eg_goto 46 dX3_differ_34 (by decide) ?_
      refine eg_astore_n dX3_differ_46 rfl (by decide) rfl ?_
      refine eg_aload_n dX3_differ_47 rfl rfl ?_
      refine eg_getR gf_RX3_19 rfl k0 k5 dX3_differ_48 ?_
      refine eg_aload_n dX3_differ_51 rfl rfl ?_
      refine eg_getR gf_RX3_19 rfl k0 k5 dX3_differ_52 ?_
      refine eg_getR gf_RX3_83 rfl gv1 gv2 dX3_differ_55 ?_
      refine eg_iload_n dX3_differ_58 rfl rfl ?_
      refine eg_aaldN rfl gv3 (by omega) (by decide) (gv4 X (by omega)).1 dX3_differ_59 ?_
      refine eg_aload_n dX3_differ_60 rfl rfl ?_
      refine eg_callV2 0 0 gk_X2_firstDifference gi_X2_firstDifference gv1 rfl gl_RX3_124 rfl (Nat.le_of_ble_eq_true rfl) (Nat.le_of_ble_eq_true rfl) (Nat.zero_le _) (Nat.zero_le _) (by omega) dX3_differ_61 ?_
      refine sp_X2_firstDifference (k := k) gv1 (gv4 X (by omega)).2 k4 a1 (fun hall => ?_) (fun s hsA hlt hne => ?_)
      · rw [show lst (fun s => ¬ sv w n k cf op lf rt X s = tg s) (2 ^ (w * n)) 0 = none from lst_none (fun s _ h2 q => q (by have := hall s (by omega); rw [a2 X s (by omega) (by omega), a4 s (by omega)] at this; exact this))] at hQ
        refine eg_istore dX3_differ_64 (by decide) rfl ?_
        refine eg_iload dX3_differ_66 rfl ?_
        refine eg_if_ge 76 dX3_differ_68 (by decide) (fun z => absurd z (by decide)) (fun _ => ?_)
        refine eg_bipush dX3_differ_71 (v := -5) (by decide) ?_
        refine eg_goto 78 dX3_differ_73 (by decide) ?_
        exact eg_iret rfl dX3_differ_78 hQ
      · rw [show lst (fun s => ¬ sv w n k cf op lf rt X s = tg s) (2 ^ (w * n)) 0 = some s from lst_some (by omega) (by omega) (fun q => hne (by rw [a2 X s (by omega) (by omega), a4 s (by omega)]; exact q)) (fun s _ h2 q => q (by have := hlt s h2; rw [a2 X s (by omega) (by omega), a4 s (by omega)] at this; exact this))] at hQ
        refine eg_istore dX3_differ_64 (by decide) rfl ?_
        refine eg_iload dX3_differ_66 rfl ?_
        refine eg_if_ge 76 dX3_differ_68 (by decide) (fun _ => ?_) (fun z => absurd (nI_pos' (by omega)) z)
        refine eg_iload dX3_differ_76 rfl ?_
        exact eg_iret rfl dX3_differ_78 hQ
    · refine eg_aload_n dX3_differ_14 rfl rfl ?_
      refine eg_iload_n dX3_differ_15 rfl rfl ?_
      refine eg_callV1 0 0 gk_X3_isValue gi_X3_isValue k0 rfl gl_RX3_90 rfl (Nat.le_of_ble_eq_true rfl) (Nat.le_of_ble_eq_true rfl) (Nat.zero_le _) (Nat.zero_le _) (by omega) dX3_differ_16 ?_
      refine sp_X3_isValue (k := k) (by omega) hs a1 p3 (fun y1 y2 => ?_) (fun yy => ?_)
      · refine eg_if_ne 24 dX3_differ_19 (by decide) (fun _ => ?_) (fun z => absurd z (by decide))
        rw [show ap_differ ((w, n, k), cf, co, tg, (len, op, lf, rt, res), (fnd, flen, fop, flf, frt, fres), t0, t1, t2, t3) x y = (match lst (fun s => ¬ sv w n k cf op lf rt x.toNatClampNeg s = sv w n k cf op lf rt y.toNatClampNeg s) (2 ^ (w * n)) 0 with | some s => nI s | none => -5) by
          unfold ap_differ
          rw [if_neg (fun q => q.elim (fun q => q.elim z1 z2) (fun q => q.2.elim y1 y2))]
          simp only [if_neg c1]
          rfl] at hQ
        obtain ⟨ex, hX⟩ := nI_cl z1 z2 (by omega)
        obtain ⟨ey, hY⟩ := nI_cl y1 y2 (by omega)
        refine eg_iload_n dX3_differ_24 rfl rfl ?_
        refine eg_bipush dX3_differ_25 (v := -2) (by decide) ?_
        refine eg_icmp_ne 37 dX3_differ_27 (by decide) (fun _ => ?_) (fun z => absurd z c1)
        generalize x.toNatClampNeg = X at ex hX hQ
        generalize y.toNatClampNeg = Y at ey hY hQ
        subst ex
        subst ey
        refine eg_aload_n dX3_differ_37 rfl rfl ?_
        refine eg_getR gf_RX3_19 rfl k0 k5 dX3_differ_38 ?_
        refine eg_getR gf_RX3_83 rfl gv1 gv2 dX3_differ_41 ?_
        refine eg_iload_n dX3_differ_44 rfl rfl ?_
        refine eg_aaldN rfl gv3 (by omega) (by decide) (gv4 Y (by omega)).1 dX3_differ_45 ?_
        refine eg_astore_n dX3_differ_46 rfl (by decide) rfl ?_
        refine eg_aload_n dX3_differ_47 rfl rfl ?_
        refine eg_getR gf_RX3_19 rfl k0 k5 dX3_differ_48 ?_
        refine eg_aload_n dX3_differ_51 rfl rfl ?_
        refine eg_getR gf_RX3_19 rfl k0 k5 dX3_differ_52 ?_
        refine eg_getR gf_RX3_83 rfl gv1 gv2 dX3_differ_55 ?_
        refine eg_iload_n dX3_differ_58 rfl rfl ?_
        refine eg_aaldN rfl gv3 (by omega) (by decide) (gv4 X (by omega)).1 dX3_differ_59 ?_
        refine eg_aload_n dX3_differ_60 rfl rfl ?_
        refine eg_callV2 0 0 gk_X2_firstDifference gi_X2_firstDifference gv1 rfl gl_RX3_124 rfl (Nat.le_of_ble_eq_true rfl) (Nat.le_of_ble_eq_true rfl) (Nat.zero_le _) (Nat.zero_le _) (by omega) dX3_differ_61 ?_
        refine sp_X2_firstDifference (k := k) gv1 (gv4 X (by omega)).2 (gv4 Y (by omega)).2 a1 (fun hall => ?_) (fun s hsA hlt hne => ?_)
        · rw [show lst (fun s => ¬ sv w n k cf op lf rt X s = sv w n k cf op lf rt Y s) (2 ^ (w * n)) 0 = none from lst_none (fun s _ h2 q => q (by have := hall s (by omega); rw [a2 X s (by omega) (by omega), a2 Y s (by omega) (by omega)] at this; exact this))] at hQ
          refine eg_istore dX3_differ_64 (by decide) rfl ?_
          refine eg_iload dX3_differ_66 rfl ?_
          refine eg_if_ge 76 dX3_differ_68 (by decide) (fun z => absurd z (by decide)) (fun _ => ?_)
          refine eg_bipush dX3_differ_71 (v := -5) (by decide) ?_
          refine eg_goto 78 dX3_differ_73 (by decide) ?_
          exact eg_iret rfl dX3_differ_78 hQ
        · rw [show lst (fun s => ¬ sv w n k cf op lf rt X s = sv w n k cf op lf rt Y s) (2 ^ (w * n)) 0 = some s from lst_some (by omega) (by omega) (fun q => hne (by rw [a2 X s (by omega) (by omega), a2 Y s (by omega) (by omega)]; exact q)) (fun s _ h2 q => q (by have := hlt s h2; rw [a2 X s (by omega) (by omega), a2 Y s (by omega) (by omega)] at this; exact this))] at hQ
          refine eg_istore dX3_differ_64 (by decide) rfl ?_
          refine eg_iload dX3_differ_66 rfl ?_
          refine eg_if_ge 76 dX3_differ_68 (by decide) (fun _ => ?_) (fun z => absurd (nI_pos' (by omega)) z)
          refine eg_iload dX3_differ_76 rfl ?_
          exact eg_iret rfl dX3_differ_78 hQ
      · refine eg_if_ne 24 dX3_differ_19 (by decide) (fun z => absurd (show nI 0 = 0 from rfl) z) (fun _ => ?_)
        refine eg_iconst dX3_differ_22 (v := -1) (by decide) ?_
        rw [show ap_differ ((w, n, k), cf, co, tg, (len, op, lf, rt, res), (fnd, flen, fop, flf, frt, fres), t0, t1, t2, t3) x y = -1 from if_pos (Or.inr ⟨c1, yy⟩)] at hQ
        exact eg_iret rfl dX3_differ_23 hQ
  · refine eg_if_eq 22 dX3_differ_5 (by decide) (fun _ => ?_) (fun z => absurd (show nI 0 = 0 from rfl) z)
    refine eg_iconst dX3_differ_22 (v := -1) (by decide) ?_
    rw [show ap_differ ((w, n, k), cf, co, tg, (len, op, lf, rt, res), (fnd, flen, fop, flf, frt, fres), t0, t1, t2, t3) x y = -1 from if_pos (Or.inl zz)] at hQ
    exact eg_iret rfl dX3_differ_23 hQ
set_option maxHeartbeats 2000000 in
theorem ap_C_take {l : Launch} {E : eg_E} {d kb nb : Nat} {Q : Option Value → eg_G → eg_I → Prop} {G : eg_G} {M : eg_I} {b : Nat} {S : st_T} (hs : sh_C G b) (hok : st_ok S) (hI : ci_I M b S) (hd : 5 ≤ d) (hQ : ∀ M', ci_I M' b (ap_take S).2 → ci_E M M' b → Q (some (.int (ap_take S).1)) G M') : eg_J l E mX3_take d kb nb Q 0 [some (.ref b)] [] G M := by
  obtain ⟨k0, k1, k2, k3, k4, k5, kV, k6, kR, k7, kF, k8, k9, k10, kH⟩ := id hs
  obtain ⟨gv1, gv2, gv3, gv4⟩ := id kV
  obtain ⟨gr0, gr1, gr2, gr3, gr4, gr5, gr6⟩ := id kR
  obtain ⟨gf0, gf1, gf2, gf3, gf4, gf5, gf6⟩ := id kF
  have kh0 := kH.1
  obtain ⟨⟨w, n, k⟩, cf, co, tg, ⟨len, op, lf, rt, res⟩, ⟨fnd, flen, fop, flf, frt, fres⟩, t0, t1, t2, t3⟩ := S
  replace hI : ci_U M b w n k cf co tg len op lf rt res fnd flen fop flf frt fres t0 t1 t2 t3 := hI
  replace hok : ok_U w n k cf co len op lf rt res fnd flen fop flf frt fres := hok
  obtain ⟨a1, a2, a3, a4, a5, a6, a7, a8, a9, a10, a11⟩ := id hI
  obtain ⟨i1, i2, i3, i4, i5, hw1, hw4, hn1, hn2, hk4⟩ := id a1
  obtain ⟨p3, p4, pl, pa⟩ := id a5
  obtain ⟨-, -, -, -, -, cw, co9, pok, fok⟩ := id hok
  obtain ⟨-, pok2, pok3⟩ := id pok
  have hA := wd_asg hw4 hn2
  by_cases h0 : fnd = true
  · rw [show ap_take ((w, n, k), cf, co, tg, (len, op, lf, rt, res), (fnd, flen, fop, flf, frt, fres), t0, t1, t2, t3) = (nI flen, ((w, n, k), cf, co, tg, (flen, fop, flf, frt, fres), (fnd, flen, fop, flf, frt, fres), t0, t1, t2, t3)) from if_pos h0] at hQ
    replace hQ : ∀ M', ci_U M' b w n k cf co tg flen fop flf frt fres fnd flen fop flf frt fres t0 t1 t2 t3 → ci_E M M' b → Q (some (.int (nI flen))) G M' := hQ
    have f1 := a7 h0
    obtain ⟨-, fp2, fp3⟩ := id (fok h0)
    refine eg_aload_n dX3_take_0 rfl rfl ?_
    refine eg_getI gf_RX3_52 rfl (by assumption) dX3_take_1 ?_
    refine eg_topi a6 ?_
    refine eg_if_ne 10 dX3_take_4 (by decide) (fun c4 => ?_) (fun c4 => absurd c4 (by rw [h0]; decide))
    refine eg_aload_n dX3_take_10 rfl rfl ?_
    refine eg_getR gf_RX3_26 rfl (by assumption) (by assumption) dX3_take_11 ?_
    refine eg_aload_n dX3_take_14 rfl rfl ?_
    refine eg_getR gf_RX3_30 rfl (by assumption) (by assumption) dX3_take_15 ?_
    refine eg_callV1 0 0 gk_X1_copyFrom gi_X1_copyFrom (by assumption) rfl gl_RX3_146 rfl (Nat.le_of_ble_eq_true rfl) (Nat.le_of_ble_eq_true rfl) (Nat.zero_le _) (Nat.zero_le _) (by omega) dX3_take_18 ?_
    refine sp_X1_copyFrom (len := flen) (by omega) kR kF (by omega) f1.2.2.1 f1.1 (fun M1 h1 => ?_)
    obtain ⟨m3, m4, ma, mf⟩ := h1
    have hr1 : in_R M1 (b + 23) flen fop flf frt fres := ⟨m3, by rw [m4]; exact f1.2.1, f1.2.2.1, fun j hj => by
      have := ma j hj
      rw [this.1, this.2.1, this.2.2]
      exact f1.2.2.2 j hj⟩
    have b1 := a1.eq (mf (b + 3) (by omega))
    refine eg_aload_n dX3_take_21 rfl rfl ?_
    refine eg_iconst dX3_take_22 (v := nI 0) (by decide) ?_
    refine eg_callV1 0 0 gk_X3_makeFrom gi_X3_makeFrom (by assumption) rfl gl_RX3_103 rfl (Nat.le_of_ble_eq_true rfl) (Nat.le_of_ble_eq_true rfl) (Nat.zero_le _) (Nat.zero_le _) (by omega) dX3_take_23 ?_
    refine sp_X3_makeFrom (cf := cf) (by omega) hs (fun j hj => ⟨(fp2 j hj).1, (fp2 j hj).2.1, (fp2 j hj).2.2.1⟩) b1 hr1 (by omega) (fun u s y1 y2 => ?_) (fun M2 h2 h3 => ?_)
    · rw [mf _ (by omega), a2 u s (by omega) y2]
      by_cases e2 : u < n
      · rw [sv_in e2, sv_in e2]
      · obtain ⟨v, rfl⟩ : ∃ v, u = n + v := ⟨u - n, by omega⟩
        rw [sv_c (by omega), sv_c (by omega)]
    refine eg_aload_n dX3_take_26 rfl rfl ?_
    refine eg_getR gf_RX3_26 rfl (by assumption) (by assumption) dX3_take_27 ?_
    refine eg_getI gf_RX3_64 rfl (by assumption) dX3_take_30 ?_
    refine eg_topi (show _ = nI flen by rw [h3 _ (by omega)]; exact m3) ?_
    exact eg_iret rfl dX3_take_33 (hQ M2 (⟨b1.eq (h3 _ (by omega)), h2, fun o ho => by rw [h3 _ (by omega), mf _ (by omega)]; exact a3 o ho, fun s q => by rw [h3 _ (by omega), mf _ (by omega)]; exact a4 s q, hr1.eq (fun q q1 q2 => h3 q (by omega)), by rw [h3 _ (by omega), mf _ (by omega)]; exact a6, fun q => (a7 q).eq (fun q q1 q2 => by rw [h3 _ (by omega), mf _ (by omega)]), by rw [h3 _ (by omega), mf _ (by omega)]; exact a8, by rw [h3 _ (by omega), mf _ (by omega)]; exact a9, by rw [h3 _ (by omega), mf _ (by omega)]; exact a10, by rw [h3 _ (by omega), mf _ (by omega)]; exact a11⟩) (fun q y => by rw [h3 q (by omega), mf q (by omega)]))
  · rw [show ap_take ((w, n, k), cf, co, tg, (len, op, lf, rt, res), (fnd, flen, fop, flf, frt, fres), t0, t1, t2, t3) = (-3, ((w, n, k), cf, co, tg, (len, op, lf, rt, res), (fnd, flen, fop, flf, frt, fres), t0, t1, t2, t3)) from if_neg h0] at hQ
    refine eg_aload_n dX3_take_0 rfl rfl ?_
    refine eg_getI gf_RX3_52 rfl (by assumption) dX3_take_1 ?_
    refine eg_topi a6 ?_
    refine eg_if_ne 10 dX3_take_4 (by decide) (fun c4 => absurd (show (if fnd = true then (1 : Int32) else 0) = 0 by rw [if_neg h0]) c4) (fun c4 => ?_)
    refine eg_bipush dX3_take_7 (v := -3) (by decide) ?_
    exact eg_iret rfl dX3_take_9 (hQ M hI ci_E.rf)
theorem pg_rm_ok {g len res j t : Nat} {op lf rt : Nat → Nat} (h : pg_ok g len op lf rt res) (hg : 1 ≤ g) (hj : j < len) (ht : t < g + j) : pg_ok g (len - 1) (cut_at op j) (cut_rn lf j (g + j) t) (cut_rn rt j (g + j) t) (rn res (g + j) t) := by
  obtain ⟨h1, h2, h3⟩ := h
  refine ⟨by omega, fun i hi => ?_, ?_⟩
  · unfold cut_at cut_rn
    by_cases e : i < j
    · rw [if_pos e, if_pos e, if_pos e]
      exact h2 i (by omega)
    · rw [if_neg e, if_neg e, if_neg e]
      obtain ⟨q1, q2, q3, q4⟩ := h2 (i + 1) (by omega)
      refine ⟨q1, ?_, ?_, fun z => ?_⟩
      · unfold rn; split
        · omega
        · split <;> omega
      · unfold rn; split
        · omega
        · split <;> omega
      · rw [q4 z]
        unfold rn
        rw [if_neg (by omega), if_neg (by omega)]
  · unfold rn; split
    · omega
    · split <;> omega
def cl_I (M : eg_I) (b w n k : Nat) (cf : Nat → Int32) (p : pg_T) : Prop := in_V M (b + 3) w n k ∧ in_R M (b + 23) p.1 p.2.1 p.2.2.1 p.2.2.2.1 p.2.2.2.2 ∧ (∀ u s, u < n + k + p.1 → s < 2 ^ (w * n) → M (b + 3 + 2 + u) s = sv w n k cf p.2.1 p.2.2.1 p.2.2.2.1 u s) ∧ pg_ok (n + k) p.1 p.2.1 p.2.2.1 p.2.2.2.1 p.2.2.2.2
def cl_F (M M' : eg_I) (b : Nat) : Prop := ∀ q, ¬ (b + 5 ≤ q ∧ q < b + 27) → q ≠ b + 31 → M' q = M q
theorem cl_F.tr {M M' M2 : eg_I} {b : Nat} (a : cl_F M M' b) (c : cl_F M' M2 b) : cl_F M M2 b := fun q z1 z2 => (c q z1 z2).trans (a q z1 z2)
theorem cl_F.rf {M : eg_I} {b : Nat} : cl_F M M b := fun _ _ _ => rfl
set_option maxHeartbeats 2000000 in
theorem sp_X3_takeOut {l : Launch} {E : eg_E} {d kb nb : Nat} {Q : Option Value → eg_G → eg_I → Prop} {G : eg_G} {M : eg_I} {b w n k : Nat} {cf : Nat → Int32} {p : pg_T} (hs : sh_C G b) (hI : cl_I M b w n k cf p) {j t : Nat} (hd : 4 ≤ d) (hj : j < p.1) (ht : t < n + k + j) (hQ : ∀ M', cl_I M' b w n k cf (pg_rm (n + k) j t p) → cl_F M M' b → Q none G M') : eg_J l E mX3_takeOut d kb nb Q 0 [some (.ref b), some (.int (nI j)), some (.int (nI t))] [] G M := by
  obtain ⟨k0, k1, k2, k3, k4, k5, kV, k6, kR, k7, kF, k8, k9, k10, kH⟩ := id hs
  obtain ⟨gv1, gv2, gv3, gv4⟩ := id kV
  obtain ⟨gr0, gr1, gr2, gr3, gr4, gr5, gr6⟩ := id kR
  obtain ⟨gf0, gf1, gf2, gf3, gf4, gf5, gf6⟩ := id kF
  have kh0 := kH.1
  obtain ⟨len, op, lf, rt, res⟩ := p
  obtain ⟨c1, c2, c3, c4⟩ := id hI
  replace c2 : in_R M (b + 23) len op lf rt res := c2
  replace c3 : ∀ u s, u < n + k + len → s < 2 ^ (w * n) → M (b + 3 + 2 + u) s = sv w n k cf op lf rt u s := c3
  replace c4 : pg_ok (n + k) len op lf rt res := c4
  obtain ⟨i1, i2, i3, i4, i5, hw1, hw4, hn1, hn2, hk4⟩ := id c1
  obtain ⟨p3, p4, pl, pa⟩ := id c2
  obtain ⟨-, pok2, pok3⟩ := id c4
  have hA := wd_asg hw4 hn2
  replace hj : j < len := hj
  refine eg_aload_n dX3_takeOut_0 rfl rfl ?_
  refine eg_getR gf_RX3_26 rfl (by assumption) (by assumption) dX3_takeOut_1 ?_
  refine eg_iload_n dX3_takeOut_4 rfl rfl ?_
  refine eg_aload_n dX3_takeOut_5 rfl rfl ?_
  refine eg_getR gf_RX3_19 rfl (by assumption) (by assumption) dX3_takeOut_6 ?_
  refine eg_callV0 0 0 gk_X2_given gi_X2_given (by assumption) rfl gl_RX3_73 rfl (Nat.le_of_ble_eq_true rfl) (Nat.le_of_ble_eq_true rfl) (Nat.zero_le _) (Nat.zero_le _) (by omega) dX3_takeOut_9 ?_
  refine sp_X2_given gv1 c1 ?_
  refine eg_iload_n dX3_takeOut_12 rfl rfl ?_
  refine eg_iadd dX3_takeOut_13 ?_
  refine eg_topi (nI_add (n + k) j) ?_
  refine eg_iload_n dX3_takeOut_14 rfl rfl ?_
  refine eg_callV3 0 0 gk_X1_remove gi_X1_remove (by assumption) rfl gl_RX3_175 rfl (Nat.le_of_ble_eq_true rfl) (Nat.le_of_ble_eq_true rfl) (Nat.zero_le _) (Nat.zero_le _) (by omega) dX3_takeOut_15 ?_
  refine sp_X1_remove (by omega) kR hj c2 (fun i hi => ⟨by have := (pok2 i hi).2.1; omega, by have := (pok2 i hi).2.2.1; omega⟩) (by omega) (by omega) (fun M1 h1 => ?_)
  have b1 := c1.eq (h1.2 (b + 3) (by omega))
  have ok1 := pg_rm_ok c4 (by omega) hj ht
  refine eg_aload_n dX3_takeOut_18 rfl rfl ?_
  refine eg_iload_n dX3_takeOut_19 rfl rfl ?_
  refine eg_callV1 0 0 gk_X3_makeFrom gi_X3_makeFrom (by assumption) rfl gl_RX3_103 rfl (Nat.le_of_ble_eq_true rfl) (Nat.le_of_ble_eq_true rfl) (Nat.zero_le _) (Nat.zero_le _) (by omega) dX3_takeOut_20 ?_
  refine sp_X3_makeFrom (cf := cf) (by omega) hs (fun i hi => ⟨(ok1.2.1 i hi).1, (ok1.2.1 i hi).2.1, (ok1.2.1 i hi).2.2.1⟩) b1 h1.1 (by omega) (fun u s y1 y2 => ?_) (fun M2 h2 h3 => ?_)
  · rw [h1.2 _ (by omega), c3 u s (by omega) y2]
    exact (sv_congr (m := j) (fun i hi => ⟨(pok2 i (by omega)).2.1, (pok2 i (by omega)).2.2.1⟩) (fun i hi => ⟨if_pos hi, if_pos hi, if_pos hi⟩) y1).symm
  exact eg_vret rfl dX3_takeOut_23 (hQ M2 ⟨b1.eq (h3 _ (by omega)), h1.1.eq (fun q q1 q2 => h3 q (by omega)), h2, ok1⟩ (fun q z1 z2 => by rw [h3 q (by omega), h1.2 q (by omega)]))
set_option maxHeartbeats 2000000 in
theorem lp_X3_takeOutRepeated {l : Launch} {E : eg_E} {d kb nb : Nat} {Q : Option Value → eg_G → eg_I → Prop} {G : eg_G} {M : eg_I} {b w n k : Nat} {cf : Nat → Int32} {p : pg_T} (hs : sh_C G b) (hI : cl_I M b w n k cf p) (hd : 5 ≤ d) : ∀ (t j : Nat) (l3 : Option Value), j + t = p.1 → (∀ q M', cl_rep (2 ^ (w * n)) (n + k) (sv w n k cf p.2.1 p.2.2.1 p.2.2.2.1) t j = some q → cl_I M' b w n k cf (pg_rm (n + k) q.1 q.2 p) → q.1 < p.1 → cl_F M M' b → Q (some (.int 1)) G M') → (cl_rep (2 ^ (w * n)) (n + k) (sv w n k cf p.2.1 p.2.2.1 p.2.2.2.1) t j = none → Q (some (.int 0)) G M) → eg_J l E mX3_takeOutRepeated d kb nb Q 10 [some (.ref b), some (.int (nI (n + k))), some (.int (nI j)), l3] [] G M := by
  intro t
  induction t with
  | zero =>
    intro j l3 hjt hT hN
    obtain ⟨k0, k1, k2, k3, k4, k5, kV, k6, kR, k7, kF, k8, k9, k10, kH⟩ := id hs
    obtain ⟨gv1, gv2, gv3, gv4⟩ := id kV
    obtain ⟨gr0, gr1, gr2, gr3, gr4, gr5, gr6⟩ := id kR
    obtain ⟨gf0, gf1, gf2, gf3, gf4, gf5, gf6⟩ := id kF
    have kh0 := kH.1
    obtain ⟨len, op, lf, rt, res⟩ := p
    obtain ⟨c1, c2, c3, c4⟩ := id hI
    replace c2 : in_R M (b + 23) len op lf rt res := c2
    replace c3 : ∀ u s, u < n + k + len → s < 2 ^ (w * n) → M (b + 3 + 2 + u) s = sv w n k cf op lf rt u s := c3
    replace c4 : pg_ok (n + k) len op lf rt res := c4
    obtain ⟨i1, i2, i3, i4, i5, hw1, hw4, hn1, hn2, hk4⟩ := id c1
    obtain ⟨p3, p4, pl, pa⟩ := id c2
    obtain ⟨-, pok2, pok3⟩ := id c4
    have hA := wd_asg hw4 hn2
    replace hjt : j + 0 = len := hjt
    refine eg_iload_n dX3_takeOutRepeated_10 rfl rfl ?_
    refine eg_aload_n dX3_takeOutRepeated_11 rfl rfl ?_
    refine eg_getR gf_RX3_26 rfl (by assumption) (by assumption) dX3_takeOutRepeated_12 ?_
    refine eg_getI gf_RX3_64 rfl (by assumption) dX3_takeOutRepeated_15 ?_
    refine eg_topi p3 ?_
    refine eg_icmp_ge 50 dX3_takeOutRepeated_18 (by decide) (fun c18 => ?_) (fun c18 => absurd (nI_le (by omega) (by omega)) c18)
    refine eg_iconst dX3_takeOutRepeated_50 (v := nI 0) (by decide) ?_
    exact eg_zret rfl rfl dX3_takeOutRepeated_51 (hN rfl)
  | succ t ih =>
    intro j l3 hjt hT hN
    obtain ⟨k0, k1, k2, k3, k4, k5, kV, k6, kR, k7, kF, k8, k9, k10, kH⟩ := id hs
    obtain ⟨gv1, gv2, gv3, gv4⟩ := id kV
    obtain ⟨gr0, gr1, gr2, gr3, gr4, gr5, gr6⟩ := id kR
    obtain ⟨gf0, gf1, gf2, gf3, gf4, gf5, gf6⟩ := id kF
    have kh0 := kH.1
    obtain ⟨len, op, lf, rt, res⟩ := p
    obtain ⟨c1, c2, c3, c4⟩ := id hI
    replace c2 : in_R M (b + 23) len op lf rt res := c2
    replace c3 : ∀ u s, u < n + k + len → s < 2 ^ (w * n) → M (b + 3 + 2 + u) s = sv w n k cf op lf rt u s := c3
    replace c4 : pg_ok (n + k) len op lf rt res := c4
    obtain ⟨i1, i2, i3, i4, i5, hw1, hw4, hn1, hn2, hk4⟩ := id c1
    obtain ⟨p3, p4, pl, pa⟩ := id c2
    obtain ⟨-, pok2, pok3⟩ := id c4
    have hA := wd_asg hw4 hn2
    replace hjt : j + (t + 1) = len := hjt
    refine eg_iload_n dX3_takeOutRepeated_10 rfl rfl ?_
    refine eg_aload_n dX3_takeOutRepeated_11 rfl rfl ?_
    refine eg_getR gf_RX3_26 rfl (by assumption) (by assumption) dX3_takeOutRepeated_12 ?_
    refine eg_getI gf_RX3_64 rfl (by assumption) dX3_takeOutRepeated_15 ?_
    refine eg_topi p3 ?_
    refine eg_icmp_ge 50 dX3_takeOutRepeated_18 (by decide) (fun c18 => absurd c18 (nI_ge (by omega) (by omega))) (fun c18 => ?_)
    refine eg_aload_n dX3_takeOutRepeated_21 rfl rfl ?_
    refine eg_getR gf_RX3_19 rfl (by assumption) (by assumption) dX3_takeOutRepeated_22 ?_
    refine eg_iload_n dX3_takeOutRepeated_25 rfl rfl ?_
    refine eg_iload_n dX3_takeOutRepeated_26 rfl rfl ?_
    refine eg_iadd dX3_takeOutRepeated_27 ?_
    refine eg_topi (nI_add (n + k) j) ?_
    refine eg_callV1 0 0 gk_X2_leastSame gi_X2_leastSame (by assumption) rfl gl_RX3_165 rfl (Nat.le_of_ble_eq_true rfl) (Nat.le_of_ble_eq_true rfl) (Nat.zero_le _) (Nat.zero_le _) (by omega) dX3_takeOutRepeated_28 ?_
    refine sp_X2_leastSame (k := k) (by omega) kV (by omega) c1 (fun z1 => ?_) (fun v z1 z2 z3 => ?_)
    · have en : cl_tw (2 ^ (w * n)) (n + k) (sv w n k cf op lf rt) j = none := lst_none (fun u _ h2 q => by
        obtain ⟨s, y1, y2⟩ := z1 u (by omega)
        rw [c3 u s (by omega) y1, c3 _ s (by omega) y1] at y2
        exact y2 (q s y1))
      have er : cl_rep (2 ^ (w * n)) (n + k) (sv w n k cf op lf rt) (t + 1) j = cl_rep (2 ^ (w * n)) (n + k) (sv w n k cf op lf rt) t (j + 1) := by
        rw [cl_rep, en]
      refine eg_istore_n dX3_takeOutRepeated_31 rfl (by decide) rfl ?_
      refine eg_iload_n dX3_takeOutRepeated_32 rfl rfl ?_
      refine eg_if_lt 44 dX3_takeOutRepeated_33 (by decide) (fun _ => ?_) (fun z => absurd (by decide) z)
      refine eg_iinc dX3_takeOutRepeated_44 (by decide) rfl (eg_inc j) rfl ?_
      refine eg_goto 10 dX3_takeOutRepeated_47 (by decide) ?_
      exact ih (j + 1) _ (by show j + 1 + t = len; omega) (fun q M2 y1 => hT q M2 (er.trans y1)) (fun y => hN (er.trans y))
    · have en : cl_tw (2 ^ (w * n)) (n + k) (sv w n k cf op lf rt) j = some v := lst_some (by omega) (by omega) (fun s y => by
        have := z3 s y
        rw [c3 v s (by omega) y, c3 _ s (by omega) y] at this
        exact this) (fun u _ h2 q => by
        obtain ⟨s, y1, y2⟩ := z2 u h2
        rw [c3 u s (by omega) y1, c3 _ s (by omega) y1] at y2
        exact y2 (q s y1))
      have er : cl_rep (2 ^ (w * n)) (n + k) (sv w n k cf op lf rt) (t + 1) j = some (j, v) := by
        rw [cl_rep, en]
      refine eg_istore_n dX3_takeOutRepeated_31 rfl (by decide) rfl ?_
      refine eg_iload_n dX3_takeOutRepeated_32 rfl rfl ?_
      refine eg_if_lt 44 dX3_takeOutRepeated_33 (by decide) (fun z => absurd z (nI_pos (by omega))) (fun _ => ?_)
      refine eg_aload_n dX3_takeOutRepeated_36 rfl rfl ?_
      refine eg_iload_n dX3_takeOutRepeated_37 rfl rfl ?_
      refine eg_iload_n dX3_takeOutRepeated_38 rfl rfl ?_
      refine eg_callV2 0 0 gk_X3_takeOut gi_X3_takeOut k0 rfl gl_RX3_169 rfl (Nat.le_of_ble_eq_true rfl) (Nat.le_of_ble_eq_true rfl) (Nat.zero_le _) (Nat.zero_le _) (by omega) dX3_takeOutRepeated_39 ?_
      refine sp_X3_takeOut hs hI (by omega) (show j < len by omega) (by omega) (fun M2 h2 h3 => ?_)
      refine eg_iconst dX3_takeOutRepeated_42 (v := nI 1) (by decide) ?_
      exact eg_zret rfl rfl dX3_takeOutRepeated_43 (hT (j, v) M2 er h2 (show j < len by omega) h3)
set_option maxHeartbeats 2000000 in
theorem sp_X3_takeOutRepeated {l : Launch} {E : eg_E} {d kb nb : Nat} {Q : Option Value → eg_G → eg_I → Prop} {G : eg_G} {M : eg_I} {b w n k : Nat} {cf : Nat → Int32} {p : pg_T} (hs : sh_C G b) (hI : cl_I M b w n k cf p) (hd : 5 ≤ d) (hT : (∀ q M', cl_rep (2 ^ (w * n)) (n + k) (sv w n k cf p.2.1 p.2.2.1 p.2.2.2.1) p.1 0 = some q → cl_I M' b w n k cf (pg_rm (n + k) q.1 q.2 p) → q.1 < p.1 → cl_F M M' b → Q (some (.int 1)) G M')) (hN : (cl_rep (2 ^ (w * n)) (n + k) (sv w n k cf p.2.1 p.2.2.1 p.2.2.2.1) p.1 0 = none → Q (some (.int 0)) G M)) : eg_J l E mX3_takeOutRepeated d kb nb Q 0 [some (.ref b), none, none, none] [] G M := by
  obtain ⟨k0, k1, k2, k3, k4, k5, kV, k6, kR, k7, kF, k8, k9, k10, kH⟩ := id hs
  obtain ⟨gv1, gv2, gv3, gv4⟩ := id kV
  obtain ⟨gr0, gr1, gr2, gr3, gr4, gr5, gr6⟩ := id kR
  obtain ⟨gf0, gf1, gf2, gf3, gf4, gf5, gf6⟩ := id kF
  have kh0 := kH.1
  refine eg_aload_n dX3_takeOutRepeated_0 rfl rfl ?_
  refine eg_getR gf_RX3_19 rfl (by assumption) (by assumption) dX3_takeOutRepeated_1 ?_
  refine eg_callV0 0 0 gk_X2_given gi_X2_given (by assumption) rfl gl_RX3_73 rfl (Nat.le_of_ble_eq_true rfl) (Nat.le_of_ble_eq_true rfl) (Nat.zero_le _) (Nat.zero_le _) (by omega) dX3_takeOutRepeated_4 ?_
  refine sp_X2_given gv1 hI.1 ?_
  refine eg_istore_n dX3_takeOutRepeated_7 rfl (by decide) rfl ?_
  refine eg_iconst dX3_takeOutRepeated_8 (v := nI 0) (by decide) ?_
  refine eg_istore_n dX3_takeOutRepeated_9 rfl (by decide) rfl ?_
  exact lp_X3_takeOutRepeated hs hI hd p.1 0 _ (by omega) hT hN
end
section
/-! ShortestCode: markNeeded, takeOutNeedless, clean, search -/
theorem eg_dec1 (x : Nat) : nI x + Int32.ofInt (-1) = nI x - nI 1 := by rw [Int32.sub_eq_add_neg]; rfl
def nb_I (M : eg_I) (b g len : Nat) (lf rt : Nat → Nat) (res x : Nat) : Prop := (∀ v, v < 18 → M (b + 31) v = 0 ∨ M (b + 31) v = 1) ∧ ∀ v, v < 18 → (M (b + 31) v = 1 ↔ (res = v ∨ ∃ i, x ≤ i ∧ i < len ∧ M (b + 31) (g + i) = 1 ∧ (lf i = v ∨ rt i = v)))
theorem cl_id_us {g len res t : Nat} {lf rt : Nat → Nat} (h : cl_us g len lf rt res t) : cl_id g len lf rt res (t + 1) = cl_id g len lf rt res t := if_pos h
theorem cl_id_no {g len res t : Nat} {lf rt : Nat → Nat} (h : ¬ cl_us g len lf rt res t) : cl_id g len lf rt res (t + 1) = some t := if_neg h
set_option maxHeartbeats 2000000 in
theorem lp_X3_markNeeded1 {l : Launch} {E : eg_E} {d kb nb : Nat} {Q : Option Value → eg_G → eg_I → Prop} {G : eg_G} {b : Nat} (hs : sh_C G b) : ∀ (t s : Nat) (M : eg_I), s + t = 18 → eg_J l E mX3_markNeeded d kb nb Q 21 [some (.ref b), some (.int (nI 18)), none] [] G (eg_fl M (b + 31) s 18 (fun _ => nI 0)) → eg_J l E mX3_markNeeded d kb nb Q 2 [some (.ref b), some (.int (nI s)), none] [] G M := by
  intro t
  induction t with
  | zero =>
    intro s M hst hQ
    obtain ⟨k0, k1, k2, k3, k4, k5, kV, k6, kR, k7, kF, k8, k9, k10, kH⟩ := id hs
    obtain ⟨gv1, gv2, gv3, gv4⟩ := id kV
    obtain ⟨gr0, gr1, gr2, gr3, gr4, gr5, gr6⟩ := id kR
    obtain ⟨gf0, gf1, gf2, gf3, gf4, gf5, gf6⟩ := id kF
    have kh0 := kH.1
    refine eg_iload_n dX3_markNeeded_2 rfl rfl ?_
    refine eg_bipush dX3_markNeeded_3 (v := nI 18) (by decide) ?_
    refine eg_icmp_ge 21 dX3_markNeeded_5 (by decide) (fun c5 => ?_) (fun c5 => absurd (nI_le (a := 18) (by omega) (by omega)) c5)
    have e : s = 18 := by omega
    subst e
    rw [eg_fl_0 (by omega)] at hQ
    exact hQ
  | succ t ih =>
    intro s M hst hQ
    obtain ⟨k0, k1, k2, k3, k4, k5, kV, k6, kR, k7, kF, k8, k9, k10, kH⟩ := id hs
    obtain ⟨gv1, gv2, gv3, gv4⟩ := id kV
    obtain ⟨gr0, gr1, gr2, gr3, gr4, gr5, gr6⟩ := id kR
    obtain ⟨gf0, gf1, gf2, gf3, gf4, gf5, gf6⟩ := id kF
    have kh0 := kH.1
    refine eg_iload_n dX3_markNeeded_2 rfl rfl ?_
    refine eg_bipush dX3_markNeeded_3 (v := nI 18) (by decide) ?_
    refine eg_icmp_ge 21 dX3_markNeeded_5 (by decide) (fun c5 => absurd c5 (nI_ge (b := 18) (by omega) (by omega))) (fun c5 => ?_)
    refine eg_aload_n dX3_markNeeded_8 rfl rfl ?_
    refine eg_getR gf_RX3_33 rfl (by assumption) (by assumption) dX3_markNeeded_9 ?_
    refine eg_iload_n dX3_markNeeded_12 rfl rfl ?_
    refine eg_iconst dX3_markNeeded_13 (v := nI 0) (by decide) ?_
    refine eg_zastN (by assumption) (by omega) (by decide) rfl dX3_markNeeded_14 ?_
    refine eg_iinc dX3_markNeeded_15 (by decide) rfl (eg_inc s) rfl ?_
    refine eg_goto 2 dX3_markNeeded_18 (by decide) ?_
    exact ih (s + 1) _ (by omega) (eg_fl_q (P := fun z => eg_J l E mX3_markNeeded d kb nb Q 21 [some (.ref b), some (.int (nI 18)), none] [] G z) (f := fun _ => nI 0) (by omega) (fun j g1 _ => rfl) hQ)
set_option maxHeartbeats 2000000 in
theorem lp_X3_markNeeded2 {l : Launch} {E : eg_E} {d kb nb : Nat} {Q : Option Value → eg_G → eg_I → Prop} {G : eg_G} {b w n k len res : Nat} {op lf rt : Nat → Nat} {M0 : eg_I} (hs : sh_C G b) (hpk : pg_ok (n + k) len op lf rt res) (hnk : n + k ≤ 6) (hn1 : 1 ≤ n) : ∀ (t : Nat) (M : eg_I), t ≤ len → in_R M (b + 23) len op lf rt res → nb_I M b (n + k) len lf rt res t → (∀ q, q ≠ b + 31 → M q = M0 q) → (∀ M', nb_I M' b (n + k) len lf rt res 0 → (∀ q, q ≠ b + 31 → M' q = M0 q) → Q none G M') → eg_J l E mX3_markNeeded d kb nb Q 52 [some (.ref b), some (.int (nI (n + k))), some (.int (nI t - nI 1))] [] G M := by
  intro t
  induction t with
  | zero =>
    intro M htl hr hnb hfr hQ
    obtain ⟨k0, k1, k2, k3, k4, k5, kV, k6, kR, k7, kF, k8, k9, k10, kH⟩ := id hs
    obtain ⟨gv1, gv2, gv3, gv4⟩ := id kV
    obtain ⟨gr0, gr1, gr2, gr3, gr4, gr5, gr6⟩ := id kR
    obtain ⟨gf0, gf1, gf2, gf3, gf4, gf5, gf6⟩ := id kF
    have kh0 := kH.1
    obtain ⟨p3, p4, pl, pa⟩ := id hr
    obtain ⟨-, pok2, pok3⟩ := id hpk
    refine eg_iload_n dX3_markNeeded_52 rfl rfl ?_
    refine eg_if_lt 103 dX3_markNeeded_53 (by decide) (fun c53 => ?_) (fun c53 => absurd (show nI 0 - nI 1 < 0 by decide) c53)
    exact eg_vret rfl dX3_markNeeded_103 (hQ M hnb hfr)
  | succ t ih =>
    intro M htl hr hnb hfr hQ
    obtain ⟨k0, k1, k2, k3, k4, k5, kV, k6, kR, k7, kF, k8, k9, k10, kH⟩ := id hs
    obtain ⟨gv1, gv2, gv3, gv4⟩ := id kV
    obtain ⟨gr0, gr1, gr2, gr3, gr4, gr5, gr6⟩ := id kR
    obtain ⟨gf0, gf1, gf2, gf3, gf4, gf5, gf6⟩ := id kF
    have kh0 := kH.1
    obtain ⟨p3, p4, pl, pa⟩ := id hr
    obtain ⟨-, pok2, pok3⟩ := id hpk
    rw [show nI (t + 1) - nI 1 = nI t from pk_sub (by omega)]
    refine eg_iload_n dX3_markNeeded_52 rfl rfl ?_
    refine eg_if_lt 103 dX3_markNeeded_53 (by decide) (fun c53 => absurd c53 (nI_pos (by omega))) (fun c53 => ?_)
    refine eg_aload_n dX3_markNeeded_56 rfl rfl ?_
    refine eg_getR gf_RX3_33 rfl (by assumption) (by assumption) dX3_markNeeded_57 ?_
    refine eg_iload_n dX3_markNeeded_60 rfl rfl ?_
    refine eg_iload_n dX3_markNeeded_61 rfl rfl ?_
    refine eg_iadd dX3_markNeeded_62 ?_
    refine eg_topi (nI_add (n + k) t) ?_
    refine eg_zaldN (by assumption) (by omega) (by decide) dX3_markNeeded_63 ?_
    refine eg_if_eq 97 dX3_markNeeded_64 (by decide) (fun c => ?_) (fun c => ?_)
    · refine eg_iinc dX3_markNeeded_97 (by decide) rfl (eg_dec1 t) rfl ?_
      refine eg_goto 52 dX3_markNeeded_100 (by decide) ?_
      refine ih M (by omega) hr ⟨hnb.1, fun v hv => ?_⟩ hfr hQ
      rw [hnb.2 v hv]
      constructor
      · rintro (z | ⟨i, z1, z2⟩)
        · exact Or.inl z
        · exact Or.inr ⟨i, by omega, z2⟩
      · rintro (z | ⟨i, z1, z2, z3, z4⟩)
        · exact Or.inl z
        · by_cases e : i = t
          · subst e
            rw [c] at z3
            exact absurd z3 (by decide)
          · exact Or.inr ⟨i, by omega, z2, z3, z4⟩
    · have hp := pok2 t (by omega)
      have c1 : M (b + 31) (n + k + t) = 1 := (hnb.1 _ (by omega)).elim (fun z => absurd z c) id
      refine eg_aload_n dX3_markNeeded_67 rfl rfl ?_
      refine eg_getR gf_RX3_33 rfl (by assumption) (by assumption) dX3_markNeeded_68 ?_
      refine eg_aload_n dX3_markNeeded_71 rfl rfl ?_
      refine eg_getR gf_RX3_26 rfl (by assumption) (by assumption) dX3_markNeeded_72 ?_
      refine eg_getR gf_RX3_109 rfl (by assumption) (by assumption) dX3_markNeeded_75 ?_
      refine eg_iload_n dX3_markNeeded_78 rfl rfl ?_
      refine eg_ialdN (by assumption) (by omega) (by decide) dX3_markNeeded_79 ?_
      refine eg_topi (pa t (by omega)).2.1 ?_
      refine eg_iconst dX3_markNeeded_80 (v := nI 1) (by decide) ?_
      refine eg_zastN (by assumption) (by omega) (by decide) rfl dX3_markNeeded_81 ?_
      refine eg_aload_n dX3_markNeeded_82 rfl rfl ?_
      refine eg_getR gf_RX3_33 rfl (by assumption) (by assumption) dX3_markNeeded_83 ?_
      refine eg_aload_n dX3_markNeeded_86 rfl rfl ?_
      refine eg_getR gf_RX3_26 rfl (by assumption) (by assumption) dX3_markNeeded_87 ?_
      refine eg_getR gf_RX3_112 rfl (by assumption) (by assumption) dX3_markNeeded_90 ?_
      refine eg_iload_n dX3_markNeeded_93 rfl rfl ?_
      refine eg_ialdN (by assumption) (by omega) (by decide) dX3_markNeeded_94 ?_
      refine eg_topi (show _ = nI (rt t) by rw [eg_set_ne (by omega)]; exact (pa t (by omega)).2.2) ?_
      refine eg_iconst dX3_markNeeded_95 (v := nI 1) (by decide) ?_
      refine eg_zastN (by assumption) (by omega) (by decide) rfl dX3_markNeeded_96 ?_
      refine eg_iinc dX3_markNeeded_97 (by decide) rfl (eg_dec1 t) rfl ?_
      refine eg_goto 52 dX3_markNeeded_100 (by decide) ?_
      generalize hM1 : eg_set (eg_set M (b + 31) (lf t) (nI 1)) (b + 31) (rt t) (nI 1) = M1
      have o1 : ∀ q, q ≠ b + 31 → M1 q = M q := fun q z => by rw [← hM1, eg_set_ne z, eg_set_ne z]
      have m1 : ∀ v, M1 (b + 31) v = if v = lf t ∨ v = rt t then 1 else M (b + 31) v := fun v => by
        rw [← hM1]
        by_cases e1 : v = rt t
        · rw [e1, eg_set_eq, if_pos (Or.inr rfl)]; rfl
        · rw [eg_set_j e1]
          by_cases e2 : v = lf t
          · rw [e2, eg_set_eq, if_pos (Or.inl rfl)]; rfl
          · rw [eg_set_j e2, if_neg (fun z => z.elim e2 e1)]
      have m2 : ∀ i, t ≤ i → M1 (b + 31) (n + k + i) = M (b + 31) (n + k + i) := fun i hi => by rw [m1, if_neg (by omega)]
      refine ih M1 (by omega) (hr.eq (fun q z1 z2 => o1 q (by omega))) ⟨fun v hv => ?_, fun v hv => ?_⟩ (fun q z => by rw [o1 q z]; exact hfr q z) hQ
      · rw [m1]
        split
        · exact Or.inr rfl
        · exact hnb.1 v hv
      · rw [m1]
        by_cases e : v = lf t ∨ v = rt t
        · rw [if_pos e]
          refine ⟨fun _ => Or.inr ⟨t, by omega, by omega, by rw [m2 t (by omega)]; exact c1, e.elim (fun z => Or.inl z.symm) (fun z => Or.inr z.symm)⟩, fun _ => rfl⟩
        · rw [if_neg e, hnb.2 v hv]
          constructor
          · rintro (z | ⟨i, z1, z2, z3, z4⟩)
            · exact Or.inl z
            · exact Or.inr ⟨i, by omega, z2, by rw [m2 i (by omega)]; exact z3, z4⟩
          · rintro (z | ⟨i, z1, z2, z3, z4⟩)
            · exact Or.inl z
            · by_cases e2 : i = t
              · subst e2
                exact absurd (z4.elim (fun z => Or.inl z.symm) (fun z => Or.inr z.symm)) e
              · rw [m2 i (by omega)] at z3
                exact Or.inr ⟨i, by omega, z2, z3, z4⟩
set_option maxHeartbeats 2000000 in
theorem sp_X3_markNeeded {l : Launch} {E : eg_E} {d kb nb : Nat} {Q : Option Value → eg_G → eg_I → Prop} {G : eg_G} {M : eg_I} {b w n k len res : Nat} {op lf rt : Nat → Nat} (hs : sh_C G b) (hpk : pg_ok (n + k) len op lf rt res) (hd : 1 ≤ d) (h : in_V M (b + 3) w n k) (hr : in_R M (b + 23) len op lf rt res) (hQ : (∀ M', nb_I M' b (n + k) len lf rt res 0 → (∀ q, q ≠ b + 31 → M' q = M q) → Q none G M')) : eg_J l E mX3_markNeeded d kb nb Q 0 [some (.ref b), none, none] [] G M := by
  obtain ⟨k0, k1, k2, k3, k4, k5, kV, k6, kR, k7, kF, k8, k9, k10, kH⟩ := id hs
  obtain ⟨gv1, gv2, gv3, gv4⟩ := id kV
  obtain ⟨gr0, gr1, gr2, gr3, gr4, gr5, gr6⟩ := id kR
  obtain ⟨gf0, gf1, gf2, gf3, gf4, gf5, gf6⟩ := id kF
  have kh0 := kH.1
  obtain ⟨i1, i2, i3, i4, i5, hw1, hw4, hn1, hn2, hk4⟩ := id h
  obtain ⟨p3, p4, pl, pa⟩ := id hr
  obtain ⟨-, pok2, pok3⟩ := id hpk
  refine eg_iconst dX3_markNeeded_0 (v := nI 0) (by decide) ?_
  refine eg_istore_n dX3_markNeeded_1 rfl (by decide) rfl ?_
  refine lp_X3_markNeeded1 hs 18 0 M (by omega) ?_
  generalize hM1 : eg_fl M (b + 31) 0 18 (fun _ => nI 0) = M1
  have o1 : ∀ q, q ≠ b + 31 → M1 q = M q := fun q z => by rw [← hM1, eg_fl_ne z]
  have m1 : ∀ v, v < 18 → M1 (b + 31) v = 0 := fun v z => by rw [← hM1, eg_fl_in (by omega) z]; rfl
  refine eg_aload_n dX3_markNeeded_21 rfl rfl ?_
  refine eg_getR gf_RX3_33 rfl (by assumption) (by assumption) dX3_markNeeded_22 ?_
  refine eg_aload_n dX3_markNeeded_25 rfl rfl ?_
  refine eg_getR gf_RX3_26 rfl (by assumption) (by assumption) dX3_markNeeded_26 ?_
  refine eg_getI gf_RX3_87 rfl (by assumption) dX3_markNeeded_29 ?_
  refine eg_topi (show _ = nI res by rw [o1 _ (by omega)]; exact p4) ?_
  refine eg_iconst dX3_markNeeded_32 (v := nI 1) (by decide) ?_
  refine eg_zastN (by assumption) (by omega) (by decide) rfl dX3_markNeeded_33 ?_
  refine eg_aload_n dX3_markNeeded_34 rfl rfl ?_
  refine eg_getR gf_RX3_19 rfl (by assumption) (by assumption) dX3_markNeeded_35 ?_
  refine eg_callV0 0 0 gk_X2_given gi_X2_given (by assumption) rfl gl_RX3_73 rfl (Nat.le_of_ble_eq_true rfl) (Nat.le_of_ble_eq_true rfl) (Nat.zero_le _) (Nat.zero_le _) (by omega) dX3_markNeeded_38 ?_
  refine sp_X2_given gv1 (h.eq (by rw [eg_set_ne (by omega)]; exact o1 _ (by omega))) ?_
  refine eg_istore_n dX3_markNeeded_41 rfl (by decide) rfl ?_
  refine eg_aload_n dX3_markNeeded_42 rfl rfl ?_
  refine eg_getR gf_RX3_26 rfl (by assumption) (by assumption) dX3_markNeeded_43 ?_
  refine eg_getI gf_RX3_64 rfl (by assumption) dX3_markNeeded_46 ?_
  refine eg_topi (show _ = nI len by rw [eg_set_ne (by omega), o1 _ (by omega)]; exact p3) ?_
  refine eg_iconst dX3_markNeeded_49 (v := nI 1) (by decide) ?_
  refine eg_isub dX3_markNeeded_50 ?_
  refine eg_istore_n dX3_markNeeded_51 rfl (by decide) rfl ?_
  refine lp_X3_markNeeded2 (M0 := M) (w := w) hs hpk (by omega) hn1 len _ (Nat.le_refl _) (hr.eq (fun q z1 z2 => by rw [eg_set_ne (by omega)]; exact o1 q (by omega))) ⟨fun v hv => ?_, fun v hv => ?_⟩ (fun q z => by rw [eg_set_ne z]; exact o1 q z) hQ
  · by_cases e : v = res
    · subst e; rw [eg_set_eq]; exact Or.inr rfl
    · rw [eg_set_j e]; exact Or.inl (m1 v hv)
  · by_cases e : v = res
    · subst e; rw [eg_set_eq]; exact ⟨fun _ => Or.inl rfl, fun _ => rfl⟩
    · rw [eg_set_j e, m1 v hv]
      refine ⟨fun z => absurd z (by decide), fun z => z.elim (fun z => absurd z.symm e) (fun ⟨i, z1, z2, _⟩ => absurd z1 (by omega))⟩
set_option maxHeartbeats 2000000 in
theorem lp_X3_takeOutNeedless {l : Launch} {E : eg_E} {d kb nb : Nat} {Q : Option Value → eg_G → eg_I → Prop} {G : eg_G} {M : eg_I} {b w n k : Nat} {cf : Nat → Int32} {p : pg_T} (hs : sh_C G b) (hI : cl_I M b w n k cf p) {M0 : eg_I} (hd : 5 ≤ d) (hfr : cl_F M0 M b) (hnb : nb_I M b (n + k) p.1 p.2.2.1 p.2.2.2.1 p.2.2.2.2 0) : ∀ (t : Nat), t ≤ p.1 → (∀ i, t ≤ i → i < p.1 → M (b + 31) (n + k + i) = 1) → (∀ j M', cl_id (n + k) p.1 p.2.2.1 p.2.2.2.1 p.2.2.2.2 t = some j → cl_I M' b w n k cf (pg_rm (n + k) j 0 p) → j < p.1 → cl_F M0 M' b → Q (some (.int 1)) G M') → (∀ M', cl_id (n + k) p.1 p.2.2.1 p.2.2.2.1 p.2.2.2.2 t = none → cl_I M' b w n k cf p → cl_F M0 M' b → Q (some (.int 0)) G M') → eg_J l E mX3_takeOutNeedless d kb nb Q 22 [some (.ref b), some (.int (nI (n + k))), some (.int (nI t - nI 1))] [] G M := by
  intro t
  induction t with
  | zero =>
    intro htl hall hT hN
    obtain ⟨k0, k1, k2, k3, k4, k5, kV, k6, kR, k7, kF, k8, k9, k10, kH⟩ := id hs
    obtain ⟨gv1, gv2, gv3, gv4⟩ := id kV
    obtain ⟨gr0, gr1, gr2, gr3, gr4, gr5, gr6⟩ := id kR
    obtain ⟨gf0, gf1, gf2, gf3, gf4, gf5, gf6⟩ := id kF
    have kh0 := kH.1
    obtain ⟨len, op, lf, rt, res⟩ := p
    obtain ⟨c1, c2, c3, c4⟩ := id hI
    replace c2 : in_R M (b + 23) len op lf rt res := c2
    replace c3 : ∀ u s, u < n + k + len → s < 2 ^ (w * n) → M (b + 3 + 2 + u) s = sv w n k cf op lf rt u s := c3
    replace c4 : pg_ok (n + k) len op lf rt res := c4
    obtain ⟨i1, i2, i3, i4, i5, hw1, hw4, hn1, hn2, hk4⟩ := id c1
    obtain ⟨p3, p4, pl, pa⟩ := id c2
    obtain ⟨-, pok2, pok3⟩ := id c4
    have hA := wd_asg hw4 hn2
    replace hnb : nb_I M b (n + k) len lf rt res 0 := hnb
    replace hall : ∀ i, 0 ≤ i → i < len → M (b + 31) (n + k + i) = 1 := hall
    replace htl : 0 ≤ len := htl
    refine eg_iload_n dX3_takeOutNeedless_22 rfl rfl ?_
    refine eg_if_lt 51 dX3_takeOutNeedless_23 (by decide) (fun c23 => ?_) (fun c23 => absurd (show nI 0 - nI 1 < 0 by decide) c23)
    refine eg_iconst dX3_takeOutNeedless_51 (v := nI 0) (by decide) ?_
    exact eg_zret rfl rfl dX3_takeOutNeedless_52 (hN M rfl hI hfr)
  | succ t ih =>
    intro htl hall hT hN
    obtain ⟨k0, k1, k2, k3, k4, k5, kV, k6, kR, k7, kF, k8, k9, k10, kH⟩ := id hs
    obtain ⟨gv1, gv2, gv3, gv4⟩ := id kV
    obtain ⟨gr0, gr1, gr2, gr3, gr4, gr5, gr6⟩ := id kR
    obtain ⟨gf0, gf1, gf2, gf3, gf4, gf5, gf6⟩ := id kF
    have kh0 := kH.1
    obtain ⟨len, op, lf, rt, res⟩ := p
    obtain ⟨c1, c2, c3, c4⟩ := id hI
    replace c2 : in_R M (b + 23) len op lf rt res := c2
    replace c3 : ∀ u s, u < n + k + len → s < 2 ^ (w * n) → M (b + 3 + 2 + u) s = sv w n k cf op lf rt u s := c3
    replace c4 : pg_ok (n + k) len op lf rt res := c4
    obtain ⟨i1, i2, i3, i4, i5, hw1, hw4, hn1, hn2, hk4⟩ := id c1
    obtain ⟨p3, p4, pl, pa⟩ := id c2
    obtain ⟨-, pok2, pok3⟩ := id c4
    have hA := wd_asg hw4 hn2
    replace hnb : nb_I M b (n + k) len lf rt res 0 := hnb
    replace hall : ∀ i, (t + 1) ≤ i → i < len → M (b + 31) (n + k + i) = 1 := hall
    replace htl : (t + 1) ≤ len := htl
    rw [show nI (t + 1) - nI 1 = nI t from pk_sub (by omega)]
    refine eg_iload_n dX3_takeOutNeedless_22 rfl rfl ?_
    refine eg_if_lt 51 dX3_takeOutNeedless_23 (by decide) (fun c23 => absurd c23 (nI_pos (by omega))) (fun c23 => ?_)
    refine eg_aload_n dX3_takeOutNeedless_26 rfl rfl ?_
    refine eg_getR gf_RX3_33 rfl (by assumption) (by assumption) dX3_takeOutNeedless_27 ?_
    refine eg_iload_n dX3_takeOutNeedless_30 rfl rfl ?_
    refine eg_iload_n dX3_takeOutNeedless_31 rfl rfl ?_
    refine eg_iadd dX3_takeOutNeedless_32 ?_
    refine eg_topi (nI_add (n + k) t) ?_
    refine eg_zaldN (by assumption) (by omega) (by decide) dX3_takeOutNeedless_33 ?_
    have hus : cl_us (n + k) len lf rt res t ↔ M (b + 31) (n + k + t) = 1 := by
      rw [hnb.2 _ (by omega)]
      unfold cl_us
      constructor
      · rintro (z | ⟨i, z1, z2, z3⟩)
        · exact Or.inl z
        · exact Or.inr ⟨i, by omega, z1, hall i (by omega) z1, z3⟩
      · rintro (z | ⟨i, z1, z2, z3, z4⟩)
        · exact Or.inl z
        · have := pok2 i z2
          exact Or.inr ⟨i, z2, by omega, z4⟩
    refine eg_if_ne 45 dX3_takeOutNeedless_34 (by decide) (fun c => ?_) (fun c => ?_)
    · have c1 : M (b + 31) (n + k + t) = 1 := (hnb.1 _ (by omega)).elim (fun z => absurd z c) id
      have er := cl_id_us (hus.mpr c1)
      refine eg_iinc dX3_takeOutNeedless_45 (by decide) rfl (eg_dec1 t) rfl ?_
      refine eg_goto 22 dX3_takeOutNeedless_48 (by decide) ?_
      refine ih (show t ≤ len by omega) (fun i z1 z2 => ?_) (fun j M2 y1 => hT j M2 (er.trans y1)) (fun M2 y => hN M2 (er.trans y))
      by_cases e : i = t
      · subst e; exact c1
      · exact hall i (by omega) z2
    · have er := cl_id_no (g := n + k) (fun z => absurd ((hus.mp z).symm.trans c) (by decide))
      refine eg_aload_n dX3_takeOutNeedless_37 rfl rfl ?_
      refine eg_iload_n dX3_takeOutNeedless_38 rfl rfl ?_
      refine eg_iconst dX3_takeOutNeedless_39 (v := nI 0) (by decide) ?_
      refine eg_callV2 0 0 gk_X3_takeOut gi_X3_takeOut (by assumption) rfl gl_RX3_169 rfl (Nat.le_of_ble_eq_true rfl) (Nat.le_of_ble_eq_true rfl) (Nat.zero_le _) (Nat.zero_le _) (by omega) dX3_takeOutNeedless_40 ?_
      refine sp_X3_takeOut hs hI (by omega) (show t < len by omega) (by omega) (fun M2 h2 h3 => ?_)
      refine eg_iconst dX3_takeOutNeedless_43 (v := nI 1) (by decide) ?_
      exact eg_zret rfl rfl dX3_takeOutNeedless_44 (hT t M2 er h2 (show t < len by omega) (hfr.tr h3))
set_option maxHeartbeats 2000000 in
theorem sp_X3_takeOutNeedless {l : Launch} {E : eg_E} {d kb nb : Nat} {Q : Option Value → eg_G → eg_I → Prop} {G : eg_G} {M : eg_I} {b w n k : Nat} {cf : Nat → Int32} {p : pg_T} (hs : sh_C G b) (hI : cl_I M b w n k cf p) (hd : 5 ≤ d) (hT : (∀ j M', cl_id (n + k) p.1 p.2.2.1 p.2.2.2.1 p.2.2.2.2 p.1 = some j → cl_I M' b w n k cf (pg_rm (n + k) j 0 p) → j < p.1 → cl_F M M' b → Q (some (.int 1)) G M')) (hN : (∀ M', cl_id (n + k) p.1 p.2.2.1 p.2.2.2.1 p.2.2.2.2 p.1 = none → cl_I M' b w n k cf p → cl_F M M' b → Q (some (.int 0)) G M')) : eg_J l E mX3_takeOutNeedless d kb nb Q 0 [some (.ref b), none, none] [] G M := by
  obtain ⟨k0, k1, k2, k3, k4, k5, kV, k6, kR, k7, kF, k8, k9, k10, kH⟩ := id hs
  obtain ⟨gv1, gv2, gv3, gv4⟩ := id kV
  obtain ⟨gr0, gr1, gr2, gr3, gr4, gr5, gr6⟩ := id kR
  obtain ⟨gf0, gf1, gf2, gf3, gf4, gf5, gf6⟩ := id kF
  have kh0 := kH.1
  obtain ⟨len, op, lf, rt, res⟩ := p
  obtain ⟨c1, c2, c3, c4⟩ := id hI
  replace c2 : in_R M (b + 23) len op lf rt res := c2
  replace c3 : ∀ u s, u < n + k + len → s < 2 ^ (w * n) → M (b + 3 + 2 + u) s = sv w n k cf op lf rt u s := c3
  replace c4 : pg_ok (n + k) len op lf rt res := c4
  obtain ⟨i1, i2, i3, i4, i5, hw1, hw4, hn1, hn2, hk4⟩ := id c1
  obtain ⟨p3, p4, pl, pa⟩ := id c2
  obtain ⟨-, pok2, pok3⟩ := id c4
  have hA := wd_asg hw4 hn2
  refine eg_aload_n dX3_takeOutNeedless_0 rfl rfl ?_
  refine eg_callV0 0 0 gk_X3_markNeeded gi_X3_markNeeded (by assumption) rfl gl_RX3_172 rfl (Nat.le_of_ble_eq_true rfl) (Nat.le_of_ble_eq_true rfl) (Nat.zero_le _) (Nat.zero_le _) (by omega) dX3_takeOutNeedless_1 ?_
  refine sp_X3_markNeeded (w := w) hs c4 (by omega) c1 c2 (fun M1 h1 h2 => ?_)
  have hI1 : cl_I M1 b w n k cf (len, op, lf, rt, res) := ⟨c1.eq (h2 _ (by omega)), c2.eq (fun q z1 z2 => h2 q (by omega)), fun u s z1 z2 => by rw [h2 _ (by omega)]; exact c3 u s z1 z2, c4⟩
  refine eg_aload_n dX3_takeOutNeedless_4 rfl rfl ?_
  refine eg_getR gf_RX3_19 rfl (by assumption) (by assumption) dX3_takeOutNeedless_5 ?_
  refine eg_callV0 0 0 gk_X2_given gi_X2_given (by assumption) rfl gl_RX3_73 rfl (Nat.le_of_ble_eq_true rfl) (Nat.le_of_ble_eq_true rfl) (Nat.zero_le _) (Nat.zero_le _) (by omega) dX3_takeOutNeedless_8 ?_
  refine sp_X2_given gv1 hI1.1 ?_
  refine eg_istore_n dX3_takeOutNeedless_11 rfl (by decide) rfl ?_
  refine eg_aload_n dX3_takeOutNeedless_12 rfl rfl ?_
  refine eg_getR gf_RX3_26 rfl (by assumption) (by assumption) dX3_takeOutNeedless_13 ?_
  refine eg_getI gf_RX3_64 rfl (by assumption) dX3_takeOutNeedless_16 ?_
  refine eg_topi hI1.2.1.1 ?_
  refine eg_iconst dX3_takeOutNeedless_19 (v := nI 1) (by decide) ?_
  refine eg_isub dX3_takeOutNeedless_20 ?_
  refine eg_istore_n dX3_takeOutNeedless_21 rfl (by decide) rfl ?_
  exact lp_X3_takeOutNeedless (M0 := M) hs hI1 hd (fun q z1 z2 => h2 q z2) h1 len (Nat.le_refl _) (fun i z1 z2 => absurd z1 (Nat.not_le.mpr z2)) hT hN
set_option maxHeartbeats 2000000 in
theorem lp_X3_clean {l : Launch} {E : eg_E} {d kb nb : Nat} {Q : Option Value → eg_G → eg_I → Prop} {G : eg_G} {b w n k len0 : Nat} {cf : Nat → Int32} {M0 : eg_I} (hs : sh_C G b) (hd : 6 ≤ d) (hlen : len0 ≤ 12) : ∀ (t s : Nat) (p : pg_T) (M : eg_I), s + t = len0 → p.1 = t → cl_I M b w n k cf p → cl_F M0 M b → (∀ M', cl_I M' b w n k cf (cl_all w n k cf t p) → cl_F M0 M' b → Q (some (.int (nI (len0 - (cl_all w n k cf t p).1)))) G M') → eg_J l E mX3_clean d kb nb Q 10 [some (.ref b), some (.int (nI len0)), some (.int (nI s))] [] G M := by
  intro t
  induction t with
  | zero =>
    intro s p M hst hp hI hfr hQ
    obtain ⟨k0, k1, k2, k3, k4, k5, kV, k6, kR, k7, kF, k8, k9, k10, kH⟩ := id hs
    obtain ⟨gv1, gv2, gv3, gv4⟩ := id kV
    obtain ⟨gr0, gr1, gr2, gr3, gr4, gr5, gr6⟩ := id kR
    obtain ⟨gf0, gf1, gf2, gf3, gf4, gf5, gf6⟩ := id kF
    have kh0 := kH.1
    refine eg_iload_n dX3_clean_10 rfl rfl ?_
    refine eg_iload_n dX3_clean_11 rfl rfl ?_
    refine eg_icmp_ge 38 dX3_clean_12 (by decide) (fun c12 => ?_) (fun c12 => absurd (nI_le (by omega) (by omega)) c12)
    refine eg_iload_n dX3_clean_38 rfl rfl ?_
    refine eg_aload_n dX3_clean_39 rfl rfl ?_
    refine eg_getR gf_RX3_26 rfl k0 k6 dX3_clean_40 ?_
    refine eg_getI gf_RX3_64 rfl gr0 dX3_clean_43 ?_
    refine eg_topi (hI.2.1.1) ?_
    refine eg_isub dX3_clean_46 ?_
    refine eg_topi (pk_sub (by omega)) ?_
    exact eg_iret rfl dX3_clean_47 (hQ M hI hfr)
  | succ t ih =>
    intro s p M hst hp hI hfr hQ
    obtain ⟨k0, k1, k2, k3, k4, k5, kV, k6, kR, k7, kF, k8, k9, k10, kH⟩ := id hs
    obtain ⟨gv1, gv2, gv3, gv4⟩ := id kV
    obtain ⟨gr0, gr1, gr2, gr3, gr4, gr5, gr6⟩ := id kR
    obtain ⟨gf0, gf1, gf2, gf3, gf4, gf5, gf6⟩ := id kF
    have kh0 := kH.1
    refine eg_iload_n dX3_clean_10 rfl rfl ?_
    refine eg_iload_n dX3_clean_11 rfl rfl ?_
    refine eg_icmp_ge 38 dX3_clean_12 (by decide) (fun c12 => absurd c12 (nI_ge (by omega) (by omega))) (fun c12 => ?_)
    refine eg_aload_n dX3_clean_15 rfl rfl ?_
    refine eg_callV0 0 0 gk_X3_takeOutRepeated gi_X3_takeOutRepeated (by assumption) rfl gl_RX3_128 rfl (Nat.le_of_ble_eq_true rfl) (Nat.le_of_ble_eq_true rfl) (Nat.zero_le _) (Nat.zero_le _) (by omega) dX3_clean_16 ?_
    refine sp_X3_takeOutRepeated hs hI (by omega) (fun q M2 h1 h2 h3 h4 => ?_) (fun h1 => ?_)
    · have es : cl_step w n k cf p = some (pg_rm (n + k) q.1 q.2 p) := by unfold cl_step; rw [h1]
      refine eg_if_ne 32 dX3_clean_19 (by decide) (fun _ => ?_) (fun z => absurd z (by decide))
      refine eg_iinc dX3_clean_32 (by decide) rfl (eg_inc s) rfl ?_
      refine eg_goto 10 dX3_clean_35 (by decide) ?_
      have ea : cl_all w n k cf (t + 1) p = cl_all w n k cf t (pg_rm (n + k) q.1 q.2 p) := by rw [cl_all, es]
      rw [ea] at hQ
      refine ih (s + 1) _ M2 (by omega) ?_ h2 (hfr.tr h4) hQ
      show p.1 - 1 = t
      omega
    · refine eg_if_ne 32 dX3_clean_19 (by decide) (fun z => absurd (show nI 0 = 0 from rfl) z) (fun _ => ?_)
      refine eg_aload_n dX3_clean_22 rfl rfl ?_
      refine eg_callV0 0 0 gk_X3_takeOutNeedless gi_X3_takeOutNeedless k0 rfl gl_RX3_132 rfl (Nat.le_of_ble_eq_true rfl) (Nat.le_of_ble_eq_true rfl) (Nat.zero_le _) (Nat.zero_le _) (by omega) dX3_clean_23 ?_
      refine sp_X3_takeOutNeedless hs hI (by omega) (fun j M2 h2' h2 h3 h4 => ?_) (fun M2 h2 h3 h4 => ?_)
      · have es : cl_step w n k cf p = some (pg_rm (n + k) j 0 p) := by unfold cl_step; rw [h1]; dsimp only; rw [h2']
        refine eg_if_ne 32 dX3_clean_26 (by decide) (fun _ => ?_) (fun z => absurd z (by decide))
        refine eg_iinc dX3_clean_32 (by decide) rfl (eg_inc s) rfl ?_
        refine eg_goto 10 dX3_clean_35 (by decide) ?_
        have ea : cl_all w n k cf (t + 1) p = cl_all w n k cf t (pg_rm (n + k) j 0 p) := by rw [cl_all, es]
        rw [ea] at hQ
        refine ih (s + 1) _ M2 (by omega) ?_ h2 (hfr.tr h4) hQ
        show p.1 - 1 = t
        omega
      · have es : cl_step w n k cf p = none := by unfold cl_step; rw [h1]; dsimp only; rw [h2]
        have ea : cl_all w n k cf (t + 1) p = p := by rw [cl_all, es]
        rw [ea] at hQ
        refine eg_if_ne 32 dX3_clean_26 (by decide) (fun z => absurd (show nI 0 = 0 from rfl) z) (fun _ => ?_)
        refine eg_goto 38 dX3_clean_29 (by decide) ?_
        refine eg_iload_n dX3_clean_38 rfl rfl ?_
        refine eg_aload_n dX3_clean_39 rfl rfl ?_
        refine eg_getR gf_RX3_26 rfl k0 k6 dX3_clean_40 ?_
        refine eg_getI gf_RX3_64 rfl gr0 dX3_clean_43 ?_
        refine eg_topi (h3.2.1.1) ?_
        refine eg_isub dX3_clean_46 ?_
        refine eg_topi (pk_sub (by omega)) ?_
        exact eg_iret rfl dX3_clean_47 (hQ M2 h3 (hfr.tr h4))
set_option maxHeartbeats 2000000 in
theorem ap_C_clean {l : Launch} {E : eg_E} {d kb nb : Nat} {Q : Option Value → eg_G → eg_I → Prop} {G : eg_G} {M : eg_I} {b : Nat} {S : st_T} (hs : sh_C G b) (hok : st_ok S) (hI : ci_I M b S) (hd : 6 ≤ d) (hQ : ∀ M', ci_I M' b (ap_clean S).2 → ci_E M M' b → Q (some (.int (ap_clean S).1)) G M') : eg_J l E mX3_clean d kb nb Q 0 [some (.ref b), none, none] [] G M := by
  obtain ⟨k0, k1, k2, k3, k4, k5, kV, k6, kR, k7, kF, k8, k9, k10, kH⟩ := id hs
  obtain ⟨gv1, gv2, gv3, gv4⟩ := id kV
  obtain ⟨gr0, gr1, gr2, gr3, gr4, gr5, gr6⟩ := id kR
  obtain ⟨gf0, gf1, gf2, gf3, gf4, gf5, gf6⟩ := id kF
  have kh0 := kH.1
  obtain ⟨⟨w, n, k⟩, cf, co, tg, ⟨len, op, lf, rt, res⟩, ⟨fnd, flen, fop, flf, frt, fres⟩, t0, t1, t2, t3⟩ := S
  replace hI : ci_U M b w n k cf co tg len op lf rt res fnd flen fop flf frt fres t0 t1 t2 t3 := hI
  replace hok : ok_U w n k cf co len op lf rt res fnd flen fop flf frt fres := hok
  obtain ⟨a1, a2, a3, a4, a5, a6, a7, a8, a9, a10, a11⟩ := id hI
  obtain ⟨i1, i2, i3, i4, i5, hw1, hw4, hn1, hn2, hk4⟩ := id a1
  obtain ⟨p3, p4, pl, pa⟩ := id a5
  obtain ⟨-, -, -, -, -, cw, co9, pok, fok⟩ := id hok
  obtain ⟨-, pok2, pok3⟩ := id pok
  have hA := wd_asg hw4 hn2
  refine eg_aload_n dX3_clean_0 rfl rfl ?_
  refine eg_getR gf_RX3_26 rfl (by assumption) (by assumption) dX3_clean_1 ?_
  refine eg_getI gf_RX3_64 rfl (by assumption) dX3_clean_4 ?_
  refine eg_topi p3 ?_
  refine eg_istore_n dX3_clean_7 rfl (by decide) rfl ?_
  refine eg_iconst dX3_clean_8 (v := nI 0) (by decide) ?_
  refine eg_istore_n dX3_clean_9 rfl (by decide) rfl ?_
  refine lp_X3_clean (cf := cf) (M0 := M) (w := w) (n := n) (k := k) hs hd pl len 0 (len, op, lf, rt, res) M (by omega) rfl ⟨a1, a5, a2, pok⟩ cl_F.rf (fun M2 h2 h3 => ?_)
  replace hQ : ∀ M', ci_I M' b (((w, n, k), cf, co, tg, ((cl_all w n k cf len (len, op, lf, rt, res)).1, (cl_all w n k cf len (len, op, lf, rt, res)).2.1, (cl_all w n k cf len (len, op, lf, rt, res)).2.2.1, (cl_all w n k cf len (len, op, lf, rt, res)).2.2.2.1, (cl_all w n k cf len (len, op, lf, rt, res)).2.2.2.2), (fnd, flen, fop, flf, frt, fres), t0, t1, t2, t3)) → ci_E M M' b → Q (some (.int (nI (len - (cl_all w n k cf len (len, op, lf, rt, res)).1)))) G M' := hQ
  generalize cl_all w n k cf len (len, op, lf, rt, res) = p2 at h2 hQ ⊢
  obtain ⟨len2, op2, lf2, rt2, res2⟩ := p2
  obtain ⟨d1, d2, d3, d4⟩ := h2
  replace hQ : ∀ M', ci_U M' b w n k cf co tg len2 op2 lf2 rt2 res2 fnd flen fop flf frt fres t0 t1 t2 t3 → ci_E M M' b → Q (some (.int (nI (len - len2)))) G M' := hQ
  exact hQ M2 (⟨d1, d3, fun o ho => by rw [h3 _ (by omega) (by omega)]; exact a3 o ho, fun s q => by rw [h3 _ (by omega) (by omega)]; exact a4 s q, d2, by rw [h3 _ (by omega) (by omega)]; exact a6, fun q => (a7 q).eq (fun q q1 q2 => by rw [h3 _ (by omega) (by omega)]), by rw [h3 _ (by omega) (by omega)]; exact a8, by rw [h3 _ (by omega) (by omega)]; exact a9, by rw [h3 _ (by omega) (by omega)]; exact a10, by rw [h3 _ (by omega) (by omega)]; exact a11⟩) (fun q z => h3 q (by omega) (by omega))
end
section
/-! ShortestCode.search -/
theorem ss_rds_le {w A g : Nat} {co : Nat → Nat} {tg : Nat → Int32} {L : Nat} {al : Bool} {V : Nat → Nat → Int32} : ∀ (t rd : Nat) (σ : ss_S), (ss_rds w A g co tg L al V t rd σ).2 ≤ rd + t
  | 0, rd, σ => Nat.le_refl _
  | t + 1, rd, σ => by
    rw [ss_rds]
    split
    · show rd ≤ _
      omega
    · have := ss_rds_le (w := w) (A := A) (g := g) (co := co) (tg := tg) (L := L) (al := al) (V := V) t (rd + 1) (ss_fill w A g co tg L al 12 0 (rd + 1) (fun _ => 0) (fun _ => 0) (fun _ => 0) V σ)
      omega
set_option maxHeartbeats 2000000 in
theorem ap_C_search {l : Launch} {E : eg_E} {d kb nb : Nat} {Q : Option Value → eg_G → eg_I → Prop} {G : eg_G} {M : eg_I} {b : Nat} {S : st_T} (hs : sh_C G b) (hok : st_ok S) (hI : ci_I M b S) {x y z : Int32} (hd : 44 ≤ d) (hQ : ∀ M', ci_I M' b (ap_search S x y z).2 → ci_E M M' b → Q (some (.int (ap_search S x y z).1)) G M') : eg_J l E mX3_search d kb nb Q 0 [some (.ref b), some (.int x), some (.int y), some (.int z), none] [] G M := by
  obtain ⟨k0, k1, k2, k3, k4, k5, kV, k6, kR, k7, kF, k8, k9, k10, kH⟩ := id hs
  obtain ⟨gv1, gv2, gv3, gv4⟩ := id kV
  obtain ⟨gr0, gr1, gr2, gr3, gr4, gr5, gr6⟩ := id kR
  obtain ⟨gf0, gf1, gf2, gf3, gf4, gf5, gf6⟩ := id kF
  have kh0 := kH.1
  obtain ⟨⟨w, n, k⟩, cf, co, tg, ⟨len, op, lf, rt, res⟩, ⟨fnd, flen, fop, flf, frt, fres⟩, t0, t1, t2, t3⟩ := S
  replace hI : ci_U M b w n k cf co tg len op lf rt res fnd flen fop flf frt fres t0 t1 t2 t3 := hI
  replace hok : ok_U w n k cf co len op lf rt res fnd flen fop flf frt fres := hok
  obtain ⟨a1, a2, a3, a4, a5, a6, a7, a8, a9, a10, a11⟩ := id hI
  obtain ⟨i1, i2, i3, i4, i5, hw1, hw4, hn1, hn2, hk4⟩ := id a1
  obtain ⟨p3, p4, pl, pa⟩ := id a5
  obtain ⟨-, -, -, -, -, cw, co9, pok, fok⟩ := id hok
  obtain ⟨-, pok2, pok3⟩ := id pok
  have hA := wd_asg hw4 hn2
  obtain ⟨-, -, -, -, -, -, -, -, -, hh4, hhF⟩ := id kH
  refine eg_iload_n dX3_search_0 rfl rfl ?_
  refine eg_if_lt 21 dX3_search_1 (by decide) (fun c1 => ?_) (fun c1 => ?_)
  · refine eg_bipush dX3_search_21 (v := -2) (by decide) ?_
    exact eg_iret rfl dX3_search_23 (by
          have e : ap_search ((w, n, k), cf, co, tg, (len, op, lf, rt, res), (fnd, flen, fop, flf, frt, fres), t0, t1, t2, t3) x y z = (-2, ((w, n, k), cf, co, tg, (len, op, lf, rt, res), (fnd, flen, fop, flf, frt, fres), t0, t1, t2, t3)) := if_pos (by first | exact Or.inl (Or.inl c1) | exact Or.inl (Or.inr c2) | exact Or.inr (Or.inl (Or.inl c3)) | exact Or.inr (Or.inl (Or.inr (Int32.not_le.mp c4))))
          rw [e] at hQ
          exact hQ M hI ci_E.rf)
  · refine eg_iload_n dX3_search_4 rfl rfl ?_
    refine eg_bipush dX3_search_5 (v := nI 30) (by decide) ?_
    refine eg_icmp_gt 21 dX3_search_7 (by decide) (fun c2 => ?_) (fun c2 => ?_)
    · refine eg_bipush dX3_search_21 (v := -2) (by decide) ?_
      exact eg_iret rfl dX3_search_23 (by
            have e : ap_search ((w, n, k), cf, co, tg, (len, op, lf, rt, res), (fnd, flen, fop, flf, frt, fres), t0, t1, t2, t3) x y z = (-2, ((w, n, k), cf, co, tg, (len, op, lf, rt, res), (fnd, flen, fop, flf, frt, fres), t0, t1, t2, t3)) := if_pos (by first | exact Or.inl (Or.inl c1) | exact Or.inl (Or.inr c2) | exact Or.inr (Or.inl (Or.inl c3)) | exact Or.inr (Or.inl (Or.inr (Int32.not_le.mp c4))))
            rw [e] at hQ
            exact hQ M hI ci_E.rf)
    · refine eg_iload_n dX3_search_10 rfl rfl ?_
      refine eg_if_lt 21 dX3_search_11 (by decide) (fun c3 => ?_) (fun c3 => ?_)
      · refine eg_bipush dX3_search_21 (v := -2) (by decide) ?_
        exact eg_iret rfl dX3_search_23 (by
              have e : ap_search ((w, n, k), cf, co, tg, (len, op, lf, rt, res), (fnd, flen, fop, flf, frt, fres), t0, t1, t2, t3) x y z = (-2, ((w, n, k), cf, co, tg, (len, op, lf, rt, res), (fnd, flen, fop, flf, frt, fres), t0, t1, t2, t3)) := if_pos (by first | exact Or.inl (Or.inl c1) | exact Or.inl (Or.inr c2) | exact Or.inr (Or.inl (Or.inl c3)) | exact Or.inr (Or.inl (Or.inr (Int32.not_le.mp c4))))
              rw [e] at hQ
              exact hQ M hI ci_E.rf)
      · refine eg_iload_n dX3_search_14 rfl rfl ?_
        refine eg_sipush dX3_search_15 (v := nI 30000) (by decide) ?_
        refine eg_icmp_le 24 dX3_search_18 (by decide) (fun c4 => ?_) (fun c4 => ?_)
        · have hx0 := c1
          obtain ⟨ex, hX⟩ := nI_cm c1 c2 (by omega)
          obtain ⟨ey, hY⟩ := nI_cm c3 (Int32.not_lt.mpr c4) (by omega)
          have hge : ∀ zz : z = 0 ∨ z = 1, ¬ ((x < 0 ∨ nI 30 < x) ∨ (y < 0 ∨ nI 30000 < y) ∨ (¬ z = 0 ∧ ¬ z = 1)) := fun zz q => q.elim (fun q => q.elim c1 c2) (fun q => q.elim (fun q => q.elim c3 (Int32.not_lt.mpr c4)) (fun q => zz.elim q.1 q.2))
          refine eg_iload_n dX3_search_24 rfl rfl ?_
          refine eg_if_eq 36 dX3_search_25 (by decide) (fun c5 => ?_) (fun c5 => ?_)
          · unfold ap_search at hQ
            rw [if_neg (hge (Or.inl c5))] at hQ
            dsimp only at hQ
            generalize x.toNatClampNeg = X at ex hX hQ
            generalize y.toNatClampNeg = Y at ey hY hQ
            subst ex
            subst ey
            rw [show decide (z = 1) = false by rw [c5]; rfl] at hQ
            refine eg_aload_n dX3_search_36 rfl rfl ?_
            refine eg_getR gf_RX3_40 rfl (by assumption) (by assumption) dX3_search_37 ?_
            refine eg_aload_n dX3_search_40 rfl rfl ?_
            refine eg_getR gf_RX3_19 rfl (by assumption) (by assumption) dX3_search_41 ?_
            refine eg_aload_n dX3_search_44 rfl rfl ?_
            refine eg_getR gf_RX3_9 rfl (by assumption) (by assumption) dX3_search_45 ?_
            refine eg_aload_n dX3_search_48 rfl rfl ?_
            refine eg_getR gf_RX3_13 rfl (by assumption) (by assumption) dX3_search_49 ?_
            refine eg_callV3 0 0 gk_X0_prepare gi_X0_prepare (by assumption) rfl gl_RX3_135 rfl (Nat.le_of_ble_eq_true rfl) (Nat.le_of_ble_eq_true rfl) (Nat.zero_le _) (Nat.zero_le _) (by omega) dX3_search_52 ?_
            refine sp_X0_prepare (h := b + 32) (by omega) kH kV (by omega) k2 k4 (by omega) (by omega) a1 (fun M1 h1 => ?_)
            refine eg_aload_n dX3_search_55 rfl rfl ?_
            refine eg_getR gf_RX3_40 rfl (by assumption) (by assumption) dX3_search_56 ?_
            refine eg_iload_n dX3_search_59 rfl rfl ?_
            refine eg_iload_n dX3_search_60 rfl rfl ?_
            refine eg_iload_n dX3_search_61 rfl rfl ?_
            refine eg_iconst dX3_search_62 (v := nI 1) (by decide) ?_
            refine eg_icmp_ne 70 dX3_search_63 (by decide) (fun c63 => ?_) (fun c63 => absurd c63 (show ¬ z = nI 1 by rw [c5]; decide))
            refine eg_iconst dX3_search_70 (v := nI 0) (by decide) ?_
            refine eg_callV3 0 0 gk_X0_run gi_X0_run kh0 rfl gl_RX3_139 rfl (Nat.le_of_ble_eq_true rfl) (Nat.le_of_ble_eq_true rfl) (Nat.zero_le _) (Nat.zero_le _) (by omega) dX3_search_71 ?_
            refine sp_X0_run (w := w) (n := n) (k := k) (co := co) (tg := tg) (al := false) (V := sv w n k cf op lf rt) kH (by omega) (by omega) (by omega) rfl rfl rfl h1.1 (fun u s z1 z2 => by rw [h1.2.1 u s z1 z2]; exact a2 u s (by omega) z2) (fun o ho => ⟨by rw [h1.2.2.1 o ho]; exact a3 o ho, co9 o ho⟩) (fun s z => by rw [h1.2.2.2.1 s (by omega)]; exact a4 s (by omega)) (fun v M2 y1 y2 y3 hE e8 e9 e10 e11 e27 e28 => ?_) (fun y1 M2 hE e8 e9 e10 e11 e27 => ?_)
            · have eg : lst (fun u => ∀ s, s < 2 ^ (w * n) → sv w n k cf op lf rt u s = tg s) (n + k) 0 = some v := lst_some (by omega) (by omega) y3 (fun u _ h2 q => by
                obtain ⟨s, u1, u2⟩ := y2 u h2
                exact u2 (q s u1))
              rw [eg] at hQ
              replace hQ : ∀ M', ci_U M' b w n k cf co tg len op lf rt res true 0 ((fun _ => 0)) ((fun _ => 0)) ((fun _ => 0)) v 0 0 1 0 → ci_E M M' b → Q (some (.int (0))) G M' := hQ
              refine eg_istore dX3_search_74 (by decide) rfl ?_
              refine eg_iload dX3_search_76 rfl ?_
              refine eg_if_lt 100 dX3_search_78 (by decide) (fun z => absurd z (nI_pos (by omega))) (fun _ => ?_)
              refine eg_aload_n dX3_search_81 rfl rfl ?_
              refine eg_getR gf_RX3_30 rfl k0 k7 dX3_search_82 ?_
              refine eg_aload_n dX3_search_85 rfl rfl ?_
              refine eg_getR gf_RX3_40 rfl k0 k10 dX3_search_86 ?_
              refine eg_getR gf_RX3_143 rfl kh0 hh4 dX3_search_89 ?_
              refine eg_callV1 0 0 gk_X1_copyFrom gi_X1_copyFrom gf0 rfl gl_RX3_146 rfl (Nat.le_of_ble_eq_true rfl) (Nat.le_of_ble_eq_true rfl) (Nat.zero_le _) (Nat.zero_le _) (by omega) dX3_search_92 ?_
              refine sp_X1_copyFrom (len := 0) (by omega) kF hhF (by omega) (by omega) (by exact e27) (fun M3 h3 => ?_)
              obtain ⟨m3, m4, ma, mf⟩ := h3
              refine eg_aload_n dX3_search_95 rfl rfl ?_
              refine eg_iconst dX3_search_96 (v := nI 1) (by decide) ?_
              refine eg_putI gp_RX3_52 (fun q => by cases q) rfl rfl rfl k0 dX3_search_97 ?_
              have o4 : ∀ q, q ≠ b → ¬ (b + 27 ≤ q ∧ q < b + 31) → q < b + 32 → eg_set M3 b 7 (nI 1) q = M q := fun q z1 z2 z3 => by rw [eg_set_ne z1, mf q (by omega), hE q (by omega)]; exact h1.2.2.2.2 q (by omega)
              have oh : ∀ j, eg_set M3 b 7 (nI 1) (b + 32) j = M2 (b + 32) j := fun j => by rw [eg_set_ne (by omega), mf _ (by omega)]
              refine eg_iload dX3_search_100 rfl ?_
              exact eg_iret rfl dX3_search_102 (hQ _ (⟨a1.eq (by rw [o4 _ (by omega) (by omega) (by omega)]), fun u s q1 q2 => by rw [o4 _ (by omega) (by omega) (by omega)]; exact a2 u s q1 q2, fun o ho => by rw [o4 _ (by omega) (by omega) (by omega)]; exact a3 o ho, fun s q => by rw [o4 _ (by omega) (by omega) (by omega)]; exact a4 s q, a5.eq (fun q q1 q2 => by rw [o4 _ (by omega) (by omega) (by omega)]), by rw [eg_set_eq]; rfl, fun _ => ⟨by rw [eg_set_ne (by omega)]; exact m3, by rw [eg_set_ne (by omega), m4]; exact e28, by omega, fun j hj => absurd hj (by omega)⟩, by rw [oh]; exact e8, by rw [oh]; exact e9, by rw [oh]; exact e10, by rw [oh]; exact e11⟩) (fun q z => by rw [eg_set_ne (by omega), mf q (by omega), hE q (by omega)]; exact h1.2.2.2.2 q (by omega)))
            · have eg : lst (fun u => ∀ s, s < 2 ^ (w * n) → sv w n k cf op lf rt u s = tg s) (n + k) 0 = none := lst_none (fun u _ h2 q => by
                obtain ⟨s, u1, u2⟩ := y1 u (by omega)
                exact u2 (q s u1))
              rw [eg] at hQ
              have hle := ss_rds_le (w := w) (A := 2 ^ (w * n)) (g := n + k) (co := co) (tg := tg) (L := Y) (al := false) (V := sv w n k cf op lf rt) X 0 ss_0
              replace hQ : ∀ M', ci_I M' b ((w, n, k), cf, co, tg, (len, op, lf, rt, res), (if (ss_rds w (2 ^ (w * n)) (n + k) co tg Y false (sv w n k cf op lf rt) X 0 ss_0).1.2.2.1 = true ∨ (ss_rds w (2 ^ (w * n)) (n + k) co tg Y false (sv w n k cf op lf rt) X 0 ss_0).1.2.1 = 0 then (fnd, flen, fop, flf, frt, fres) else (true, (ss_rds w (2 ^ (w * n)) (n + k) co tg Y false (sv w n k cf op lf rt) X 0 ss_0).1.2.2.2.1, (ss_rds w (2 ^ (w * n)) (n + k) co tg Y false (sv w n k cf op lf rt) X 0 ss_0).1.2.2.2.2.1, (ss_rds w (2 ^ (w * n)) (n + k) co tg Y false (sv w n k cf op lf rt) X 0 ss_0).1.2.2.2.2.2.1, (ss_rds w (2 ^ (w * n)) (n + k) co tg Y false (sv w n k cf op lf rt) X 0 ss_0).1.2.2.2.2.2.2, n + k + (ss_rds w (2 ^ (w * n)) (n + k) co tg Y false (sv w n k cf op lf rt) X 0 ss_0).1.2.2.2.1 - 1)), (nI (ss_rds w (2 ^ (w * n)) (n + k) co tg Y false (sv w n k cf op lf rt) X 0 ss_0).1.1, nI (ss_rds w (2 ^ (w * n)) (n + k) co tg Y false (sv w n k cf op lf rt) X 0 ss_0).2, nI (ss_rds w (2 ^ (w * n)) (n + k) co tg Y false (sv w n k cf op lf rt) X 0 ss_0).1.2.1, ss_ans (ss_rds w (2 ^ (w * n)) (n + k) co tg Y false (sv w n k cf op lf rt) X 0 ss_0))) → ci_E M M' b → Q (some (.int (ss_ans (ss_rds w (2 ^ (w * n)) (n + k) co tg Y false (sv w n k cf op lf rt) X 0 ss_0)))) G M' := hQ
              generalize ss_rds w (2 ^ (w * n)) (n + k) co tg Y false (sv w n k cf op lf rt) X 0 ss_0 = qq at hQ e8 e9 e10 e11 e27 hle ⊢
              obtain ⟨⟨tt, hh, sp, fl2, fo2, fa2, fb2⟩, rd⟩ := qq
              replace hle : rd ≤ 0 + X := hle
              have oM : ∀ q, ¬ (b + 32 ≤ q ∧ q < b + 63) → M2 q = M q := fun q z => by rw [hE q (by omega)]; exact h1.2.2.2.2 q (by omega)
              by_cases hns : sp = true ∨ hh = 0
              · have ean : ss_ans ((tt, hh, sp, fl2, fo2, fa2, fb2), rd) < 0 := by
                  unfold ss_ans
                  dsimp only
                  by_cases h1 : sp = true
                  · rw [if_pos h1]; decide
                  · rw [if_neg h1, if_pos (hns.elim (fun z => absurd z h1) id)]; decide
                rw [show (if ((tt, hh, sp, fl2, fo2, fa2, fb2), rd).1.2.2.1 = true ∨ ((tt, hh, sp, fl2, fo2, fa2, fb2), rd).1.2.1 = 0 then (fnd, flen, fop, flf, frt, fres) else _) = (fnd, flen, fop, flf, frt, fres) from if_pos hns] at hQ
                generalize ss_ans ((tt, hh, sp, fl2, fo2, fa2, fb2), rd) = an at ean e11 hQ ⊢
                replace hQ : ∀ M', ci_U M' b w n k cf co tg len op lf rt res fnd flen fop flf frt fres (nI tt) (nI rd) (nI hh) an → ci_E M M' b → Q (some (.int (an))) G M' := hQ
                refine eg_istore dX3_search_74 (by decide) rfl ?_
                refine eg_iload dX3_search_76 rfl ?_
                refine eg_if_lt 100 dX3_search_78 (by decide) (fun _ => ?_) (fun z => absurd ean z)
                refine eg_iload dX3_search_100 rfl ?_
                exact eg_iret rfl dX3_search_102 (hQ M2 (⟨a1.eq (by rw [oM _ (by omega)]), fun u s q1 q2 => by rw [oM _ (by omega)]; exact a2 u s q1 q2, fun o ho => by rw [oM _ (by omega)]; exact a3 o ho, fun s q => by rw [oM _ (by omega)]; exact a4 s q, a5.eq (fun q q1 q2 => by rw [oM _ (by omega)]), by rw [oM _ (by omega)]; exact a6, fun q => (a7 q).eq (fun q q1 q2 => by rw [oM _ (by omega)]), e8, e9, e10, e11⟩) (fun q z => oM q (by omega)))
              · have ean : ss_ans ((tt, hh, sp, fl2, fo2, fa2, fb2), rd) = nI rd := by
                  unfold ss_ans
                  dsimp only
                  rw [if_neg (fun z => hns (Or.inl z)), if_neg (fun z => hns (Or.inr z))]
                rw [show (if ((tt, hh, sp, fl2, fo2, fa2, fb2), rd).1.2.2.1 = true ∨ ((tt, hh, sp, fl2, fo2, fa2, fb2), rd).1.2.1 = 0 then (fnd, flen, fop, flf, frt, fres) else (true, fl2, fo2, fa2, fb2, n + k + fl2 - 1)) = (true, fl2, fo2, fa2, fb2, n + k + fl2 - 1) from if_neg hns] at hQ
                rw [ean] at e11 hQ ⊢
                replace hQ : ∀ M', ci_U M' b w n k cf co tg len op lf rt res true fl2 fo2 fa2 fb2 (n + k + fl2 - 1) (nI tt) (nI rd) (nI hh) (nI rd) → ci_E M M' b → Q (some (.int (nI rd))) G M' := hQ
                have e27 : in_R M2 (b + 32 + 27) fl2 fo2 fa2 fb2 (n + k + fl2 - 1) := e27 hns
                refine eg_istore dX3_search_74 (by decide) rfl ?_
                refine eg_iload dX3_search_76 rfl ?_
                refine eg_if_lt 100 dX3_search_78 (by decide) (fun z => absurd z (nI_pos (by omega))) (fun _ => ?_)
                refine eg_aload_n dX3_search_81 rfl rfl ?_
                refine eg_getR gf_RX3_30 rfl k0 k7 dX3_search_82 ?_
                refine eg_aload_n dX3_search_85 rfl rfl ?_
                refine eg_getR gf_RX3_40 rfl k0 k10 dX3_search_86 ?_
                refine eg_getR gf_RX3_143 rfl kh0 hh4 dX3_search_89 ?_
                refine eg_callV1 0 0 gk_X1_copyFrom gi_X1_copyFrom gf0 rfl gl_RX3_146 rfl (Nat.le_of_ble_eq_true rfl) (Nat.le_of_ble_eq_true rfl) (Nat.zero_le _) (Nat.zero_le _) (by omega) dX3_search_92 ?_
                refine sp_X1_copyFrom (len := fl2) (by omega) kF hhF (by omega) (by exact e27.2.2.1) (by exact e27.1) (fun M3 h3 => ?_)
                obtain ⟨m3, m4, ma, mf⟩ := h3
                refine eg_aload_n dX3_search_95 rfl rfl ?_
                refine eg_iconst dX3_search_96 (v := nI 1) (by decide) ?_
                refine eg_putI gp_RX3_52 (fun q => by cases q) rfl rfl rfl k0 dX3_search_97 ?_
                have o4 : ∀ q, q ≠ b → ¬ (b + 27 ≤ q ∧ q < b + 31) → q < b + 32 → eg_set M3 b 7 (nI 1) q = M q := fun q z1 z2 z3 => by rw [eg_set_ne z1, mf q (by omega), hE q (by omega)]; exact h1.2.2.2.2 q (by omega)
                have oh : ∀ j, eg_set M3 b 7 (nI 1) (b + 32) j = M2 (b + 32) j := fun j => by rw [eg_set_ne (by omega), mf _ (by omega)]
                refine eg_iload dX3_search_100 rfl ?_
                exact eg_iret rfl dX3_search_102 (hQ _ (⟨a1.eq (by rw [o4 _ (by omega) (by omega) (by omega)]), fun u s q1 q2 => by rw [o4 _ (by omega) (by omega) (by omega)]; exact a2 u s q1 q2, fun o ho => by rw [o4 _ (by omega) (by omega) (by omega)]; exact a3 o ho, fun s q => by rw [o4 _ (by omega) (by omega) (by omega)]; exact a4 s q, a5.eq (fun q q1 q2 => by rw [o4 _ (by omega) (by omega) (by omega)]), by rw [eg_set_eq]; rfl, fun _ => ⟨by rw [eg_set_ne (by omega)]; exact m3, by rw [eg_set_ne (by omega), m4]; exact e27.2.1, e27.2.2.1, fun j hj => by rw [eg_set_ne (by omega), eg_set_ne (by omega), eg_set_ne (by omega), (ma j hj).1, (ma j hj).2.1, (ma j hj).2.2]; exact e27.2.2.2 j hj⟩, by rw [oh]; exact e8, by rw [oh]; exact e9, by rw [oh]; exact e10, by rw [oh]; exact e11⟩) (fun q z => by rw [eg_set_ne (by omega), mf q (by omega), hE q (by omega)]; exact h1.2.2.2.2 q (by omega)))
          · refine eg_iload_n dX3_search_28 rfl rfl ?_
            refine eg_iconst dX3_search_29 (v := nI 1) (by decide) ?_
            refine eg_icmp_eq 36 dX3_search_30 (by decide) (fun c6 => ?_) (fun c6 => ?_)
            · unfold ap_search at hQ
              rw [if_neg (hge (Or.inr c6))] at hQ
              dsimp only at hQ
              generalize x.toNatClampNeg = X at ex hX hQ
              generalize y.toNatClampNeg = Y at ey hY hQ
              subst ex
              subst ey
              rw [show decide (z = 1) = true by rw [c6]; rfl] at hQ
              refine eg_aload_n dX3_search_36 rfl rfl ?_
              refine eg_getR gf_RX3_40 rfl (by assumption) (by assumption) dX3_search_37 ?_
              refine eg_aload_n dX3_search_40 rfl rfl ?_
              refine eg_getR gf_RX3_19 rfl (by assumption) (by assumption) dX3_search_41 ?_
              refine eg_aload_n dX3_search_44 rfl rfl ?_
              refine eg_getR gf_RX3_9 rfl (by assumption) (by assumption) dX3_search_45 ?_
              refine eg_aload_n dX3_search_48 rfl rfl ?_
              refine eg_getR gf_RX3_13 rfl (by assumption) (by assumption) dX3_search_49 ?_
              refine eg_callV3 0 0 gk_X0_prepare gi_X0_prepare (by assumption) rfl gl_RX3_135 rfl (Nat.le_of_ble_eq_true rfl) (Nat.le_of_ble_eq_true rfl) (Nat.zero_le _) (Nat.zero_le _) (by omega) dX3_search_52 ?_
              refine sp_X0_prepare (h := b + 32) (by omega) kH kV (by omega) k2 k4 (by omega) (by omega) a1 (fun M1 h1 => ?_)
              refine eg_aload_n dX3_search_55 rfl rfl ?_
              refine eg_getR gf_RX3_40 rfl (by assumption) (by assumption) dX3_search_56 ?_
              refine eg_iload_n dX3_search_59 rfl rfl ?_
              refine eg_iload_n dX3_search_60 rfl rfl ?_
              refine eg_iload_n dX3_search_61 rfl rfl ?_
              refine eg_iconst dX3_search_62 (v := nI 1) (by decide) ?_
              refine eg_icmp_ne 70 dX3_search_63 (by decide) (fun c63 => absurd c6 c63) (fun c63 => ?_)
              refine eg_iconst dX3_search_66 (v := nI 1) (by decide) ?_
              refine eg_goto 71 dX3_search_67 (by decide) ?_
              refine eg_callV3 0 0 gk_X0_run gi_X0_run kh0 rfl gl_RX3_139 rfl (Nat.le_of_ble_eq_true rfl) (Nat.le_of_ble_eq_true rfl) (Nat.zero_le _) (Nat.zero_le _) (by omega) dX3_search_71 ?_
              refine sp_X0_run (w := w) (n := n) (k := k) (co := co) (tg := tg) (al := true) (V := sv w n k cf op lf rt) kH (by omega) (by omega) (by omega) rfl rfl rfl h1.1 (fun u s z1 z2 => by rw [h1.2.1 u s z1 z2]; exact a2 u s (by omega) z2) (fun o ho => ⟨by rw [h1.2.2.1 o ho]; exact a3 o ho, co9 o ho⟩) (fun s z => by rw [h1.2.2.2.1 s (by omega)]; exact a4 s (by omega)) (fun v M2 y1 y2 y3 hE e8 e9 e10 e11 e27 e28 => ?_) (fun y1 M2 hE e8 e9 e10 e11 e27 => ?_)
              · have eg : lst (fun u => ∀ s, s < 2 ^ (w * n) → sv w n k cf op lf rt u s = tg s) (n + k) 0 = some v := lst_some (by omega) (by omega) y3 (fun u _ h2 q => by
                  obtain ⟨s, u1, u2⟩ := y2 u h2
                  exact u2 (q s u1))
                rw [eg] at hQ
                replace hQ : ∀ M', ci_U M' b w n k cf co tg len op lf rt res true 0 ((fun _ => 0)) ((fun _ => 0)) ((fun _ => 0)) v 0 0 1 0 → ci_E M M' b → Q (some (.int (0))) G M' := hQ
                refine eg_istore dX3_search_74 (by decide) rfl ?_
                refine eg_iload dX3_search_76 rfl ?_
                refine eg_if_lt 100 dX3_search_78 (by decide) (fun z => absurd z (nI_pos (by omega))) (fun _ => ?_)
                refine eg_aload_n dX3_search_81 rfl rfl ?_
                refine eg_getR gf_RX3_30 rfl k0 k7 dX3_search_82 ?_
                refine eg_aload_n dX3_search_85 rfl rfl ?_
                refine eg_getR gf_RX3_40 rfl k0 k10 dX3_search_86 ?_
                refine eg_getR gf_RX3_143 rfl kh0 hh4 dX3_search_89 ?_
                refine eg_callV1 0 0 gk_X1_copyFrom gi_X1_copyFrom gf0 rfl gl_RX3_146 rfl (Nat.le_of_ble_eq_true rfl) (Nat.le_of_ble_eq_true rfl) (Nat.zero_le _) (Nat.zero_le _) (by omega) dX3_search_92 ?_
                refine sp_X1_copyFrom (len := 0) (by omega) kF hhF (by omega) (by omega) (by exact e27) (fun M3 h3 => ?_)
                obtain ⟨m3, m4, ma, mf⟩ := h3
                refine eg_aload_n dX3_search_95 rfl rfl ?_
                refine eg_iconst dX3_search_96 (v := nI 1) (by decide) ?_
                refine eg_putI gp_RX3_52 (fun q => by cases q) rfl rfl rfl k0 dX3_search_97 ?_
                have o4 : ∀ q, q ≠ b → ¬ (b + 27 ≤ q ∧ q < b + 31) → q < b + 32 → eg_set M3 b 7 (nI 1) q = M q := fun q z1 z2 z3 => by rw [eg_set_ne z1, mf q (by omega), hE q (by omega)]; exact h1.2.2.2.2 q (by omega)
                have oh : ∀ j, eg_set M3 b 7 (nI 1) (b + 32) j = M2 (b + 32) j := fun j => by rw [eg_set_ne (by omega), mf _ (by omega)]
                refine eg_iload dX3_search_100 rfl ?_
                exact eg_iret rfl dX3_search_102 (hQ _ (⟨a1.eq (by rw [o4 _ (by omega) (by omega) (by omega)]), fun u s q1 q2 => by rw [o4 _ (by omega) (by omega) (by omega)]; exact a2 u s q1 q2, fun o ho => by rw [o4 _ (by omega) (by omega) (by omega)]; exact a3 o ho, fun s q => by rw [o4 _ (by omega) (by omega) (by omega)]; exact a4 s q, a5.eq (fun q q1 q2 => by rw [o4 _ (by omega) (by omega) (by omega)]), by rw [eg_set_eq]; rfl, fun _ => ⟨by rw [eg_set_ne (by omega)]; exact m3, by rw [eg_set_ne (by omega), m4]; exact e28, by omega, fun j hj => absurd hj (by omega)⟩, by rw [oh]; exact e8, by rw [oh]; exact e9, by rw [oh]; exact e10, by rw [oh]; exact e11⟩) (fun q z => by rw [eg_set_ne (by omega), mf q (by omega), hE q (by omega)]; exact h1.2.2.2.2 q (by omega)))
              · have eg : lst (fun u => ∀ s, s < 2 ^ (w * n) → sv w n k cf op lf rt u s = tg s) (n + k) 0 = none := lst_none (fun u _ h2 q => by
                  obtain ⟨s, u1, u2⟩ := y1 u (by omega)
                  exact u2 (q s u1))
                rw [eg] at hQ
                have hle := ss_rds_le (w := w) (A := 2 ^ (w * n)) (g := n + k) (co := co) (tg := tg) (L := Y) (al := true) (V := sv w n k cf op lf rt) X 0 ss_0
                replace hQ : ∀ M', ci_I M' b ((w, n, k), cf, co, tg, (len, op, lf, rt, res), (if (ss_rds w (2 ^ (w * n)) (n + k) co tg Y true (sv w n k cf op lf rt) X 0 ss_0).1.2.2.1 = true ∨ (ss_rds w (2 ^ (w * n)) (n + k) co tg Y true (sv w n k cf op lf rt) X 0 ss_0).1.2.1 = 0 then (fnd, flen, fop, flf, frt, fres) else (true, (ss_rds w (2 ^ (w * n)) (n + k) co tg Y true (sv w n k cf op lf rt) X 0 ss_0).1.2.2.2.1, (ss_rds w (2 ^ (w * n)) (n + k) co tg Y true (sv w n k cf op lf rt) X 0 ss_0).1.2.2.2.2.1, (ss_rds w (2 ^ (w * n)) (n + k) co tg Y true (sv w n k cf op lf rt) X 0 ss_0).1.2.2.2.2.2.1, (ss_rds w (2 ^ (w * n)) (n + k) co tg Y true (sv w n k cf op lf rt) X 0 ss_0).1.2.2.2.2.2.2, n + k + (ss_rds w (2 ^ (w * n)) (n + k) co tg Y true (sv w n k cf op lf rt) X 0 ss_0).1.2.2.2.1 - 1)), (nI (ss_rds w (2 ^ (w * n)) (n + k) co tg Y true (sv w n k cf op lf rt) X 0 ss_0).1.1, nI (ss_rds w (2 ^ (w * n)) (n + k) co tg Y true (sv w n k cf op lf rt) X 0 ss_0).2, nI (ss_rds w (2 ^ (w * n)) (n + k) co tg Y true (sv w n k cf op lf rt) X 0 ss_0).1.2.1, ss_ans (ss_rds w (2 ^ (w * n)) (n + k) co tg Y true (sv w n k cf op lf rt) X 0 ss_0))) → ci_E M M' b → Q (some (.int (ss_ans (ss_rds w (2 ^ (w * n)) (n + k) co tg Y true (sv w n k cf op lf rt) X 0 ss_0)))) G M' := hQ
                generalize ss_rds w (2 ^ (w * n)) (n + k) co tg Y true (sv w n k cf op lf rt) X 0 ss_0 = qq at hQ e8 e9 e10 e11 e27 hle ⊢
                obtain ⟨⟨tt, hh, sp, fl2, fo2, fa2, fb2⟩, rd⟩ := qq
                replace hle : rd ≤ 0 + X := hle
                have oM : ∀ q, ¬ (b + 32 ≤ q ∧ q < b + 63) → M2 q = M q := fun q z => by rw [hE q (by omega)]; exact h1.2.2.2.2 q (by omega)
                by_cases hns : sp = true ∨ hh = 0
                · have ean : ss_ans ((tt, hh, sp, fl2, fo2, fa2, fb2), rd) < 0 := by
                    unfold ss_ans
                    dsimp only
                    by_cases h1 : sp = true
                    · rw [if_pos h1]; decide
                    · rw [if_neg h1, if_pos (hns.elim (fun z => absurd z h1) id)]; decide
                  rw [show (if ((tt, hh, sp, fl2, fo2, fa2, fb2), rd).1.2.2.1 = true ∨ ((tt, hh, sp, fl2, fo2, fa2, fb2), rd).1.2.1 = 0 then (fnd, flen, fop, flf, frt, fres) else _) = (fnd, flen, fop, flf, frt, fres) from if_pos hns] at hQ
                  generalize ss_ans ((tt, hh, sp, fl2, fo2, fa2, fb2), rd) = an at ean e11 hQ ⊢
                  replace hQ : ∀ M', ci_U M' b w n k cf co tg len op lf rt res fnd flen fop flf frt fres (nI tt) (nI rd) (nI hh) an → ci_E M M' b → Q (some (.int (an))) G M' := hQ
                  refine eg_istore dX3_search_74 (by decide) rfl ?_
                  refine eg_iload dX3_search_76 rfl ?_
                  refine eg_if_lt 100 dX3_search_78 (by decide) (fun _ => ?_) (fun z => absurd ean z)
                  refine eg_iload dX3_search_100 rfl ?_
                  exact eg_iret rfl dX3_search_102 (hQ M2 (⟨a1.eq (by rw [oM _ (by omega)]), fun u s q1 q2 => by rw [oM _ (by omega)]; exact a2 u s q1 q2, fun o ho => by rw [oM _ (by omega)]; exact a3 o ho, fun s q => by rw [oM _ (by omega)]; exact a4 s q, a5.eq (fun q q1 q2 => by rw [oM _ (by omega)]), by rw [oM _ (by omega)]; exact a6, fun q => (a7 q).eq (fun q q1 q2 => by rw [oM _ (by omega)]), e8, e9, e10, e11⟩) (fun q z => oM q (by omega)))
                · have ean : ss_ans ((tt, hh, sp, fl2, fo2, fa2, fb2), rd) = nI rd := by
                    unfold ss_ans
                    dsimp only
                    rw [if_neg (fun z => hns (Or.inl z)), if_neg (fun z => hns (Or.inr z))]
                  rw [show (if ((tt, hh, sp, fl2, fo2, fa2, fb2), rd).1.2.2.1 = true ∨ ((tt, hh, sp, fl2, fo2, fa2, fb2), rd).1.2.1 = 0 then (fnd, flen, fop, flf, frt, fres) else (true, fl2, fo2, fa2, fb2, n + k + fl2 - 1)) = (true, fl2, fo2, fa2, fb2, n + k + fl2 - 1) from if_neg hns] at hQ
                  rw [ean] at e11 hQ ⊢
                  replace hQ : ∀ M', ci_U M' b w n k cf co tg len op lf rt res true fl2 fo2 fa2 fb2 (n + k + fl2 - 1) (nI tt) (nI rd) (nI hh) (nI rd) → ci_E M M' b → Q (some (.int (nI rd))) G M' := hQ
                  have e27 : in_R M2 (b + 32 + 27) fl2 fo2 fa2 fb2 (n + k + fl2 - 1) := e27 hns
                  refine eg_istore dX3_search_74 (by decide) rfl ?_
                  refine eg_iload dX3_search_76 rfl ?_
                  refine eg_if_lt 100 dX3_search_78 (by decide) (fun z => absurd z (nI_pos (by omega))) (fun _ => ?_)
                  refine eg_aload_n dX3_search_81 rfl rfl ?_
                  refine eg_getR gf_RX3_30 rfl k0 k7 dX3_search_82 ?_
                  refine eg_aload_n dX3_search_85 rfl rfl ?_
                  refine eg_getR gf_RX3_40 rfl k0 k10 dX3_search_86 ?_
                  refine eg_getR gf_RX3_143 rfl kh0 hh4 dX3_search_89 ?_
                  refine eg_callV1 0 0 gk_X1_copyFrom gi_X1_copyFrom gf0 rfl gl_RX3_146 rfl (Nat.le_of_ble_eq_true rfl) (Nat.le_of_ble_eq_true rfl) (Nat.zero_le _) (Nat.zero_le _) (by omega) dX3_search_92 ?_
                  refine sp_X1_copyFrom (len := fl2) (by omega) kF hhF (by omega) (by exact e27.2.2.1) (by exact e27.1) (fun M3 h3 => ?_)
                  obtain ⟨m3, m4, ma, mf⟩ := h3
                  refine eg_aload_n dX3_search_95 rfl rfl ?_
                  refine eg_iconst dX3_search_96 (v := nI 1) (by decide) ?_
                  refine eg_putI gp_RX3_52 (fun q => by cases q) rfl rfl rfl k0 dX3_search_97 ?_
                  have o4 : ∀ q, q ≠ b → ¬ (b + 27 ≤ q ∧ q < b + 31) → q < b + 32 → eg_set M3 b 7 (nI 1) q = M q := fun q z1 z2 z3 => by rw [eg_set_ne z1, mf q (by omega), hE q (by omega)]; exact h1.2.2.2.2 q (by omega)
                  have oh : ∀ j, eg_set M3 b 7 (nI 1) (b + 32) j = M2 (b + 32) j := fun j => by rw [eg_set_ne (by omega), mf _ (by omega)]
                  refine eg_iload dX3_search_100 rfl ?_
                  exact eg_iret rfl dX3_search_102 (hQ _ (⟨a1.eq (by rw [o4 _ (by omega) (by omega) (by omega)]), fun u s q1 q2 => by rw [o4 _ (by omega) (by omega) (by omega)]; exact a2 u s q1 q2, fun o ho => by rw [o4 _ (by omega) (by omega) (by omega)]; exact a3 o ho, fun s q => by rw [o4 _ (by omega) (by omega) (by omega)]; exact a4 s q, a5.eq (fun q q1 q2 => by rw [o4 _ (by omega) (by omega) (by omega)]), by rw [eg_set_eq]; rfl, fun _ => ⟨by rw [eg_set_ne (by omega)]; exact m3, by rw [eg_set_ne (by omega), m4]; exact e27.2.1, e27.2.2.1, fun j hj => by rw [eg_set_ne (by omega), eg_set_ne (by omega), eg_set_ne (by omega), (ma j hj).1, (ma j hj).2.1, (ma j hj).2.2]; exact e27.2.2.2 j hj⟩, by rw [oh]; exact e8, by rw [oh]; exact e9, by rw [oh]; exact e10, by rw [oh]; exact e11⟩) (fun q z => by rw [eg_set_ne (by omega), mf q (by omega), hE q (by omega)]; exact h1.2.2.2.2 q (by omega)))
            · refine eg_bipush dX3_search_33 (v := -2) (by decide) ?_
              exact eg_iret rfl dX3_search_35 (by
                    have e : ap_search ((w, n, k), cf, co, tg, (len, op, lf, rt, res), (fnd, flen, fop, flf, frt, fres), t0, t1, t2, t3) x y z = (-2, ((w, n, k), cf, co, tg, (len, op, lf, rt, res), (fnd, flen, fop, flf, frt, fres), t0, t1, t2, t3)) := if_pos (Or.inr (Or.inr ⟨c5, c6⟩))
                    rw [e] at hQ
                    exact hQ M hI ci_E.rf)
        · refine eg_bipush dX3_search_21 (v := -2) (by decide) ?_
          exact eg_iret rfl dX3_search_23 (by
                have e : ap_search ((w, n, k), cf, co, tg, (len, op, lf, rt, res), (fnd, flen, fop, flf, frt, fres), t0, t1, t2, t3) x y z = (-2, ((w, n, k), cf, co, tg, (len, op, lf, rt, res), (fnd, flen, fop, flf, frt, fres), t0, t1, t2, t3)) := if_pos (by first | exact Or.inl (Or.inl c1) | exact Or.inl (Or.inr c2) | exact Or.inr (Or.inl (Or.inl c3)) | exact Or.inr (Or.inl (Or.inr (Int32.not_le.mp c4))))
                rw [e] at hQ
                exact hQ M hI ci_E.rf)
end
