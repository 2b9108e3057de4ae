section
-- ===== PART A: goes FIRST, ahead of the names: the tables' words, and 'selects' of the private methods out of them =====
/-- a private method of a class that the tables say can be made, by its rows of tables_1 -/
def lw_okq (q : MethodName × Nat) : Prop := (q.1.cls ≠ "java/lang/invoke/MethodHandle" ∧ q.1.cls ≠ "java/lang/invoke/VarHandle") ∧ Cond.instantiable q.1.cls q.2 ∈ tables_1 ∧ Cond.privateMethod q.1 ∈ tables_1 ∧ Cond.instanceMethod q.1 ∈ tables_1
theorem lw_p0 : lw_okq (⟨"ThreadWinder$State", "copyFrom", "(LThreadWinder$State;)V"⟩, 11) := ⟨⟨by decide +kernel, by decide +kernel⟩, List.mem_of_getElem? (i := 19) (by decide +kernel), List.mem_of_getElem? (i := 180) (by decide +kernel), List.mem_of_getElem? (i := 181) (by decide +kernel)⟩
theorem lw_p1 : lw_okq (⟨"ThreadWinder$Wraps", "copyFrom", "(LThreadWinder$Wraps;)V"⟩, 4) := ⟨⟨by decide +kernel, by decide +kernel⟩, List.mem_of_getElem? (i := 25) (by decide +kernel), List.mem_of_getElem? (i := 184) (by decide +kernel), List.mem_of_getElem? (i := 185) (by decide +kernel)⟩
theorem lw_p2 : lw_okq (⟨"ThreadWinder$State", "changeNumber", "(II)I"⟩, 11) := ⟨⟨by decide +kernel, by decide +kernel⟩, List.mem_of_getElem? (i := 19) (by decide +kernel), List.mem_of_getElem? (i := 192) (by decide +kernel), List.mem_of_getElem? (i := 193) (by decide +kernel)⟩
theorem lw_p3 : lw_okq (⟨"ThreadWinder", "finishAct", "(I)I"⟩, 8) := ⟨⟨by decide +kernel, by decide +kernel⟩, List.mem_of_getElem? (i := 11) (by decide +kernel), List.mem_of_getElem? (i := 209) (by decide +kernel), List.mem_of_getElem? (i := 210) (by decide +kernel)⟩
theorem lw_p4 : lw_okq (⟨"ThreadWinder$History", "remember", "(LThreadWinder$State;)V"⟩, 3) := ⟨⟨by decide +kernel, by decide +kernel⟩, List.mem_of_getElem? (i := 100) (by decide +kernel), List.mem_of_getElem? (i := 213) (by decide +kernel), List.mem_of_getElem? (i := 214) (by decide +kernel)⟩
theorem lw_p5 : lw_okq (⟨"ThreadWinder$History", "stateAt", "(I)LThreadWinder$State;"⟩, 3) := ⟨⟨by decide +kernel, by decide +kernel⟩, List.mem_of_getElem? (i := 100) (by decide +kernel), List.mem_of_getElem? (i := 217) (by decide +kernel), List.mem_of_getElem? (i := 218) (by decide +kernel)⟩
theorem lw_p6 : lw_okq (⟨"ThreadWinder$State", "turnOften", "(I)I"⟩, 11) := ⟨⟨by decide +kernel, by decide +kernel⟩, List.mem_of_getElem? (i := 19) (by decide +kernel), List.mem_of_getElem? (i := 229) (by decide +kernel), List.mem_of_getElem? (i := 230) (by decide +kernel)⟩
theorem lw_p7 : lw_okq (⟨"ThreadWinder$State", "isIdle", "()Z"⟩, 11) := ⟨⟨by decide +kernel, by decide +kernel⟩, List.mem_of_getElem? (i := 19) (by decide +kernel), List.mem_of_getElem? (i := 233) (by decide +kernel), List.mem_of_getElem? (i := 234) (by decide +kernel)⟩
theorem lw_p8 : lw_okq (⟨"ThreadWinder$State", "isConeEmpty", "()Z"⟩, 11) := ⟨⟨by decide +kernel, by decide +kernel⟩, List.mem_of_getElem? (i := 19) (by decide +kernel), List.mem_of_getElem? (i := 237) (by decide +kernel), List.mem_of_getElem? (i := 238) (by decide +kernel)⟩
theorem lw_p9 : lw_okq (⟨"ThreadWinder$Wraps", "isFull", "()Z"⟩, 4) := ⟨⟨by decide +kernel, by decide +kernel⟩, List.mem_of_getElem? (i := 25) (by decide +kernel), List.mem_of_getElem? (i := 241) (by decide +kernel), List.mem_of_getElem? (i := 242) (by decide +kernel)⟩
theorem lw_p10 : lw_okq (⟨"ThreadWinder$State", "turnOnce", "()V"⟩, 11) := ⟨⟨by decide +kernel, by decide +kernel⟩, List.mem_of_getElem? (i := 19) (by decide +kernel), List.mem_of_getElem? (i := 245) (by decide +kernel), List.mem_of_getElem? (i := 246) (by decide +kernel)⟩
theorem lw_p11 : lw_okq (⟨"ThreadWinder$Wraps", "guidePlace", "()I"⟩, 4) := ⟨⟨by decide +kernel, by decide +kernel⟩, List.mem_of_getElem? (i := 25) (by decide +kernel), List.mem_of_getElem? (i := 249) (by decide +kernel), List.mem_of_getElem? (i := 250) (by decide +kernel)⟩
theorem lw_p12 : lw_okq (⟨"ThreadWinder$Wraps", "heightAt", "(I)I"⟩, 4) := ⟨⟨by decide +kernel, by decide +kernel⟩, List.mem_of_getElem? (i := 25) (by decide +kernel), List.mem_of_getElem? (i := 253) (by decide +kernel), List.mem_of_getElem? (i := 254) (by decide +kernel)⟩
theorem lw_p13 : lw_okq (⟨"ThreadWinder$Wraps", "layWrap", "()V"⟩, 4) := ⟨⟨by decide +kernel, by decide +kernel⟩, List.mem_of_getElem? (i := 25) (by decide +kernel), List.mem_of_getElem? (i := 257) (by decide +kernel), List.mem_of_getElem? (i := 258) (by decide +kernel)⟩
theorem lw_p14 : lw_okq (⟨"ThreadWinder$State", "tensionAt", "(I)I"⟩, 11) := ⟨⟨by decide +kernel, by decide +kernel⟩, List.mem_of_getElem? (i := 19) (by decide +kernel), List.mem_of_getElem? (i := 265) (by decide +kernel), List.mem_of_getElem? (i := 266) (by decide +kernel)⟩
theorem lw_p15 : lw_okq (⟨"ThreadWinder$State", "number", "(I)I"⟩, 11) := ⟨⟨by decide +kernel, by decide +kernel⟩, List.mem_of_getElem? (i := 19) (by decide +kernel), List.mem_of_getElem? (i := 269) (by decide +kernel), List.mem_of_getElem? (i := 270) (by decide +kernel)⟩
def lw_privs_1 : List (MethodName × Nat) := [(⟨"ThreadWinder$State", "copyFrom", "(LThreadWinder$State;)V"⟩, 11), (⟨"ThreadWinder$Wraps", "copyFrom", "(LThreadWinder$Wraps;)V"⟩, 4), (⟨"ThreadWinder$State", "changeNumber", "(II)I"⟩, 11), (⟨"ThreadWinder", "finishAct", "(I)I"⟩, 8), (⟨"ThreadWinder$History", "remember", "(LThreadWinder$State;)V"⟩, 3), (⟨"ThreadWinder$History", "stateAt", "(I)LThreadWinder$State;"⟩, 3), (⟨"ThreadWinder$State", "turnOften", "(I)I"⟩, 11), (⟨"ThreadWinder$State", "isIdle", "()Z"⟩, 11), (⟨"ThreadWinder$State", "isConeEmpty", "()Z"⟩, 11), (⟨"ThreadWinder$Wraps", "isFull", "()Z"⟩, 4), (⟨"ThreadWinder$State", "turnOnce", "()V"⟩, 11), (⟨"ThreadWinder$Wraps", "guidePlace", "()I"⟩, 4), (⟨"ThreadWinder$Wraps", "heightAt", "(I)I"⟩, 4), (⟨"ThreadWinder$Wraps", "layWrap", "()V"⟩, 4), (⟨"ThreadWinder$State", "tensionAt", "(I)I"⟩, 11), (⟨"ThreadWinder$State", "number", "(I)I"⟩, 11)]
theorem lw_r1 : ∀ q ∈ lw_privs_1, lw_okq q := List.forall_mem_cons.mpr ⟨lw_p0, List.forall_mem_cons.mpr ⟨lw_p1, List.forall_mem_cons.mpr ⟨lw_p2, List.forall_mem_cons.mpr ⟨lw_p3, List.forall_mem_cons.mpr ⟨lw_p4, List.forall_mem_cons.mpr ⟨lw_p5, List.forall_mem_cons.mpr ⟨lw_p6, List.forall_mem_cons.mpr ⟨lw_p7, List.forall_mem_cons.mpr ⟨lw_p8, List.forall_mem_cons.mpr ⟨lw_p9, List.forall_mem_cons.mpr ⟨lw_p10, List.forall_mem_cons.mpr ⟨lw_p11, List.forall_mem_cons.mpr ⟨lw_p12, List.forall_mem_cons.mpr ⟨lw_p13, List.forall_mem_cons.mpr ⟨lw_p14, List.forall_mem_cons.mpr ⟨lw_p15, fun _ h => absurd h List.not_mem_nil⟩⟩⟩⟩⟩⟩⟩⟩⟩⟩⟩⟩⟩⟩⟩⟩
theorem lw_p16 : lw_okq (⟨"ThreadWinder$State", "warmDiscs", "()V"⟩, 11) := ⟨⟨by decide +kernel, by decide +kernel⟩, List.mem_of_getElem? (i := 19) (by decide +kernel), List.mem_of_getElem? (i := 276) (by decide +kernel), List.mem_of_getElem? (i := 277) (by decide +kernel)⟩
theorem lw_p17 : lw_okq (⟨"ThreadWinder$Wraps", "moveGuide", "(III)V"⟩, 4) := ⟨⟨by decide +kernel, by decide +kernel⟩, List.mem_of_getElem? (i := 25) (by decide +kernel), List.mem_of_getElem? (i := 282) (by decide +kernel), List.mem_of_getElem? (i := 283) (by decide +kernel)⟩
theorem lw_p18 : lw_okq (⟨"ThreadWinder$State", "tieKnot", "()I"⟩, 11) := ⟨⟨by decide +kernel, by decide +kernel⟩, List.mem_of_getElem? (i := 19) (by decide +kernel), List.mem_of_getElem? (i := 293) (by decide +kernel), List.mem_of_getElem? (i := 294) (by decide +kernel)⟩
theorem lw_p19 : lw_okq (⟨"ThreadWinder$State", "changeCone", "(I)I"⟩, 11) := ⟨⟨by decide +kernel, by decide +kernel⟩, List.mem_of_getElem? (i := 19) (by decide +kernel), List.mem_of_getElem? (i := 301) (by decide +kernel), List.mem_of_getElem? (i := 302) (by decide +kernel)⟩
theorem lw_p20 : lw_okq (⟨"ThreadWinder$State", "takePackageOff", "()I"⟩, 11) := ⟨⟨by decide +kernel, by decide +kernel⟩, List.mem_of_getElem? (i := 19) (by decide +kernel), List.mem_of_getElem? (i := 309) (by decide +kernel), List.mem_of_getElem? (i := 310) (by decide +kernel)⟩
theorem lw_p21 : lw_okq (⟨"ThreadWinder$Wraps", "clear", "()V"⟩, 4) := ⟨⟨by decide +kernel, by decide +kernel⟩, List.mem_of_getElem? (i := 25) (by decide +kernel), List.mem_of_getElem? (i := 313) (by decide +kernel), List.mem_of_getElem? (i := 314) (by decide +kernel)⟩
theorem lw_p22 : lw_okq (⟨"ThreadWinder$CommandText", "append", "(C)I"⟩, 7) := ⟨⟨by decide +kernel, by decide +kernel⟩, List.mem_of_getElem? (i := 120) (by decide +kernel), List.mem_of_getElem? (i := 325) (by decide +kernel), List.mem_of_getElem? (i := 326) (by decide +kernel)⟩
theorem lw_p23 : lw_okq (⟨"ThreadWinder$CommandText", "empty", "()I"⟩, 7) := ⟨⟨by decide +kernel, by decide +kernel⟩, List.mem_of_getElem? (i := 120) (by decide +kernel), List.mem_of_getElem? (i := 333) (by decide +kernel), List.mem_of_getElem? (i := 334) (by decide +kernel)⟩
theorem lw_p24 : lw_okq (⟨"ThreadWinder$CommandText", "read", "()I"⟩, 7) := ⟨⟨by decide +kernel, by decide +kernel⟩, List.mem_of_getElem? (i := 120) (by decide +kernel), List.mem_of_getElem? (i := 341) (by decide +kernel), List.mem_of_getElem? (i := 342) (by decide +kernel)⟩
theorem lw_p25 : lw_okq (⟨"ThreadWinder$CommandText", "takes", "(C)Z"⟩, 7) := ⟨⟨by decide +kernel, by decide +kernel⟩, List.mem_of_getElem? (i := 120) (by decide +kernel), List.mem_of_getElem? (i := 345) (by decide +kernel), List.mem_of_getElem? (i := 346) (by decide +kernel)⟩
theorem lw_p26 : lw_okq (⟨"ThreadWinder$CommandText", "isComplete", "()Z"⟩, 7) := ⟨⟨by decide +kernel, by decide +kernel⟩, List.mem_of_getElem? (i := 120) (by decide +kernel), List.mem_of_getElem? (i := 352) (by decide +kernel), List.mem_of_getElem? (i := 353) (by decide +kernel)⟩
theorem lw_p27 : lw_okq (⟨"ThreadWinder$CommandText", "addCommand", "()V"⟩, 7) := ⟨⟨by decide +kernel, by decide +kernel⟩, List.mem_of_getElem? (i := 120) (by decide +kernel), List.mem_of_getElem? (i := 357) (by decide +kernel), List.mem_of_getElem? (i := 358) (by decide +kernel)⟩
theorem lw_p28 : lw_okq (⟨"ThreadWinder$CommandText", "takesDigit", "(I)Z"⟩, 7) := ⟨⟨by decide +kernel, by decide +kernel⟩, List.mem_of_getElem? (i := 120) (by decide +kernel), List.mem_of_getElem? (i := 361) (by decide +kernel), List.mem_of_getElem? (i := 362) (by decide +kernel)⟩
theorem lw_p29 : lw_okq (⟨"ThreadWinder$CommandText", "commandAt", "(I)I"⟩, 7) := ⟨⟨by decide +kernel, by decide +kernel⟩, List.mem_of_getElem? (i := 120) (by decide +kernel), List.mem_of_getElem? (i := 366) (by decide +kernel), List.mem_of_getElem? (i := 367) (by decide +kernel)⟩
theorem lw_p30 : lw_okq (⟨"ThreadWinder$CommandText", "valueAt", "(I)I"⟩, 7) := ⟨⟨by decide +kernel, by decide +kernel⟩, List.mem_of_getElem? (i := 120) (by decide +kernel), List.mem_of_getElem? (i := 370) (by decide +kernel), List.mem_of_getElem? (i := 371) (by decide +kernel)⟩
theorem lw_p31 : lw_okq (⟨"ThreadWinder$State", "obey", "(II)I"⟩, 11) := ⟨⟨by decide +kernel, by decide +kernel⟩, List.mem_of_getElem? (i := 19) (by decide +kernel), List.mem_of_getElem? (i := 374) (by decide +kernel), List.mem_of_getElem? (i := 375) (by decide +kernel)⟩
def lw_privs_2 : List (MethodName × Nat) := [(⟨"ThreadWinder$State", "warmDiscs", "()V"⟩, 11), (⟨"ThreadWinder$Wraps", "moveGuide", "(III)V"⟩, 4), (⟨"ThreadWinder$State", "tieKnot", "()I"⟩, 11), (⟨"ThreadWinder$State", "changeCone", "(I)I"⟩, 11), (⟨"ThreadWinder$State", "takePackageOff", "()I"⟩, 11), (⟨"ThreadWinder$Wraps", "clear", "()V"⟩, 4), (⟨"ThreadWinder$CommandText", "append", "(C)I"⟩, 7), (⟨"ThreadWinder$CommandText", "empty", "()I"⟩, 7), (⟨"ThreadWinder$CommandText", "read", "()I"⟩, 7), (⟨"ThreadWinder$CommandText", "takes", "(C)Z"⟩, 7), (⟨"ThreadWinder$CommandText", "isComplete", "()Z"⟩, 7), (⟨"ThreadWinder$CommandText", "addCommand", "()V"⟩, 7), (⟨"ThreadWinder$CommandText", "takesDigit", "(I)Z"⟩, 7), (⟨"ThreadWinder$CommandText", "commandAt", "(I)I"⟩, 7), (⟨"ThreadWinder$CommandText", "valueAt", "(I)I"⟩, 7), (⟨"ThreadWinder$State", "obey", "(II)I"⟩, 11)]
theorem lw_r2 : ∀ q ∈ lw_privs_2, lw_okq q := List.forall_mem_cons.mpr ⟨lw_p16, List.forall_mem_cons.mpr ⟨lw_p17, List.forall_mem_cons.mpr ⟨lw_p18, List.forall_mem_cons.mpr ⟨lw_p19, List.forall_mem_cons.mpr ⟨lw_p20, List.forall_mem_cons.mpr ⟨lw_p21, List.forall_mem_cons.mpr ⟨lw_p22, List.forall_mem_cons.mpr ⟨lw_p23, List.forall_mem_cons.mpr ⟨lw_p24, List.forall_mem_cons.mpr ⟨lw_p25, List.forall_mem_cons.mpr ⟨lw_p26, List.forall_mem_cons.mpr ⟨lw_p27, List.forall_mem_cons.mpr ⟨lw_p28, List.forall_mem_cons.mpr ⟨lw_p29, List.forall_mem_cons.mpr ⟨lw_p30, List.forall_mem_cons.mpr ⟨lw_p31, fun _ h => absurd h List.not_mem_nil⟩⟩⟩⟩⟩⟩⟩⟩⟩⟩⟩⟩⟩⟩⟩⟩
theorem lw_p32 : lw_okq (⟨"ThreadWinder$History", "takeLatest", "(LThreadWinder$State;)I"⟩, 3) := ⟨⟨by decide +kernel, by decide +kernel⟩, List.mem_of_getElem? (i := 100) (by decide +kernel), List.mem_of_getElem? (i := 390) (by decide +kernel), List.mem_of_getElem? (i := 391) (by decide +kernel)⟩
theorem lw_p33 : lw_okq (⟨"ThreadWinder$State", "knotsAt", "(I)I"⟩, 11) := ⟨⟨by decide +kernel, by decide +kernel⟩, List.mem_of_getElem? (i := 19) (by decide +kernel), List.mem_of_getElem? (i := 407) (by decide +kernel), List.mem_of_getElem? (i := 408) (by decide +kernel)⟩
theorem lw_p34 : lw_okq (⟨"ThreadWinder$Wraps", "isRibbon", "(I)Z"⟩, 4) := ⟨⟨by decide +kernel, by decide +kernel⟩, List.mem_of_getElem? (i := 25) (by decide +kernel), List.mem_of_getElem? (i := 411) (by decide +kernel), List.mem_of_getElem? (i := 412) (by decide +kernel)⟩
theorem lw_p35 : lw_okq (⟨"ThreadWinder$Wraps", "isRibbonOver", "(II)Z"⟩, 4) := ⟨⟨by decide +kernel, by decide +kernel⟩, List.mem_of_getElem? (i := 25) (by decide +kernel), List.mem_of_getElem? (i := 415) (by decide +kernel), List.mem_of_getElem? (i := 416) (by decide +kernel)⟩
theorem lw_p36 : lw_okq (⟨"ThreadWinder$State", "isBad", "(I)Z"⟩, 11) := ⟨⟨by decide +kernel, by decide +kernel⟩, List.mem_of_getElem? (i := 19) (by decide +kernel), List.mem_of_getElem? (i := 421) (by decide +kernel), List.mem_of_getElem? (i := 422) (by decide +kernel)⟩
theorem lw_p37 : lw_okq (⟨"ThreadWinder$State", "hasBadPlace", "()Z"⟩, 11) := ⟨⟨by decide +kernel, by decide +kernel⟩, List.mem_of_getElem? (i := 19) (by decide +kernel), List.mem_of_getElem? (i := 431) (by decide +kernel), List.mem_of_getElem? (i := 432) (by decide +kernel)⟩
theorem lw_p38 : lw_okq (⟨"ThreadWinder$Wraps", "ribbons", "()I"⟩, 4) := ⟨⟨by decide +kernel, by decide +kernel⟩, List.mem_of_getElem? (i := 25) (by decide +kernel), List.mem_of_getElem? (i := 436) (by decide +kernel), List.mem_of_getElem? (i := 437) (by decide +kernel)⟩
theorem lw_p39 : lw_okq (⟨"ThreadWinder$Wraps", "evenness", "()I"⟩, 4) := ⟨⟨by decide +kernel, by decide +kernel⟩, List.mem_of_getElem? (i := 25) (by decide +kernel), List.mem_of_getElem? (i := 441) (by decide +kernel), List.mem_of_getElem? (i := 442) (by decide +kernel)⟩
theorem lw_p40 : lw_okq (⟨"ThreadWinder", "imagine", "(II)V"⟩, 8) := ⟨⟨by decide +kernel, by decide +kernel⟩, List.mem_of_getElem? (i := 11) (by decide +kernel), List.mem_of_getElem? (i := 457) (by decide +kernel), List.mem_of_getElem? (i := 458) (by decide +kernel)⟩
theorem lw_p41 : lw_okq (⟨"ThreadWinder$Wraps", "barePlaces", "()I"⟩, 4) := ⟨⟨by decide +kernel, by decide +kernel⟩, List.mem_of_getElem? (i := 25) (by decide +kernel), List.mem_of_getElem? (i := 466) (by decide +kernel), List.mem_of_getElem? (i := 467) (by decide +kernel)⟩
theorem lw_p42 : lw_okq (⟨"ThreadWinder$Wraps", "guideGoesBack", "()Z"⟩, 4) := ⟨⟨by decide +kernel, by decide +kernel⟩, List.mem_of_getElem? (i := 25) (by decide +kernel), List.mem_of_getElem? (i := 483) (by decide +kernel), List.mem_of_getElem? (i := 484) (by decide +kernel)⟩
theorem lw_p43 : lw_okq (⟨"ThreadWinder$State", "allKnots", "()I"⟩, 11) := ⟨⟨by decide +kernel, by decide +kernel⟩, List.mem_of_getElem? (i := 19) (by decide +kernel), List.mem_of_getElem? (i := 487) (by decide +kernel), List.mem_of_getElem? (i := 488) (by decide +kernel)⟩
theorem lw_p44 : lw_okq (⟨"ThreadWinderModel", "remember", "()V"⟩, 12) := ⟨⟨by decide +kernel, by decide +kernel⟩, List.mem_of_getElem? (i := 491) (by decide +kernel), List.mem_of_getElem? (i := 551) (by decide +kernel), List.mem_of_getElem? (i := 552) (by decide +kernel)⟩
theorem lw_p45 : lw_okq (⟨"ThreadWinderModel", "doSet", "(II)I"⟩, 12) := ⟨⟨by decide +kernel, by decide +kernel⟩, List.mem_of_getElem? (i := 491) (by decide +kernel), List.mem_of_getElem? (i := 558) (by decide +kernel), List.mem_of_getElem? (i := 559) (by decide +kernel)⟩
theorem lw_p46 : lw_okq (⟨"ThreadWinderModel", "acted", "(I)I"⟩, 12) := ⟨⟨by decide +kernel, by decide +kernel⟩, List.mem_of_getElem? (i := 491) (by decide +kernel), List.mem_of_getElem? (i := 562) (by decide +kernel), List.mem_of_getElem? (i := 563) (by decide +kernel)⟩
theorem lw_p47 : lw_okq (⟨"ThreadWinderModel", "doWind", "(I)I"⟩, 12) := ⟨⟨by decide +kernel, by decide +kernel⟩, List.mem_of_getElem? (i := 491) (by decide +kernel), List.mem_of_getElem? (i := 571) (by decide +kernel), List.mem_of_getElem? (i := 572) (by decide +kernel)⟩
def lw_privs_3 : List (MethodName × Nat) := [(⟨"ThreadWinder$History", "takeLatest", "(LThreadWinder$State;)I"⟩, 3), (⟨"ThreadWinder$State", "knotsAt", "(I)I"⟩, 11), (⟨"ThreadWinder$Wraps", "isRibbon", "(I)Z"⟩, 4), (⟨"ThreadWinder$Wraps", "isRibbonOver", "(II)Z"⟩, 4), (⟨"ThreadWinder$State", "isBad", "(I)Z"⟩, 11), (⟨"ThreadWinder$State", "hasBadPlace", "()Z"⟩, 11), (⟨"ThreadWinder$Wraps", "ribbons", "()I"⟩, 4), (⟨"ThreadWinder$Wraps", "evenness", "()I"⟩, 4), (⟨"ThreadWinder", "imagine", "(II)V"⟩, 8), (⟨"ThreadWinder$Wraps", "barePlaces", "()I"⟩, 4), (⟨"ThreadWinder$Wraps", "guideGoesBack", "()Z"⟩, 4), (⟨"ThreadWinder$State", "allKnots", "()I"⟩, 11), (⟨"ThreadWinderModel", "remember", "()V"⟩, 12), (⟨"ThreadWinderModel", "doSet", "(II)I"⟩, 12), (⟨"ThreadWinderModel", "acted", "(I)I"⟩, 12), (⟨"ThreadWinderModel", "doWind", "(I)I"⟩, 12)]
theorem lw_r3 : ∀ q ∈ lw_privs_3, lw_okq q := List.forall_mem_cons.mpr ⟨lw_p32, List.forall_mem_cons.mpr ⟨lw_p33, List.forall_mem_cons.mpr ⟨lw_p34, List.forall_mem_cons.mpr ⟨lw_p35, List.forall_mem_cons.mpr ⟨lw_p36, List.forall_mem_cons.mpr ⟨lw_p37, List.forall_mem_cons.mpr ⟨lw_p38, List.forall_mem_cons.mpr ⟨lw_p39, List.forall_mem_cons.mpr ⟨lw_p40, List.forall_mem_cons.mpr ⟨lw_p41, List.forall_mem_cons.mpr ⟨lw_p42, List.forall_mem_cons.mpr ⟨lw_p43, List.forall_mem_cons.mpr ⟨lw_p44, List.forall_mem_cons.mpr ⟨lw_p45, List.forall_mem_cons.mpr ⟨lw_p46, List.forall_mem_cons.mpr ⟨lw_p47, fun _ h => absurd h List.not_mem_nil⟩⟩⟩⟩⟩⟩⟩⟩⟩⟩⟩⟩⟩⟩⟩⟩
theorem lw_p48 : lw_okq (⟨"ThreadWinderModel", "isIdle", "()Z"⟩, 12) := ⟨⟨by decide +kernel, by decide +kernel⟩, List.mem_of_getElem? (i := 491) (by decide +kernel), List.mem_of_getElem? (i := 575) (by decide +kernel), List.mem_of_getElem? (i := 576) (by decide +kernel)⟩
theorem lw_p49 : lw_okq (⟨"ThreadWinderModel", "isFull", "()Z"⟩, 12) := ⟨⟨by decide +kernel, by decide +kernel⟩, List.mem_of_getElem? (i := 491) (by decide +kernel), List.mem_of_getElem? (i := 579) (by decide +kernel), List.mem_of_getElem? (i := 580) (by decide +kernel)⟩
theorem lw_p50 : lw_okq (⟨"ThreadWinderModel", "greatest", "()I"⟩, 12) := ⟨⟨by decide +kernel, by decide +kernel⟩, List.mem_of_getElem? (i := 491) (by decide +kernel), List.mem_of_getElem? (i := 583) (by decide +kernel), List.mem_of_getElem? (i := 584) (by decide +kernel)⟩
theorem lw_p51 : lw_okq (⟨"ThreadWinderModel", "turns", "()Z"⟩, 12) := ⟨⟨by decide +kernel, by decide +kernel⟩, List.mem_of_getElem? (i := 491) (by decide +kernel), List.mem_of_getElem? (i := 587) (by decide +kernel), List.mem_of_getElem? (i := 588) (by decide +kernel)⟩
theorem lw_p52 : lw_okq (⟨"ThreadWinderModel", "place", "()I"⟩, 12) := ⟨⟨by decide +kernel, by decide +kernel⟩, List.mem_of_getElem? (i := 491) (by decide +kernel), List.mem_of_getElem? (i := 591) (by decide +kernel), List.mem_of_getElem? (i := 592) (by decide +kernel)⟩
theorem lw_p53 : lw_okq (⟨"ThreadWinderModel", "pulls", "()V"⟩, 12) := ⟨⟨by decide +kernel, by decide +kernel⟩, List.mem_of_getElem? (i := 491) (by decide +kernel), List.mem_of_getElem? (i := 598) (by decide +kernel), List.mem_of_getElem? (i := 599) (by decide +kernel)⟩
theorem lw_p54 : lw_okq (⟨"ThreadWinderModel", "guideGoes", "()V"⟩, 12) := ⟨⟨by decide +kernel, by decide +kernel⟩, List.mem_of_getElem? (i := 491) (by decide +kernel), List.mem_of_getElem? (i := 602) (by decide +kernel), List.mem_of_getElem? (i := 603) (by decide +kernel)⟩
theorem lw_p55 : lw_okq (⟨"ThreadWinderModel", "doKnot", "()I"⟩, 12) := ⟨⟨by decide +kernel, by decide +kernel⟩, List.mem_of_getElem? (i := 491) (by decide +kernel), List.mem_of_getElem? (i := 610) (by decide +kernel), List.mem_of_getElem? (i := 611) (by decide +kernel)⟩
theorem lw_p56 : lw_okq (⟨"ThreadWinderModel", "doCone", "(I)I"⟩, 12) := ⟨⟨by decide +kernel, by decide +kernel⟩, List.mem_of_getElem? (i := 491) (by decide +kernel), List.mem_of_getElem? (i := 619) (by decide +kernel), List.mem_of_getElem? (i := 620) (by decide +kernel)⟩
theorem lw_p57 : lw_okq (⟨"ThreadWinderModel", "wraps", "()I"⟩, 12) := ⟨⟨by decide +kernel, by decide +kernel⟩, List.mem_of_getElem? (i := 491) (by decide +kernel), List.mem_of_getElem? (i := 627) (by decide +kernel), List.mem_of_getElem? (i := 628) (by decide +kernel)⟩
theorem lw_p58 : lw_okq (⟨"ThreadWinderModel", "fault", "()I"⟩, 12) := ⟨⟨by decide +kernel, by decide +kernel⟩, List.mem_of_getElem? (i := 491) (by decide +kernel), List.mem_of_getElem? (i := 644) (by decide +kernel), List.mem_of_getElem? (i := 645) (by decide +kernel)⟩
theorem lw_p59 : lw_okq (⟨"ThreadWinderModel", "command", "(Z)I"⟩, 12) := ⟨⟨by decide +kernel, by decide +kernel⟩, List.mem_of_getElem? (i := 491) (by decide +kernel), List.mem_of_getElem? (i := 648) (by decide +kernel), List.mem_of_getElem? (i := 649) (by decide +kernel)⟩
theorem lw_p60 : lw_okq (⟨"ThreadWinderModel", "takes", "(I)Z"⟩, 12) := ⟨⟨by decide +kernel, by decide +kernel⟩, List.mem_of_getElem? (i := 491) (by decide +kernel), List.mem_of_getElem? (i := 652) (by decide +kernel), List.mem_of_getElem? (i := 653) (by decide +kernel)⟩
theorem lw_p61 : lw_okq (⟨"ThreadWinderModel", "isHere", "(II)Z"⟩, 12) := ⟨⟨by decide +kernel, by decide +kernel⟩, List.mem_of_getElem? (i := 491) (by decide +kernel), List.mem_of_getElem? (i := 656) (by decide +kernel), List.mem_of_getElem? (i := 657) (by decide +kernel)⟩
theorem lw_p62 : lw_okq (⟨"ThreadWinderModel", "readsNumber", "(II)Z"⟩, 12) := ⟨⟨by decide +kernel, by decide +kernel⟩, List.mem_of_getElem? (i := 491) (by decide +kernel), List.mem_of_getElem? (i := 660) (by decide +kernel), List.mem_of_getElem? (i := 661) (by decide +kernel)⟩
theorem lw_p63 : lw_okq (⟨"ThreadWinderModel", "isRibbon", "(I)Z"⟩, 12) := ⟨⟨by decide +kernel, by decide +kernel⟩, List.mem_of_getElem? (i := 491) (by decide +kernel), List.mem_of_getElem? (i := 687) (by decide +kernel), List.mem_of_getElem? (i := 688) (by decide +kernel)⟩
def lw_privs_4 : List (MethodName × Nat) := [(⟨"ThreadWinderModel", "isIdle", "()Z"⟩, 12), (⟨"ThreadWinderModel", "isFull", "()Z"⟩, 12), (⟨"ThreadWinderModel", "greatest", "()I"⟩, 12), (⟨"ThreadWinderModel", "turns", "()Z"⟩, 12), (⟨"ThreadWinderModel", "place", "()I"⟩, 12), (⟨"ThreadWinderModel", "pulls", "()V"⟩, 12), (⟨"ThreadWinderModel", "guideGoes", "()V"⟩, 12), (⟨"ThreadWinderModel", "doKnot", "()I"⟩, 12), (⟨"ThreadWinderModel", "doCone", "(I)I"⟩, 12), (⟨"ThreadWinderModel", "wraps", "()I"⟩, 12), (⟨"ThreadWinderModel", "fault", "()I"⟩, 12), (⟨"ThreadWinderModel", "command", "(Z)I"⟩, 12), (⟨"ThreadWinderModel", "takes", "(I)Z"⟩, 12), (⟨"ThreadWinderModel", "isHere", "(II)Z"⟩, 12), (⟨"ThreadWinderModel", "readsNumber", "(II)Z"⟩, 12), (⟨"ThreadWinderModel", "isRibbon", "(I)Z"⟩, 12)]
theorem lw_r4 : ∀ q ∈ lw_privs_4, lw_okq q := List.forall_mem_cons.mpr ⟨lw_p48, List.forall_mem_cons.mpr ⟨lw_p49, List.forall_mem_cons.mpr ⟨lw_p50, List.forall_mem_cons.mpr ⟨lw_p51, List.forall_mem_cons.mpr ⟨lw_p52, List.forall_mem_cons.mpr ⟨lw_p53, List.forall_mem_cons.mpr ⟨lw_p54, List.forall_mem_cons.mpr ⟨lw_p55, List.forall_mem_cons.mpr ⟨lw_p56, List.forall_mem_cons.mpr ⟨lw_p57, List.forall_mem_cons.mpr ⟨lw_p58, List.forall_mem_cons.mpr ⟨lw_p59, List.forall_mem_cons.mpr ⟨lw_p60, List.forall_mem_cons.mpr ⟨lw_p61, List.forall_mem_cons.mpr ⟨lw_p62, List.forall_mem_cons.mpr ⟨lw_p63, fun _ h => absurd h List.not_mem_nil⟩⟩⟩⟩⟩⟩⟩⟩⟩⟩⟩⟩⟩⟩⟩⟩
theorem lw_p64 : lw_okq (⟨"ThreadWinderModel", "isAbove", "(II)Z"⟩, 12) := ⟨⟨by decide +kernel, by decide +kernel⟩, List.mem_of_getElem? (i := 491) (by decide +kernel), List.mem_of_getElem? (i := 691) (by decide +kernel), List.mem_of_getElem? (i := 692) (by decide +kernel)⟩
theorem lw_p65 : lw_okq (⟨"ThreadWinderModel", "isBad", "(I)Z"⟩, 12) := ⟨⟨by decide +kernel, by decide +kernel⟩, List.mem_of_getElem? (i := 491) (by decide +kernel), List.mem_of_getElem? (i := 695) (by decide +kernel), List.mem_of_getElem? (i := 696) (by decide +kernel)⟩
theorem lw_p66 : lw_okq (⟨"ThreadWinderModel", "isAnyBad", "()Z"⟩, 12) := ⟨⟨by decide +kernel, by decide +kernel⟩, List.mem_of_getElem? (i := 491) (by decide +kernel), List.mem_of_getElem? (i := 703) (by decide +kernel), List.mem_of_getElem? (i := 704) (by decide +kernel)⟩
theorem lw_p67 : lw_okq (⟨"ThreadWinderModel", "ribbons", "()I"⟩, 12) := ⟨⟨by decide +kernel, by decide +kernel⟩, List.mem_of_getElem? (i := 491) (by decide +kernel), List.mem_of_getElem? (i := 707) (by decide +kernel), List.mem_of_getElem? (i := 708) (by decide +kernel)⟩
theorem lw_p68 : lw_okq (⟨"ThreadWinderModel", "evenness", "()I"⟩, 12) := ⟨⟨by decide +kernel, by decide +kernel⟩, List.mem_of_getElem? (i := 491) (by decide +kernel), List.mem_of_getElem? (i := 711) (by decide +kernel), List.mem_of_getElem? (i := 712) (by decide +kernel)⟩
theorem lw_p69 : lw_okq (⟨"ThreadWinderModel", "windsWith", "(III)I"⟩, 12) := ⟨⟨by decide +kernel, by decide +kernel⟩, List.mem_of_getElem? (i := 491) (by decide +kernel), List.mem_of_getElem? (i := 724) (by decide +kernel), List.mem_of_getElem? (i := 725) (by decide +kernel)⟩
theorem lw_p70 : lw_okq (⟨"ThreadWinderModel", "bare", "()I"⟩, 12) := ⟨⟨by decide +kernel, by decide +kernel⟩, List.mem_of_getElem? (i := 491) (by decide +kernel), List.mem_of_getElem? (i := 728) (by decide +kernel), List.mem_of_getElem? (i := 729) (by decide +kernel)⟩
theorem lw_p71 : lw_okq (⟨"ThreadWinderModel", "allKnots", "()I"⟩, 12) := ⟨⟨by decide +kernel, by decide +kernel⟩, List.mem_of_getElem? (i := 491) (by decide +kernel), List.mem_of_getElem? (i := 744) (by decide +kernel), List.mem_of_getElem? (i := 745) (by decide +kernel)⟩
theorem lw_p72 : lw_okq (⟨"ThreadWinderModel", "breaks", "()I"⟩, 12) := ⟨⟨by decide +kernel, by decide +kernel⟩, List.mem_of_getElem? (i := 491) (by decide +kernel), List.mem_of_getElem? (i := 748) (by decide +kernel), List.mem_of_getElem? (i := 749) (by decide +kernel)⟩
theorem lw_p73 : lw_okq (⟨"ThreadWinderModel", "doffs", "()I"⟩, 12) := ⟨⟨by decide +kernel, by decide +kernel⟩, List.mem_of_getElem? (i := 491) (by decide +kernel), List.mem_of_getElem? (i := 752) (by decide +kernel), List.mem_of_getElem? (i := 753) (by decide +kernel)⟩
def lw_privs_5 : List (MethodName × Nat) := [(⟨"ThreadWinderModel", "isAbove", "(II)Z"⟩, 12), (⟨"ThreadWinderModel", "isBad", "(I)Z"⟩, 12), (⟨"ThreadWinderModel", "isAnyBad", "()Z"⟩, 12), (⟨"ThreadWinderModel", "ribbons", "()I"⟩, 12), (⟨"ThreadWinderModel", "evenness", "()I"⟩, 12), (⟨"ThreadWinderModel", "windsWith", "(III)I"⟩, 12), (⟨"ThreadWinderModel", "bare", "()I"⟩, 12), (⟨"ThreadWinderModel", "allKnots", "()I"⟩, 12), (⟨"ThreadWinderModel", "breaks", "()I"⟩, 12), (⟨"ThreadWinderModel", "doffs", "()I"⟩, 12)]
theorem lw_r5 : ∀ q ∈ lw_privs_5, lw_okq q := List.forall_mem_cons.mpr ⟨lw_p64, List.forall_mem_cons.mpr ⟨lw_p65, List.forall_mem_cons.mpr ⟨lw_p66, List.forall_mem_cons.mpr ⟨lw_p67, List.forall_mem_cons.mpr ⟨lw_p68, List.forall_mem_cons.mpr ⟨lw_p69, List.forall_mem_cons.mpr ⟨lw_p70, List.forall_mem_cons.mpr ⟨lw_p71, List.forall_mem_cons.mpr ⟨lw_p72, List.forall_mem_cons.mpr ⟨lw_p73, fun _ h => absurd h List.not_mem_nil⟩⟩⟩⟩⟩⟩⟩⟩⟩⟩
def lw_privs : List (MethodName × Nat) := lw_privs_1 ++ (lw_privs_2 ++ (lw_privs_3 ++ (lw_privs_4 ++ (lw_privs_5))))
def lw_tbl : List Cond := k2_sels lw_privs ++ tables_1
theorem lw_privs_ok : ∀ q ∈ lw_privs, lw_okq q := by
  show ∀ q ∈ lw_privs_1 ++ (lw_privs_2 ++ (lw_privs_3 ++ (lw_privs_4 ++ (lw_privs_5)))), lw_okq q
  exact List.forall_mem_append.mpr ⟨lw_r1, List.forall_mem_append.mpr ⟨lw_r2, List.forall_mem_append.mpr ⟨lw_r3, List.forall_mem_append.mpr ⟨lw_r4, lw_r5⟩⟩⟩⟩
end
section
/-! ===== BEGIN words of one list among another's, by their places ===== -/
theorem goodIn_r {big : List Cond} (ws : List Cond) (ps : List Nat) (hp : ws = ps.filterMap (fun i => big[i]?)) (h : ws.all goodWord = true) : GoodIn big ws := by
  intro w hw
  have h1 := List.all_eq_true.mp h w hw
  rw [hp] at hw
  obtain ⟨i, -, hi⟩ := List.mem_filterMap.mp hw
  have hm : w ∈ big := by first | exact List.mem_of_getElem? hi | exact List.getElem?_mem hi
  exact ⟨hm, good_of_word h1⟩
theorem goodIn_app {big a b : List Cond} (ha : GoodIn big a) (hb : GoodIn big b) : GoodIn big (a ++ b) := fun w h => (List.mem_append.mp h).elim (ha w) (hb w)
theorem goodIn_ca {big a b : List Cond} {c : Cond} (ha : GoodIn big (c :: a)) (hb : GoodIn big b) : GoodIn big (c :: (a ++ b)) := fun w h => (List.mem_cons.mp h).elim (fun e => ha w (List.mem_cons.mpr (Or.inl e))) (fun h => (List.mem_append.mp h).elim (fun h => ha w (List.mem_cons.mpr (Or.inr h))) (hb w))
theorem goodIn_sub {big ws : List Cond} (hm : ∀ w ∈ ws, w ∈ big) (h : ws.all goodWord = true) : GoodIn big ws := fun w hw => ⟨hm w hw, good_of_word (List.all_eq_true.mp h w hw)⟩
/-! ===== END ===== -/

/-! ===== BEGIN printed: names, fields, word lists, decode rows ===== -/
def RX0 : String := "ThreadWinder$CommandText"
def TX0 : u_T := fun k => match k with
  | 0 => ("ThreadWinder$CommandText", "characters", "[C", true)
  | 1 => ("ThreadWinder$CommandText", "kinds", "[I", true)
  | 2 => ("ThreadWinder$CommandText", "values", "[I", true)
  | 3 => ("ThreadWinder$CommandText", "length", "I", false)
  | 4 => ("ThreadWinder$CommandText", "commands", "I", false)
  | 5 => ("ThreadWinder$CommandText", "kind", "I", false)
  | _ => ("ThreadWinder$CommandText", "value", "I", false)
def tyX0 : Nat → FieldType := fun k => match k with
  | 0 => .array .char
  | 1 => .array .int
  | 2 => .array .int
  | 3 => .int
  | 4 => .int
  | 5 => .int
  | _ => .int
abbrev wsX00 : List Cond := u_ws RX0 TX0 7
theorem nmX0 : ∀ a, a < 7 → ∀ b, b < 7 → a ≠ b → (TX0 a).2.1 ≠ (TX0 b).2.1 := by decide +kernel
theorem tyX0_ok : ∀ k, k < 7 → parseFieldDescriptor (TX0 k).2.2.1 = some (tyX0 k) := by decide +kernel
abbrev cX0_init : ByteArray := prog_2_method_1_code
def yX0_init : MethodName := ⟨RX0, "<init>", "()V"⟩
abbrev cX0_append : ByteArray := prog_2_method_2_code
def yX0_append : MethodName := ⟨RX0, "append", "(C)I"⟩
abbrev cX0_empty : ByteArray := prog_2_method_3_code
def yX0_empty : MethodName := ⟨RX0, "empty", "()I"⟩
abbrev cX0_read : ByteArray := prog_2_method_4_code
def yX0_read : MethodName := ⟨RX0, "read", "()I"⟩
abbrev cX0_takes : ByteArray := prog_2_method_5_code
def yX0_takes : MethodName := ⟨RX0, "takes", "(C)Z"⟩
abbrev cX0_takesDigit : ByteArray := prog_2_method_6_code
def yX0_takesDigit : MethodName := ⟨RX0, "takesDigit", "(I)Z"⟩
abbrev cX0_isComplete : ByteArray := prog_2_method_7_code
def yX0_isComplete : MethodName := ⟨RX0, "isComplete", "()Z"⟩
abbrev cX0_addCommand : ByteArray := prog_2_method_8_code
def yX0_addCommand : MethodName := ⟨RX0, "addCommand", "()V"⟩
abbrev cX0_commandAt : ByteArray := prog_2_method_9_code
def yX0_commandAt : MethodName := ⟨RX0, "commandAt", "(I)I"⟩
abbrev cX0_valueAt : ByteArray := prog_2_method_10_code
def yX0_valueAt : MethodName := ⟨RX0, "valueAt", "(I)I"⟩
abbrev cX0_kindOf : ByteArray := prog_2_method_11_code
def yX0_kindOf : MethodName := ⟨RX0, "kindOf", "(C)I"⟩
def RX1 : String := "ThreadWinder$History"
def TX1 : u_T := fun k => match k with
  | 0 => ("ThreadWinder$History", "states", "[LThreadWinder$State;", true)
  | 1 => ("ThreadWinder$History", "next", "I", false)
  | _ => ("ThreadWinder$History", "kept", "I", false)
def tyX1 : Nat → FieldType := fun k => match k with
  | 0 => .array (.object "ThreadWinder$State")
  | 1 => .int
  | _ => .int
abbrev wsX10 : List Cond := u_ws RX1 TX1 3
theorem nmX1 : ∀ a, a < 3 → ∀ b, b < 3 → a ≠ b → (TX1 a).2.1 ≠ (TX1 b).2.1 := by decide +kernel
theorem tyX1_ok : ∀ k, k < 3 → parseFieldDescriptor (TX1 k).2.2.1 = some (tyX1 k) := by decide +kernel
abbrev cX1_init : ByteArray := prog_3_method_1_code
def yX1_init : MethodName := ⟨RX1, "<init>", "()V"⟩
abbrev cX1_remember : ByteArray := prog_3_method_2_code
def yX1_remember : MethodName := ⟨RX1, "remember", "(LThreadWinder$State;)V"⟩
abbrev cX1_takeLatest : ByteArray := prog_3_method_3_code
def yX1_takeLatest : MethodName := ⟨RX1, "takeLatest", "(LThreadWinder$State;)I"⟩
abbrev cX1_stateAt : ByteArray := prog_3_method_4_code
def yX1_stateAt : MethodName := ⟨RX1, "stateAt", "(I)LThreadWinder$State;"⟩
def RX2 : String := "ThreadWinder$State"
def TX2 : u_T := fun k => match k with
  | 0 => ("ThreadWinder$State", "wraps", "LThreadWinder$Wraps;", true)
  | 1 => ("ThreadWinder$State", "knots", "[I", true)
  | 2 => ("ThreadWinder$State", "numbers", "[I", true)
  | 3 => ("ThreadWinder$State", "coneLeft", "I", false)
  | 4 => ("ThreadWinder$State", "warmth", "I", false)
  | 5 => ("ThreadWinder$State", "broken", "Z", false)
  | 6 => ("ThreadWinder$State", "lastPlace", "I", false)
  | 7 => ("ThreadWinder$State", "lastTension", "I", false)
  | 8 => ("ThreadWinder$State", "turnsDone", "I", false)
  | 9 => ("ThreadWinder$State", "breaks", "I", false)
  | _ => ("ThreadWinder$State", "packagesOff", "I", false)
def tyX2 : Nat → FieldType := fun k => match k with
  | 0 => .object "ThreadWinder$Wraps"
  | 1 => .array .int
  | 2 => .array .int
  | 3 => .int
  | 4 => .int
  | 5 => .boolean
  | 6 => .int
  | 7 => .int
  | 8 => .int
  | 9 => .int
  | _ => .int
abbrev wsX20 : List Cond := u_ws RX2 TX2 11
theorem nmX2 : ∀ a, a < 11 → ∀ b, b < 11 → a ≠ b → (TX2 a).2.1 ≠ (TX2 b).2.1 := by decide +kernel
theorem tyX2_ok : ∀ k, k < 11 → parseFieldDescriptor (TX2 k).2.2.1 = some (tyX2 k) := by decide +kernel
abbrev cX2_init : ByteArray := prog_4_method_1_code
def yX2_init : MethodName := ⟨RX2, "<init>", "()V"⟩
abbrev cX2_copyFrom : ByteArray := prog_4_method_2_code
def yX2_copyFrom : MethodName := ⟨RX2, "copyFrom", "(LThreadWinder$State;)V"⟩
abbrev cX2_obey : ByteArray := prog_4_method_3_code
def yX2_obey : MethodName := ⟨RX2, "obey", "(II)I"⟩
abbrev cX2_changeNumber : ByteArray := prog_4_method_4_code
def yX2_changeNumber : MethodName := ⟨RX2, "changeNumber", "(II)I"⟩
abbrev cX2_turnOften : ByteArray := prog_4_method_5_code
def yX2_turnOften : MethodName := ⟨RX2, "turnOften", "(I)I"⟩
abbrev cX2_turnOnce : ByteArray := prog_4_method_6_code
def yX2_turnOnce : MethodName := ⟨RX2, "turnOnce", "()V"⟩
abbrev cX2_tensionAt : ByteArray := prog_4_method_7_code
def yX2_tensionAt : MethodName := ⟨RX2, "tensionAt", "(I)I"⟩
abbrev cX2_warmDiscs : ByteArray := prog_4_method_8_code
def yX2_warmDiscs : MethodName := ⟨RX2, "warmDiscs", "()V"⟩
abbrev cX2_tieKnot : ByteArray := prog_4_method_9_code
def yX2_tieKnot : MethodName := ⟨RX2, "tieKnot", "()I"⟩
abbrev cX2_changeCone : ByteArray := prog_4_method_10_code
def yX2_changeCone : MethodName := ⟨RX2, "changeCone", "(I)I"⟩
abbrev cX2_takePackageOff : ByteArray := prog_4_method_11_code
def yX2_takePackageOff : MethodName := ⟨RX2, "takePackageOff", "()I"⟩
abbrev cX2_isIdle : ByteArray := prog_4_method_12_code
def yX2_isIdle : MethodName := ⟨RX2, "isIdle", "()Z"⟩
abbrev cX2_isConeEmpty : ByteArray := prog_4_method_13_code
def yX2_isConeEmpty : MethodName := ⟨RX2, "isConeEmpty", "()Z"⟩
abbrev cX2_number : ByteArray := prog_4_method_14_code
def yX2_number : MethodName := ⟨RX2, "number", "(I)I"⟩
abbrev cX2_knotsAt : ByteArray := prog_4_method_15_code
def yX2_knotsAt : MethodName := ⟨RX2, "knotsAt", "(I)I"⟩
abbrev cX2_isBad : ByteArray := prog_4_method_16_code
def yX2_isBad : MethodName := ⟨RX2, "isBad", "(I)Z"⟩
abbrev cX2_hasBadPlace : ByteArray := prog_4_method_17_code
def yX2_hasBadPlace : MethodName := ⟨RX2, "hasBadPlace", "()Z"⟩
abbrev cX2_allKnots : ByteArray := prog_4_method_18_code
def yX2_allKnots : MethodName := ⟨RX2, "allKnots", "()I"⟩
def RX3 : String := "ThreadWinder$Wraps"
def TX3 : u_T := fun k => match k with
  | 0 => ("ThreadWinder$Wraps", "heights", "[I", true)
  | 1 => ("ThreadWinder$Wraps", "laid", "I", false)
  | 2 => ("ThreadWinder$Wraps", "tallest", "I", false)
  | _ => ("ThreadWinder$Wraps", "way", "I", false)
def tyX3 : Nat → FieldType := fun k => match k with
  | 0 => .array .int
  | 1 => .int
  | 2 => .int
  | _ => .int
abbrev wsX30 : List Cond := u_ws RX3 TX3 4
theorem nmX3 : ∀ a, a < 4 → ∀ b, b < 4 → a ≠ b → (TX3 a).2.1 ≠ (TX3 b).2.1 := by decide +kernel
theorem tyX3_ok : ∀ k, k < 4 → parseFieldDescriptor (TX3 k).2.2.1 = some (tyX3 k) := by decide +kernel
abbrev cX3_init : ByteArray := prog_5_method_1_code
def yX3_init : MethodName := ⟨RX3, "<init>", "()V"⟩
abbrev cX3_copyFrom : ByteArray := prog_5_method_2_code
def yX3_copyFrom : MethodName := ⟨RX3, "copyFrom", "(LThreadWinder$Wraps;)V"⟩
abbrev cX3_clear : ByteArray := prog_5_method_3_code
def yX3_clear : MethodName := ⟨RX3, "clear", "()V"⟩
abbrev cX3_guidePlace : ByteArray := prog_5_method_4_code
def yX3_guidePlace : MethodName := ⟨RX3, "guidePlace", "()I"⟩
abbrev cX3_guideGoesBack : ByteArray := prog_5_method_5_code
def yX3_guideGoesBack : MethodName := ⟨RX3, "guideGoesBack", "()Z"⟩
abbrev cX3_moveGuide : ByteArray := prog_5_method_6_code
def yX3_moveGuide : MethodName := ⟨RX3, "moveGuide", "(III)V"⟩
abbrev cX3_layWrap : ByteArray := prog_5_method_7_code
def yX3_layWrap : MethodName := ⟨RX3, "layWrap", "()V"⟩
abbrev cX3_heightAt : ByteArray := prog_5_method_8_code
def yX3_heightAt : MethodName := ⟨RX3, "heightAt", "(I)I"⟩
abbrev cX3_isFull : ByteArray := prog_5_method_9_code
def yX3_isFull : MethodName := ⟨RX3, "isFull", "()Z"⟩
abbrev cX3_evenness : ByteArray := prog_5_method_10_code
def yX3_evenness : MethodName := ⟨RX3, "evenness", "()I"⟩
abbrev cX3_isRibbon : ByteArray := prog_5_method_11_code
def yX3_isRibbon : MethodName := ⟨RX3, "isRibbon", "(I)Z"⟩
abbrev cX3_isRibbonOver : ByteArray := prog_5_method_12_code
def yX3_isRibbonOver : MethodName := ⟨RX3, "isRibbonOver", "(II)Z"⟩
abbrev cX3_ribbons : ByteArray := prog_5_method_13_code
def yX3_ribbons : MethodName := ⟨RX3, "ribbons", "()I"⟩
abbrev cX3_barePlaces : ByteArray := prog_5_method_14_code
def yX3_barePlaces : MethodName := ⟨RX3, "barePlaces", "()I"⟩
def RX4 : String := "ThreadWinder"
def TX4 : u_T := fun k => match k with
  | 0 => ("ThreadWinder", "now", "LThreadWinder$State;", true)
  | 1 => ("ThreadWinder", "trial", "LThreadWinder$State;", true)
  | 2 => ("ThreadWinder", "snapshot", "LThreadWinder$State;", true)
  | 3 => ("ThreadWinder", "imagined", "LThreadWinder$Wraps;", true)
  | 4 => ("ThreadWinder", "history", "LThreadWinder$History;", true)
  | 5 => ("ThreadWinder", "text", "LThreadWinder$CommandText;", true)
  | 6 => ("ThreadWinder", "snapshotTaken", "Z", false)
  | _ => ("ThreadWinder", "latestStop", "I", false)
def tyX4 : Nat → FieldType := fun k => match k with
  | 0 => .object "ThreadWinder$State"
  | 1 => .object "ThreadWinder$State"
  | 2 => .object "ThreadWinder$State"
  | 3 => .object "ThreadWinder$Wraps"
  | 4 => .object "ThreadWinder$History"
  | 5 => .object "ThreadWinder$CommandText"
  | 6 => .boolean
  | _ => .int
abbrev wsX40 : List Cond := u_ws RX4 TX4 8
theorem nmX4 : ∀ a, a < 8 → ∀ b, b < 8 → a ≠ b → (TX4 a).2.1 ≠ (TX4 b).2.1 := by decide +kernel
theorem tyX4_ok : ∀ k, k < 8 → parseFieldDescriptor (TX4 k).2.2.1 = some (tyX4 k) := by decide +kernel
abbrev cX4_init : ByteArray := prog_1_method_1_code
def yX4_init : MethodName := ⟨RX4, "<init>", "()V"⟩
abbrev cX4_set : ByteArray := prog_1_method_2_code
def yX4_set : MethodName := ⟨RX4, "set", "(II)I"⟩
abbrev cX4_wind : ByteArray := prog_1_method_3_code
def yX4_wind : MethodName := ⟨RX4, "wind", "(I)I"⟩
abbrev cX4_knot : ByteArray := prog_1_method_4_code
def yX4_knot : MethodName := ⟨RX4, "knot", "()I"⟩
abbrev cX4_cone : ByteArray := prog_1_method_5_code
def yX4_cone : MethodName := ⟨RX4, "cone", "(I)I"⟩
abbrev cX4_doff : ByteArray := prog_1_method_6_code
def yX4_doff : MethodName := ⟨RX4, "doff", "()I"⟩
abbrev cX4_type : ByteArray := prog_1_method_7_code
def yX4_type : MethodName := ⟨RX4, "type", "(C)I"⟩
abbrev cX4_clearText : ByteArray := prog_1_method_8_code
def yX4_clearText : MethodName := ⟨RX4, "clearText", "()I"⟩
abbrev cX4_perform : ByteArray := prog_1_method_9_code
def yX4_perform : MethodName := ⟨RX4, "perform", "()I"⟩
abbrev cX4_stopped : ByteArray := prog_1_method_10_code
def yX4_stopped : MethodName := ⟨RX4, "stopped", "()I"⟩
abbrev cX4_undo : ByteArray := prog_1_method_11_code
def yX4_undo : MethodName := ⟨RX4, "undo", "()I"⟩
abbrev cX4_keep : ByteArray := prog_1_method_12_code
def yX4_keep : MethodName := ⟨RX4, "keep", "()I"⟩
abbrev cX4_restore : ByteArray := prog_1_method_13_code
def yX4_restore : MethodName := ⟨RX4, "restore", "()I"⟩
abbrev cX4_place : ByteArray := prog_1_method_14_code
def yX4_place : MethodName := ⟨RX4, "place", "(II)I"⟩
abbrev cX4_wrong : ByteArray := prog_1_method_15_code
def yX4_wrong : MethodName := ⟨RX4, "wrong", "()I"⟩
abbrev cX4_breaksIn : ByteArray := prog_1_method_16_code
def yX4_breaksIn : MethodName := ⟨RX4, "breaksIn", "()I"⟩
abbrev cX4_ifTraverse : ByteArray := prog_1_method_17_code
def yX4_ifTraverse : MethodName := ⟨RX4, "ifTraverse", "(III)I"⟩
abbrev cX4_bestTraverse : ByteArray := prog_1_method_18_code
def yX4_bestTraverse : MethodName := ⟨RX4, "bestTraverse", "(I)I"⟩
abbrev cX4_period : ByteArray := prog_1_method_19_code
def yX4_period : MethodName := ⟨RX4, "period", "(I)I"⟩
abbrev cX4_count : ByteArray := prog_1_method_20_code
def yX4_count : MethodName := ⟨RX4, "count", "(I)I"⟩
abbrev cX4_finishAct : ByteArray := prog_1_method_21_code
def yX4_finishAct : MethodName := ⟨RX4, "finishAct", "(I)I"⟩
abbrev cX4_imagine : ByteArray := prog_1_method_22_code
def yX4_imagine : MethodName := ⟨RX4, "imagine", "(II)V"⟩
abbrev cX4_oneIf : ByteArray := prog_1_method_23_code
def yX4_oneIf : MethodName := ⟨RX4, "oneIf", "(Z)I"⟩
abbrev cX4_lowest : ByteArray := prog_1_method_24_code
def yX4_lowest : MethodName := ⟨RX4, "lowest", "(I)I"⟩
abbrev cX4_highest : ByteArray := prog_1_method_25_code
def yX4_highest : MethodName := ⟨RX4, "highest", "(I)I"⟩
abbrev cX4_inRange : ByteArray := prog_1_method_26_code
def yX4_inRange : MethodName := ⟨RX4, "inRange", "(II)Z"⟩
def RX5 : String := "ThreadWinderModel"
def TX5 : u_T := fun k => match k with
  | 0 => ("ThreadWinderModel", "all", "[I", true)
  | 1 => ("ThreadWinderModel", "kept", "[I", true)
  | 2 => ("ThreadWinderModel", "tried", "[I", true)
  | 3 => ("ThreadWinderModel", "history", "[I", true)
  | 4 => ("ThreadWinderModel", "historyLong", "I", false)
  | 5 => ("ThreadWinderModel", "snapshot", "[I", true)
  | 6 => ("ThreadWinderModel", "isTaken", "I", false)
  | 7 => ("ThreadWinderModel", "text", "[I", true)
  | 8 => ("ThreadWinderModel", "textLong", "I", false)
  | 9 => ("ThreadWinderModel", "spot", "I", false)
  | 10 => ("ThreadWinderModel", "number", "I", false)
  | _ => ("ThreadWinderModel", "stop", "I", false)
def tyX5 : Nat → FieldType := fun k => match k with
  | 0 => .array .int
  | 1 => .array .int
  | 2 => .array .int
  | 3 => .array .int
  | 4 => .int
  | 5 => .array .int
  | 6 => .int
  | 7 => .array .int
  | 8 => .int
  | 9 => .int
  | 10 => .int
  | _ => .int
abbrev wsX50 : List Cond := u_ws RX5 TX5 12
theorem nmX5 : ∀ a, a < 12 → ∀ b, b < 12 → a ≠ b → (TX5 a).2.1 ≠ (TX5 b).2.1 := by decide +kernel
theorem tyX5_ok : ∀ k, k < 12 → parseFieldDescriptor (TX5 k).2.2.1 = some (tyX5 k) := by decide +kernel
abbrev cX5_init : ByteArray := prog_7_method_1_code
def yX5_init : MethodName := ⟨RX5, "<init>", "()V"⟩
abbrev cX5_in : ByteArray := prog_7_method_3_code
def yX5_in : MethodName := ⟨RX5, "in", "(JJJ)Z"⟩
abbrev cX5_copy : ByteArray := prog_7_method_4_code
def yX5_copy : MethodName := ⟨RX5, "copy", "([I[I)V"⟩
abbrev cX5_remember : ByteArray := prog_7_method_5_code
def yX5_remember : MethodName := ⟨RX5, "remember", "()V"⟩
abbrev cX5_acted : ByteArray := prog_7_method_6_code
def yX5_acted : MethodName := ⟨RX5, "acted", "(I)I"⟩
abbrev cX5_breaks : ByteArray := prog_7_method_7_code
def yX5_breaks : MethodName := ⟨RX5, "breaks", "()I"⟩
abbrev cX5_doffs : ByteArray := prog_7_method_8_code
def yX5_doffs : MethodName := ⟨RX5, "doffs", "()I"⟩
abbrev cX5_placeOn : ByteArray := prog_7_method_9_code
def yX5_placeOn : MethodName := ⟨RX5, "placeOn", "(I)I"⟩
abbrev cX5_place : ByteArray := prog_7_method_10_code
def yX5_place : MethodName := ⟨RX5, "place", "()I"⟩
abbrev cX5_wraps : ByteArray := prog_7_method_11_code
def yX5_wraps : MethodName := ⟨RX5, "wraps", "()I"⟩
abbrev cX5_greatest : ByteArray := prog_7_method_12_code
def yX5_greatest : MethodName := ⟨RX5, "greatest", "()I"⟩
abbrev cX5_evenness : ByteArray := prog_7_method_13_code
def yX5_evenness : MethodName := ⟨RX5, "evenness", "()I"⟩
abbrev cX5_isFull : ByteArray := prog_7_method_14_code
def yX5_isFull : MethodName := ⟨RX5, "isFull", "()Z"⟩
abbrev cX5_isIdle : ByteArray := prog_7_method_15_code
def yX5_isIdle : MethodName := ⟨RX5, "isIdle", "()Z"⟩
abbrev cX5_guideGoes : ByteArray := prog_7_method_16_code
def yX5_guideGoes : MethodName := ⟨RX5, "guideGoes", "()V"⟩
abbrev cX5_pulls : ByteArray := prog_7_method_17_code
def yX5_pulls : MethodName := ⟨RX5, "pulls", "()V"⟩
abbrev cX5_turns : ByteArray := prog_7_method_18_code
def yX5_turns : MethodName := ⟨RX5, "turns", "()Z"⟩
abbrev cX5_isNumber : ByteArray := prog_7_method_19_code
def yX5_isNumber : MethodName := ⟨RX5, "isNumber", "(II)Z"⟩
abbrev cX5_doSet : ByteArray := prog_7_method_20_code
def yX5_doSet : MethodName := ⟨RX5, "doSet", "(II)I"⟩
abbrev cX5_set : ByteArray := prog_7_method_21_code
def yX5_set : MethodName := ⟨RX5, "set", "(II)I"⟩
abbrev cX5_doWind : ByteArray := prog_7_method_22_code
def yX5_doWind : MethodName := ⟨RX5, "doWind", "(I)I"⟩
abbrev cX5_wind : ByteArray := prog_7_method_23_code
def yX5_wind : MethodName := ⟨RX5, "wind", "(I)I"⟩
abbrev cX5_doKnot : ByteArray := prog_7_method_24_code
def yX5_doKnot : MethodName := ⟨RX5, "doKnot", "()I"⟩
abbrev cX5_knot : ByteArray := prog_7_method_25_code
def yX5_knot : MethodName := ⟨RX5, "knot", "()I"⟩
abbrev cX5_doCone : ByteArray := prog_7_method_26_code
def yX5_doCone : MethodName := ⟨RX5, "doCone", "(I)I"⟩
abbrev cX5_cone : ByteArray := prog_7_method_27_code
def yX5_cone : MethodName := ⟨RX5, "cone", "(I)I"⟩
abbrev cX5_doff : ByteArray := prog_7_method_28_code
def yX5_doff : MethodName := ⟨RX5, "doff", "()I"⟩
abbrev cX5_type : ByteArray := prog_7_method_29_code
def yX5_type : MethodName := ⟨RX5, "type", "(C)I"⟩
abbrev cX5_clearText : ByteArray := prog_7_method_30_code
def yX5_clearText : MethodName := ⟨RX5, "clearText", "()I"⟩
abbrev cX5_isHere : ByteArray := prog_7_method_31_code
def yX5_isHere : MethodName := ⟨RX5, "isHere", "(II)Z"⟩
abbrev cX5_takes : ByteArray := prog_7_method_32_code
def yX5_takes : MethodName := ⟨RX5, "takes", "(I)Z"⟩
abbrev cX5_readsNumber : ByteArray := prog_7_method_33_code
def yX5_readsNumber : MethodName := ⟨RX5, "readsNumber", "(II)Z"⟩
abbrev cX5_whichOf : ByteArray := prog_7_method_34_code
def yX5_whichOf : MethodName := ⟨RX5, "whichOf", "(I)I"⟩
abbrev cX5_command : ByteArray := prog_7_method_35_code
def yX5_command : MethodName := ⟨RX5, "command", "(Z)I"⟩
abbrev cX5_fault : ByteArray := prog_7_method_36_code
def yX5_fault : MethodName := ⟨RX5, "fault", "()I"⟩
abbrev cX5_perform : ByteArray := prog_7_method_37_code
def yX5_perform : MethodName := ⟨RX5, "perform", "()I"⟩
abbrev cX5_stopped : ByteArray := prog_7_method_38_code
def yX5_stopped : MethodName := ⟨RX5, "stopped", "()I"⟩
abbrev cX5_undo : ByteArray := prog_7_method_39_code
def yX5_undo : MethodName := ⟨RX5, "undo", "()I"⟩
abbrev cX5_keep : ByteArray := prog_7_method_40_code
def yX5_keep : MethodName := ⟨RX5, "keep", "()I"⟩
abbrev cX5_restore : ByteArray := prog_7_method_41_code
def yX5_restore : MethodName := ⟨RX5, "restore", "()I"⟩
abbrev cX5_isAbove : ByteArray := prog_7_method_42_code
def yX5_isAbove : MethodName := ⟨RX5, "isAbove", "(II)Z"⟩
abbrev cX5_isRibbon : ByteArray := prog_7_method_43_code
def yX5_isRibbon : MethodName := ⟨RX5, "isRibbon", "(I)Z"⟩
abbrev cX5_isBad : ByteArray := prog_7_method_44_code
def yX5_isBad : MethodName := ⟨RX5, "isBad", "(I)Z"⟩
abbrev cX5_place_ : ByteArray := prog_7_method_45_code
def yX5_place_ : MethodName := ⟨RX5, "place", "(II)I"⟩
abbrev cX5_ribbons : ByteArray := prog_7_method_46_code
def yX5_ribbons : MethodName := ⟨RX5, "ribbons", "()I"⟩
abbrev cX5_isAnyBad : ByteArray := prog_7_method_47_code
def yX5_isAnyBad : MethodName := ⟨RX5, "isAnyBad", "()Z"⟩
abbrev cX5_wrong : ByteArray := prog_7_method_48_code
def yX5_wrong : MethodName := ⟨RX5, "wrong", "()I"⟩
abbrev cX5_breaksIn : ByteArray := prog_7_method_49_code
def yX5_breaksIn : MethodName := ⟨RX5, "breaksIn", "()I"⟩
abbrev cX5_windsWith : ByteArray := prog_7_method_50_code
def yX5_windsWith : MethodName := ⟨RX5, "windsWith", "(III)I"⟩
abbrev cX5_bare : ByteArray := prog_7_method_51_code
def yX5_bare : MethodName := ⟨RX5, "bare", "()I"⟩
abbrev cX5_ifTraverse : ByteArray := prog_7_method_52_code
def yX5_ifTraverse : MethodName := ⟨RX5, "ifTraverse", "(III)I"⟩
abbrev cX5_bestTraverse : ByteArray := prog_7_method_53_code
def yX5_bestTraverse : MethodName := ⟨RX5, "bestTraverse", "(I)I"⟩
abbrev cX5_period : ByteArray := prog_7_method_54_code
def yX5_period : MethodName := ⟨RX5, "period", "(I)I"⟩
abbrev cX5_allKnots : ByteArray := prog_7_method_55_code
def yX5_allKnots : MethodName := ⟨RX5, "allKnots", "()I"⟩
abbrev cX5_count : ByteArray := prog_7_method_56_code
def yX5_count : MethodName := ⟨RX5, "count", "(I)I"⟩
def RJx8e188 : String := "java/lang/Cloneable"
def TJx8e188 : u_T := fun k => match k with
  | _ => ("", "", "", false)
def tyJx8e188 : Nat → FieldType := fun k => match k with
  | _ => .int
abbrev wsJx8e1880 : List Cond := u_ws RJx8e188 TJx8e188 0
theorem nmJx8e188 : ∀ a, a < 0 → ∀ b, b < 0 → a ≠ b → (TJx8e188 a).2.1 ≠ (TJx8e188 b).2.1 := by decide +kernel
theorem tyJx8e188_ok : ∀ k, k < 0 → parseFieldDescriptor (TJx8e188 k).2.2.1 = some (tyJx8e188 k) := by decide +kernel
def RJ9 : String := "java/lang/Math"
def TJ9 : u_T := fun k => match k with
  | _ => ("", "", "", false)
def tyJ9 : Nat → FieldType := fun k => match k with
  | _ => .int
abbrev wsJ90 : List Cond := u_ws RJ9 TJ9 0
theorem nmJ9 : ∀ a, a < 0 → ∀ b, b < 0 → a ≠ b → (TJ9 a).2.1 ≠ (TJ9 b).2.1 := by decide +kernel
theorem tyJ9_ok : ∀ k, k < 0 → parseFieldDescriptor (TJ9 k).2.2.1 = some (tyJ9 k) := by decide +kernel
abbrev cJ9_abs_0f7a4 : ByteArray := prog_9_method_59_code
def yJ9_abs_0f7a4 : MethodName := ⟨RJ9, "abs", "(I)I"⟩
abbrev cJ9_max_7cf53 : ByteArray := prog_9_method_65_code
def yJ9_max_7cf53 : MethodName := ⟨RJ9, "max", "(II)I"⟩
abbrev cJ9_min_7cf53 : ByteArray := prog_9_method_69_code
def yJ9_min_7cf53 : MethodName := ⟨RJ9, "min", "(II)I"⟩
def RJ10 : String := "java/lang/System"
def TJ10 : u_T := fun k => match k with
  | _ => ("", "", "", false)
def tyJ10 : Nat → FieldType := fun k => match k with
  | _ => .int
abbrev wsJ100 : List Cond := u_ws RJ10 TJ10 0
theorem nmJ10 : ∀ a, a < 0 → ∀ b, b < 0 → a ≠ b → (TJ10 a).2.1 ≠ (TJ10 b).2.1 := by decide +kernel
theorem tyJ10_ok : ∀ k, k < 0 → parseFieldDescriptor (TJ10 k).2.2.1 = some (tyJ10 k) := by decide +kernel
def RJ7 : String := "java/util/Arrays"
def TJ7 : u_T := fun k => match k with
  | _ => ("", "", "", false)
def tyJ7 : Nat → FieldType := fun k => match k with
  | _ => .int
abbrev wsJ70 : List Cond := u_ws RJ7 TJ7 0
theorem nmJ7 : ∀ a, a < 0 → ∀ b, b < 0 → a ≠ b → (TJ7 a).2.1 ≠ (TJ7 b).2.1 := by decide +kernel
theorem tyJ7_ok : ∀ k, k < 0 → parseFieldDescriptor (TJ7 k).2.2.1 = some (tyJ7 k) := by decide +kernel
abbrev cJ7_fill_53178 : ByteArray := prog_11_method_103_code
def yJ7_fill_53178 : MethodName := ⟨RJ7, "fill", "([II)V"⟩
def RL : String := "ThreadWinderLaw"
abbrev cL_law : ByteArray := code
def yL_law : MethodName := ⟨RL, "law", "([I)Z"⟩
def wsX0_init : List Cond := .code yX0_init cX0_init 1 none :: ([.methodLink RX0 3 objectInit, .instanceMethod objectInit, .code objectInit ⟨#[0xb1]⟩ 1 none, .arrayClass .char, .fieldLink RX0 9 "ThreadWinder$CommandText" "characters" "[C", .arrayClass .int, .fieldLink RX0 15 "ThreadWinder$CommandText" "kinds" "[I", .fieldLink RX0 19 "ThreadWinder$CommandText" "values" "[I", .fieldLink RX0 22 "ThreadWinder$CommandText" "length" "I", .fieldLink RX0 26 "ThreadWinder$CommandText" "commands" "I", .fieldLink RX0 29 "ThreadWinder$CommandText" "kind" "I", .fieldLink RX0 32 "ThreadWinder$CommandText" "value" "I"] ++ wsX00)
def wsX0_append : List Cond := .code yX0_append cX0_append 2 (some .int) :: ([.fieldLink RX0 22 "ThreadWinder$CommandText" "length" "I", .fieldLink RX0 9 "ThreadWinder$CommandText" "characters" "[C"] ++ wsX00)
def wsX0_empty : List Cond := .code yX0_empty cX0_empty 2 (some .int) :: ([.fieldLink RX0 22 "ThreadWinder$CommandText" "length" "I"] ++ wsX00)
def wsX0_kindOf : List Cond := .code yX0_kindOf cX0_kindOf 1 (some .int) :: ([])
def wsX4_lowest : List Cond := .code yX4_lowest cX4_lowest 1 (some .int) :: ([.fieldLink RX4 216 "ThreadWinder" "LOWEST" "[I"])
def wsX0_isComplete : List Cond := .code yX0_isComplete cX0_isComplete 1 (some .boolean) :: ([.fieldLink RX0 29 "ThreadWinder$CommandText" "kind" "I", .fieldLink RX0 32 "ThreadWinder$CommandText" "value" "I", .static yX4_lowest, .initialized RX4, .code yX4_lowest cX4_lowest 1 (some .int), .fieldLink RX4 216 "ThreadWinder" "LOWEST" "[I"] ++ wsX00)
def wsX0_addCommand : List Cond := .code yX0_addCommand cX0_addCommand 1 none :: ([.fieldLink RX0 26 "ThreadWinder$CommandText" "commands" "I", .fieldLink RX0 15 "ThreadWinder$CommandText" "kinds" "[I", .fieldLink RX0 19 "ThreadWinder$CommandText" "values" "[I", .fieldLink RX0 29 "ThreadWinder$CommandText" "kind" "I", .fieldLink RX0 32 "ThreadWinder$CommandText" "value" "I"] ++ wsX00)
def wsX4_highest : List Cond := .code yX4_highest cX4_highest 1 (some .int) :: ([.fieldLink RX4 220 "ThreadWinder" "HIGHEST" "[I"])
def wsX0_takesDigit : List Cond := .code yX0_takesDigit cX0_takesDigit 4 (some .boolean) :: ([.fieldLink RX0 29 "ThreadWinder$CommandText" "kind" "I", .fieldLink RX0 32 "ThreadWinder$CommandText" "value" "I", .static yX4_lowest, .initialized RX4, .code yX4_lowest cX4_lowest 1 (some .int), .fieldLink RX4 216 "ThreadWinder" "LOWEST" "[I", .static yX4_highest, .code yX4_highest cX4_highest 1 (some .int), .fieldLink RX4 220 "ThreadWinder" "HIGHEST" "[I"] ++ wsX00)
def wsX0_takes_r1 : List Cond := [Cond.fieldLink RX0 29 "ThreadWinder$CommandText" "kind" "I", Cond.methodLink RX0 46 yX0_kindOf, Cond.static yX0_kindOf, Cond.initialized RX0, Cond.code yX0_kindOf cX0_kindOf 1 (some .int), Cond.methodLink RX0 39 yX0_isComplete, Cond.instanceMethod yX0_isComplete, Cond.selects RX0 yX0_isComplete yX0_isComplete, Cond.code yX0_isComplete cX0_isComplete 1 (some .boolean), Cond.fieldLink RX0 32 "ThreadWinder$CommandText" "value" "I", Cond.static yX4_lowest, Cond.initialized RX4, Cond.code yX4_lowest cX4_lowest 1 (some .int), Cond.fieldLink RX4 216 "ThreadWinder" "LOWEST" "[I", Cond.methodLink RX0 43 yX0_addCommand, Cond.instanceMethod yX0_addCommand, Cond.selects RX0 yX0_addCommand yX0_addCommand, Cond.code yX0_addCommand cX0_addCommand 1 none, Cond.fieldLink RX0 26 "ThreadWinder$CommandText" "commands" "I", Cond.fieldLink RX0 15 "ThreadWinder$CommandText" "kinds" "[I", Cond.fieldLink RX0 19 "ThreadWinder$CommandText" "values" "[I", Cond.methodLink RX0 50 yX0_takesDigit, Cond.instanceMethod yX0_takesDigit, Cond.selects RX0 yX0_takesDigit yX0_takesDigit]
def wsX0_takes_r2 : List Cond := [Cond.code yX0_takesDigit cX0_takesDigit 4 (some .boolean), Cond.static yX4_highest, Cond.code yX4_highest cX4_highest 1 (some .int), Cond.fieldLink RX4 220 "ThreadWinder" "HIGHEST" "[I"]
def wsX0_takes : List Cond := .code yX0_takes cX0_takes 2 (some .boolean) :: ((wsX0_takes_r1 ++ wsX0_takes_r2) ++ wsX00)
def wsX0_read_r1 : List Cond := [Cond.fieldLink RX0 26 "ThreadWinder$CommandText" "commands" "I", Cond.fieldLink RX0 29 "ThreadWinder$CommandText" "kind" "I", Cond.fieldLink RX0 32 "ThreadWinder$CommandText" "value" "I", Cond.fieldLink RX0 22 "ThreadWinder$CommandText" "length" "I", Cond.fieldLink RX0 9 "ThreadWinder$CommandText" "characters" "[C", Cond.methodLink RX0 35 yX0_takes, Cond.instanceMethod yX0_takes, Cond.selects RX0 yX0_takes yX0_takes, Cond.initialized RX0, Cond.code yX0_takes cX0_takes 2 (some .boolean), Cond.methodLink RX0 46 yX0_kindOf, Cond.static yX0_kindOf, Cond.code yX0_kindOf cX0_kindOf 1 (some .int), Cond.methodLink RX0 39 yX0_isComplete, Cond.instanceMethod yX0_isComplete, Cond.selects RX0 yX0_isComplete yX0_isComplete, Cond.code yX0_isComplete cX0_isComplete 1 (some .boolean), Cond.static yX4_lowest, Cond.initialized RX4, Cond.code yX4_lowest cX4_lowest 1 (some .int), Cond.fieldLink RX4 216 "ThreadWinder" "LOWEST" "[I", Cond.methodLink RX0 43 yX0_addCommand, Cond.instanceMethod yX0_addCommand, Cond.selects RX0 yX0_addCommand yX0_addCommand]
def wsX0_read_r2 : List Cond := [Cond.code yX0_addCommand cX0_addCommand 1 none, Cond.fieldLink RX0 15 "ThreadWinder$CommandText" "kinds" "[I", Cond.fieldLink RX0 19 "ThreadWinder$CommandText" "values" "[I", Cond.methodLink RX0 50 yX0_takesDigit, Cond.instanceMethod yX0_takesDigit, Cond.selects RX0 yX0_takesDigit yX0_takesDigit, Cond.code yX0_takesDigit cX0_takesDigit 4 (some .boolean), Cond.static yX4_highest, Cond.code yX4_highest cX4_highest 1 (some .int), Cond.fieldLink RX4 220 "ThreadWinder" "HIGHEST" "[I"]
def wsX0_read : List Cond := .code yX0_read cX0_read 2 (some .int) :: ((wsX0_read_r1 ++ wsX0_read_r2) ++ wsX00)
def wsX0_commandAt : List Cond := .code yX0_commandAt cX0_commandAt 2 (some .int) :: ([.fieldLink RX0 15 "ThreadWinder$CommandText" "kinds" "[I"] ++ wsX00)
def wsX0_valueAt : List Cond := .code yX0_valueAt cX0_valueAt 2 (some .int) :: ([.fieldLink RX0 19 "ThreadWinder$CommandText" "values" "[I"] ++ wsX00)
def wsX3_init : List Cond := .code yX3_init cX3_init 1 none :: ([.methodLink RX3 3 objectInit, .instanceMethod objectInit, .code objectInit ⟨#[0xb1]⟩ 1 none, .arrayClass .int, .fieldLink RX3 9 "ThreadWinder$Wraps" "heights" "[I", .fieldLink RX3 15 "ThreadWinder$Wraps" "laid" "I", .fieldLink RX3 19 "ThreadWinder$Wraps" "tallest" "I", .fieldLink RX3 22 "ThreadWinder$Wraps" "way" "I"] ++ wsX30)
def wsX2_init_r1 : List Cond := [Cond.methodLink RX2 3 objectInit, Cond.instanceMethod objectInit, Cond.code objectInit ⟨#[0xb1]⟩ 1 none, Cond.classLink RX2 9 RX3, Cond.instantiable RX3 4, Cond.initialized RX3, Cond.fieldLink RX2 12 "ThreadWinder$State" "wraps" "LThreadWinder$Wraps;", Cond.arrayClass .int, Cond.fieldLink RX2 18 "ThreadWinder$State" "knots" "[I", Cond.methodLink RX2 25 ⟨"[I", "clone", "()Ljava/lang/Object;"⟩, Cond.sameMethod "[I" "java/lang/Object" "clone" "()Ljava/lang/Object;", Cond.native ⟨"java/lang/Object", "clone", "()Ljava/lang/Object;"⟩, Cond.instanceMethod ⟨"java/lang/Object", "clone", "()Ljava/lang/Object;"⟩, Cond.selects "[I" ⟨"[I", "clone", "()Ljava/lang/Object;"⟩ ⟨"java/lang/Object", "clone", "()Ljava/lang/Object;"⟩, Cond.classLink RX2 26 "[I", Cond.fieldLink RX2 30 "ThreadWinder$State" "numbers" "[I", Cond.fieldLink RX2 33 "ThreadWinder$State" "coneLeft" "I", Cond.fieldLink RX2 37 "ThreadWinder$State" "warmth" "I", Cond.fieldLink RX2 40 "ThreadWinder$State" "broken" "Z", Cond.fieldLink RX2 44 "ThreadWinder$State" "lastPlace" "I", Cond.fieldLink RX2 47 "ThreadWinder$State" "lastTension" "I", Cond.fieldLink RX2 50 "ThreadWinder$State" "turnsDone" "I", Cond.fieldLink RX2 53 "ThreadWinder$State" "breaks" "I", Cond.fieldLink RX2 56 "ThreadWinder$State" "packagesOff" "I"]
def wsX2_init_r2 : List Cond := [Cond.instanceMethod yX3_init, Cond.code yX3_init cX3_init 1 none, Cond.methodLink RX3 3 objectInit, Cond.fieldLink RX3 9 "ThreadWinder$Wraps" "heights" "[I", Cond.fieldLink RX3 15 "ThreadWinder$Wraps" "laid" "I", Cond.fieldLink RX3 19 "ThreadWinder$Wraps" "tallest" "I", Cond.fieldLink RX3 22 "ThreadWinder$Wraps" "way" "I"]
def wsX2_init : List Cond := .code yX2_init cX2_init 1 none :: ((wsX2_init_r1 ++ wsX2_init_r2) ++ wsX30 ++ wsX20)
def wsX1_init_r1 : List Cond := [Cond.methodLink RX1 3 objectInit, Cond.instanceMethod objectInit, Cond.code objectInit ⟨#[0xb1]⟩ 1 none, Cond.classLink RX1 9 RX2, Cond.fieldLink RX1 11 "ThreadWinder$History" "states" "[LThreadWinder$State;", Cond.fieldLink RX1 17 "ThreadWinder$History" "next" "I", Cond.fieldLink RX1 21 "ThreadWinder$History" "kept" "I", Cond.instantiable RX2 11, Cond.initialized RX2, Cond.instanceMethod yX2_init, Cond.code yX2_init cX2_init 1 none, Cond.methodLink RX2 3 objectInit, Cond.classLink RX2 9 RX3, Cond.instantiable RX3 4, Cond.initialized RX3, Cond.fieldLink RX2 12 "ThreadWinder$State" "wraps" "LThreadWinder$Wraps;", Cond.arrayClass .int, Cond.fieldLink RX2 18 "ThreadWinder$State" "knots" "[I", Cond.methodLink RX2 25 ⟨"[I", "clone", "()Ljava/lang/Object;"⟩, Cond.sameMethod "[I" "java/lang/Object" "clone" "()Ljava/lang/Object;", Cond.native ⟨"java/lang/Object", "clone", "()Ljava/lang/Object;"⟩, Cond.instanceMethod ⟨"java/lang/Object", "clone", "()Ljava/lang/Object;"⟩, Cond.selects "[I" ⟨"[I", "clone", "()Ljava/lang/Object;"⟩ ⟨"java/lang/Object", "clone", "()Ljava/lang/Object;"⟩, Cond.classLink RX2 26 "[I"]
def wsX1_init_r2 : List Cond := [Cond.fieldLink RX2 30 "ThreadWinder$State" "numbers" "[I", Cond.fieldLink RX2 33 "ThreadWinder$State" "coneLeft" "I", Cond.fieldLink RX2 37 "ThreadWinder$State" "warmth" "I", Cond.fieldLink RX2 40 "ThreadWinder$State" "broken" "Z", Cond.fieldLink RX2 44 "ThreadWinder$State" "lastPlace" "I", Cond.fieldLink RX2 47 "ThreadWinder$State" "lastTension" "I", Cond.fieldLink RX2 50 "ThreadWinder$State" "turnsDone" "I", Cond.fieldLink RX2 53 "ThreadWinder$State" "breaks" "I", Cond.fieldLink RX2 56 "ThreadWinder$State" "packagesOff" "I", Cond.instanceMethod yX3_init, Cond.code yX3_init cX3_init 1 none, Cond.methodLink RX3 3 objectInit, Cond.fieldLink RX3 9 "ThreadWinder$Wraps" "heights" "[I", Cond.fieldLink RX3 15 "ThreadWinder$Wraps" "laid" "I", Cond.fieldLink RX3 19 "ThreadWinder$Wraps" "tallest" "I", Cond.fieldLink RX3 22 "ThreadWinder$Wraps" "way" "I"]
def wsX1_init : List Cond := .code yX1_init cX1_init 2 none :: ((wsX1_init_r1 ++ wsX1_init_r2) ++ wsX10 ++ wsX20 ++ wsX30)
def wsX1_stateAt : List Cond := .code yX1_stateAt cX1_stateAt 2 (some (.object "ThreadWinder$State")) :: ([.fieldLink RX1 11 "ThreadWinder$History" "states" "[LThreadWinder$State;"] ++ wsX10)
def wsX3_copyFrom : List Cond := .code yX3_copyFrom cX3_copyFrom 2 none :: ([.fieldLink RX3 9 "ThreadWinder$Wraps" "heights" "[I", .methodLink RX3 25 arraycopyName, .native arraycopyName, .static arraycopyName, .initialized "java/lang/System", .fieldLink RX3 15 "ThreadWinder$Wraps" "laid" "I", .fieldLink RX3 19 "ThreadWinder$Wraps" "tallest" "I", .fieldLink RX3 22 "ThreadWinder$Wraps" "way" "I"] ++ wsX30)
def wsX2_copyFrom : List Cond := .code yX2_copyFrom cX2_copyFrom 2 none :: ([.fieldLink RX2 12 "ThreadWinder$State" "wraps" "LThreadWinder$Wraps;", .fieldLink RX2 18 "ThreadWinder$State" "knots" "[I", .methodLink RX2 63 arraycopyName, .native arraycopyName, .static arraycopyName, .initialized "java/lang/System", .fieldLink RX2 30 "ThreadWinder$State" "numbers" "[I", .fieldLink RX2 33 "ThreadWinder$State" "coneLeft" "I", .fieldLink RX2 37 "ThreadWinder$State" "warmth" "I", .fieldLink RX2 40 "ThreadWinder$State" "broken" "Z", .fieldLink RX2 44 "ThreadWinder$State" "lastPlace" "I", .fieldLink RX2 47 "ThreadWinder$State" "lastTension" "I", .fieldLink RX2 50 "ThreadWinder$State" "turnsDone" "I", .fieldLink RX2 53 "ThreadWinder$State" "breaks" "I", .fieldLink RX2 56 "ThreadWinder$State" "packagesOff" "I", .instanceMethod yX3_copyFrom, .initialized RX3, .selects RX3 yX3_copyFrom yX3_copyFrom, .code yX3_copyFrom cX3_copyFrom 2 none, .fieldLink RX3 9 "ThreadWinder$Wraps" "heights" "[I", .methodLink RX3 25 arraycopyName, .fieldLink RX3 15 "ThreadWinder$Wraps" "laid" "I", .fieldLink RX3 19 "ThreadWinder$Wraps" "tallest" "I", .fieldLink RX3 22 "ThreadWinder$Wraps" "way" "I"] ++ wsX20 ++ wsX30)
def wsX1_remember_r1 : List Cond := [Cond.fieldLink RX1 17 "ThreadWinder$History" "next" "I", Cond.fieldLink RX1 21 "ThreadWinder$History" "kept" "I", Cond.methodLink RX1 33 Lib.Math.min.name, Cond.static Lib.Math.min.name, Cond.initialized "java/lang/Math", Cond.code Lib.Math.min.name Lib.Math.min.code 2 (some .int), Cond.methodLink RX1 25 yX1_stateAt, Cond.instanceMethod yX1_stateAt, Cond.selects RX1 yX1_stateAt yX1_stateAt, Cond.initialized RX1, Cond.code yX1_stateAt cX1_stateAt 2 (some (.object "ThreadWinder$State")), Cond.fieldLink RX1 11 "ThreadWinder$History" "states" "[LThreadWinder$State;", Cond.instanceMethod yX2_copyFrom, Cond.initialized RX2, Cond.selects RX2 yX2_copyFrom yX2_copyFrom, Cond.code yX2_copyFrom cX2_copyFrom 2 none, Cond.fieldLink RX2 12 "ThreadWinder$State" "wraps" "LThreadWinder$Wraps;", Cond.fieldLink RX2 18 "ThreadWinder$State" "knots" "[I", Cond.methodLink RX2 63 arraycopyName, Cond.native arraycopyName, Cond.static arraycopyName, Cond.initialized "java/lang/System", Cond.fieldLink RX2 30 "ThreadWinder$State" "numbers" "[I", Cond.fieldLink RX2 33 "ThreadWinder$State" "coneLeft" "I"]
def wsX1_remember_r2 : List Cond := [Cond.fieldLink RX2 37 "ThreadWinder$State" "warmth" "I", Cond.fieldLink RX2 40 "ThreadWinder$State" "broken" "Z", Cond.fieldLink RX2 44 "ThreadWinder$State" "lastPlace" "I", Cond.fieldLink RX2 47 "ThreadWinder$State" "lastTension" "I", Cond.fieldLink RX2 50 "ThreadWinder$State" "turnsDone" "I", Cond.fieldLink RX2 53 "ThreadWinder$State" "breaks" "I", Cond.fieldLink RX2 56 "ThreadWinder$State" "packagesOff" "I", Cond.instanceMethod yX3_copyFrom, Cond.initialized RX3, Cond.selects RX3 yX3_copyFrom yX3_copyFrom, Cond.code yX3_copyFrom cX3_copyFrom 2 none, Cond.fieldLink RX3 9 "ThreadWinder$Wraps" "heights" "[I", Cond.methodLink RX3 25 arraycopyName, Cond.fieldLink RX3 15 "ThreadWinder$Wraps" "laid" "I", Cond.fieldLink RX3 19 "ThreadWinder$Wraps" "tallest" "I", Cond.fieldLink RX3 22 "ThreadWinder$Wraps" "way" "I"]
def wsX1_remember : List Cond := .code yX1_remember cX1_remember 3 none :: ((wsX1_remember_r1 ++ wsX1_remember_r2) ++ wsX10 ++ wsX20 ++ wsX30)
def wsX1_takeLatest_r1 : List Cond := [Cond.fieldLink RX1 17 "ThreadWinder$History" "next" "I", Cond.fieldLink RX1 21 "ThreadWinder$History" "kept" "I", Cond.methodLink RX1 25 yX1_stateAt, Cond.instanceMethod yX1_stateAt, Cond.selects RX1 yX1_stateAt yX1_stateAt, Cond.initialized RX1, Cond.code yX1_stateAt cX1_stateAt 2 (some (.object "ThreadWinder$State")), Cond.fieldLink RX1 11 "ThreadWinder$History" "states" "[LThreadWinder$State;", Cond.instanceMethod yX2_copyFrom, Cond.initialized RX2, Cond.selects RX2 yX2_copyFrom yX2_copyFrom, Cond.code yX2_copyFrom cX2_copyFrom 2 none, Cond.fieldLink RX2 12 "ThreadWinder$State" "wraps" "LThreadWinder$Wraps;", Cond.fieldLink RX2 18 "ThreadWinder$State" "knots" "[I", Cond.methodLink RX2 63 arraycopyName, Cond.native arraycopyName, Cond.static arraycopyName, Cond.initialized "java/lang/System", Cond.fieldLink RX2 30 "ThreadWinder$State" "numbers" "[I", Cond.fieldLink RX2 33 "ThreadWinder$State" "coneLeft" "I", Cond.fieldLink RX2 37 "ThreadWinder$State" "warmth" "I", Cond.fieldLink RX2 40 "ThreadWinder$State" "broken" "Z", Cond.fieldLink RX2 44 "ThreadWinder$State" "lastPlace" "I", Cond.fieldLink RX2 47 "ThreadWinder$State" "lastTension" "I"]
def wsX1_takeLatest_r2 : List Cond := [Cond.fieldLink RX2 50 "ThreadWinder$State" "turnsDone" "I", Cond.fieldLink RX2 53 "ThreadWinder$State" "breaks" "I", Cond.fieldLink RX2 56 "ThreadWinder$State" "packagesOff" "I", Cond.instanceMethod yX3_copyFrom, Cond.initialized RX3, Cond.selects RX3 yX3_copyFrom yX3_copyFrom, Cond.code yX3_copyFrom cX3_copyFrom 2 none, Cond.fieldLink RX3 9 "ThreadWinder$Wraps" "heights" "[I", Cond.methodLink RX3 25 arraycopyName, Cond.fieldLink RX3 15 "ThreadWinder$Wraps" "laid" "I", Cond.fieldLink RX3 19 "ThreadWinder$Wraps" "tallest" "I", Cond.fieldLink RX3 22 "ThreadWinder$Wraps" "way" "I"]
def wsX1_takeLatest : List Cond := .code yX1_takeLatest cX1_takeLatest 4 (some .int) :: ((wsX1_takeLatest_r1 ++ wsX1_takeLatest_r2) ++ wsX10 ++ wsX20 ++ wsX30)
def wsX4_inRange : List Cond := .code yX4_inRange cX4_inRange 2 (some .boolean) :: ([.methodLink RX4 158 yX4_lowest, .static yX4_lowest, .initialized RX4, .code yX4_lowest cX4_lowest 1 (some .int), .fieldLink RX4 216 "ThreadWinder" "LOWEST" "[I", .methodLink RX4 161 yX4_highest, .static yX4_highest, .code yX4_highest cX4_highest 1 (some .int), .fieldLink RX4 220 "ThreadWinder" "HIGHEST" "[I"])
def wsX2_isConeEmpty : List Cond := .code yX2_isConeEmpty cX2_isConeEmpty 1 (some .boolean) :: ([.fieldLink RX2 33 "ThreadWinder$State" "coneLeft" "I"] ++ wsX20)
def wsX3_isFull : List Cond := .code yX3_isFull cX3_isFull 1 (some .boolean) :: ([.fieldLink RX3 19 "ThreadWinder$Wraps" "tallest" "I"] ++ wsX30)
def wsX2_isIdle : List Cond := .code yX2_isIdle cX2_isIdle 1 (some .boolean) :: ([.fieldLink RX2 40 "ThreadWinder$State" "broken" "Z", .fieldLink RX2 12 "ThreadWinder$State" "wraps" "LThreadWinder$Wraps;", .methodLink RX2 140 yX2_isConeEmpty, .instanceMethod yX2_isConeEmpty, .selects RX2 yX2_isConeEmpty yX2_isConeEmpty, .initialized RX2, .code yX2_isConeEmpty cX2_isConeEmpty 1 (some .boolean), .fieldLink RX2 33 "ThreadWinder$State" "coneLeft" "I", .instanceMethod yX3_isFull, .initialized RX3, .selects RX3 yX3_isFull yX3_isFull, .code yX3_isFull cX3_isFull 1 (some .boolean), .fieldLink RX3 19 "ThreadWinder$Wraps" "tallest" "I"] ++ wsX20 ++ wsX30)
def wsX3_guidePlace : List Cond := .code yX3_guidePlace cX3_guidePlace 1 (some .int) :: ([.fieldLink RX3 22 "ThreadWinder$Wraps" "way" "I"] ++ wsX30)
def wsX3_heightAt : List Cond := .code yX3_heightAt cX3_heightAt 2 (some .int) :: ([.fieldLink RX3 9 "ThreadWinder$Wraps" "heights" "[I"] ++ wsX30)
def wsX3_layWrap : List Cond := .code yX3_layWrap cX3_layWrap 2 none :: ([.fieldLink RX3 9 "ThreadWinder$Wraps" "heights" "[I", .fieldLink RX3 15 "ThreadWinder$Wraps" "laid" "I", .fieldLink RX3 19 "ThreadWinder$Wraps" "tallest" "I", .methodLink RX3 45 Lib.Math.max.name, .static Lib.Math.max.name, .initialized "java/lang/Math", .code Lib.Math.max.name Lib.Math.max.code 2 (some .int), .methodLink RX3 41 yX3_guidePlace, .instanceMethod yX3_guidePlace, .selects RX3 yX3_guidePlace yX3_guidePlace, .initialized RX3, .code yX3_guidePlace cX3_guidePlace 1 (some .int), .fieldLink RX3 22 "ThreadWinder$Wraps" "way" "I"] ++ wsX30)
def wsX2_number : List Cond := .code yX2_number cX2_number 2 (some .int) :: ([.fieldLink RX2 30 "ThreadWinder$State" "numbers" "[I"] ++ wsX20)
def wsX2_tensionAt : List Cond := .code yX2_tensionAt cX2_tensionAt 4 (some .int) :: ([.fieldLink RX2 37 "ThreadWinder$State" "warmth" "I", .fieldLink RX2 44 "ThreadWinder$State" "lastPlace" "I", .fieldLink RX2 12 "ThreadWinder$State" "wraps" "LThreadWinder$Wraps;", .methodLink RX2 120 Lib.Math.abs.name, .static Lib.Math.abs.name, .initialized "java/lang/Math", .code Lib.Math.abs.name Lib.Math.abs.code 1 (some .int), .methodLink RX2 113 yX2_number, .instanceMethod yX2_number, .selects RX2 yX2_number yX2_number, .initialized RX2, .code yX2_number cX2_number 2 (some .int), .fieldLink RX2 30 "ThreadWinder$State" "numbers" "[I", .instanceMethod yX3_heightAt, .initialized RX3, .selects RX3 yX3_heightAt yX3_heightAt, .code yX3_heightAt cX3_heightAt 2 (some .int), .fieldLink RX3 9 "ThreadWinder$Wraps" "heights" "[I"] ++ wsX20 ++ wsX30)
def wsX2_warmDiscs : List Cond := .code yX2_warmDiscs cX2_warmDiscs 1 none :: ([.fieldLink RX2 37 "ThreadWinder$State" "warmth" "I", .methodLink RX2 125 Lib.Math.min.name, .static Lib.Math.min.name, .initialized "java/lang/Math", .code Lib.Math.min.name Lib.Math.min.code 2 (some .int), .methodLink RX2 128 Lib.Math.max.name, .static Lib.Math.max.name, .code Lib.Math.max.name Lib.Math.max.code 2 (some .int), .methodLink RX2 113 yX2_number, .instanceMethod yX2_number, .selects RX2 yX2_number yX2_number, .initialized RX2, .code yX2_number cX2_number 2 (some .int), .fieldLink RX2 30 "ThreadWinder$State" "numbers" "[I"] ++ wsX20)
def wsX4_oneIf : List Cond := .code yX4_oneIf cX4_oneIf 1 (some .int) :: ([])
def wsX3_moveGuide : List Cond := .code yX3_moveGuide cX3_moveGuide 6 none :: ([.fieldLink RX3 22 "ThreadWinder$Wraps" "way" "I", .static yX4_oneIf, .initialized RX4, .code yX4_oneIf cX4_oneIf 1 (some .int)] ++ wsX30)
def wsX2_turnOnce_r1 : List Cond := [Cond.fieldLink RX2 50 "ThreadWinder$State" "turnsDone" "I", Cond.fieldLink RX2 12 "ThreadWinder$State" "wraps" "LThreadWinder$Wraps;", Cond.fieldLink RX2 33 "ThreadWinder$State" "coneLeft" "I", Cond.fieldLink RX2 47 "ThreadWinder$State" "lastTension" "I", Cond.fieldLink RX2 44 "ThreadWinder$State" "lastPlace" "I", Cond.fieldLink RX2 40 "ThreadWinder$State" "broken" "Z", Cond.fieldLink RX2 53 "ThreadWinder$State" "breaks" "I", Cond.methodLink RX2 88 yX2_isIdle, Cond.instanceMethod yX2_isIdle, Cond.selects RX2 yX2_isIdle yX2_isIdle, Cond.initialized RX2, Cond.code yX2_isIdle cX2_isIdle 1 (some .boolean), Cond.methodLink RX2 140 yX2_isConeEmpty, Cond.instanceMethod yX2_isConeEmpty, Cond.selects RX2 yX2_isConeEmpty yX2_isConeEmpty, Cond.code yX2_isConeEmpty cX2_isConeEmpty 1 (some .boolean), Cond.instanceMethod yX3_isFull, Cond.initialized RX3, Cond.selects RX3 yX3_isFull yX3_isFull, Cond.code yX3_isFull cX3_isFull 1 (some .boolean), Cond.fieldLink RX3 19 "ThreadWinder$Wraps" "tallest" "I", Cond.instanceMethod yX3_guidePlace, Cond.selects RX3 yX3_guidePlace yX3_guidePlace, Cond.code yX3_guidePlace cX3_guidePlace 1 (some .int)]
def wsX2_turnOnce_r2 : List Cond := [Cond.fieldLink RX3 22 "ThreadWinder$Wraps" "way" "I", Cond.instanceMethod yX3_heightAt, Cond.selects RX3 yX3_heightAt yX3_heightAt, Cond.code yX3_heightAt cX3_heightAt 2 (some .int), Cond.fieldLink RX3 9 "ThreadWinder$Wraps" "heights" "[I", Cond.instanceMethod yX3_layWrap, Cond.selects RX3 yX3_layWrap yX3_layWrap, Cond.code yX3_layWrap cX3_layWrap 2 none, Cond.fieldLink RX3 15 "ThreadWinder$Wraps" "laid" "I", Cond.methodLink RX3 45 Lib.Math.max.name, Cond.static Lib.Math.max.name, Cond.initialized "java/lang/Math", Cond.code Lib.Math.max.name Lib.Math.max.code 2 (some .int), Cond.methodLink RX3 41 yX3_guidePlace, Cond.methodLink RX2 107 yX2_tensionAt, Cond.instanceMethod yX2_tensionAt, Cond.selects RX2 yX2_tensionAt yX2_tensionAt, Cond.code yX2_tensionAt cX2_tensionAt 4 (some .int), Cond.fieldLink RX2 37 "ThreadWinder$State" "warmth" "I", Cond.methodLink RX2 120 Lib.Math.abs.name, Cond.static Lib.Math.abs.name, Cond.code Lib.Math.abs.name Lib.Math.abs.code 1 (some .int), Cond.methodLink RX2 113 yX2_number, Cond.instanceMethod yX2_number]
def wsX2_turnOnce_r3 : List Cond := [Cond.selects RX2 yX2_number yX2_number, Cond.code yX2_number cX2_number 2 (some .int), Cond.fieldLink RX2 30 "ThreadWinder$State" "numbers" "[I", Cond.methodLink RX2 110 yX2_warmDiscs, Cond.instanceMethod yX2_warmDiscs, Cond.selects RX2 yX2_warmDiscs yX2_warmDiscs, Cond.code yX2_warmDiscs cX2_warmDiscs 1 none, Cond.methodLink RX2 125 Lib.Math.min.name, Cond.static Lib.Math.min.name, Cond.code Lib.Math.min.name Lib.Math.min.code 2 (some .int), Cond.methodLink RX2 128 Lib.Math.max.name, Cond.instanceMethod yX3_moveGuide, Cond.selects RX3 yX3_moveGuide yX3_moveGuide, Cond.code yX3_moveGuide cX3_moveGuide 6 none, Cond.static yX4_oneIf, Cond.initialized RX4, Cond.code yX4_oneIf cX4_oneIf 1 (some .int)]
def wsX2_turnOnce : List Cond := .code yX2_turnOnce cX2_turnOnce 3 none :: ((wsX2_turnOnce_r1 ++ (wsX2_turnOnce_r2 ++ wsX2_turnOnce_r3)) ++ wsX20 ++ wsX30)
def wsX2_turnOften_r1 : List Cond := [Cond.fieldLink RX2 12 "ThreadWinder$State" "wraps" "LThreadWinder$Wraps;", Cond.static yX4_inRange, Cond.initialized RX4, Cond.code yX4_inRange cX4_inRange 2 (some .boolean), Cond.methodLink RX4 158 yX4_lowest, Cond.static yX4_lowest, Cond.code yX4_lowest cX4_lowest 1 (some .int), Cond.fieldLink RX4 216 "ThreadWinder" "LOWEST" "[I", Cond.methodLink RX4 161 yX4_highest, Cond.static yX4_highest, Cond.code yX4_highest cX4_highest 1 (some .int), Cond.fieldLink RX4 220 "ThreadWinder" "HIGHEST" "[I", Cond.methodLink RX2 88 yX2_isIdle, Cond.instanceMethod yX2_isIdle, Cond.selects RX2 yX2_isIdle yX2_isIdle, Cond.initialized RX2, Cond.code yX2_isIdle cX2_isIdle 1 (some .boolean), Cond.fieldLink RX2 40 "ThreadWinder$State" "broken" "Z", Cond.methodLink RX2 140 yX2_isConeEmpty, Cond.instanceMethod yX2_isConeEmpty, Cond.selects RX2 yX2_isConeEmpty yX2_isConeEmpty, Cond.code yX2_isConeEmpty cX2_isConeEmpty 1 (some .boolean), Cond.fieldLink RX2 33 "ThreadWinder$State" "coneLeft" "I", Cond.instanceMethod yX3_isFull]
def wsX2_turnOften_r2 : List Cond := [Cond.initialized RX3, Cond.selects RX3 yX3_isFull yX3_isFull, Cond.code yX3_isFull cX3_isFull 1 (some .boolean), Cond.fieldLink RX3 19 "ThreadWinder$Wraps" "tallest" "I", Cond.methodLink RX2 95 yX2_turnOnce, Cond.instanceMethod yX2_turnOnce, Cond.selects RX2 yX2_turnOnce yX2_turnOnce, Cond.code yX2_turnOnce cX2_turnOnce 3 none, Cond.fieldLink RX2 50 "ThreadWinder$State" "turnsDone" "I", Cond.fieldLink RX2 47 "ThreadWinder$State" "lastTension" "I", Cond.fieldLink RX2 44 "ThreadWinder$State" "lastPlace" "I", Cond.fieldLink RX2 53 "ThreadWinder$State" "breaks" "I", Cond.instanceMethod yX3_guidePlace, Cond.selects RX3 yX3_guidePlace yX3_guidePlace, Cond.code yX3_guidePlace cX3_guidePlace 1 (some .int), Cond.fieldLink RX3 22 "ThreadWinder$Wraps" "way" "I", Cond.instanceMethod yX3_heightAt, Cond.selects RX3 yX3_heightAt yX3_heightAt, Cond.code yX3_heightAt cX3_heightAt 2 (some .int), Cond.fieldLink RX3 9 "ThreadWinder$Wraps" "heights" "[I", Cond.instanceMethod yX3_layWrap, Cond.selects RX3 yX3_layWrap yX3_layWrap, Cond.code yX3_layWrap cX3_layWrap 2 none, Cond.fieldLink RX3 15 "ThreadWinder$Wraps" "laid" "I"]
def wsX2_turnOften_r3 : List Cond := [Cond.methodLink RX3 45 Lib.Math.max.name, Cond.static Lib.Math.max.name, Cond.initialized "java/lang/Math", Cond.code Lib.Math.max.name Lib.Math.max.code 2 (some .int), Cond.methodLink RX3 41 yX3_guidePlace, Cond.methodLink RX2 107 yX2_tensionAt, Cond.instanceMethod yX2_tensionAt, Cond.selects RX2 yX2_tensionAt yX2_tensionAt, Cond.code yX2_tensionAt cX2_tensionAt 4 (some .int), Cond.fieldLink RX2 37 "ThreadWinder$State" "warmth" "I", Cond.methodLink RX2 120 Lib.Math.abs.name, Cond.static Lib.Math.abs.name, Cond.code Lib.Math.abs.name Lib.Math.abs.code 1 (some .int), Cond.methodLink RX2 113 yX2_number, Cond.instanceMethod yX2_number, Cond.selects RX2 yX2_number yX2_number, Cond.code yX2_number cX2_number 2 (some .int), Cond.fieldLink RX2 30 "ThreadWinder$State" "numbers" "[I", Cond.methodLink RX2 110 yX2_warmDiscs, Cond.instanceMethod yX2_warmDiscs, Cond.selects RX2 yX2_warmDiscs yX2_warmDiscs, Cond.code yX2_warmDiscs cX2_warmDiscs 1 none, Cond.methodLink RX2 125 Lib.Math.min.name, Cond.static Lib.Math.min.name]
def wsX2_turnOften_r4 : List Cond := [Cond.code Lib.Math.min.name Lib.Math.min.code 2 (some .int), Cond.methodLink RX2 128 Lib.Math.max.name, Cond.instanceMethod yX3_moveGuide, Cond.selects RX3 yX3_moveGuide yX3_moveGuide, Cond.code yX3_moveGuide cX3_moveGuide 6 none, Cond.static yX4_oneIf, Cond.code yX4_oneIf cX4_oneIf 1 (some .int)]
def wsX2_turnOften : List Cond := .code yX2_turnOften cX2_turnOften 4 (some .int) :: ((wsX2_turnOften_r1 ++ (wsX2_turnOften_r2 ++ (wsX2_turnOften_r3 ++ wsX2_turnOften_r4))) ++ wsX20 ++ wsX30)
def wsX2_changeCone : List Cond := .code yX2_changeCone cX2_changeCone 3 (some .int) :: ([.fieldLink RX2 33 "ThreadWinder$State" "coneLeft" "I", .fieldLink RX2 12 "ThreadWinder$State" "wraps" "LThreadWinder$Wraps;", .fieldLink RX2 40 "ThreadWinder$State" "broken" "Z", .static yX4_inRange, .initialized RX4, .code yX4_inRange cX4_inRange 2 (some .boolean), .methodLink RX4 158 yX4_lowest, .static yX4_lowest, .code yX4_lowest cX4_lowest 1 (some .int), .fieldLink RX4 216 "ThreadWinder" "LOWEST" "[I", .methodLink RX4 161 yX4_highest, .static yX4_highest, .code yX4_highest cX4_highest 1 (some .int), .fieldLink RX4 220 "ThreadWinder" "HIGHEST" "[I"] ++ wsX20 ++ wsX30)
def wsX2_tieKnot : List Cond := .code yX2_tieKnot cX2_tieKnot 2 (some .int) :: ([.fieldLink RX2 33 "ThreadWinder$State" "coneLeft" "I", .fieldLink RX2 40 "ThreadWinder$State" "broken" "Z", .fieldLink RX2 44 "ThreadWinder$State" "lastPlace" "I", .fieldLink RX2 18 "ThreadWinder$State" "knots" "[I", .methodLink RX2 113 yX2_number, .instanceMethod yX2_number, .selects RX2 yX2_number yX2_number, .initialized RX2, .code yX2_number cX2_number 2 (some .int), .fieldLink RX2 30 "ThreadWinder$State" "numbers" "[I"] ++ wsX20)
def wsX2_changeNumber : List Cond := .code yX2_changeNumber cX2_changeNumber 4 (some .int) :: ([.fieldLink RX2 30 "ThreadWinder$State" "numbers" "[I", .static yX4_inRange, .initialized RX4, .code yX4_inRange cX4_inRange 2 (some .boolean), .methodLink RX4 158 yX4_lowest, .static yX4_lowest, .code yX4_lowest cX4_lowest 1 (some .int), .fieldLink RX4 216 "ThreadWinder" "LOWEST" "[I", .methodLink RX4 161 yX4_highest, .static yX4_highest, .code yX4_highest cX4_highest 1 (some .int), .fieldLink RX4 220 "ThreadWinder" "HIGHEST" "[I"] ++ wsX20)
def wsX2_obey_r1 : List Cond := [Cond.methodLink RX2 69 yX2_turnOften, Cond.instanceMethod yX2_turnOften, Cond.selects RX2 yX2_turnOften yX2_turnOften, Cond.initialized RX2, Cond.code yX2_turnOften cX2_turnOften 4 (some .int), Cond.fieldLink RX2 12 "ThreadWinder$State" "wraps" "LThreadWinder$Wraps;", Cond.static yX4_inRange, Cond.initialized RX4, Cond.code yX4_inRange cX4_inRange 2 (some .boolean), Cond.methodLink RX4 158 yX4_lowest, Cond.static yX4_lowest, Cond.code yX4_lowest cX4_lowest 1 (some .int), Cond.fieldLink RX4 216 "ThreadWinder" "LOWEST" "[I", Cond.methodLink RX4 161 yX4_highest, Cond.static yX4_highest, Cond.code yX4_highest cX4_highest 1 (some .int), Cond.fieldLink RX4 220 "ThreadWinder" "HIGHEST" "[I", Cond.methodLink RX2 88 yX2_isIdle, Cond.instanceMethod yX2_isIdle, Cond.selects RX2 yX2_isIdle yX2_isIdle, Cond.code yX2_isIdle cX2_isIdle 1 (some .boolean), Cond.fieldLink RX2 40 "ThreadWinder$State" "broken" "Z", Cond.methodLink RX2 140 yX2_isConeEmpty, Cond.instanceMethod yX2_isConeEmpty]
def wsX2_obey_r2 : List Cond := [Cond.selects RX2 yX2_isConeEmpty yX2_isConeEmpty, Cond.code yX2_isConeEmpty cX2_isConeEmpty 1 (some .boolean), Cond.fieldLink RX2 33 "ThreadWinder$State" "coneLeft" "I", Cond.instanceMethod yX3_isFull, Cond.initialized RX3, Cond.selects RX3 yX3_isFull yX3_isFull, Cond.code yX3_isFull cX3_isFull 1 (some .boolean), Cond.fieldLink RX3 19 "ThreadWinder$Wraps" "tallest" "I", Cond.methodLink RX2 95 yX2_turnOnce, Cond.instanceMethod yX2_turnOnce, Cond.selects RX2 yX2_turnOnce yX2_turnOnce, Cond.code yX2_turnOnce cX2_turnOnce 3 none, Cond.fieldLink RX2 50 "ThreadWinder$State" "turnsDone" "I", Cond.fieldLink RX2 47 "ThreadWinder$State" "lastTension" "I", Cond.fieldLink RX2 44 "ThreadWinder$State" "lastPlace" "I", Cond.fieldLink RX2 53 "ThreadWinder$State" "breaks" "I", Cond.instanceMethod yX3_guidePlace, Cond.selects RX3 yX3_guidePlace yX3_guidePlace, Cond.code yX3_guidePlace cX3_guidePlace 1 (some .int), Cond.fieldLink RX3 22 "ThreadWinder$Wraps" "way" "I", Cond.instanceMethod yX3_heightAt, Cond.selects RX3 yX3_heightAt yX3_heightAt, Cond.code yX3_heightAt cX3_heightAt 2 (some .int), Cond.fieldLink RX3 9 "ThreadWinder$Wraps" "heights" "[I"]
def wsX2_obey_r3 : List Cond := [Cond.instanceMethod yX3_layWrap, Cond.selects RX3 yX3_layWrap yX3_layWrap, Cond.code yX3_layWrap cX3_layWrap 2 none, Cond.fieldLink RX3 15 "ThreadWinder$Wraps" "laid" "I", Cond.methodLink RX3 45 Lib.Math.max.name, Cond.static Lib.Math.max.name, Cond.initialized "java/lang/Math", Cond.code Lib.Math.max.name Lib.Math.max.code 2 (some .int), Cond.methodLink RX3 41 yX3_guidePlace, Cond.methodLink RX2 107 yX2_tensionAt, Cond.instanceMethod yX2_tensionAt, Cond.selects RX2 yX2_tensionAt yX2_tensionAt, Cond.code yX2_tensionAt cX2_tensionAt 4 (some .int), Cond.fieldLink RX2 37 "ThreadWinder$State" "warmth" "I", Cond.methodLink RX2 120 Lib.Math.abs.name, Cond.static Lib.Math.abs.name, Cond.code Lib.Math.abs.name Lib.Math.abs.code 1 (some .int), Cond.methodLink RX2 113 yX2_number, Cond.instanceMethod yX2_number, Cond.selects RX2 yX2_number yX2_number, Cond.code yX2_number cX2_number 2 (some .int), Cond.fieldLink RX2 30 "ThreadWinder$State" "numbers" "[I", Cond.methodLink RX2 110 yX2_warmDiscs, Cond.instanceMethod yX2_warmDiscs]
def wsX2_obey_r4 : List Cond := [Cond.selects RX2 yX2_warmDiscs yX2_warmDiscs, Cond.code yX2_warmDiscs cX2_warmDiscs 1 none, Cond.methodLink RX2 125 Lib.Math.min.name, Cond.static Lib.Math.min.name, Cond.code Lib.Math.min.name Lib.Math.min.code 2 (some .int), Cond.methodLink RX2 128 Lib.Math.max.name, Cond.instanceMethod yX3_moveGuide, Cond.selects RX3 yX3_moveGuide yX3_moveGuide, Cond.code yX3_moveGuide cX3_moveGuide 6 none, Cond.static yX4_oneIf, Cond.code yX4_oneIf cX4_oneIf 1 (some .int), Cond.methodLink RX2 73 yX2_changeCone, Cond.instanceMethod yX2_changeCone, Cond.selects RX2 yX2_changeCone yX2_changeCone, Cond.code yX2_changeCone cX2_changeCone 3 (some .int), Cond.methodLink RX2 76 yX2_tieKnot, Cond.instanceMethod yX2_tieKnot, Cond.selects RX2 yX2_tieKnot yX2_tieKnot, Cond.code yX2_tieKnot cX2_tieKnot 2 (some .int), Cond.fieldLink RX2 18 "ThreadWinder$State" "knots" "[I", Cond.methodLink RX2 80 yX2_changeNumber, Cond.instanceMethod yX2_changeNumber, Cond.selects RX2 yX2_changeNumber yX2_changeNumber, Cond.code yX2_changeNumber cX2_changeNumber 4 (some .int)]
def wsX2_obey : List Cond := .code yX2_obey cX2_obey 3 (some .int) :: ((wsX2_obey_r1 ++ (wsX2_obey_r2 ++ (wsX2_obey_r3 ++ wsX2_obey_r4))) ++ wsX20 ++ wsX30)
def wsJ7_fill_53178 : List Cond := .code yJ7_fill_53178 cJ7_fill_53178 4 none :: ([])
def wsX3_clear : List Cond := .code yX3_clear cX3_clear 1 none :: ([.fieldLink RX3 9 "ThreadWinder$Wraps" "heights" "[I", .fieldLink RX3 15 "ThreadWinder$Wraps" "laid" "I", .fieldLink RX3 19 "ThreadWinder$Wraps" "tallest" "I", .fieldLink RX3 22 "ThreadWinder$Wraps" "way" "I", .methodLink RX3 31 yJ7_fill_53178, .static yJ7_fill_53178, .initialized RJ7, .code yJ7_fill_53178 cJ7_fill_53178 4 none] ++ wsX30)
def wsX2_takePackageOff : List Cond := .code yX2_takePackageOff cX2_takePackageOff 2 (some .int) :: ([.fieldLink RX2 12 "ThreadWinder$State" "wraps" "LThreadWinder$Wraps;", .fieldLink RX2 18 "ThreadWinder$State" "knots" "[I", .fieldLink RX2 40 "ThreadWinder$State" "broken" "Z", .fieldLink RX2 44 "ThreadWinder$State" "lastPlace" "I", .fieldLink RX2 47 "ThreadWinder$State" "lastTension" "I", .fieldLink RX2 56 "ThreadWinder$State" "packagesOff" "I", .instanceMethod yX3_clear, .initialized RX3, .selects RX3 yX3_clear yX3_clear, .code yX3_clear cX3_clear 1 none, .fieldLink RX3 9 "ThreadWinder$Wraps" "heights" "[I", .fieldLink RX3 15 "ThreadWinder$Wraps" "laid" "I", .fieldLink RX3 19 "ThreadWinder$Wraps" "tallest" "I", .fieldLink RX3 22 "ThreadWinder$Wraps" "way" "I", .methodLink RX3 31 yJ7_fill_53178, .static yJ7_fill_53178, .initialized RJ7, .code yJ7_fill_53178 cJ7_fill_53178 4 none, .methodLink RX2 134 yJ7_fill_53178] ++ wsX20 ++ wsX30)
def wsX2_knotsAt : List Cond := .code yX2_knotsAt cX2_knotsAt 2 (some .int) :: ([.fieldLink RX2 18 "ThreadWinder$State" "knots" "[I"] ++ wsX20)
def wsX2_isBad : List Cond := .code yX2_isBad cX2_isBad 2 (some .boolean) :: ([.methodLink RX2 146 yX2_knotsAt, .instanceMethod yX2_knotsAt, .selects RX2 yX2_knotsAt yX2_knotsAt, .initialized RX2, .code yX2_knotsAt cX2_knotsAt 2 (some .int), .fieldLink RX2 18 "ThreadWinder$State" "knots" "[I"] ++ wsX20)
def wsX2_hasBadPlace : List Cond := .code yX2_hasBadPlace cX2_hasBadPlace 3 (some .boolean) :: ([.methodLink RX2 149 yX2_isBad, .instanceMethod yX2_isBad, .selects RX2 yX2_isBad yX2_isBad, .initialized RX2, .code yX2_isBad cX2_isBad 2 (some .boolean), .methodLink RX2 146 yX2_knotsAt, .instanceMethod yX2_knotsAt, .selects RX2 yX2_knotsAt yX2_knotsAt, .code yX2_knotsAt cX2_knotsAt 2 (some .int), .fieldLink RX2 18 "ThreadWinder$State" "knots" "[I"] ++ wsX20)
def wsX2_allKnots : List Cond := .code yX2_allKnots cX2_allKnots 6 (some .int) :: ([.fieldLink RX2 18 "ThreadWinder$State" "knots" "[I"] ++ wsX20)
def wsX3_guideGoesBack : List Cond := .code yX3_guideGoesBack cX3_guideGoesBack 1 (some .boolean) :: ([.fieldLink RX3 22 "ThreadWinder$Wraps" "way" "I"] ++ wsX30)
def wsX3_evenness : List Cond := .code yX3_evenness cX3_evenness 6 (some .int) :: ([.fieldLink RX3 19 "ThreadWinder$Wraps" "tallest" "I", .fieldLink RX3 9 "ThreadWinder$Wraps" "heights" "[I", .methodLink RX3 51 Lib.Math.min.name, .static Lib.Math.min.name, .initialized "java/lang/Math", .code Lib.Math.min.name Lib.Math.min.code 2 (some .int)] ++ wsX30)
def wsX3_isRibbonOver : List Cond := .code yX3_isRibbonOver cX3_isRibbonOver 3 (some .boolean) :: ([.methodLink RX3 58 yX3_heightAt, .instanceMethod yX3_heightAt, .selects RX3 yX3_heightAt yX3_heightAt, .initialized RX3, .code yX3_heightAt cX3_heightAt 2 (some .int), .fieldLink RX3 9 "ThreadWinder$Wraps" "heights" "[I"] ++ wsX30)
def wsX3_isRibbon : List Cond := .code yX3_isRibbon cX3_isRibbon 4 (some .boolean) :: ([.methodLink RX3 54 yX3_isRibbonOver, .instanceMethod yX3_isRibbonOver, .selects RX3 yX3_isRibbonOver yX3_isRibbonOver, .initialized RX3, .code yX3_isRibbonOver cX3_isRibbonOver 3 (some .boolean), .methodLink RX3 58 yX3_heightAt, .instanceMethod yX3_heightAt, .selects RX3 yX3_heightAt yX3_heightAt, .code yX3_heightAt cX3_heightAt 2 (some .int), .fieldLink RX3 9 "ThreadWinder$Wraps" "heights" "[I"] ++ wsX30)
def wsX3_ribbons : List Cond := .code yX3_ribbons cX3_ribbons 3 (some .int) :: ([.methodLink RX3 62 yX3_isRibbon, .instanceMethod yX3_isRibbon, .selects RX3 yX3_isRibbon yX3_isRibbon, .initialized RX3, .code yX3_isRibbon cX3_isRibbon 4 (some .boolean), .methodLink RX3 54 yX3_isRibbonOver, .instanceMethod yX3_isRibbonOver, .selects RX3 yX3_isRibbonOver yX3_isRibbonOver, .code yX3_isRibbonOver cX3_isRibbonOver 3 (some .boolean), .methodLink RX3 58 yX3_heightAt, .instanceMethod yX3_heightAt, .selects RX3 yX3_heightAt yX3_heightAt, .code yX3_heightAt cX3_heightAt 2 (some .int), .fieldLink RX3 9 "ThreadWinder$Wraps" "heights" "[I", .static yX4_oneIf, .initialized RX4, .code yX4_oneIf cX4_oneIf 1 (some .int)] ++ wsX30)
def wsX3_barePlaces : List Cond := .code yX3_barePlaces cX3_barePlaces 6 (some .int) :: ([.fieldLink RX3 9 "ThreadWinder$Wraps" "heights" "[I", .static yX4_oneIf, .initialized RX4, .code yX4_oneIf cX4_oneIf 1 (some .int)] ++ wsX30)
def wsX4_init_r1 : List Cond := [Cond.methodLink RX4 3 objectInit, Cond.instanceMethod objectInit, Cond.code objectInit ⟨#[0xb1]⟩ 1 none, Cond.classLink RX4 9 RX2, Cond.instantiable RX2 11, Cond.initialized RX2, Cond.fieldLink RX4 12 "ThreadWinder" "now" "LThreadWinder$State;", Cond.fieldLink RX4 16 "ThreadWinder" "trial" "LThreadWinder$State;", Cond.fieldLink RX4 19 "ThreadWinder" "snapshot" "LThreadWinder$State;", Cond.classLink RX4 22 RX3, Cond.instantiable RX3 4, Cond.initialized RX3, Cond.fieldLink RX4 25 "ThreadWinder" "imagined" "LThreadWinder$Wraps;", Cond.classLink RX4 29 RX1, Cond.instantiable RX1 3, Cond.initialized RX1, Cond.fieldLink RX4 32 "ThreadWinder" "history" "LThreadWinder$History;", Cond.classLink RX4 36 RX0, Cond.instantiable RX0 7, Cond.initialized RX0, Cond.fieldLink RX4 39 "ThreadWinder" "text" "LThreadWinder$CommandText;", Cond.fieldLink RX4 43 "ThreadWinder" "snapshotTaken" "Z", Cond.fieldLink RX4 47 "ThreadWinder" "latestStop" "I", Cond.instanceMethod yX2_init]
def wsX4_init_r2 : List Cond := [Cond.code yX2_init cX2_init 1 none, Cond.methodLink RX2 3 objectInit, Cond.classLink RX2 9 RX3, Cond.fieldLink RX2 12 "ThreadWinder$State" "wraps" "LThreadWinder$Wraps;", Cond.arrayClass .int, Cond.fieldLink RX2 18 "ThreadWinder$State" "knots" "[I", Cond.methodLink RX2 25 ⟨"[I", "clone", "()Ljava/lang/Object;"⟩, Cond.sameMethod "[I" "java/lang/Object" "clone" "()Ljava/lang/Object;", Cond.native ⟨"java/lang/Object", "clone", "()Ljava/lang/Object;"⟩, Cond.instanceMethod ⟨"java/lang/Object", "clone", "()Ljava/lang/Object;"⟩, Cond.selects "[I" ⟨"[I", "clone", "()Ljava/lang/Object;"⟩ ⟨"java/lang/Object", "clone", "()Ljava/lang/Object;"⟩, Cond.classLink RX2 26 "[I", Cond.fieldLink RX2 30 "ThreadWinder$State" "numbers" "[I", Cond.fieldLink RX2 33 "ThreadWinder$State" "coneLeft" "I", Cond.fieldLink RX2 37 "ThreadWinder$State" "warmth" "I", Cond.fieldLink RX2 40 "ThreadWinder$State" "broken" "Z", Cond.fieldLink RX2 44 "ThreadWinder$State" "lastPlace" "I", Cond.fieldLink RX2 47 "ThreadWinder$State" "lastTension" "I", Cond.fieldLink RX2 50 "ThreadWinder$State" "turnsDone" "I", Cond.fieldLink RX2 53 "ThreadWinder$State" "breaks" "I", Cond.fieldLink RX2 56 "ThreadWinder$State" "packagesOff" "I", Cond.instanceMethod yX3_init, Cond.code yX3_init cX3_init 1 none, Cond.methodLink RX3 3 objectInit]
def wsX4_init_r3 : List Cond := [Cond.fieldLink RX3 9 "ThreadWinder$Wraps" "heights" "[I", Cond.fieldLink RX3 15 "ThreadWinder$Wraps" "laid" "I", Cond.fieldLink RX3 19 "ThreadWinder$Wraps" "tallest" "I", Cond.fieldLink RX3 22 "ThreadWinder$Wraps" "way" "I", Cond.instanceMethod yX1_init, Cond.code yX1_init cX1_init 2 none, Cond.methodLink RX1 3 objectInit, Cond.classLink RX1 9 RX2, Cond.fieldLink RX1 11 "ThreadWinder$History" "states" "[LThreadWinder$State;", Cond.fieldLink RX1 17 "ThreadWinder$History" "next" "I", Cond.fieldLink RX1 21 "ThreadWinder$History" "kept" "I", Cond.instanceMethod yX0_init, Cond.code yX0_init cX0_init 1 none, Cond.methodLink RX0 3 objectInit, Cond.arrayClass .char, Cond.fieldLink RX0 9 "ThreadWinder$CommandText" "characters" "[C", Cond.fieldLink RX0 15 "ThreadWinder$CommandText" "kinds" "[I", Cond.fieldLink RX0 19 "ThreadWinder$CommandText" "values" "[I", Cond.fieldLink RX0 22 "ThreadWinder$CommandText" "length" "I", Cond.fieldLink RX0 26 "ThreadWinder$CommandText" "commands" "I", Cond.fieldLink RX0 29 "ThreadWinder$CommandText" "kind" "I", Cond.fieldLink RX0 32 "ThreadWinder$CommandText" "value" "I"]
def wsX4_init : List Cond := .code yX4_init cX4_init 1 none :: ((wsX4_init_r1 ++ (wsX4_init_r2 ++ wsX4_init_r3)) ++ wsX20 ++ wsX40 ++ wsX30 ++ wsX10 ++ wsX00)
def wsX4_finishAct_r1 : List Cond := [Cond.fieldLink RX4 32 "ThreadWinder" "history" "LThreadWinder$History;", Cond.fieldLink RX4 12 "ThreadWinder" "now" "LThreadWinder$State;", Cond.fieldLink RX4 16 "ThreadWinder" "trial" "LThreadWinder$State;", Cond.instanceMethod yX1_remember, Cond.initialized RX1, Cond.selects RX1 yX1_remember yX1_remember, Cond.code yX1_remember cX1_remember 3 none, Cond.fieldLink RX1 17 "ThreadWinder$History" "next" "I", Cond.fieldLink RX1 21 "ThreadWinder$History" "kept" "I", Cond.methodLink RX1 33 Lib.Math.min.name, Cond.static Lib.Math.min.name, Cond.initialized "java/lang/Math", Cond.code Lib.Math.min.name Lib.Math.min.code 2 (some .int), Cond.methodLink RX1 25 yX1_stateAt, Cond.instanceMethod yX1_stateAt, Cond.selects RX1 yX1_stateAt yX1_stateAt, Cond.code yX1_stateAt cX1_stateAt 2 (some (.object "ThreadWinder$State")), Cond.fieldLink RX1 11 "ThreadWinder$History" "states" "[LThreadWinder$State;", Cond.instanceMethod yX2_copyFrom, Cond.initialized RX2, Cond.selects RX2 yX2_copyFrom yX2_copyFrom, Cond.code yX2_copyFrom cX2_copyFrom 2 none, Cond.fieldLink RX2 12 "ThreadWinder$State" "wraps" "LThreadWinder$Wraps;", Cond.fieldLink RX2 18 "ThreadWinder$State" "knots" "[I"]
def wsX4_finishAct_r2 : List Cond := [Cond.methodLink RX2 63 arraycopyName, Cond.native arraycopyName, Cond.static arraycopyName, Cond.initialized "java/lang/System", Cond.fieldLink RX2 30 "ThreadWinder$State" "numbers" "[I", Cond.fieldLink RX2 33 "ThreadWinder$State" "coneLeft" "I", Cond.fieldLink RX2 37 "ThreadWinder$State" "warmth" "I", Cond.fieldLink RX2 40 "ThreadWinder$State" "broken" "Z", Cond.fieldLink RX2 44 "ThreadWinder$State" "lastPlace" "I", Cond.fieldLink RX2 47 "ThreadWinder$State" "lastTension" "I", Cond.fieldLink RX2 50 "ThreadWinder$State" "turnsDone" "I", Cond.fieldLink RX2 53 "ThreadWinder$State" "breaks" "I", Cond.fieldLink RX2 56 "ThreadWinder$State" "packagesOff" "I", Cond.instanceMethod yX3_copyFrom, Cond.initialized RX3, Cond.selects RX3 yX3_copyFrom yX3_copyFrom, Cond.code yX3_copyFrom cX3_copyFrom 2 none, Cond.fieldLink RX3 9 "ThreadWinder$Wraps" "heights" "[I", Cond.methodLink RX3 25 arraycopyName, Cond.fieldLink RX3 15 "ThreadWinder$Wraps" "laid" "I", Cond.fieldLink RX3 19 "ThreadWinder$Wraps" "tallest" "I", Cond.fieldLink RX3 22 "ThreadWinder$Wraps" "way" "I"]
def wsX4_finishAct : List Cond := .code yX4_finishAct cX4_finishAct 2 (some .int) :: ((wsX4_finishAct_r1 ++ wsX4_finishAct_r2) ++ wsX40 ++ wsX10 ++ wsX20 ++ wsX30)
def wsX4_set_r1 : List Cond := [Cond.fieldLink RX4 16 "ThreadWinder" "trial" "LThreadWinder$State;", Cond.fieldLink RX4 12 "ThreadWinder" "now" "LThreadWinder$State;", Cond.instanceMethod yX2_copyFrom, Cond.initialized RX2, Cond.selects RX2 yX2_copyFrom yX2_copyFrom, Cond.code yX2_copyFrom cX2_copyFrom 2 none, Cond.fieldLink RX2 12 "ThreadWinder$State" "wraps" "LThreadWinder$Wraps;", Cond.fieldLink RX2 18 "ThreadWinder$State" "knots" "[I", Cond.methodLink RX2 63 arraycopyName, Cond.native arraycopyName, Cond.static arraycopyName, Cond.initialized "java/lang/System", Cond.fieldLink RX2 30 "ThreadWinder$State" "numbers" "[I", Cond.fieldLink RX2 33 "ThreadWinder$State" "coneLeft" "I", Cond.fieldLink RX2 37 "ThreadWinder$State" "warmth" "I", Cond.fieldLink RX2 40 "ThreadWinder$State" "broken" "Z", Cond.fieldLink RX2 44 "ThreadWinder$State" "lastPlace" "I", Cond.fieldLink RX2 47 "ThreadWinder$State" "lastTension" "I", Cond.fieldLink RX2 50 "ThreadWinder$State" "turnsDone" "I", Cond.fieldLink RX2 53 "ThreadWinder$State" "breaks" "I", Cond.fieldLink RX2 56 "ThreadWinder$State" "packagesOff" "I", Cond.instanceMethod yX3_copyFrom, Cond.initialized RX3, Cond.selects RX3 yX3_copyFrom yX3_copyFrom]
def wsX4_set_r2 : List Cond := [Cond.code yX3_copyFrom cX3_copyFrom 2 none, Cond.fieldLink RX3 9 "ThreadWinder$Wraps" "heights" "[I", Cond.methodLink RX3 25 arraycopyName, Cond.fieldLink RX3 15 "ThreadWinder$Wraps" "laid" "I", Cond.fieldLink RX3 19 "ThreadWinder$Wraps" "tallest" "I", Cond.fieldLink RX3 22 "ThreadWinder$Wraps" "way" "I", Cond.instanceMethod yX2_changeNumber, Cond.selects RX2 yX2_changeNumber yX2_changeNumber, Cond.code yX2_changeNumber cX2_changeNumber 4 (some .int), Cond.static yX4_inRange, Cond.initialized RX4, Cond.code yX4_inRange cX4_inRange 2 (some .boolean), Cond.methodLink RX4 158 yX4_lowest, Cond.static yX4_lowest, Cond.code yX4_lowest cX4_lowest 1 (some .int), Cond.fieldLink RX4 216 "ThreadWinder" "LOWEST" "[I", Cond.methodLink RX4 161 yX4_highest, Cond.static yX4_highest, Cond.code yX4_highest cX4_highest 1 (some .int), Cond.fieldLink RX4 220 "ThreadWinder" "HIGHEST" "[I", Cond.methodLink RX4 59 yX4_finishAct, Cond.instanceMethod yX4_finishAct, Cond.selects RX4 yX4_finishAct yX4_finishAct, Cond.code yX4_finishAct cX4_finishAct 2 (some .int)]
def wsX4_set_r3 : List Cond := [Cond.fieldLink RX4 32 "ThreadWinder" "history" "LThreadWinder$History;", Cond.instanceMethod yX1_remember, Cond.initialized RX1, Cond.selects RX1 yX1_remember yX1_remember, Cond.code yX1_remember cX1_remember 3 none, Cond.fieldLink RX1 17 "ThreadWinder$History" "next" "I", Cond.fieldLink RX1 21 "ThreadWinder$History" "kept" "I", Cond.methodLink RX1 33 Lib.Math.min.name, Cond.static Lib.Math.min.name, Cond.initialized "java/lang/Math", Cond.code Lib.Math.min.name Lib.Math.min.code 2 (some .int), Cond.methodLink RX1 25 yX1_stateAt, Cond.instanceMethod yX1_stateAt, Cond.selects RX1 yX1_stateAt yX1_stateAt, Cond.code yX1_stateAt cX1_stateAt 2 (some (.object "ThreadWinder$State")), Cond.fieldLink RX1 11 "ThreadWinder$History" "states" "[LThreadWinder$State;"]
def wsX4_set : List Cond := .code yX4_set cX4_set 3 (some .int) :: ((wsX4_set_r1 ++ (wsX4_set_r2 ++ wsX4_set_r3)) ++ wsX40 ++ wsX20 ++ wsX30 ++ wsX10)
def wsX4_wind_r1 : List Cond := [Cond.fieldLink RX4 16 "ThreadWinder" "trial" "LThreadWinder$State;", Cond.fieldLink RX4 12 "ThreadWinder" "now" "LThreadWinder$State;", Cond.instanceMethod yX2_copyFrom, Cond.initialized RX2, Cond.selects RX2 yX2_copyFrom yX2_copyFrom, Cond.code yX2_copyFrom cX2_copyFrom 2 none, Cond.fieldLink RX2 12 "ThreadWinder$State" "wraps" "LThreadWinder$Wraps;", Cond.fieldLink RX2 18 "ThreadWinder$State" "knots" "[I", Cond.methodLink RX2 63 arraycopyName, Cond.native arraycopyName, Cond.static arraycopyName, Cond.initialized "java/lang/System", Cond.fieldLink RX2 30 "ThreadWinder$State" "numbers" "[I", Cond.fieldLink RX2 33 "ThreadWinder$State" "coneLeft" "I", Cond.fieldLink RX2 37 "ThreadWinder$State" "warmth" "I", Cond.fieldLink RX2 40 "ThreadWinder$State" "broken" "Z", Cond.fieldLink RX2 44 "ThreadWinder$State" "lastPlace" "I", Cond.fieldLink RX2 47 "ThreadWinder$State" "lastTension" "I", Cond.fieldLink RX2 50 "ThreadWinder$State" "turnsDone" "I", Cond.fieldLink RX2 53 "ThreadWinder$State" "breaks" "I", Cond.fieldLink RX2 56 "ThreadWinder$State" "packagesOff" "I", Cond.instanceMethod yX3_copyFrom, Cond.initialized RX3, Cond.selects RX3 yX3_copyFrom yX3_copyFrom]
def wsX4_wind_r2 : List Cond := [Cond.code yX3_copyFrom cX3_copyFrom 2 none, Cond.fieldLink RX3 9 "ThreadWinder$Wraps" "heights" "[I", Cond.methodLink RX3 25 arraycopyName, Cond.fieldLink RX3 15 "ThreadWinder$Wraps" "laid" "I", Cond.fieldLink RX3 19 "ThreadWinder$Wraps" "tallest" "I", Cond.fieldLink RX3 22 "ThreadWinder$Wraps" "way" "I", Cond.instanceMethod yX2_turnOften, Cond.selects RX2 yX2_turnOften yX2_turnOften, Cond.code yX2_turnOften cX2_turnOften 4 (some .int), Cond.static yX4_inRange, Cond.initialized RX4, Cond.code yX4_inRange cX4_inRange 2 (some .boolean), Cond.methodLink RX4 158 yX4_lowest, Cond.static yX4_lowest, Cond.code yX4_lowest cX4_lowest 1 (some .int), Cond.fieldLink RX4 216 "ThreadWinder" "LOWEST" "[I", Cond.methodLink RX4 161 yX4_highest, Cond.static yX4_highest, Cond.code yX4_highest cX4_highest 1 (some .int), Cond.fieldLink RX4 220 "ThreadWinder" "HIGHEST" "[I", Cond.methodLink RX2 88 yX2_isIdle, Cond.instanceMethod yX2_isIdle, Cond.selects RX2 yX2_isIdle yX2_isIdle, Cond.code yX2_isIdle cX2_isIdle 1 (some .boolean)]
def wsX4_wind_r3 : List Cond := [Cond.methodLink RX2 140 yX2_isConeEmpty, Cond.instanceMethod yX2_isConeEmpty, Cond.selects RX2 yX2_isConeEmpty yX2_isConeEmpty, Cond.code yX2_isConeEmpty cX2_isConeEmpty 1 (some .boolean), Cond.instanceMethod yX3_isFull, Cond.selects RX3 yX3_isFull yX3_isFull, Cond.code yX3_isFull cX3_isFull 1 (some .boolean), Cond.methodLink RX2 95 yX2_turnOnce, Cond.instanceMethod yX2_turnOnce, Cond.selects RX2 yX2_turnOnce yX2_turnOnce, Cond.code yX2_turnOnce cX2_turnOnce 3 none, Cond.instanceMethod yX3_guidePlace, Cond.selects RX3 yX3_guidePlace yX3_guidePlace, Cond.code yX3_guidePlace cX3_guidePlace 1 (some .int), Cond.instanceMethod yX3_heightAt, Cond.selects RX3 yX3_heightAt yX3_heightAt, Cond.code yX3_heightAt cX3_heightAt 2 (some .int), Cond.instanceMethod yX3_layWrap, Cond.selects RX3 yX3_layWrap yX3_layWrap, Cond.code yX3_layWrap cX3_layWrap 2 none, Cond.methodLink RX3 45 Lib.Math.max.name, Cond.static Lib.Math.max.name, Cond.initialized "java/lang/Math", Cond.code Lib.Math.max.name Lib.Math.max.code 2 (some .int)]
def wsX4_wind_r4 : List Cond := [Cond.methodLink RX3 41 yX3_guidePlace, Cond.methodLink RX2 107 yX2_tensionAt, Cond.instanceMethod yX2_tensionAt, Cond.selects RX2 yX2_tensionAt yX2_tensionAt, Cond.code yX2_tensionAt cX2_tensionAt 4 (some .int), Cond.methodLink RX2 120 Lib.Math.abs.name, Cond.static Lib.Math.abs.name, Cond.code Lib.Math.abs.name Lib.Math.abs.code 1 (some .int), Cond.methodLink RX2 113 yX2_number, Cond.instanceMethod yX2_number, Cond.selects RX2 yX2_number yX2_number, Cond.code yX2_number cX2_number 2 (some .int), Cond.methodLink RX2 110 yX2_warmDiscs, Cond.instanceMethod yX2_warmDiscs, Cond.selects RX2 yX2_warmDiscs yX2_warmDiscs, Cond.code yX2_warmDiscs cX2_warmDiscs 1 none, Cond.methodLink RX2 125 Lib.Math.min.name, Cond.static Lib.Math.min.name, Cond.code Lib.Math.min.name Lib.Math.min.code 2 (some .int), Cond.methodLink RX2 128 Lib.Math.max.name, Cond.instanceMethod yX3_moveGuide, Cond.selects RX3 yX3_moveGuide yX3_moveGuide, Cond.code yX3_moveGuide cX3_moveGuide 6 none, Cond.static yX4_oneIf]
def wsX4_wind_r5 : List Cond := [Cond.code yX4_oneIf cX4_oneIf 1 (some .int), Cond.methodLink RX4 59 yX4_finishAct, Cond.instanceMethod yX4_finishAct, Cond.selects RX4 yX4_finishAct yX4_finishAct, Cond.code yX4_finishAct cX4_finishAct 2 (some .int), Cond.fieldLink RX4 32 "ThreadWinder" "history" "LThreadWinder$History;", Cond.instanceMethod yX1_remember, Cond.initialized RX1, Cond.selects RX1 yX1_remember yX1_remember, Cond.code yX1_remember cX1_remember 3 none, Cond.fieldLink RX1 17 "ThreadWinder$History" "next" "I", Cond.fieldLink RX1 21 "ThreadWinder$History" "kept" "I", Cond.methodLink RX1 33 Lib.Math.min.name, Cond.methodLink RX1 25 yX1_stateAt, Cond.instanceMethod yX1_stateAt, Cond.selects RX1 yX1_stateAt yX1_stateAt, Cond.code yX1_stateAt cX1_stateAt 2 (some (.object "ThreadWinder$State")), Cond.fieldLink RX1 11 "ThreadWinder$History" "states" "[LThreadWinder$State;"]
def wsX4_wind : List Cond := .code yX4_wind cX4_wind 2 (some .int) :: ((wsX4_wind_r1 ++ (wsX4_wind_r2 ++ (wsX4_wind_r3 ++ (wsX4_wind_r4 ++ wsX4_wind_r5)))) ++ wsX40 ++ wsX20 ++ wsX30 ++ wsX10)
def wsX4_knot_r1 : List Cond := [Cond.fieldLink RX4 16 "ThreadWinder" "trial" "LThreadWinder$State;", Cond.fieldLink RX4 12 "ThreadWinder" "now" "LThreadWinder$State;", Cond.instanceMethod yX2_copyFrom, Cond.initialized RX2, Cond.selects RX2 yX2_copyFrom yX2_copyFrom, Cond.code yX2_copyFrom cX2_copyFrom 2 none, Cond.fieldLink RX2 12 "ThreadWinder$State" "wraps" "LThreadWinder$Wraps;", Cond.fieldLink RX2 18 "ThreadWinder$State" "knots" "[I", Cond.methodLink RX2 63 arraycopyName, Cond.native arraycopyName, Cond.static arraycopyName, Cond.initialized "java/lang/System", Cond.fieldLink RX2 30 "ThreadWinder$State" "numbers" "[I", Cond.fieldLink RX2 33 "ThreadWinder$State" "coneLeft" "I", Cond.fieldLink RX2 37 "ThreadWinder$State" "warmth" "I", Cond.fieldLink RX2 40 "ThreadWinder$State" "broken" "Z", Cond.fieldLink RX2 44 "ThreadWinder$State" "lastPlace" "I", Cond.fieldLink RX2 47 "ThreadWinder$State" "lastTension" "I", Cond.fieldLink RX2 50 "ThreadWinder$State" "turnsDone" "I", Cond.fieldLink RX2 53 "ThreadWinder$State" "breaks" "I", Cond.fieldLink RX2 56 "ThreadWinder$State" "packagesOff" "I", Cond.instanceMethod yX3_copyFrom, Cond.initialized RX3, Cond.selects RX3 yX3_copyFrom yX3_copyFrom]
def wsX4_knot_r2 : List Cond := [Cond.code yX3_copyFrom cX3_copyFrom 2 none, Cond.fieldLink RX3 9 "ThreadWinder$Wraps" "heights" "[I", Cond.methodLink RX3 25 arraycopyName, Cond.fieldLink RX3 15 "ThreadWinder$Wraps" "laid" "I", Cond.fieldLink RX3 19 "ThreadWinder$Wraps" "tallest" "I", Cond.fieldLink RX3 22 "ThreadWinder$Wraps" "way" "I", Cond.instanceMethod yX2_tieKnot, Cond.selects RX2 yX2_tieKnot yX2_tieKnot, Cond.code yX2_tieKnot cX2_tieKnot 2 (some .int), Cond.methodLink RX2 113 yX2_number, Cond.instanceMethod yX2_number, Cond.selects RX2 yX2_number yX2_number, Cond.code yX2_number cX2_number 2 (some .int), Cond.methodLink RX4 59 yX4_finishAct, Cond.instanceMethod yX4_finishAct, Cond.selects RX4 yX4_finishAct yX4_finishAct, Cond.initialized RX4, Cond.code yX4_finishAct cX4_finishAct 2 (some .int), Cond.fieldLink RX4 32 "ThreadWinder" "history" "LThreadWinder$History;", Cond.instanceMethod yX1_remember, Cond.initialized RX1, Cond.selects RX1 yX1_remember yX1_remember, Cond.code yX1_remember cX1_remember 3 none, Cond.fieldLink RX1 17 "ThreadWinder$History" "next" "I"]
def wsX4_knot_r3 : List Cond := [Cond.fieldLink RX1 21 "ThreadWinder$History" "kept" "I", Cond.methodLink RX1 33 Lib.Math.min.name, Cond.static Lib.Math.min.name, Cond.initialized "java/lang/Math", Cond.code Lib.Math.min.name Lib.Math.min.code 2 (some .int), Cond.methodLink RX1 25 yX1_stateAt, Cond.instanceMethod yX1_stateAt, Cond.selects RX1 yX1_stateAt yX1_stateAt, Cond.code yX1_stateAt cX1_stateAt 2 (some (.object "ThreadWinder$State")), Cond.fieldLink RX1 11 "ThreadWinder$History" "states" "[LThreadWinder$State;"]
def wsX4_knot : List Cond := .code yX4_knot cX4_knot 1 (some .int) :: ((wsX4_knot_r1 ++ (wsX4_knot_r2 ++ wsX4_knot_r3)) ++ wsX40 ++ wsX20 ++ wsX30 ++ wsX10)
def wsX4_cone_r1 : List Cond := [Cond.fieldLink RX4 16 "ThreadWinder" "trial" "LThreadWinder$State;", Cond.fieldLink RX4 12 "ThreadWinder" "now" "LThreadWinder$State;", Cond.instanceMethod yX2_copyFrom, Cond.initialized RX2, Cond.selects RX2 yX2_copyFrom yX2_copyFrom, Cond.code yX2_copyFrom cX2_copyFrom 2 none, Cond.fieldLink RX2 12 "ThreadWinder$State" "wraps" "LThreadWinder$Wraps;", Cond.fieldLink RX2 18 "ThreadWinder$State" "knots" "[I", Cond.methodLink RX2 63 arraycopyName, Cond.native arraycopyName, Cond.static arraycopyName, Cond.initialized "java/lang/System", Cond.fieldLink RX2 30 "ThreadWinder$State" "numbers" "[I", Cond.fieldLink RX2 33 "ThreadWinder$State" "coneLeft" "I", Cond.fieldLink RX2 37 "ThreadWinder$State" "warmth" "I", Cond.fieldLink RX2 40 "ThreadWinder$State" "broken" "Z", Cond.fieldLink RX2 44 "ThreadWinder$State" "lastPlace" "I", Cond.fieldLink RX2 47 "ThreadWinder$State" "lastTension" "I", Cond.fieldLink RX2 50 "ThreadWinder$State" "turnsDone" "I", Cond.fieldLink RX2 53 "ThreadWinder$State" "breaks" "I", Cond.fieldLink RX2 56 "ThreadWinder$State" "packagesOff" "I", Cond.instanceMethod yX3_copyFrom, Cond.initialized RX3, Cond.selects RX3 yX3_copyFrom yX3_copyFrom]
def wsX4_cone_r2 : List Cond := [Cond.code yX3_copyFrom cX3_copyFrom 2 none, Cond.fieldLink RX3 9 "ThreadWinder$Wraps" "heights" "[I", Cond.methodLink RX3 25 arraycopyName, Cond.fieldLink RX3 15 "ThreadWinder$Wraps" "laid" "I", Cond.fieldLink RX3 19 "ThreadWinder$Wraps" "tallest" "I", Cond.fieldLink RX3 22 "ThreadWinder$Wraps" "way" "I", Cond.instanceMethod yX2_changeCone, Cond.selects RX2 yX2_changeCone yX2_changeCone, Cond.code yX2_changeCone cX2_changeCone 3 (some .int), Cond.static yX4_inRange, Cond.initialized RX4, Cond.code yX4_inRange cX4_inRange 2 (some .boolean), Cond.methodLink RX4 158 yX4_lowest, Cond.static yX4_lowest, Cond.code yX4_lowest cX4_lowest 1 (some .int), Cond.fieldLink RX4 216 "ThreadWinder" "LOWEST" "[I", Cond.methodLink RX4 161 yX4_highest, Cond.static yX4_highest, Cond.code yX4_highest cX4_highest 1 (some .int), Cond.fieldLink RX4 220 "ThreadWinder" "HIGHEST" "[I", Cond.methodLink RX4 59 yX4_finishAct, Cond.instanceMethod yX4_finishAct, Cond.selects RX4 yX4_finishAct yX4_finishAct, Cond.code yX4_finishAct cX4_finishAct 2 (some .int)]
def wsX4_cone_r3 : List Cond := [Cond.fieldLink RX4 32 "ThreadWinder" "history" "LThreadWinder$History;", Cond.instanceMethod yX1_remember, Cond.initialized RX1, Cond.selects RX1 yX1_remember yX1_remember, Cond.code yX1_remember cX1_remember 3 none, Cond.fieldLink RX1 17 "ThreadWinder$History" "next" "I", Cond.fieldLink RX1 21 "ThreadWinder$History" "kept" "I", Cond.methodLink RX1 33 Lib.Math.min.name, Cond.static Lib.Math.min.name, Cond.initialized "java/lang/Math", Cond.code Lib.Math.min.name Lib.Math.min.code 2 (some .int), Cond.methodLink RX1 25 yX1_stateAt, Cond.instanceMethod yX1_stateAt, Cond.selects RX1 yX1_stateAt yX1_stateAt, Cond.code yX1_stateAt cX1_stateAt 2 (some (.object "ThreadWinder$State")), Cond.fieldLink RX1 11 "ThreadWinder$History" "states" "[LThreadWinder$State;"]
def wsX4_cone : List Cond := .code yX4_cone cX4_cone 2 (some .int) :: ((wsX4_cone_r1 ++ (wsX4_cone_r2 ++ wsX4_cone_r3)) ++ wsX40 ++ wsX20 ++ wsX30 ++ wsX10)
def wsX4_doff_r1 : List Cond := [Cond.fieldLink RX4 16 "ThreadWinder" "trial" "LThreadWinder$State;", Cond.fieldLink RX4 12 "ThreadWinder" "now" "LThreadWinder$State;", Cond.instanceMethod yX2_copyFrom, Cond.initialized RX2, Cond.selects RX2 yX2_copyFrom yX2_copyFrom, Cond.code yX2_copyFrom cX2_copyFrom 2 none, Cond.fieldLink RX2 12 "ThreadWinder$State" "wraps" "LThreadWinder$Wraps;", Cond.fieldLink RX2 18 "ThreadWinder$State" "knots" "[I", Cond.methodLink RX2 63 arraycopyName, Cond.native arraycopyName, Cond.static arraycopyName, Cond.initialized "java/lang/System", Cond.fieldLink RX2 30 "ThreadWinder$State" "numbers" "[I", Cond.fieldLink RX2 33 "ThreadWinder$State" "coneLeft" "I", Cond.fieldLink RX2 37 "ThreadWinder$State" "warmth" "I", Cond.fieldLink RX2 40 "ThreadWinder$State" "broken" "Z", Cond.fieldLink RX2 44 "ThreadWinder$State" "lastPlace" "I", Cond.fieldLink RX2 47 "ThreadWinder$State" "lastTension" "I", Cond.fieldLink RX2 50 "ThreadWinder$State" "turnsDone" "I", Cond.fieldLink RX2 53 "ThreadWinder$State" "breaks" "I", Cond.fieldLink RX2 56 "ThreadWinder$State" "packagesOff" "I", Cond.instanceMethod yX3_copyFrom, Cond.initialized RX3, Cond.selects RX3 yX3_copyFrom yX3_copyFrom]
def wsX4_doff_r2 : List Cond := [Cond.code yX3_copyFrom cX3_copyFrom 2 none, Cond.fieldLink RX3 9 "ThreadWinder$Wraps" "heights" "[I", Cond.methodLink RX3 25 arraycopyName, Cond.fieldLink RX3 15 "ThreadWinder$Wraps" "laid" "I", Cond.fieldLink RX3 19 "ThreadWinder$Wraps" "tallest" "I", Cond.fieldLink RX3 22 "ThreadWinder$Wraps" "way" "I", Cond.instanceMethod yX2_takePackageOff, Cond.selects RX2 yX2_takePackageOff yX2_takePackageOff, Cond.code yX2_takePackageOff cX2_takePackageOff 2 (some .int), Cond.instanceMethod yX3_clear, Cond.selects RX3 yX3_clear yX3_clear, Cond.code yX3_clear cX3_clear 1 none, Cond.methodLink RX3 31 yJ7_fill_53178, Cond.static yJ7_fill_53178, Cond.initialized RJ7, Cond.code yJ7_fill_53178 cJ7_fill_53178 4 none, Cond.methodLink RX2 134 yJ7_fill_53178, Cond.methodLink RX4 59 yX4_finishAct, Cond.instanceMethod yX4_finishAct, Cond.selects RX4 yX4_finishAct yX4_finishAct, Cond.initialized RX4, Cond.code yX4_finishAct cX4_finishAct 2 (some .int), Cond.fieldLink RX4 32 "ThreadWinder" "history" "LThreadWinder$History;", Cond.instanceMethod yX1_remember]
def wsX4_doff_r3 : List Cond := [Cond.initialized RX1, Cond.selects RX1 yX1_remember yX1_remember, Cond.code yX1_remember cX1_remember 3 none, Cond.fieldLink RX1 17 "ThreadWinder$History" "next" "I", Cond.fieldLink RX1 21 "ThreadWinder$History" "kept" "I", Cond.methodLink RX1 33 Lib.Math.min.name, Cond.static Lib.Math.min.name, Cond.initialized "java/lang/Math", Cond.code Lib.Math.min.name Lib.Math.min.code 2 (some .int), Cond.methodLink RX1 25 yX1_stateAt, Cond.instanceMethod yX1_stateAt, Cond.selects RX1 yX1_stateAt yX1_stateAt, Cond.code yX1_stateAt cX1_stateAt 2 (some (.object "ThreadWinder$State")), Cond.fieldLink RX1 11 "ThreadWinder$History" "states" "[LThreadWinder$State;"]
def wsX4_doff : List Cond := .code yX4_doff cX4_doff 1 (some .int) :: ((wsX4_doff_r1 ++ (wsX4_doff_r2 ++ wsX4_doff_r3)) ++ wsX40 ++ wsX20 ++ wsX30 ++ wsX10)
def wsX4_type : List Cond := .code yX4_type cX4_type 2 (some .int) :: ([.fieldLink RX4 39 "ThreadWinder" "text" "LThreadWinder$CommandText;", .instanceMethod yX0_append, .initialized RX0, .selects RX0 yX0_append yX0_append, .code yX0_append cX0_append 2 (some .int), .fieldLink RX0 22 "ThreadWinder$CommandText" "length" "I", .fieldLink RX0 9 "ThreadWinder$CommandText" "characters" "[C"] ++ wsX40 ++ wsX00)
def wsX4_clearText : List Cond := .code yX4_clearText cX4_clearText 1 (some .int) :: ([.fieldLink RX4 39 "ThreadWinder" "text" "LThreadWinder$CommandText;", .instanceMethod yX0_empty, .initialized RX0, .selects RX0 yX0_empty yX0_empty, .code yX0_empty cX0_empty 2 (some .int), .fieldLink RX0 22 "ThreadWinder$CommandText" "length" "I"] ++ wsX40 ++ wsX00)
def wsX4_perform_r1 : List Cond := [Cond.fieldLink RX4 39 "ThreadWinder" "text" "LThreadWinder$CommandText;", Cond.fieldLink RX4 16 "ThreadWinder" "trial" "LThreadWinder$State;", Cond.fieldLink RX4 12 "ThreadWinder" "now" "LThreadWinder$State;", Cond.fieldLink RX4 47 "ThreadWinder" "latestStop" "I", Cond.instanceMethod yX0_read, Cond.initialized RX0, Cond.selects RX0 yX0_read yX0_read, Cond.code yX0_read cX0_read 2 (some .int), Cond.fieldLink RX0 26 "ThreadWinder$CommandText" "commands" "I", Cond.fieldLink RX0 29 "ThreadWinder$CommandText" "kind" "I", Cond.fieldLink RX0 32 "ThreadWinder$CommandText" "value" "I", Cond.fieldLink RX0 22 "ThreadWinder$CommandText" "length" "I", Cond.fieldLink RX0 9 "ThreadWinder$CommandText" "characters" "[C", Cond.methodLink RX0 35 yX0_takes, Cond.instanceMethod yX0_takes, Cond.selects RX0 yX0_takes yX0_takes, Cond.code yX0_takes cX0_takes 2 (some .boolean), Cond.methodLink RX0 46 yX0_kindOf, Cond.static yX0_kindOf, Cond.code yX0_kindOf cX0_kindOf 1 (some .int), Cond.methodLink RX0 39 yX0_isComplete, Cond.instanceMethod yX0_isComplete, Cond.selects RX0 yX0_isComplete yX0_isComplete, Cond.code yX0_isComplete cX0_isComplete 1 (some .boolean)]
def wsX4_perform_r2 : List Cond := [Cond.static yX4_lowest, Cond.initialized RX4, Cond.code yX4_lowest cX4_lowest 1 (some .int), Cond.fieldLink RX4 216 "ThreadWinder" "LOWEST" "[I", Cond.methodLink RX0 43 yX0_addCommand, Cond.instanceMethod yX0_addCommand, Cond.selects RX0 yX0_addCommand yX0_addCommand, Cond.code yX0_addCommand cX0_addCommand 1 none, Cond.fieldLink RX0 15 "ThreadWinder$CommandText" "kinds" "[I", Cond.fieldLink RX0 19 "ThreadWinder$CommandText" "values" "[I", Cond.methodLink RX0 50 yX0_takesDigit, Cond.instanceMethod yX0_takesDigit, Cond.selects RX0 yX0_takesDigit yX0_takesDigit, Cond.code yX0_takesDigit cX0_takesDigit 4 (some .boolean), Cond.static yX4_highest, Cond.code yX4_highest cX4_highest 1 (some .int), Cond.fieldLink RX4 220 "ThreadWinder" "HIGHEST" "[I", Cond.instanceMethod yX2_copyFrom, Cond.initialized RX2, Cond.selects RX2 yX2_copyFrom yX2_copyFrom, Cond.code yX2_copyFrom cX2_copyFrom 2 none, Cond.fieldLink RX2 12 "ThreadWinder$State" "wraps" "LThreadWinder$Wraps;", Cond.fieldLink RX2 18 "ThreadWinder$State" "knots" "[I", Cond.methodLink RX2 63 arraycopyName]
def wsX4_perform_r3 : List Cond := [Cond.native arraycopyName, Cond.static arraycopyName, Cond.initialized "java/lang/System", Cond.fieldLink RX2 30 "ThreadWinder$State" "numbers" "[I", Cond.fieldLink RX2 33 "ThreadWinder$State" "coneLeft" "I", Cond.fieldLink RX2 37 "ThreadWinder$State" "warmth" "I", Cond.fieldLink RX2 40 "ThreadWinder$State" "broken" "Z", Cond.fieldLink RX2 44 "ThreadWinder$State" "lastPlace" "I", Cond.fieldLink RX2 47 "ThreadWinder$State" "lastTension" "I", Cond.fieldLink RX2 50 "ThreadWinder$State" "turnsDone" "I", Cond.fieldLink RX2 53 "ThreadWinder$State" "breaks" "I", Cond.fieldLink RX2 56 "ThreadWinder$State" "packagesOff" "I", Cond.instanceMethod yX3_copyFrom, Cond.initialized RX3, Cond.selects RX3 yX3_copyFrom yX3_copyFrom, Cond.code yX3_copyFrom cX3_copyFrom 2 none, Cond.fieldLink RX3 9 "ThreadWinder$Wraps" "heights" "[I", Cond.methodLink RX3 25 arraycopyName, Cond.fieldLink RX3 15 "ThreadWinder$Wraps" "laid" "I", Cond.fieldLink RX3 19 "ThreadWinder$Wraps" "tallest" "I", Cond.fieldLink RX3 22 "ThreadWinder$Wraps" "way" "I", Cond.instanceMethod yX0_commandAt, Cond.selects RX0 yX0_commandAt yX0_commandAt, Cond.code yX0_commandAt cX0_commandAt 2 (some .int)]
def wsX4_perform_r4 : List Cond := [Cond.instanceMethod yX0_valueAt, Cond.selects RX0 yX0_valueAt yX0_valueAt, Cond.code yX0_valueAt cX0_valueAt 2 (some .int), Cond.instanceMethod yX2_obey, Cond.selects RX2 yX2_obey yX2_obey, Cond.code yX2_obey cX2_obey 3 (some .int), Cond.methodLink RX2 69 yX2_turnOften, Cond.instanceMethod yX2_turnOften, Cond.selects RX2 yX2_turnOften yX2_turnOften, Cond.code yX2_turnOften cX2_turnOften 4 (some .int), Cond.static yX4_inRange, Cond.code yX4_inRange cX4_inRange 2 (some .boolean), Cond.methodLink RX4 158 yX4_lowest, Cond.methodLink RX4 161 yX4_highest, Cond.methodLink RX2 88 yX2_isIdle, Cond.instanceMethod yX2_isIdle, Cond.selects RX2 yX2_isIdle yX2_isIdle, Cond.code yX2_isIdle cX2_isIdle 1 (some .boolean), Cond.methodLink RX2 140 yX2_isConeEmpty, Cond.instanceMethod yX2_isConeEmpty, Cond.selects RX2 yX2_isConeEmpty yX2_isConeEmpty, Cond.code yX2_isConeEmpty cX2_isConeEmpty 1 (some .boolean), Cond.instanceMethod yX3_isFull, Cond.selects RX3 yX3_isFull yX3_isFull]
def wsX4_perform_r5 : List Cond := [Cond.code yX3_isFull cX3_isFull 1 (some .boolean), Cond.methodLink RX2 95 yX2_turnOnce, Cond.instanceMethod yX2_turnOnce, Cond.selects RX2 yX2_turnOnce yX2_turnOnce, Cond.code yX2_turnOnce cX2_turnOnce 3 none, Cond.instanceMethod yX3_guidePlace, Cond.selects RX3 yX3_guidePlace yX3_guidePlace, Cond.code yX3_guidePlace cX3_guidePlace 1 (some .int), Cond.instanceMethod yX3_heightAt, Cond.selects RX3 yX3_heightAt yX3_heightAt, Cond.code yX3_heightAt cX3_heightAt 2 (some .int), Cond.instanceMethod yX3_layWrap, Cond.selects RX3 yX3_layWrap yX3_layWrap, Cond.code yX3_layWrap cX3_layWrap 2 none, Cond.methodLink RX3 45 Lib.Math.max.name, Cond.static Lib.Math.max.name, Cond.initialized "java/lang/Math", Cond.code Lib.Math.max.name Lib.Math.max.code 2 (some .int), Cond.methodLink RX3 41 yX3_guidePlace, Cond.methodLink RX2 107 yX2_tensionAt, Cond.instanceMethod yX2_tensionAt, Cond.selects RX2 yX2_tensionAt yX2_tensionAt, Cond.code yX2_tensionAt cX2_tensionAt 4 (some .int), Cond.methodLink RX2 120 Lib.Math.abs.name]
def wsX4_perform_r6 : List Cond := [Cond.static Lib.Math.abs.name, Cond.code Lib.Math.abs.name Lib.Math.abs.code 1 (some .int), Cond.methodLink RX2 113 yX2_number, Cond.instanceMethod yX2_number, Cond.selects RX2 yX2_number yX2_number, Cond.code yX2_number cX2_number 2 (some .int), Cond.methodLink RX2 110 yX2_warmDiscs, Cond.instanceMethod yX2_warmDiscs, Cond.selects RX2 yX2_warmDiscs yX2_warmDiscs, Cond.code yX2_warmDiscs cX2_warmDiscs 1 none, Cond.methodLink RX2 125 Lib.Math.min.name, Cond.static Lib.Math.min.name, Cond.code Lib.Math.min.name Lib.Math.min.code 2 (some .int), Cond.methodLink RX2 128 Lib.Math.max.name, Cond.instanceMethod yX3_moveGuide, Cond.selects RX3 yX3_moveGuide yX3_moveGuide, Cond.code yX3_moveGuide cX3_moveGuide 6 none, Cond.static yX4_oneIf, Cond.code yX4_oneIf cX4_oneIf 1 (some .int), Cond.methodLink RX2 73 yX2_changeCone, Cond.instanceMethod yX2_changeCone, Cond.selects RX2 yX2_changeCone yX2_changeCone, Cond.code yX2_changeCone cX2_changeCone 3 (some .int), Cond.methodLink RX2 76 yX2_tieKnot]
def wsX4_perform_r7 : List Cond := [Cond.instanceMethod yX2_tieKnot, Cond.selects RX2 yX2_tieKnot yX2_tieKnot, Cond.code yX2_tieKnot cX2_tieKnot 2 (some .int), Cond.methodLink RX2 80 yX2_changeNumber, Cond.instanceMethod yX2_changeNumber, Cond.selects RX2 yX2_changeNumber yX2_changeNumber, Cond.code yX2_changeNumber cX2_changeNumber 4 (some .int), Cond.methodLink RX4 59 yX4_finishAct, Cond.instanceMethod yX4_finishAct, Cond.selects RX4 yX4_finishAct yX4_finishAct, Cond.code yX4_finishAct cX4_finishAct 2 (some .int), Cond.fieldLink RX4 32 "ThreadWinder" "history" "LThreadWinder$History;", Cond.instanceMethod yX1_remember, Cond.initialized RX1, Cond.selects RX1 yX1_remember yX1_remember, Cond.code yX1_remember cX1_remember 3 none, Cond.fieldLink RX1 17 "ThreadWinder$History" "next" "I", Cond.fieldLink RX1 21 "ThreadWinder$History" "kept" "I", Cond.methodLink RX1 33 Lib.Math.min.name, Cond.methodLink RX1 25 yX1_stateAt, Cond.instanceMethod yX1_stateAt, Cond.selects RX1 yX1_stateAt yX1_stateAt, Cond.code yX1_stateAt cX1_stateAt 2 (some (.object "ThreadWinder$State")), Cond.fieldLink RX1 11 "ThreadWinder$History" "states" "[LThreadWinder$State;"]
def wsX4_perform : List Cond := .code yX4_perform cX4_perform 4 (some .int) :: ((wsX4_perform_r1 ++ (wsX4_perform_r2 ++ (wsX4_perform_r3 ++ (wsX4_perform_r4 ++ (wsX4_perform_r5 ++ (wsX4_perform_r6 ++ wsX4_perform_r7)))))) ++ wsX40 ++ wsX00 ++ wsX20 ++ wsX30 ++ wsX10)
def wsX4_stopped : List Cond := .code yX4_stopped cX4_stopped 1 (some .int) :: ([.fieldLink RX4 47 "ThreadWinder" "latestStop" "I"] ++ wsX40)
def wsX4_undo_r1 : List Cond := [Cond.fieldLink RX4 32 "ThreadWinder" "history" "LThreadWinder$History;", Cond.fieldLink RX4 12 "ThreadWinder" "now" "LThreadWinder$State;", Cond.instanceMethod yX1_takeLatest, Cond.initialized RX1, Cond.selects RX1 yX1_takeLatest yX1_takeLatest, Cond.code yX1_takeLatest cX1_takeLatest 4 (some .int), Cond.fieldLink RX1 17 "ThreadWinder$History" "next" "I", Cond.fieldLink RX1 21 "ThreadWinder$History" "kept" "I", Cond.methodLink RX1 25 yX1_stateAt, Cond.instanceMethod yX1_stateAt, Cond.selects RX1 yX1_stateAt yX1_stateAt, Cond.code yX1_stateAt cX1_stateAt 2 (some (.object "ThreadWinder$State")), Cond.fieldLink RX1 11 "ThreadWinder$History" "states" "[LThreadWinder$State;", Cond.instanceMethod yX2_copyFrom, Cond.initialized RX2, Cond.selects RX2 yX2_copyFrom yX2_copyFrom, Cond.code yX2_copyFrom cX2_copyFrom 2 none, Cond.fieldLink RX2 12 "ThreadWinder$State" "wraps" "LThreadWinder$Wraps;", Cond.fieldLink RX2 18 "ThreadWinder$State" "knots" "[I", Cond.methodLink RX2 63 arraycopyName, Cond.native arraycopyName, Cond.static arraycopyName, Cond.initialized "java/lang/System", Cond.fieldLink RX2 30 "ThreadWinder$State" "numbers" "[I"]
def wsX4_undo_r2 : List Cond := [Cond.fieldLink RX2 33 "ThreadWinder$State" "coneLeft" "I", Cond.fieldLink RX2 37 "ThreadWinder$State" "warmth" "I", Cond.fieldLink RX2 40 "ThreadWinder$State" "broken" "Z", Cond.fieldLink RX2 44 "ThreadWinder$State" "lastPlace" "I", Cond.fieldLink RX2 47 "ThreadWinder$State" "lastTension" "I", Cond.fieldLink RX2 50 "ThreadWinder$State" "turnsDone" "I", Cond.fieldLink RX2 53 "ThreadWinder$State" "breaks" "I", Cond.fieldLink RX2 56 "ThreadWinder$State" "packagesOff" "I", Cond.instanceMethod yX3_copyFrom, Cond.initialized RX3, Cond.selects RX3 yX3_copyFrom yX3_copyFrom, Cond.code yX3_copyFrom cX3_copyFrom 2 none, Cond.fieldLink RX3 9 "ThreadWinder$Wraps" "heights" "[I", Cond.methodLink RX3 25 arraycopyName, Cond.fieldLink RX3 15 "ThreadWinder$Wraps" "laid" "I", Cond.fieldLink RX3 19 "ThreadWinder$Wraps" "tallest" "I", Cond.fieldLink RX3 22 "ThreadWinder$Wraps" "way" "I"]
def wsX4_undo : List Cond := .code yX4_undo cX4_undo 1 (some .int) :: ((wsX4_undo_r1 ++ wsX4_undo_r2) ++ wsX40 ++ wsX10 ++ wsX20 ++ wsX30)
def wsX4_keep_r1 : List Cond := [Cond.fieldLink RX4 19 "ThreadWinder" "snapshot" "LThreadWinder$State;", Cond.fieldLink RX4 12 "ThreadWinder" "now" "LThreadWinder$State;", Cond.fieldLink RX4 43 "ThreadWinder" "snapshotTaken" "Z", Cond.instanceMethod yX2_copyFrom, Cond.initialized RX2, Cond.selects RX2 yX2_copyFrom yX2_copyFrom, Cond.code yX2_copyFrom cX2_copyFrom 2 none, Cond.fieldLink RX2 12 "ThreadWinder$State" "wraps" "LThreadWinder$Wraps;", Cond.fieldLink RX2 18 "ThreadWinder$State" "knots" "[I", Cond.methodLink RX2 63 arraycopyName, Cond.native arraycopyName, Cond.static arraycopyName, Cond.initialized "java/lang/System", Cond.fieldLink RX2 30 "ThreadWinder$State" "numbers" "[I", Cond.fieldLink RX2 33 "ThreadWinder$State" "coneLeft" "I", Cond.fieldLink RX2 37 "ThreadWinder$State" "warmth" "I", Cond.fieldLink RX2 40 "ThreadWinder$State" "broken" "Z", Cond.fieldLink RX2 44 "ThreadWinder$State" "lastPlace" "I", Cond.fieldLink RX2 47 "ThreadWinder$State" "lastTension" "I", Cond.fieldLink RX2 50 "ThreadWinder$State" "turnsDone" "I", Cond.fieldLink RX2 53 "ThreadWinder$State" "breaks" "I", Cond.fieldLink RX2 56 "ThreadWinder$State" "packagesOff" "I", Cond.instanceMethod yX3_copyFrom, Cond.initialized RX3]
def wsX4_keep_r2 : List Cond := [Cond.selects RX3 yX3_copyFrom yX3_copyFrom, Cond.code yX3_copyFrom cX3_copyFrom 2 none, Cond.fieldLink RX3 9 "ThreadWinder$Wraps" "heights" "[I", Cond.methodLink RX3 25 arraycopyName, Cond.fieldLink RX3 15 "ThreadWinder$Wraps" "laid" "I", Cond.fieldLink RX3 19 "ThreadWinder$Wraps" "tallest" "I", Cond.fieldLink RX3 22 "ThreadWinder$Wraps" "way" "I"]
def wsX4_keep : List Cond := .code yX4_keep cX4_keep 1 (some .int) :: ((wsX4_keep_r1 ++ wsX4_keep_r2) ++ wsX40 ++ wsX20 ++ wsX30)
def wsX4_restore_r1 : List Cond := [Cond.fieldLink RX4 43 "ThreadWinder" "snapshotTaken" "Z", Cond.fieldLink RX4 16 "ThreadWinder" "trial" "LThreadWinder$State;", Cond.fieldLink RX4 19 "ThreadWinder" "snapshot" "LThreadWinder$State;", Cond.instanceMethod yX2_copyFrom, Cond.initialized RX2, Cond.selects RX2 yX2_copyFrom yX2_copyFrom, Cond.code yX2_copyFrom cX2_copyFrom 2 none, Cond.fieldLink RX2 12 "ThreadWinder$State" "wraps" "LThreadWinder$Wraps;", Cond.fieldLink RX2 18 "ThreadWinder$State" "knots" "[I", Cond.methodLink RX2 63 arraycopyName, Cond.native arraycopyName, Cond.static arraycopyName, Cond.initialized "java/lang/System", Cond.fieldLink RX2 30 "ThreadWinder$State" "numbers" "[I", Cond.fieldLink RX2 33 "ThreadWinder$State" "coneLeft" "I", Cond.fieldLink RX2 37 "ThreadWinder$State" "warmth" "I", Cond.fieldLink RX2 40 "ThreadWinder$State" "broken" "Z", Cond.fieldLink RX2 44 "ThreadWinder$State" "lastPlace" "I", Cond.fieldLink RX2 47 "ThreadWinder$State" "lastTension" "I", Cond.fieldLink RX2 50 "ThreadWinder$State" "turnsDone" "I", Cond.fieldLink RX2 53 "ThreadWinder$State" "breaks" "I", Cond.fieldLink RX2 56 "ThreadWinder$State" "packagesOff" "I", Cond.instanceMethod yX3_copyFrom, Cond.initialized RX3]
def wsX4_restore_r2 : List Cond := [Cond.selects RX3 yX3_copyFrom yX3_copyFrom, Cond.code yX3_copyFrom cX3_copyFrom 2 none, Cond.fieldLink RX3 9 "ThreadWinder$Wraps" "heights" "[I", Cond.methodLink RX3 25 arraycopyName, Cond.fieldLink RX3 15 "ThreadWinder$Wraps" "laid" "I", Cond.fieldLink RX3 19 "ThreadWinder$Wraps" "tallest" "I", Cond.fieldLink RX3 22 "ThreadWinder$Wraps" "way" "I", Cond.methodLink RX4 59 yX4_finishAct, Cond.instanceMethod yX4_finishAct, Cond.selects RX4 yX4_finishAct yX4_finishAct, Cond.initialized RX4, Cond.code yX4_finishAct cX4_finishAct 2 (some .int), Cond.fieldLink RX4 32 "ThreadWinder" "history" "LThreadWinder$History;", Cond.fieldLink RX4 12 "ThreadWinder" "now" "LThreadWinder$State;", Cond.instanceMethod yX1_remember, Cond.initialized RX1, Cond.selects RX1 yX1_remember yX1_remember, Cond.code yX1_remember cX1_remember 3 none, Cond.fieldLink RX1 17 "ThreadWinder$History" "next" "I", Cond.fieldLink RX1 21 "ThreadWinder$History" "kept" "I", Cond.methodLink RX1 33 Lib.Math.min.name, Cond.static Lib.Math.min.name, Cond.initialized "java/lang/Math", Cond.code Lib.Math.min.name Lib.Math.min.code 2 (some .int)]
def wsX4_restore_r3 : List Cond := [Cond.methodLink RX1 25 yX1_stateAt, Cond.instanceMethod yX1_stateAt, Cond.selects RX1 yX1_stateAt yX1_stateAt, Cond.code yX1_stateAt cX1_stateAt 2 (some (.object "ThreadWinder$State")), Cond.fieldLink RX1 11 "ThreadWinder$History" "states" "[LThreadWinder$State;"]
def wsX4_restore : List Cond := .code yX4_restore cX4_restore 1 (some .int) :: ((wsX4_restore_r1 ++ (wsX4_restore_r2 ++ wsX4_restore_r3)) ++ wsX40 ++ wsX20 ++ wsX30 ++ wsX10)
def wsX4_place_r1 : List Cond := [Cond.fieldLink RX4 12 "ThreadWinder" "now" "LThreadWinder$State;", Cond.instanceMethod yX3_heightAt, Cond.initialized RX3, Cond.selects RX3 yX3_heightAt yX3_heightAt, Cond.code yX3_heightAt cX3_heightAt 2 (some .int), Cond.fieldLink RX3 9 "ThreadWinder$Wraps" "heights" "[I", Cond.instanceMethod yX2_knotsAt, Cond.initialized RX2, Cond.selects RX2 yX2_knotsAt yX2_knotsAt, Cond.code yX2_knotsAt cX2_knotsAt 2 (some .int), Cond.fieldLink RX2 18 "ThreadWinder$State" "knots" "[I", Cond.instanceMethod yX3_isRibbon, Cond.selects RX3 yX3_isRibbon yX3_isRibbon, Cond.code yX3_isRibbon cX3_isRibbon 4 (some .boolean), Cond.methodLink RX3 54 yX3_isRibbonOver, Cond.instanceMethod yX3_isRibbonOver, Cond.selects RX3 yX3_isRibbonOver yX3_isRibbonOver, Cond.code yX3_isRibbonOver cX3_isRibbonOver 3 (some .boolean), Cond.methodLink RX3 58 yX3_heightAt, Cond.methodLink RX4 118 yX4_oneIf, Cond.static yX4_oneIf, Cond.initialized RX4, Cond.code yX4_oneIf cX4_oneIf 1 (some .int), Cond.instanceMethod yX2_isBad]
def wsX4_place_r2 : List Cond := [Cond.selects RX2 yX2_isBad yX2_isBad, Cond.code yX2_isBad cX2_isBad 2 (some .boolean), Cond.methodLink RX2 146 yX2_knotsAt]
def wsX4_place : List Cond := .code yX4_place cX4_place 3 (some .int) :: ((wsX4_place_r1 ++ wsX4_place_r2) ++ wsX40 ++ wsX20 ++ wsX30)
def wsX4_wrong_r1 : List Cond := [Cond.fieldLink RX4 12 "ThreadWinder" "now" "LThreadWinder$State;", Cond.instanceMethod yX2_isConeEmpty, Cond.initialized RX2, Cond.selects RX2 yX2_isConeEmpty yX2_isConeEmpty, Cond.code yX2_isConeEmpty cX2_isConeEmpty 1 (some .boolean), Cond.fieldLink RX2 33 "ThreadWinder$State" "coneLeft" "I", Cond.instanceMethod yX2_hasBadPlace, Cond.selects RX2 yX2_hasBadPlace yX2_hasBadPlace, Cond.code yX2_hasBadPlace cX2_hasBadPlace 3 (some .boolean), Cond.methodLink RX2 149 yX2_isBad, Cond.instanceMethod yX2_isBad, Cond.selects RX2 yX2_isBad yX2_isBad, Cond.code yX2_isBad cX2_isBad 2 (some .boolean), Cond.methodLink RX2 146 yX2_knotsAt, Cond.instanceMethod yX2_knotsAt, Cond.selects RX2 yX2_knotsAt yX2_knotsAt, Cond.code yX2_knotsAt cX2_knotsAt 2 (some .int), Cond.fieldLink RX2 18 "ThreadWinder$State" "knots" "[I", Cond.instanceMethod yX3_ribbons, Cond.initialized RX3, Cond.selects RX3 yX3_ribbons yX3_ribbons, Cond.code yX3_ribbons cX3_ribbons 3 (some .int), Cond.methodLink RX3 62 yX3_isRibbon, Cond.instanceMethod yX3_isRibbon]
def wsX4_wrong_r2 : List Cond := [Cond.selects RX3 yX3_isRibbon yX3_isRibbon, Cond.code yX3_isRibbon cX3_isRibbon 4 (some .boolean), Cond.methodLink RX3 54 yX3_isRibbonOver, Cond.instanceMethod yX3_isRibbonOver, Cond.selects RX3 yX3_isRibbonOver yX3_isRibbonOver, Cond.code yX3_isRibbonOver cX3_isRibbonOver 3 (some .boolean), Cond.methodLink RX3 58 yX3_heightAt, Cond.instanceMethod yX3_heightAt, Cond.selects RX3 yX3_heightAt yX3_heightAt, Cond.code yX3_heightAt cX3_heightAt 2 (some .int), Cond.fieldLink RX3 9 "ThreadWinder$Wraps" "heights" "[I", Cond.static yX4_oneIf, Cond.initialized RX4, Cond.code yX4_oneIf cX4_oneIf 1 (some .int), Cond.instanceMethod yX3_evenness, Cond.selects RX3 yX3_evenness yX3_evenness, Cond.code yX3_evenness cX3_evenness 6 (some .int), Cond.fieldLink RX3 19 "ThreadWinder$Wraps" "tallest" "I", Cond.methodLink RX3 51 Lib.Math.min.name, Cond.static Lib.Math.min.name, Cond.initialized "java/lang/Math", Cond.code Lib.Math.min.name Lib.Math.min.code 2 (some .int)]
def wsX4_wrong : List Cond := .code yX4_wrong cX4_wrong 1 (some .int) :: ((wsX4_wrong_r1 ++ wsX4_wrong_r2) ++ wsX40 ++ wsX20 ++ wsX30)
def wsX4_breaksIn_r1 : List Cond := [Cond.fieldLink RX4 12 "ThreadWinder" "now" "LThreadWinder$State;", Cond.fieldLink RX4 16 "ThreadWinder" "trial" "LThreadWinder$State;", Cond.instanceMethod yX2_isConeEmpty, Cond.initialized RX2, Cond.selects RX2 yX2_isConeEmpty yX2_isConeEmpty, Cond.code yX2_isConeEmpty cX2_isConeEmpty 1 (some .boolean), Cond.fieldLink RX2 33 "ThreadWinder$State" "coneLeft" "I", Cond.instanceMethod yX2_copyFrom, Cond.selects RX2 yX2_copyFrom yX2_copyFrom, Cond.code yX2_copyFrom cX2_copyFrom 2 none, Cond.fieldLink RX2 12 "ThreadWinder$State" "wraps" "LThreadWinder$Wraps;", Cond.fieldLink RX2 18 "ThreadWinder$State" "knots" "[I", Cond.methodLink RX2 63 arraycopyName, Cond.native arraycopyName, Cond.static arraycopyName, Cond.initialized "java/lang/System", Cond.fieldLink RX2 30 "ThreadWinder$State" "numbers" "[I", Cond.fieldLink RX2 37 "ThreadWinder$State" "warmth" "I", Cond.fieldLink RX2 40 "ThreadWinder$State" "broken" "Z", Cond.fieldLink RX2 44 "ThreadWinder$State" "lastPlace" "I", Cond.fieldLink RX2 47 "ThreadWinder$State" "lastTension" "I", Cond.fieldLink RX2 50 "ThreadWinder$State" "turnsDone" "I", Cond.fieldLink RX2 53 "ThreadWinder$State" "breaks" "I", Cond.fieldLink RX2 56 "ThreadWinder$State" "packagesOff" "I"]
def wsX4_breaksIn_r2 : List Cond := [Cond.instanceMethod yX3_copyFrom, Cond.initialized RX3, Cond.selects RX3 yX3_copyFrom yX3_copyFrom, Cond.code yX3_copyFrom cX3_copyFrom 2 none, Cond.fieldLink RX3 9 "ThreadWinder$Wraps" "heights" "[I", Cond.methodLink RX3 25 arraycopyName, Cond.fieldLink RX3 15 "ThreadWinder$Wraps" "laid" "I", Cond.fieldLink RX3 19 "ThreadWinder$Wraps" "tallest" "I", Cond.fieldLink RX3 22 "ThreadWinder$Wraps" "way" "I", Cond.instanceMethod yX2_isIdle, Cond.selects RX2 yX2_isIdle yX2_isIdle, Cond.code yX2_isIdle cX2_isIdle 1 (some .boolean), Cond.methodLink RX2 140 yX2_isConeEmpty, Cond.instanceMethod yX3_isFull, Cond.selects RX3 yX3_isFull yX3_isFull, Cond.code yX3_isFull cX3_isFull 1 (some .boolean), Cond.instanceMethod yX2_turnOnce, Cond.selects RX2 yX2_turnOnce yX2_turnOnce, Cond.code yX2_turnOnce cX2_turnOnce 3 none, Cond.methodLink RX2 88 yX2_isIdle, Cond.instanceMethod yX3_guidePlace, Cond.selects RX3 yX3_guidePlace yX3_guidePlace, Cond.code yX3_guidePlace cX3_guidePlace 1 (some .int), Cond.instanceMethod yX3_heightAt]
def wsX4_breaksIn_r3 : List Cond := [Cond.selects RX3 yX3_heightAt yX3_heightAt, Cond.code yX3_heightAt cX3_heightAt 2 (some .int), Cond.instanceMethod yX3_layWrap, Cond.selects RX3 yX3_layWrap yX3_layWrap, Cond.code yX3_layWrap cX3_layWrap 2 none, Cond.methodLink RX3 45 Lib.Math.max.name, Cond.static Lib.Math.max.name, Cond.initialized "java/lang/Math", Cond.code Lib.Math.max.name Lib.Math.max.code 2 (some .int), Cond.methodLink RX3 41 yX3_guidePlace, Cond.methodLink RX2 107 yX2_tensionAt, Cond.instanceMethod yX2_tensionAt, Cond.selects RX2 yX2_tensionAt yX2_tensionAt, Cond.code yX2_tensionAt cX2_tensionAt 4 (some .int), Cond.methodLink RX2 120 Lib.Math.abs.name, Cond.static Lib.Math.abs.name, Cond.code Lib.Math.abs.name Lib.Math.abs.code 1 (some .int), Cond.methodLink RX2 113 yX2_number, Cond.instanceMethod yX2_number, Cond.selects RX2 yX2_number yX2_number, Cond.code yX2_number cX2_number 2 (some .int), Cond.methodLink RX2 110 yX2_warmDiscs, Cond.instanceMethod yX2_warmDiscs, Cond.selects RX2 yX2_warmDiscs yX2_warmDiscs]
def wsX4_breaksIn_r4 : List Cond := [Cond.code yX2_warmDiscs cX2_warmDiscs 1 none, Cond.methodLink RX2 125 Lib.Math.min.name, Cond.static Lib.Math.min.name, Cond.code Lib.Math.min.name Lib.Math.min.code 2 (some .int), Cond.methodLink RX2 128 Lib.Math.max.name, Cond.instanceMethod yX3_moveGuide, Cond.selects RX3 yX3_moveGuide yX3_moveGuide, Cond.code yX3_moveGuide cX3_moveGuide 6 none, Cond.static yX4_oneIf, Cond.initialized RX4, Cond.code yX4_oneIf cX4_oneIf 1 (some .int)]
def wsX4_breaksIn : List Cond := .code yX4_breaksIn cX4_breaksIn 2 (some .int) :: ((wsX4_breaksIn_r1 ++ (wsX4_breaksIn_r2 ++ (wsX4_breaksIn_r3 ++ wsX4_breaksIn_r4))) ++ wsX40 ++ wsX20 ++ wsX30)
def wsX4_imagine_r1 : List Cond := [Cond.fieldLink RX4 25 "ThreadWinder" "imagined" "LThreadWinder$Wraps;", Cond.fieldLink RX4 12 "ThreadWinder" "now" "LThreadWinder$State;", Cond.instanceMethod yX3_clear, Cond.initialized RX3, Cond.selects RX3 yX3_clear yX3_clear, Cond.code yX3_clear cX3_clear 1 none, Cond.fieldLink RX3 9 "ThreadWinder$Wraps" "heights" "[I", Cond.fieldLink RX3 15 "ThreadWinder$Wraps" "laid" "I", Cond.fieldLink RX3 19 "ThreadWinder$Wraps" "tallest" "I", Cond.fieldLink RX3 22 "ThreadWinder$Wraps" "way" "I", Cond.methodLink RX3 31 yJ7_fill_53178, Cond.static yJ7_fill_53178, Cond.initialized RJ7, Cond.code yJ7_fill_53178 cJ7_fill_53178 4 none, Cond.instanceMethod yX3_isFull, Cond.selects RX3 yX3_isFull yX3_isFull, Cond.code yX3_isFull cX3_isFull 1 (some .boolean), Cond.instanceMethod yX3_layWrap, Cond.selects RX3 yX3_layWrap yX3_layWrap, Cond.code yX3_layWrap cX3_layWrap 2 none, Cond.methodLink RX3 45 Lib.Math.max.name, Cond.static Lib.Math.max.name, Cond.initialized "java/lang/Math", Cond.code Lib.Math.max.name Lib.Math.max.code 2 (some .int)]
def wsX4_imagine_r2 : List Cond := [Cond.methodLink RX3 41 yX3_guidePlace, Cond.instanceMethod yX3_guidePlace, Cond.selects RX3 yX3_guidePlace yX3_guidePlace, Cond.code yX3_guidePlace cX3_guidePlace 1 (some .int), Cond.instanceMethod yX2_number, Cond.initialized RX2, Cond.selects RX2 yX2_number yX2_number, Cond.code yX2_number cX2_number 2 (some .int), Cond.fieldLink RX2 30 "ThreadWinder$State" "numbers" "[I", Cond.instanceMethod yX3_moveGuide, Cond.selects RX3 yX3_moveGuide yX3_moveGuide, Cond.code yX3_moveGuide cX3_moveGuide 6 none, Cond.static yX4_oneIf, Cond.initialized RX4, Cond.code yX4_oneIf cX4_oneIf 1 (some .int)]
def wsX4_imagine : List Cond := .code yX4_imagine cX4_imagine 4 none :: ((wsX4_imagine_r1 ++ wsX4_imagine_r2) ++ wsX40 ++ wsX30 ++ wsX20)
def wsX4_ifTraverse_r1 : List Cond := [Cond.fieldLink RX4 25 "ThreadWinder" "imagined" "LThreadWinder$Wraps;", Cond.methodLink RX4 147 yX4_inRange, Cond.static yX4_inRange, Cond.initialized RX4, Cond.code yX4_inRange cX4_inRange 2 (some .boolean), Cond.methodLink RX4 158 yX4_lowest, Cond.static yX4_lowest, Cond.code yX4_lowest cX4_lowest 1 (some .int), Cond.fieldLink RX4 216 "ThreadWinder" "LOWEST" "[I", Cond.methodLink RX4 161 yX4_highest, Cond.static yX4_highest, Cond.code yX4_highest cX4_highest 1 (some .int), Cond.fieldLink RX4 220 "ThreadWinder" "HIGHEST" "[I", Cond.methodLink RX4 151 yX4_imagine, Cond.instanceMethod yX4_imagine, Cond.selects RX4 yX4_imagine yX4_imagine, Cond.code yX4_imagine cX4_imagine 4 none, Cond.fieldLink RX4 12 "ThreadWinder" "now" "LThreadWinder$State;", Cond.instanceMethod yX3_clear, Cond.initialized RX3, Cond.selects RX3 yX3_clear yX3_clear, Cond.code yX3_clear cX3_clear 1 none, Cond.fieldLink RX3 9 "ThreadWinder$Wraps" "heights" "[I", Cond.fieldLink RX3 15 "ThreadWinder$Wraps" "laid" "I"]
def wsX4_ifTraverse_r2 : List Cond := [Cond.fieldLink RX3 19 "ThreadWinder$Wraps" "tallest" "I", Cond.fieldLink RX3 22 "ThreadWinder$Wraps" "way" "I", Cond.methodLink RX3 31 yJ7_fill_53178, Cond.static yJ7_fill_53178, Cond.initialized RJ7, Cond.code yJ7_fill_53178 cJ7_fill_53178 4 none, Cond.instanceMethod yX3_isFull, Cond.selects RX3 yX3_isFull yX3_isFull, Cond.code yX3_isFull cX3_isFull 1 (some .boolean), Cond.instanceMethod yX3_layWrap, Cond.selects RX3 yX3_layWrap yX3_layWrap, Cond.code yX3_layWrap cX3_layWrap 2 none, Cond.methodLink RX3 45 Lib.Math.max.name, Cond.static Lib.Math.max.name, Cond.initialized "java/lang/Math", Cond.code Lib.Math.max.name Lib.Math.max.code 2 (some .int), Cond.methodLink RX3 41 yX3_guidePlace, Cond.instanceMethod yX3_guidePlace, Cond.selects RX3 yX3_guidePlace yX3_guidePlace, Cond.code yX3_guidePlace cX3_guidePlace 1 (some .int), Cond.instanceMethod yX2_number, Cond.initialized RX2, Cond.selects RX2 yX2_number yX2_number, Cond.code yX2_number cX2_number 2 (some .int)]
def wsX4_ifTraverse_r3 : List Cond := [Cond.fieldLink RX2 30 "ThreadWinder$State" "numbers" "[I", Cond.instanceMethod yX3_moveGuide, Cond.selects RX3 yX3_moveGuide yX3_moveGuide, Cond.code yX3_moveGuide cX3_moveGuide 6 none, Cond.static yX4_oneIf, Cond.code yX4_oneIf cX4_oneIf 1 (some .int), Cond.instanceMethod yX3_evenness, Cond.selects RX3 yX3_evenness yX3_evenness, Cond.code yX3_evenness cX3_evenness 6 (some .int), Cond.methodLink RX3 51 Lib.Math.min.name, Cond.static Lib.Math.min.name, Cond.code Lib.Math.min.name Lib.Math.min.code 2 (some .int), Cond.instanceMethod yX3_ribbons, Cond.selects RX3 yX3_ribbons yX3_ribbons, Cond.code yX3_ribbons cX3_ribbons 3 (some .int), Cond.methodLink RX3 62 yX3_isRibbon, Cond.instanceMethod yX3_isRibbon, Cond.selects RX3 yX3_isRibbon yX3_isRibbon, Cond.code yX3_isRibbon cX3_isRibbon 4 (some .boolean), Cond.methodLink RX3 54 yX3_isRibbonOver, Cond.instanceMethod yX3_isRibbonOver, Cond.selects RX3 yX3_isRibbonOver yX3_isRibbonOver, Cond.code yX3_isRibbonOver cX3_isRibbonOver 3 (some .boolean), Cond.methodLink RX3 58 yX3_heightAt]
def wsX4_ifTraverse_r4 : List Cond := [Cond.instanceMethod yX3_heightAt, Cond.selects RX3 yX3_heightAt yX3_heightAt, Cond.code yX3_heightAt cX3_heightAt 2 (some .int), Cond.instanceMethod yX3_barePlaces, Cond.selects RX3 yX3_barePlaces yX3_barePlaces, Cond.code yX3_barePlaces cX3_barePlaces 6 (some .int)]
def wsX4_ifTraverse : List Cond := .code yX4_ifTraverse cX4_ifTraverse 4 (some .int) :: ((wsX4_ifTraverse_r1 ++ (wsX4_ifTraverse_r2 ++ (wsX4_ifTraverse_r3 ++ wsX4_ifTraverse_r4))) ++ wsX40 ++ wsX30 ++ wsX20)
def wsX4_bestTraverse_r1 : List Cond := [Cond.fieldLink RX4 25 "ThreadWinder" "imagined" "LThreadWinder$Wraps;", Cond.methodLink RX4 147 yX4_inRange, Cond.static yX4_inRange, Cond.initialized RX4, Cond.code yX4_inRange cX4_inRange 2 (some .boolean), Cond.methodLink RX4 158 yX4_lowest, Cond.static yX4_lowest, Cond.code yX4_lowest cX4_lowest 1 (some .int), Cond.fieldLink RX4 216 "ThreadWinder" "LOWEST" "[I", Cond.methodLink RX4 161 yX4_highest, Cond.static yX4_highest, Cond.code yX4_highest cX4_highest 1 (some .int), Cond.fieldLink RX4 220 "ThreadWinder" "HIGHEST" "[I", Cond.methodLink RX4 151 yX4_imagine, Cond.instanceMethod yX4_imagine, Cond.selects RX4 yX4_imagine yX4_imagine, Cond.code yX4_imagine cX4_imagine 4 none, Cond.fieldLink RX4 12 "ThreadWinder" "now" "LThreadWinder$State;", Cond.instanceMethod yX3_clear, Cond.initialized RX3, Cond.selects RX3 yX3_clear yX3_clear, Cond.code yX3_clear cX3_clear 1 none, Cond.fieldLink RX3 9 "ThreadWinder$Wraps" "heights" "[I", Cond.fieldLink RX3 15 "ThreadWinder$Wraps" "laid" "I"]
def wsX4_bestTraverse_r2 : List Cond := [Cond.fieldLink RX3 19 "ThreadWinder$Wraps" "tallest" "I", Cond.fieldLink RX3 22 "ThreadWinder$Wraps" "way" "I", Cond.methodLink RX3 31 yJ7_fill_53178, Cond.static yJ7_fill_53178, Cond.initialized RJ7, Cond.code yJ7_fill_53178 cJ7_fill_53178 4 none, Cond.instanceMethod yX3_isFull, Cond.selects RX3 yX3_isFull yX3_isFull, Cond.code yX3_isFull cX3_isFull 1 (some .boolean), Cond.instanceMethod yX3_layWrap, Cond.selects RX3 yX3_layWrap yX3_layWrap, Cond.code yX3_layWrap cX3_layWrap 2 none, Cond.methodLink RX3 45 Lib.Math.max.name, Cond.static Lib.Math.max.name, Cond.initialized "java/lang/Math", Cond.code Lib.Math.max.name Lib.Math.max.code 2 (some .int), Cond.methodLink RX3 41 yX3_guidePlace, Cond.instanceMethod yX3_guidePlace, Cond.selects RX3 yX3_guidePlace yX3_guidePlace, Cond.code yX3_guidePlace cX3_guidePlace 1 (some .int), Cond.instanceMethod yX2_number, Cond.initialized RX2, Cond.selects RX2 yX2_number yX2_number, Cond.code yX2_number cX2_number 2 (some .int)]
def wsX4_bestTraverse_r3 : List Cond := [Cond.fieldLink RX2 30 "ThreadWinder$State" "numbers" "[I", Cond.instanceMethod yX3_moveGuide, Cond.selects RX3 yX3_moveGuide yX3_moveGuide, Cond.code yX3_moveGuide cX3_moveGuide 6 none, Cond.static yX4_oneIf, Cond.code yX4_oneIf cX4_oneIf 1 (some .int), Cond.instanceMethod yX3_evenness, Cond.selects RX3 yX3_evenness yX3_evenness, Cond.code yX3_evenness cX3_evenness 6 (some .int), Cond.methodLink RX3 51 Lib.Math.min.name, Cond.static Lib.Math.min.name, Cond.code Lib.Math.min.name Lib.Math.min.code 2 (some .int)]
def wsX4_bestTraverse : List Cond := .code yX4_bestTraverse cX4_bestTraverse 6 (some .int) :: ((wsX4_bestTraverse_r1 ++ (wsX4_bestTraverse_r2 ++ wsX4_bestTraverse_r3)) ++ wsX40 ++ wsX30 ++ wsX20)
def wsX4_period : List Cond := .code yX4_period cX4_period 3 (some .int) :: ([.methodLink RX4 147 yX4_inRange, .static yX4_inRange, .initialized RX4, .code yX4_inRange cX4_inRange 2 (some .boolean), .methodLink RX4 158 yX4_lowest, .static yX4_lowest, .code yX4_lowest cX4_lowest 1 (some .int), .fieldLink RX4 216 "ThreadWinder" "LOWEST" "[I", .methodLink RX4 161 yX4_highest, .static yX4_highest, .code yX4_highest cX4_highest 1 (some .int), .fieldLink RX4 220 "ThreadWinder" "HIGHEST" "[I"])
def wsX4_count_r1 : List Cond := [Cond.fieldLink RX4 12 "ThreadWinder" "now" "LThreadWinder$State;", Cond.fieldLink RX4 32 "ThreadWinder" "history" "LThreadWinder$History;", Cond.fieldLink RX4 39 "ThreadWinder" "text" "LThreadWinder$CommandText;", Cond.instanceMethod yX3_guidePlace, Cond.initialized RX3, Cond.selects RX3 yX3_guidePlace yX3_guidePlace, Cond.code yX3_guidePlace cX3_guidePlace 1 (some .int), Cond.fieldLink RX3 22 "ThreadWinder$Wraps" "way" "I", Cond.instanceMethod yX3_guideGoesBack, Cond.selects RX3 yX3_guideGoesBack yX3_guideGoesBack, Cond.code yX3_guideGoesBack cX3_guideGoesBack 1 (some .boolean), Cond.methodLink RX4 118 yX4_oneIf, Cond.static yX4_oneIf, Cond.initialized RX4, Cond.code yX4_oneIf cX4_oneIf 1 (some .int), Cond.instanceMethod yX2_isConeEmpty, Cond.initialized RX2, Cond.selects RX2 yX2_isConeEmpty yX2_isConeEmpty, Cond.code yX2_isConeEmpty cX2_isConeEmpty 1 (some .boolean), Cond.fieldLink RX2 33 "ThreadWinder$State" "coneLeft" "I", Cond.instanceMethod yX3_isFull, Cond.selects RX3 yX3_isFull yX3_isFull, Cond.code yX3_isFull cX3_isFull 1 (some .boolean), Cond.fieldLink RX3 19 "ThreadWinder$Wraps" "tallest" "I"]
def wsX4_count_r2 : List Cond := [Cond.instanceMethod yX3_evenness, Cond.selects RX3 yX3_evenness yX3_evenness, Cond.code yX3_evenness cX3_evenness 6 (some .int), Cond.fieldLink RX3 9 "ThreadWinder$Wraps" "heights" "[I", Cond.methodLink RX3 51 Lib.Math.min.name, Cond.static Lib.Math.min.name, Cond.initialized "java/lang/Math", Cond.code Lib.Math.min.name Lib.Math.min.code 2 (some .int), Cond.instanceMethod yX3_ribbons, Cond.selects RX3 yX3_ribbons yX3_ribbons, Cond.code yX3_ribbons cX3_ribbons 3 (some .int), Cond.methodLink RX3 62 yX3_isRibbon, Cond.instanceMethod yX3_isRibbon, Cond.selects RX3 yX3_isRibbon yX3_isRibbon, Cond.code yX3_isRibbon cX3_isRibbon 4 (some .boolean), Cond.methodLink RX3 54 yX3_isRibbonOver, Cond.instanceMethod yX3_isRibbonOver, Cond.selects RX3 yX3_isRibbonOver yX3_isRibbonOver, Cond.code yX3_isRibbonOver cX3_isRibbonOver 3 (some .boolean), Cond.methodLink RX3 58 yX3_heightAt, Cond.instanceMethod yX3_heightAt, Cond.selects RX3 yX3_heightAt yX3_heightAt, Cond.code yX3_heightAt cX3_heightAt 2 (some .int), Cond.instanceMethod yX2_allKnots]
def wsX4_count_r3 : List Cond := [Cond.selects RX2 yX2_allKnots yX2_allKnots, Cond.code yX2_allKnots cX2_allKnots 6 (some .int), Cond.fieldLink RX2 18 "ThreadWinder$State" "knots" "[I", Cond.instanceMethod yX2_number, Cond.selects RX2 yX2_number yX2_number, Cond.code yX2_number cX2_number 2 (some .int), Cond.fieldLink RX2 30 "ThreadWinder$State" "numbers" "[I"]
def wsX4_count : List Cond := .code yX4_count cX4_count 2 (some .int) :: ((wsX4_count_r1 ++ (wsX4_count_r2 ++ wsX4_count_r3)) ++ wsX40 ++ wsX20 ++ wsX30 ++ wsX10 ++ wsX00)
def wsX5_init : List Cond := .code yX5_init cX5_init 1 none :: ([.methodLink RX5 1 objectInit, .instanceMethod objectInit, .code objectInit ⟨#[0xb1]⟩ 1 none, .arrayClass .int, .fieldLink RX5 7 "ThreadWinderModel" "all" "[I", .fieldLink RX5 13 "ThreadWinderModel" "kept" "[I", .fieldLink RX5 16 "ThreadWinderModel" "tried" "[I", .fieldLink RX5 19 "ThreadWinderModel" "history" "[I", .fieldLink RX5 22 "ThreadWinderModel" "snapshot" "[I", .fieldLink RX5 25 "ThreadWinderModel" "text" "[I", .fieldLink RX5 28 "ThreadWinderModel" "stop" "I"] ++ wsX50)
def wsX5_in : List Cond := .code yX5_in cX5_in 6 (some .boolean) :: ([])
def wsX5_copy : List Cond := .code yX5_copy cX5_copy 3 none :: ([])
def wsX5_remember : List Cond := .code yX5_remember cX5_remember 1 none :: ([.fieldLink RX5 7 "ThreadWinderModel" "all" "[I", .fieldLink RX5 13 "ThreadWinderModel" "kept" "[I", .methodLink RX5 32 yX5_copy, .static yX5_copy, .initialized RX5, .code yX5_copy cX5_copy 3 none] ++ wsX50)
def wsX5_acted : List Cond := .code yX5_acted cX5_acted 3 (some .int) :: ([.fieldLink RX5 36 "ThreadWinderModel" "historyLong" "I", .fieldLink RX5 19 "ThreadWinderModel" "history" "[I", .fieldLink RX5 13 "ThreadWinderModel" "kept" "[I"] ++ wsX50)
def wsX5_breaks : List Cond := .code yX5_breaks cX5_breaks 1 (some .int) :: ([.fieldLink RX5 7 "ThreadWinderModel" "all" "[I", .constant RX5 39 (1048576)] ++ wsX50)
def wsX5_doffs : List Cond := .code yX5_doffs cX5_doffs 1 (some .int) :: ([.fieldLink RX5 7 "ThreadWinderModel" "all" "[I", .constant RX5 39 (1048576)] ++ wsX50)
def wsX5_placeOn : List Cond := .code yX5_placeOn cX5_placeOn 1 (some .int) :: ([])
def wsX5_place : List Cond := .code yX5_place cX5_place 1 (some .int) :: ([.fieldLink RX5 7 "ThreadWinderModel" "all" "[I", .methodLink RX5 40 yX5_placeOn, .static yX5_placeOn, .initialized RX5, .code yX5_placeOn cX5_placeOn 1 (some .int)] ++ wsX50)
def wsX5_wraps : List Cond := .code yX5_wraps cX5_wraps 3 (some .int) :: ([.fieldLink RX5 7 "ThreadWinderModel" "all" "[I"] ++ wsX50)
def wsX5_greatest : List Cond := .code yX5_greatest cX5_greatest 3 (some .int) :: ([.fieldLink RX5 7 "ThreadWinderModel" "all" "[I"] ++ wsX50)
def wsX5_evenness : List Cond := .code yX5_evenness cX5_evenness 3 (some .int) :: ([.fieldLink RX5 7 "ThreadWinderModel" "all" "[I", .methodLink RX5 44 yX5_greatest, .instanceMethod yX5_greatest, .selects RX5 yX5_greatest yX5_greatest, .initialized RX5, .code yX5_greatest cX5_greatest 3 (some .int)] ++ wsX50)
def wsX5_isFull : List Cond := .code yX5_isFull cX5_isFull 1 (some .boolean) :: ([.methodLink RX5 44 yX5_greatest, .instanceMethod yX5_greatest, .selects RX5 yX5_greatest yX5_greatest, .initialized RX5, .code yX5_greatest cX5_greatest 3 (some .int), .fieldLink RX5 7 "ThreadWinderModel" "all" "[I"] ++ wsX50)
def wsX5_isIdle : List Cond := .code yX5_isIdle cX5_isIdle 1 (some .boolean) :: ([.fieldLink RX5 7 "ThreadWinderModel" "all" "[I", .methodLink RX5 48 yX5_isFull, .instanceMethod yX5_isFull, .selects RX5 yX5_isFull yX5_isFull, .initialized RX5, .code yX5_isFull cX5_isFull 1 (some .boolean), .methodLink RX5 44 yX5_greatest, .instanceMethod yX5_greatest, .selects RX5 yX5_greatest yX5_greatest, .code yX5_greatest cX5_greatest 3 (some .int)] ++ wsX50)
def wsX5_guideGoes : List Cond := .code yX5_guideGoes cX5_guideGoes 2 none :: ([.fieldLink RX5 7 "ThreadWinderModel" "all" "[I"] ++ wsX50)
def wsX5_pulls : List Cond := .code yX5_pulls cX5_pulls 4 none :: ([.fieldLink RX5 7 "ThreadWinderModel" "all" "[I", .methodLink RX5 52 yX5_place, .instanceMethod yX5_place, .selects RX5 yX5_place yX5_place, .initialized RX5, .code yX5_place cX5_place 1 (some .int), .methodLink RX5 40 yX5_placeOn, .static yX5_placeOn, .code yX5_placeOn cX5_placeOn 1 (some .int)] ++ wsX50)
def wsX5_turns : List Cond := .code yX5_turns cX5_turns 2 (some .boolean) :: ([.fieldLink RX5 7 "ThreadWinderModel" "all" "[I", .methodLink RX5 52 yX5_place, .instanceMethod yX5_place, .selects RX5 yX5_place yX5_place, .initialized RX5, .code yX5_place cX5_place 1 (some .int), .methodLink RX5 40 yX5_placeOn, .static yX5_placeOn, .code yX5_placeOn cX5_placeOn 1 (some .int), .methodLink RX5 55 yX5_pulls, .instanceMethod yX5_pulls, .selects RX5 yX5_pulls yX5_pulls, .code yX5_pulls cX5_pulls 4 none, .methodLink RX5 58 yX5_guideGoes, .instanceMethod yX5_guideGoes, .selects RX5 yX5_guideGoes yX5_guideGoes, .code yX5_guideGoes cX5_guideGoes 2 none] ++ wsX50)
def wsX5_isNumber : List Cond := .code yX5_isNumber cX5_isNumber 2 (some .boolean) :: ([.constantLong RX5 61 (11), .constantLong RX5 67 (9), .constantLong RX5 69 (5), .constantLong RX5 71 (50), .constantLong RX5 73 (10), .constantLong RX5 75 (99), .methodLink RX5 63 yX5_in, .static yX5_in, .initialized RX5, .code yX5_in cX5_in 6 (some .boolean)])
def wsX5_doSet : List Cond := .code yX5_doSet cX5_doSet 4 (some .int) :: ([.fieldLink RX5 7 "ThreadWinderModel" "all" "[I"] ++ wsX50)
def wsX5_set_r1 : List Cond := [Cond.constantLong RX5 77 (4), Cond.methodLink RX5 63 yX5_in, Cond.static yX5_in, Cond.initialized RX5, Cond.code yX5_in cX5_in 6 (some .boolean), Cond.methodLink RX5 79 yX5_isNumber, Cond.static yX5_isNumber, Cond.code yX5_isNumber cX5_isNumber 2 (some .boolean), Cond.constantLong RX5 61 (11), Cond.constantLong RX5 67 (9), Cond.constantLong RX5 69 (5), Cond.constantLong RX5 71 (50), Cond.constantLong RX5 73 (10), Cond.constantLong RX5 75 (99), Cond.methodLink RX5 83 yX5_remember, Cond.instanceMethod yX5_remember, Cond.selects RX5 yX5_remember yX5_remember, Cond.code yX5_remember cX5_remember 1 none, Cond.fieldLink RX5 7 "ThreadWinderModel" "all" "[I", Cond.fieldLink RX5 13 "ThreadWinderModel" "kept" "[I", Cond.methodLink RX5 32 yX5_copy, Cond.static yX5_copy, Cond.code yX5_copy cX5_copy 3 none, Cond.methodLink RX5 86 yX5_doSet]
def wsX5_set_r2 : List Cond := [Cond.instanceMethod yX5_doSet, Cond.selects RX5 yX5_doSet yX5_doSet, Cond.code yX5_doSet cX5_doSet 4 (some .int), Cond.methodLink RX5 90 yX5_acted, Cond.instanceMethod yX5_acted, Cond.selects RX5 yX5_acted yX5_acted, Cond.code yX5_acted cX5_acted 3 (some .int), Cond.fieldLink RX5 36 "ThreadWinderModel" "historyLong" "I", Cond.fieldLink RX5 19 "ThreadWinderModel" "history" "[I"]
def wsX5_set : List Cond := .code yX5_set cX5_set 4 (some .int) :: ((wsX5_set_r1 ++ wsX5_set_r2) ++ wsX50)
def wsX5_doWind_r1 : List Cond := [Cond.methodLink RX5 93 yX5_isIdle, Cond.instanceMethod yX5_isIdle, Cond.selects RX5 yX5_isIdle yX5_isIdle, Cond.initialized RX5, Cond.code yX5_isIdle cX5_isIdle 1 (some .boolean), Cond.fieldLink RX5 7 "ThreadWinderModel" "all" "[I", Cond.methodLink RX5 48 yX5_isFull, Cond.instanceMethod yX5_isFull, Cond.selects RX5 yX5_isFull yX5_isFull, Cond.code yX5_isFull cX5_isFull 1 (some .boolean), Cond.methodLink RX5 44 yX5_greatest, Cond.instanceMethod yX5_greatest, Cond.selects RX5 yX5_greatest yX5_greatest, Cond.code yX5_greatest cX5_greatest 3 (some .int), Cond.methodLink RX5 96 yX5_turns, Cond.instanceMethod yX5_turns, Cond.selects RX5 yX5_turns yX5_turns, Cond.code yX5_turns cX5_turns 2 (some .boolean), Cond.methodLink RX5 52 yX5_place, Cond.instanceMethod yX5_place, Cond.selects RX5 yX5_place yX5_place, Cond.code yX5_place cX5_place 1 (some .int), Cond.methodLink RX5 40 yX5_placeOn, Cond.static yX5_placeOn]
def wsX5_doWind_r2 : List Cond := [Cond.code yX5_placeOn cX5_placeOn 1 (some .int), Cond.methodLink RX5 55 yX5_pulls, Cond.instanceMethod yX5_pulls, Cond.selects RX5 yX5_pulls yX5_pulls, Cond.code yX5_pulls cX5_pulls 4 none, Cond.methodLink RX5 58 yX5_guideGoes, Cond.instanceMethod yX5_guideGoes, Cond.selects RX5 yX5_guideGoes yX5_guideGoes, Cond.code yX5_guideGoes cX5_guideGoes 2 none]
def wsX5_doWind : List Cond := .code yX5_doWind cX5_doWind 4 (some .int) :: ((wsX5_doWind_r1 ++ wsX5_doWind_r2) ++ wsX50)
def wsX5_wind_r1 : List Cond := [Cond.constantLong RX5 99 (500), Cond.methodLink RX5 63 yX5_in, Cond.static yX5_in, Cond.initialized RX5, Cond.code yX5_in cX5_in 6 (some .boolean), Cond.methodLink RX5 83 yX5_remember, Cond.instanceMethod yX5_remember, Cond.selects RX5 yX5_remember yX5_remember, Cond.code yX5_remember cX5_remember 1 none, Cond.fieldLink RX5 7 "ThreadWinderModel" "all" "[I", Cond.fieldLink RX5 13 "ThreadWinderModel" "kept" "[I", Cond.methodLink RX5 32 yX5_copy, Cond.static yX5_copy, Cond.code yX5_copy cX5_copy 3 none, Cond.methodLink RX5 101 yX5_doWind, Cond.instanceMethod yX5_doWind, Cond.selects RX5 yX5_doWind yX5_doWind, Cond.code yX5_doWind cX5_doWind 4 (some .int), Cond.methodLink RX5 93 yX5_isIdle, Cond.instanceMethod yX5_isIdle, Cond.selects RX5 yX5_isIdle yX5_isIdle, Cond.code yX5_isIdle cX5_isIdle 1 (some .boolean), Cond.methodLink RX5 48 yX5_isFull, Cond.instanceMethod yX5_isFull]
def wsX5_wind_r2 : List Cond := [Cond.selects RX5 yX5_isFull yX5_isFull, Cond.code yX5_isFull cX5_isFull 1 (some .boolean), Cond.methodLink RX5 44 yX5_greatest, Cond.instanceMethod yX5_greatest, Cond.selects RX5 yX5_greatest yX5_greatest, Cond.code yX5_greatest cX5_greatest 3 (some .int), Cond.methodLink RX5 96 yX5_turns, Cond.instanceMethod yX5_turns, Cond.selects RX5 yX5_turns yX5_turns, Cond.code yX5_turns cX5_turns 2 (some .boolean), Cond.methodLink RX5 52 yX5_place, Cond.instanceMethod yX5_place, Cond.selects RX5 yX5_place yX5_place, Cond.code yX5_place cX5_place 1 (some .int), Cond.methodLink RX5 40 yX5_placeOn, Cond.static yX5_placeOn, Cond.code yX5_placeOn cX5_placeOn 1 (some .int), Cond.methodLink RX5 55 yX5_pulls, Cond.instanceMethod yX5_pulls, Cond.selects RX5 yX5_pulls yX5_pulls, Cond.code yX5_pulls cX5_pulls 4 none, Cond.methodLink RX5 58 yX5_guideGoes, Cond.instanceMethod yX5_guideGoes, Cond.selects RX5 yX5_guideGoes yX5_guideGoes]
def wsX5_wind_r3 : List Cond := [Cond.code yX5_guideGoes cX5_guideGoes 2 none, Cond.methodLink RX5 90 yX5_acted, Cond.instanceMethod yX5_acted, Cond.selects RX5 yX5_acted yX5_acted, Cond.code yX5_acted cX5_acted 3 (some .int), Cond.fieldLink RX5 36 "ThreadWinderModel" "historyLong" "I", Cond.fieldLink RX5 19 "ThreadWinderModel" "history" "[I"]
def wsX5_wind : List Cond := .code yX5_wind cX5_wind 3 (some .int) :: ((wsX5_wind_r1 ++ (wsX5_wind_r2 ++ wsX5_wind_r3)) ++ wsX50)
def wsX5_doKnot : List Cond := .code yX5_doKnot cX5_doKnot 1 (some .int) :: ([.fieldLink RX5 7 "ThreadWinderModel" "all" "[I"] ++ wsX50)
def wsX5_knot : List Cond := .code yX5_knot cX5_knot 2 (some .int) :: ([.methodLink RX5 83 yX5_remember, .instanceMethod yX5_remember, .selects RX5 yX5_remember yX5_remember, .initialized RX5, .code yX5_remember cX5_remember 1 none, .fieldLink RX5 7 "ThreadWinderModel" "all" "[I", .fieldLink RX5 13 "ThreadWinderModel" "kept" "[I", .methodLink RX5 32 yX5_copy, .static yX5_copy, .code yX5_copy cX5_copy 3 none, .methodLink RX5 104 yX5_doKnot, .instanceMethod yX5_doKnot, .selects RX5 yX5_doKnot yX5_doKnot, .code yX5_doKnot cX5_doKnot 1 (some .int), .methodLink RX5 90 yX5_acted, .instanceMethod yX5_acted, .selects RX5 yX5_acted yX5_acted, .code yX5_acted cX5_acted 3 (some .int), .fieldLink RX5 36 "ThreadWinderModel" "historyLong" "I", .fieldLink RX5 19 "ThreadWinderModel" "history" "[I"] ++ wsX50)
def wsX5_doCone : List Cond := .code yX5_doCone cX5_doCone 3 (some .int) :: ([.fieldLink RX5 7 "ThreadWinderModel" "all" "[I"] ++ wsX50)
def wsX5_cone : List Cond := .code yX5_cone cX5_cone 2 (some .int) :: ([.constantLong RX5 107 (9999), .methodLink RX5 63 yX5_in, .static yX5_in, .initialized RX5, .code yX5_in cX5_in 6 (some .boolean), .methodLink RX5 83 yX5_remember, .instanceMethod yX5_remember, .selects RX5 yX5_remember yX5_remember, .code yX5_remember cX5_remember 1 none, .fieldLink RX5 7 "ThreadWinderModel" "all" "[I", .fieldLink RX5 13 "ThreadWinderModel" "kept" "[I", .methodLink RX5 32 yX5_copy, .static yX5_copy, .code yX5_copy cX5_copy 3 none, .methodLink RX5 109 yX5_doCone, .instanceMethod yX5_doCone, .selects RX5 yX5_doCone yX5_doCone, .code yX5_doCone cX5_doCone 3 (some .int), .methodLink RX5 90 yX5_acted, .instanceMethod yX5_acted, .selects RX5 yX5_acted yX5_acted, .code yX5_acted cX5_acted 3 (some .int), .fieldLink RX5 36 "ThreadWinderModel" "historyLong" "I", .fieldLink RX5 19 "ThreadWinderModel" "history" "[I"] ++ wsX50)
def wsX5_doff : List Cond := .code yX5_doff cX5_doff 3 (some .int) :: ([.fieldLink RX5 7 "ThreadWinderModel" "all" "[I", .constant RX5 39 (1048576), .methodLink RX5 112 yX5_wraps, .instanceMethod yX5_wraps, .selects RX5 yX5_wraps yX5_wraps, .initialized RX5, .code yX5_wraps cX5_wraps 3 (some .int), .methodLink RX5 83 yX5_remember, .instanceMethod yX5_remember, .selects RX5 yX5_remember yX5_remember, .code yX5_remember cX5_remember 1 none, .fieldLink RX5 13 "ThreadWinderModel" "kept" "[I", .methodLink RX5 32 yX5_copy, .static yX5_copy, .code yX5_copy cX5_copy 3 none, .methodLink RX5 90 yX5_acted, .instanceMethod yX5_acted, .selects RX5 yX5_acted yX5_acted, .code yX5_acted cX5_acted 3 (some .int), .fieldLink RX5 36 "ThreadWinderModel" "historyLong" "I", .fieldLink RX5 19 "ThreadWinderModel" "history" "[I"] ++ wsX50)
def wsX5_type : List Cond := .code yX5_type cX5_type 2 (some .int) :: ([.fieldLink RX5 115 "ThreadWinderModel" "textLong" "I", .fieldLink RX5 25 "ThreadWinderModel" "text" "[I"] ++ wsX50)
def wsX5_clearText : List Cond := .code yX5_clearText cX5_clearText 2 (some .int) :: ([.fieldLink RX5 115 "ThreadWinderModel" "textLong" "I"] ++ wsX50)
def wsX5_isHere : List Cond := .code yX5_isHere cX5_isHere 3 (some .boolean) :: ([.fieldLink RX5 118 "ThreadWinderModel" "spot" "I", .fieldLink RX5 115 "ThreadWinderModel" "textLong" "I", .fieldLink RX5 25 "ThreadWinderModel" "text" "[I", .methodLink RX5 63 yX5_in, .static yX5_in, .initialized RX5, .code yX5_in cX5_in 6 (some .boolean)] ++ wsX50)
def wsX5_takes : List Cond := .code yX5_takes cX5_takes 3 (some .boolean) :: ([.fieldLink RX5 118 "ThreadWinderModel" "spot" "I", .methodLink RX5 121 yX5_isHere, .instanceMethod yX5_isHere, .selects RX5 yX5_isHere yX5_isHere, .initialized RX5, .code yX5_isHere cX5_isHere 3 (some .boolean), .fieldLink RX5 115 "ThreadWinderModel" "textLong" "I", .fieldLink RX5 25 "ThreadWinderModel" "text" "[I", .methodLink RX5 63 yX5_in, .static yX5_in, .code yX5_in cX5_in 6 (some .boolean)] ++ wsX50)
def wsX5_readsNumber : List Cond := .code yX5_readsNumber cX5_readsNumber 3 (some .boolean) :: ([.fieldLink RX5 25 "ThreadWinderModel" "text" "[I", .fieldLink RX5 118 "ThreadWinderModel" "spot" "I", .fieldLink RX5 124 "ThreadWinderModel" "number" "I", .methodLink RX5 121 yX5_isHere, .instanceMethod yX5_isHere, .selects RX5 yX5_isHere yX5_isHere, .initialized RX5, .code yX5_isHere cX5_isHere 3 (some .boolean), .fieldLink RX5 115 "ThreadWinderModel" "textLong" "I", .methodLink RX5 63 yX5_in, .static yX5_in, .code yX5_in cX5_in 6 (some .boolean)] ++ wsX50)
def wsX5_whichOf : List Cond := .code yX5_whichOf cX5_whichOf 1 (some .int) :: ([])
def wsX5_command_r1 : List Cond := [Cond.fieldLink RX5 124 "ThreadWinderModel" "number" "I", Cond.fieldLink RX5 118 "ThreadWinderModel" "spot" "I", Cond.fieldLink RX5 115 "ThreadWinderModel" "textLong" "I", Cond.fieldLink RX5 25 "ThreadWinderModel" "text" "[I", Cond.methodLink RX5 127 yX5_takes, Cond.instanceMethod yX5_takes, Cond.selects RX5 yX5_takes yX5_takes, Cond.initialized RX5, Cond.code yX5_takes cX5_takes 3 (some .boolean), Cond.methodLink RX5 121 yX5_isHere, Cond.instanceMethod yX5_isHere, Cond.selects RX5 yX5_isHere yX5_isHere, Cond.code yX5_isHere cX5_isHere 3 (some .boolean), Cond.methodLink RX5 63 yX5_in, Cond.static yX5_in, Cond.code yX5_in cX5_in 6 (some .boolean), Cond.methodLink RX5 104 yX5_doKnot, Cond.instanceMethod yX5_doKnot, Cond.selects RX5 yX5_doKnot yX5_doKnot, Cond.code yX5_doKnot cX5_doKnot 1 (some .int), Cond.fieldLink RX5 7 "ThreadWinderModel" "all" "[I", Cond.methodLink RX5 131 yX5_readsNumber, Cond.instanceMethod yX5_readsNumber, Cond.selects RX5 yX5_readsNumber yX5_readsNumber]
def wsX5_command_r2 : List Cond := [Cond.code yX5_readsNumber cX5_readsNumber 3 (some .boolean), Cond.methodLink RX5 101 yX5_doWind, Cond.instanceMethod yX5_doWind, Cond.selects RX5 yX5_doWind yX5_doWind, Cond.code yX5_doWind cX5_doWind 4 (some .int), Cond.methodLink RX5 93 yX5_isIdle, Cond.instanceMethod yX5_isIdle, Cond.selects RX5 yX5_isIdle yX5_isIdle, Cond.code yX5_isIdle cX5_isIdle 1 (some .boolean), Cond.methodLink RX5 48 yX5_isFull, Cond.instanceMethod yX5_isFull, Cond.selects RX5 yX5_isFull yX5_isFull, Cond.code yX5_isFull cX5_isFull 1 (some .boolean), Cond.methodLink RX5 44 yX5_greatest, Cond.instanceMethod yX5_greatest, Cond.selects RX5 yX5_greatest yX5_greatest, Cond.code yX5_greatest cX5_greatest 3 (some .int), Cond.methodLink RX5 96 yX5_turns, Cond.instanceMethod yX5_turns, Cond.selects RX5 yX5_turns yX5_turns, Cond.code yX5_turns cX5_turns 2 (some .boolean), Cond.methodLink RX5 52 yX5_place, Cond.instanceMethod yX5_place, Cond.selects RX5 yX5_place yX5_place]
def wsX5_command_r3 : List Cond := [Cond.code yX5_place cX5_place 1 (some .int), Cond.methodLink RX5 40 yX5_placeOn, Cond.static yX5_placeOn, Cond.code yX5_placeOn cX5_placeOn 1 (some .int), Cond.methodLink RX5 55 yX5_pulls, Cond.instanceMethod yX5_pulls, Cond.selects RX5 yX5_pulls yX5_pulls, Cond.code yX5_pulls cX5_pulls 4 none, Cond.methodLink RX5 58 yX5_guideGoes, Cond.instanceMethod yX5_guideGoes, Cond.selects RX5 yX5_guideGoes yX5_guideGoes, Cond.code yX5_guideGoes cX5_guideGoes 2 none, Cond.methodLink RX5 109 yX5_doCone, Cond.instanceMethod yX5_doCone, Cond.selects RX5 yX5_doCone yX5_doCone, Cond.code yX5_doCone cX5_doCone 3 (some .int), Cond.methodLink RX5 134 yX5_whichOf, Cond.static yX5_whichOf, Cond.code yX5_whichOf cX5_whichOf 1 (some .int), Cond.methodLink RX5 86 yX5_doSet, Cond.instanceMethod yX5_doSet, Cond.selects RX5 yX5_doSet yX5_doSet, Cond.code yX5_doSet cX5_doSet 4 (some .int)]
def wsX5_command : List Cond := .code yX5_command cX5_command 5 (some .int) :: ((wsX5_command_r1 ++ (wsX5_command_r2 ++ wsX5_command_r3)) ++ wsX50)
def wsX5_fault_r1 : List Cond := [Cond.fieldLink RX5 118 "ThreadWinderModel" "spot" "I", Cond.fieldLink RX5 115 "ThreadWinderModel" "textLong" "I", Cond.methodLink RX5 137 yX5_command, Cond.instanceMethod yX5_command, Cond.selects RX5 yX5_command yX5_command, Cond.initialized RX5, Cond.code yX5_command cX5_command 5 (some .int), Cond.fieldLink RX5 124 "ThreadWinderModel" "number" "I", Cond.fieldLink RX5 25 "ThreadWinderModel" "text" "[I", Cond.methodLink RX5 127 yX5_takes, Cond.instanceMethod yX5_takes, Cond.selects RX5 yX5_takes yX5_takes, Cond.code yX5_takes cX5_takes 3 (some .boolean), Cond.methodLink RX5 121 yX5_isHere, Cond.instanceMethod yX5_isHere, Cond.selects RX5 yX5_isHere yX5_isHere, Cond.code yX5_isHere cX5_isHere 3 (some .boolean), Cond.methodLink RX5 63 yX5_in, Cond.static yX5_in, Cond.code yX5_in cX5_in 6 (some .boolean), Cond.methodLink RX5 104 yX5_doKnot, Cond.instanceMethod yX5_doKnot, Cond.selects RX5 yX5_doKnot yX5_doKnot, Cond.code yX5_doKnot cX5_doKnot 1 (some .int)]
def wsX5_fault_r2 : List Cond := [Cond.fieldLink RX5 7 "ThreadWinderModel" "all" "[I", Cond.methodLink RX5 131 yX5_readsNumber, Cond.instanceMethod yX5_readsNumber, Cond.selects RX5 yX5_readsNumber yX5_readsNumber, Cond.code yX5_readsNumber cX5_readsNumber 3 (some .boolean), Cond.methodLink RX5 101 yX5_doWind, Cond.instanceMethod yX5_doWind, Cond.selects RX5 yX5_doWind yX5_doWind, Cond.code yX5_doWind cX5_doWind 4 (some .int), Cond.methodLink RX5 93 yX5_isIdle, Cond.instanceMethod yX5_isIdle, Cond.selects RX5 yX5_isIdle yX5_isIdle, Cond.code yX5_isIdle cX5_isIdle 1 (some .boolean), Cond.methodLink RX5 48 yX5_isFull, Cond.instanceMethod yX5_isFull, Cond.selects RX5 yX5_isFull yX5_isFull, Cond.code yX5_isFull cX5_isFull 1 (some .boolean), Cond.methodLink RX5 44 yX5_greatest, Cond.instanceMethod yX5_greatest, Cond.selects RX5 yX5_greatest yX5_greatest, Cond.code yX5_greatest cX5_greatest 3 (some .int), Cond.methodLink RX5 96 yX5_turns, Cond.instanceMethod yX5_turns, Cond.selects RX5 yX5_turns yX5_turns]
def wsX5_fault_r3 : List Cond := [Cond.code yX5_turns cX5_turns 2 (some .boolean), Cond.methodLink RX5 52 yX5_place, Cond.instanceMethod yX5_place, Cond.selects RX5 yX5_place yX5_place, Cond.code yX5_place cX5_place 1 (some .int), Cond.methodLink RX5 40 yX5_placeOn, Cond.static yX5_placeOn, Cond.code yX5_placeOn cX5_placeOn 1 (some .int), Cond.methodLink RX5 55 yX5_pulls, Cond.instanceMethod yX5_pulls, Cond.selects RX5 yX5_pulls yX5_pulls, Cond.code yX5_pulls cX5_pulls 4 none, Cond.methodLink RX5 58 yX5_guideGoes, Cond.instanceMethod yX5_guideGoes, Cond.selects RX5 yX5_guideGoes yX5_guideGoes, Cond.code yX5_guideGoes cX5_guideGoes 2 none, Cond.methodLink RX5 109 yX5_doCone, Cond.instanceMethod yX5_doCone, Cond.selects RX5 yX5_doCone yX5_doCone, Cond.code yX5_doCone cX5_doCone 3 (some .int), Cond.methodLink RX5 134 yX5_whichOf, Cond.static yX5_whichOf, Cond.code yX5_whichOf cX5_whichOf 1 (some .int), Cond.methodLink RX5 86 yX5_doSet]
def wsX5_fault_r4 : List Cond := [Cond.instanceMethod yX5_doSet, Cond.selects RX5 yX5_doSet yX5_doSet, Cond.code yX5_doSet cX5_doSet 4 (some .int)]
def wsX5_fault : List Cond := .code yX5_fault cX5_fault 2 (some .int) :: ((wsX5_fault_r1 ++ (wsX5_fault_r2 ++ (wsX5_fault_r3 ++ wsX5_fault_r4))) ++ wsX50)
def wsX5_perform_r1 : List Cond := [Cond.fieldLink RX5 118 "ThreadWinderModel" "spot" "I", Cond.fieldLink RX5 13 "ThreadWinderModel" "kept" "[I", Cond.fieldLink RX5 7 "ThreadWinderModel" "all" "[I", Cond.fieldLink RX5 28 "ThreadWinderModel" "stop" "I", Cond.methodLink RX5 141 yX5_fault, Cond.instanceMethod yX5_fault, Cond.selects RX5 yX5_fault yX5_fault, Cond.initialized RX5, Cond.code yX5_fault cX5_fault 2 (some .int), Cond.fieldLink RX5 115 "ThreadWinderModel" "textLong" "I", Cond.methodLink RX5 137 yX5_command, Cond.instanceMethod yX5_command, Cond.selects RX5 yX5_command yX5_command, Cond.code yX5_command cX5_command 5 (some .int), Cond.fieldLink RX5 124 "ThreadWinderModel" "number" "I", Cond.fieldLink RX5 25 "ThreadWinderModel" "text" "[I", Cond.methodLink RX5 127 yX5_takes, Cond.instanceMethod yX5_takes, Cond.selects RX5 yX5_takes yX5_takes, Cond.code yX5_takes cX5_takes 3 (some .boolean), Cond.methodLink RX5 121 yX5_isHere, Cond.instanceMethod yX5_isHere, Cond.selects RX5 yX5_isHere yX5_isHere, Cond.code yX5_isHere cX5_isHere 3 (some .boolean)]
def wsX5_perform_r2 : List Cond := [Cond.methodLink RX5 63 yX5_in, Cond.static yX5_in, Cond.code yX5_in cX5_in 6 (some .boolean), Cond.methodLink RX5 104 yX5_doKnot, Cond.instanceMethod yX5_doKnot, Cond.selects RX5 yX5_doKnot yX5_doKnot, Cond.code yX5_doKnot cX5_doKnot 1 (some .int), Cond.methodLink RX5 131 yX5_readsNumber, Cond.instanceMethod yX5_readsNumber, Cond.selects RX5 yX5_readsNumber yX5_readsNumber, Cond.code yX5_readsNumber cX5_readsNumber 3 (some .boolean), Cond.methodLink RX5 101 yX5_doWind, Cond.instanceMethod yX5_doWind, Cond.selects RX5 yX5_doWind yX5_doWind, Cond.code yX5_doWind cX5_doWind 4 (some .int), Cond.methodLink RX5 93 yX5_isIdle, Cond.instanceMethod yX5_isIdle, Cond.selects RX5 yX5_isIdle yX5_isIdle, Cond.code yX5_isIdle cX5_isIdle 1 (some .boolean), Cond.methodLink RX5 48 yX5_isFull, Cond.instanceMethod yX5_isFull, Cond.selects RX5 yX5_isFull yX5_isFull, Cond.code yX5_isFull cX5_isFull 1 (some .boolean), Cond.methodLink RX5 44 yX5_greatest]
def wsX5_perform_r3 : List Cond := [Cond.instanceMethod yX5_greatest, Cond.selects RX5 yX5_greatest yX5_greatest, Cond.code yX5_greatest cX5_greatest 3 (some .int), Cond.methodLink RX5 96 yX5_turns, Cond.instanceMethod yX5_turns, Cond.selects RX5 yX5_turns yX5_turns, Cond.code yX5_turns cX5_turns 2 (some .boolean), Cond.methodLink RX5 52 yX5_place, Cond.instanceMethod yX5_place, Cond.selects RX5 yX5_place yX5_place, Cond.code yX5_place cX5_place 1 (some .int), Cond.methodLink RX5 40 yX5_placeOn, Cond.static yX5_placeOn, Cond.code yX5_placeOn cX5_placeOn 1 (some .int), Cond.methodLink RX5 55 yX5_pulls, Cond.instanceMethod yX5_pulls, Cond.selects RX5 yX5_pulls yX5_pulls, Cond.code yX5_pulls cX5_pulls 4 none, Cond.methodLink RX5 58 yX5_guideGoes, Cond.instanceMethod yX5_guideGoes, Cond.selects RX5 yX5_guideGoes yX5_guideGoes, Cond.code yX5_guideGoes cX5_guideGoes 2 none, Cond.methodLink RX5 109 yX5_doCone, Cond.instanceMethod yX5_doCone]
def wsX5_perform_r4 : List Cond := [Cond.selects RX5 yX5_doCone yX5_doCone, Cond.code yX5_doCone cX5_doCone 3 (some .int), Cond.methodLink RX5 134 yX5_whichOf, Cond.static yX5_whichOf, Cond.code yX5_whichOf cX5_whichOf 1 (some .int), Cond.methodLink RX5 86 yX5_doSet, Cond.instanceMethod yX5_doSet, Cond.selects RX5 yX5_doSet yX5_doSet, Cond.code yX5_doSet cX5_doSet 4 (some .int), Cond.methodLink RX5 83 yX5_remember, Cond.instanceMethod yX5_remember, Cond.selects RX5 yX5_remember yX5_remember, Cond.code yX5_remember cX5_remember 1 none, Cond.methodLink RX5 32 yX5_copy, Cond.static yX5_copy, Cond.code yX5_copy cX5_copy 3 none, Cond.methodLink RX5 90 yX5_acted, Cond.instanceMethod yX5_acted, Cond.selects RX5 yX5_acted yX5_acted, Cond.code yX5_acted cX5_acted 3 (some .int), Cond.fieldLink RX5 36 "ThreadWinderModel" "historyLong" "I", Cond.fieldLink RX5 19 "ThreadWinderModel" "history" "[I"]
def wsX5_perform : List Cond := .code yX5_perform cX5_perform 4 (some .int) :: ((wsX5_perform_r1 ++ (wsX5_perform_r2 ++ (wsX5_perform_r3 ++ wsX5_perform_r4))) ++ wsX50)
def wsX5_stopped : List Cond := .code yX5_stopped cX5_stopped 1 (some .int) :: ([.fieldLink RX5 28 "ThreadWinderModel" "stop" "I"] ++ wsX50)
def wsX5_undo : List Cond := .code yX5_undo cX5_undo 2 (some .int) :: ([.fieldLink RX5 36 "ThreadWinderModel" "historyLong" "I", .fieldLink RX5 7 "ThreadWinderModel" "all" "[I", .fieldLink RX5 19 "ThreadWinderModel" "history" "[I"] ++ wsX50)
def wsX5_keep : List Cond := .code yX5_keep cX5_keep 1 (some .int) :: ([.fieldLink RX5 7 "ThreadWinderModel" "all" "[I", .fieldLink RX5 22 "ThreadWinderModel" "snapshot" "[I", .fieldLink RX5 144 "ThreadWinderModel" "isTaken" "I", .methodLink RX5 32 yX5_copy, .static yX5_copy, .initialized RX5, .code yX5_copy cX5_copy 3 none, .methodLink RX5 112 yX5_wraps, .instanceMethod yX5_wraps, .selects RX5 yX5_wraps yX5_wraps, .code yX5_wraps cX5_wraps 3 (some .int)] ++ wsX50)
def wsX5_restore : List Cond := .code yX5_restore cX5_restore 1 (some .int) :: ([.fieldLink RX5 144 "ThreadWinderModel" "isTaken" "I", .fieldLink RX5 22 "ThreadWinderModel" "snapshot" "[I", .fieldLink RX5 7 "ThreadWinderModel" "all" "[I", .methodLink RX5 83 yX5_remember, .instanceMethod yX5_remember, .selects RX5 yX5_remember yX5_remember, .initialized RX5, .code yX5_remember cX5_remember 1 none, .fieldLink RX5 13 "ThreadWinderModel" "kept" "[I", .methodLink RX5 32 yX5_copy, .static yX5_copy, .code yX5_copy cX5_copy 3 none, .methodLink RX5 112 yX5_wraps, .instanceMethod yX5_wraps, .selects RX5 yX5_wraps yX5_wraps, .code yX5_wraps cX5_wraps 3 (some .int), .methodLink RX5 90 yX5_acted, .instanceMethod yX5_acted, .selects RX5 yX5_acted yX5_acted, .code yX5_acted cX5_acted 3 (some .int), .fieldLink RX5 36 "ThreadWinderModel" "historyLong" "I", .fieldLink RX5 19 "ThreadWinderModel" "history" "[I"] ++ wsX50)
def wsX5_isAbove : List Cond := .code yX5_isAbove cX5_isAbove 3 (some .boolean) :: ([.constantLong RX5 61 (11), .fieldLink RX5 7 "ThreadWinderModel" "all" "[I", .methodLink RX5 63 yX5_in, .static yX5_in, .initialized RX5, .code yX5_in cX5_in 6 (some .boolean)] ++ wsX50)
def wsX5_isRibbon : List Cond := .code yX5_isRibbon cX5_isRibbon 2 (some .boolean) :: ([.methodLink RX5 147 yX5_isAbove, .instanceMethod yX5_isAbove, .selects RX5 yX5_isAbove yX5_isAbove, .initialized RX5, .code yX5_isAbove cX5_isAbove 3 (some .boolean), .constantLong RX5 61 (11), .fieldLink RX5 7 "ThreadWinderModel" "all" "[I", .methodLink RX5 63 yX5_in, .static yX5_in, .code yX5_in cX5_in 6 (some .boolean)] ++ wsX50)
def wsX5_isBad : List Cond := .code yX5_isBad cX5_isBad 2 (some .boolean) :: ([.fieldLink RX5 7 "ThreadWinderModel" "all" "[I"] ++ wsX50)
def wsX5_place_ : List Cond := .code yX5_place_ cX5_place_ 3 (some .int) :: ([.constantLong RX5 61 (11), .fieldLink RX5 7 "ThreadWinderModel" "all" "[I", .methodLink RX5 63 yX5_in, .static yX5_in, .initialized RX5, .code yX5_in cX5_in 6 (some .boolean), .methodLink RX5 150 yX5_isRibbon, .instanceMethod yX5_isRibbon, .selects RX5 yX5_isRibbon yX5_isRibbon, .code yX5_isRibbon cX5_isRibbon 2 (some .boolean), .methodLink RX5 147 yX5_isAbove, .instanceMethod yX5_isAbove, .selects RX5 yX5_isAbove yX5_isAbove, .code yX5_isAbove cX5_isAbove 3 (some .boolean), .methodLink RX5 153 yX5_isBad, .instanceMethod yX5_isBad, .selects RX5 yX5_isBad yX5_isBad, .code yX5_isBad cX5_isBad 2 (some .boolean)] ++ wsX50)
def wsX5_ribbons : List Cond := .code yX5_ribbons cX5_ribbons 3 (some .int) :: ([.methodLink RX5 150 yX5_isRibbon, .instanceMethod yX5_isRibbon, .selects RX5 yX5_isRibbon yX5_isRibbon, .initialized RX5, .code yX5_isRibbon cX5_isRibbon 2 (some .boolean), .methodLink RX5 147 yX5_isAbove, .instanceMethod yX5_isAbove, .selects RX5 yX5_isAbove yX5_isAbove, .code yX5_isAbove cX5_isAbove 3 (some .boolean), .constantLong RX5 61 (11), .fieldLink RX5 7 "ThreadWinderModel" "all" "[I", .methodLink RX5 63 yX5_in, .static yX5_in, .code yX5_in cX5_in 6 (some .boolean)] ++ wsX50)
def wsX5_isAnyBad : List Cond := .code yX5_isAnyBad cX5_isAnyBad 3 (some .boolean) :: ([.methodLink RX5 153 yX5_isBad, .instanceMethod yX5_isBad, .selects RX5 yX5_isBad yX5_isBad, .initialized RX5, .code yX5_isBad cX5_isBad 2 (some .boolean), .fieldLink RX5 7 "ThreadWinderModel" "all" "[I"] ++ wsX50)
def wsX5_wrong_r1 : List Cond := [Cond.fieldLink RX5 7 "ThreadWinderModel" "all" "[I", Cond.methodLink RX5 156 yX5_isAnyBad, Cond.instanceMethod yX5_isAnyBad, Cond.selects RX5 yX5_isAnyBad yX5_isAnyBad, Cond.initialized RX5, Cond.code yX5_isAnyBad cX5_isAnyBad 3 (some .boolean), Cond.methodLink RX5 153 yX5_isBad, Cond.instanceMethod yX5_isBad, Cond.selects RX5 yX5_isBad yX5_isBad, Cond.code yX5_isBad cX5_isBad 2 (some .boolean), Cond.methodLink RX5 159 yX5_ribbons, Cond.instanceMethod yX5_ribbons, Cond.selects RX5 yX5_ribbons yX5_ribbons, Cond.code yX5_ribbons cX5_ribbons 3 (some .int), Cond.methodLink RX5 150 yX5_isRibbon, Cond.instanceMethod yX5_isRibbon, Cond.selects RX5 yX5_isRibbon yX5_isRibbon, Cond.code yX5_isRibbon cX5_isRibbon 2 (some .boolean), Cond.methodLink RX5 147 yX5_isAbove, Cond.instanceMethod yX5_isAbove, Cond.selects RX5 yX5_isAbove yX5_isAbove, Cond.code yX5_isAbove cX5_isAbove 3 (some .boolean), Cond.constantLong RX5 61 (11), Cond.methodLink RX5 63 yX5_in]
def wsX5_wrong_r2 : List Cond := [Cond.static yX5_in, Cond.code yX5_in cX5_in 6 (some .boolean), Cond.methodLink RX5 162 yX5_evenness, Cond.instanceMethod yX5_evenness, Cond.selects RX5 yX5_evenness yX5_evenness, Cond.code yX5_evenness cX5_evenness 3 (some .int), Cond.methodLink RX5 44 yX5_greatest, Cond.instanceMethod yX5_greatest, Cond.selects RX5 yX5_greatest yX5_greatest, Cond.code yX5_greatest cX5_greatest 3 (some .int)]
def wsX5_wrong : List Cond := .code yX5_wrong cX5_wrong 1 (some .int) :: ((wsX5_wrong_r1 ++ wsX5_wrong_r2) ++ wsX50)
def wsX5_breaksIn_r1 : List Cond := [Cond.fieldLink RX5 7 "ThreadWinderModel" "all" "[I", Cond.fieldLink RX5 16 "ThreadWinderModel" "tried" "[I", Cond.methodLink RX5 32 yX5_copy, Cond.static yX5_copy, Cond.initialized RX5, Cond.code yX5_copy cX5_copy 3 none, Cond.methodLink RX5 93 yX5_isIdle, Cond.instanceMethod yX5_isIdle, Cond.selects RX5 yX5_isIdle yX5_isIdle, Cond.code yX5_isIdle cX5_isIdle 1 (some .boolean), Cond.methodLink RX5 48 yX5_isFull, Cond.instanceMethod yX5_isFull, Cond.selects RX5 yX5_isFull yX5_isFull, Cond.code yX5_isFull cX5_isFull 1 (some .boolean), Cond.methodLink RX5 44 yX5_greatest, Cond.instanceMethod yX5_greatest, Cond.selects RX5 yX5_greatest yX5_greatest, Cond.code yX5_greatest cX5_greatest 3 (some .int), Cond.methodLink RX5 96 yX5_turns, Cond.instanceMethod yX5_turns, Cond.selects RX5 yX5_turns yX5_turns, Cond.code yX5_turns cX5_turns 2 (some .boolean), Cond.methodLink RX5 52 yX5_place, Cond.instanceMethod yX5_place]
def wsX5_breaksIn_r2 : List Cond := [Cond.selects RX5 yX5_place yX5_place, Cond.code yX5_place cX5_place 1 (some .int), Cond.methodLink RX5 40 yX5_placeOn, Cond.static yX5_placeOn, Cond.code yX5_placeOn cX5_placeOn 1 (some .int), Cond.methodLink RX5 55 yX5_pulls, Cond.instanceMethod yX5_pulls, Cond.selects RX5 yX5_pulls yX5_pulls, Cond.code yX5_pulls cX5_pulls 4 none, Cond.methodLink RX5 58 yX5_guideGoes, Cond.instanceMethod yX5_guideGoes, Cond.selects RX5 yX5_guideGoes yX5_guideGoes, Cond.code yX5_guideGoes cX5_guideGoes 2 none]
def wsX5_breaksIn : List Cond := .code yX5_breaksIn cX5_breaksIn 3 (some .int) :: ((wsX5_breaksIn_r1 ++ wsX5_breaksIn_r2) ++ wsX50)
def wsX5_bare : List Cond := .code yX5_bare cX5_bare 3 (some .int) :: ([.fieldLink RX5 7 "ThreadWinderModel" "all" "[I"] ++ wsX50)
def wsX5_windsWith_r1 : List Cond := [Cond.fieldLink RX5 7 "ThreadWinderModel" "all" "[I", Cond.fieldLink RX5 16 "ThreadWinderModel" "tried" "[I", Cond.methodLink RX5 32 yX5_copy, Cond.static yX5_copy, Cond.initialized RX5, Cond.code yX5_copy cX5_copy 3 none, Cond.methodLink RX5 48 yX5_isFull, Cond.instanceMethod yX5_isFull, Cond.selects RX5 yX5_isFull yX5_isFull, Cond.code yX5_isFull cX5_isFull 1 (some .boolean), Cond.methodLink RX5 44 yX5_greatest, Cond.instanceMethod yX5_greatest, Cond.selects RX5 yX5_greatest yX5_greatest, Cond.code yX5_greatest cX5_greatest 3 (some .int), Cond.methodLink RX5 52 yX5_place, Cond.instanceMethod yX5_place, Cond.selects RX5 yX5_place yX5_place, Cond.code yX5_place cX5_place 1 (some .int), Cond.methodLink RX5 40 yX5_placeOn, Cond.static yX5_placeOn, Cond.code yX5_placeOn cX5_placeOn 1 (some .int), Cond.methodLink RX5 58 yX5_guideGoes, Cond.instanceMethod yX5_guideGoes, Cond.selects RX5 yX5_guideGoes yX5_guideGoes]
def wsX5_windsWith_r2 : List Cond := [Cond.code yX5_guideGoes cX5_guideGoes 2 none, Cond.methodLink RX5 162 yX5_evenness, Cond.instanceMethod yX5_evenness, Cond.selects RX5 yX5_evenness yX5_evenness, Cond.code yX5_evenness cX5_evenness 3 (some .int), Cond.methodLink RX5 159 yX5_ribbons, Cond.instanceMethod yX5_ribbons, Cond.selects RX5 yX5_ribbons yX5_ribbons, Cond.code yX5_ribbons cX5_ribbons 3 (some .int), Cond.methodLink RX5 150 yX5_isRibbon, Cond.instanceMethod yX5_isRibbon, Cond.selects RX5 yX5_isRibbon yX5_isRibbon, Cond.code yX5_isRibbon cX5_isRibbon 2 (some .boolean), Cond.methodLink RX5 147 yX5_isAbove, Cond.instanceMethod yX5_isAbove, Cond.selects RX5 yX5_isAbove yX5_isAbove, Cond.code yX5_isAbove cX5_isAbove 3 (some .boolean), Cond.constantLong RX5 61 (11), Cond.methodLink RX5 63 yX5_in, Cond.static yX5_in, Cond.code yX5_in cX5_in 6 (some .boolean), Cond.methodLink RX5 165 yX5_bare, Cond.instanceMethod yX5_bare, Cond.selects RX5 yX5_bare yX5_bare]
def wsX5_windsWith_r3 : List Cond := [Cond.code yX5_bare cX5_bare 3 (some .int)]
def wsX5_windsWith : List Cond := .code yX5_windsWith cX5_windsWith 5 (some .int) :: ((wsX5_windsWith_r1 ++ (wsX5_windsWith_r2 ++ wsX5_windsWith_r3)) ++ wsX50)
def wsX5_ifTraverse_r1 : List Cond := [Cond.constantLong RX5 61 (11), Cond.constantLong RX5 99 (500), Cond.constantLong RX5 168 (2), Cond.methodLink RX5 63 yX5_in, Cond.static yX5_in, Cond.initialized RX5, Cond.code yX5_in cX5_in 6 (some .boolean), Cond.methodLink RX5 170 yX5_windsWith, Cond.instanceMethod yX5_windsWith, Cond.selects RX5 yX5_windsWith yX5_windsWith, Cond.code yX5_windsWith cX5_windsWith 5 (some .int), Cond.fieldLink RX5 7 "ThreadWinderModel" "all" "[I", Cond.fieldLink RX5 16 "ThreadWinderModel" "tried" "[I", Cond.methodLink RX5 32 yX5_copy, Cond.static yX5_copy, Cond.code yX5_copy cX5_copy 3 none, Cond.methodLink RX5 48 yX5_isFull, Cond.instanceMethod yX5_isFull, Cond.selects RX5 yX5_isFull yX5_isFull, Cond.code yX5_isFull cX5_isFull 1 (some .boolean), Cond.methodLink RX5 44 yX5_greatest, Cond.instanceMethod yX5_greatest, Cond.selects RX5 yX5_greatest yX5_greatest, Cond.code yX5_greatest cX5_greatest 3 (some .int)]
def wsX5_ifTraverse_r2 : List Cond := [Cond.methodLink RX5 52 yX5_place, Cond.instanceMethod yX5_place, Cond.selects RX5 yX5_place yX5_place, Cond.code yX5_place cX5_place 1 (some .int), Cond.methodLink RX5 40 yX5_placeOn, Cond.static yX5_placeOn, Cond.code yX5_placeOn cX5_placeOn 1 (some .int), Cond.methodLink RX5 58 yX5_guideGoes, Cond.instanceMethod yX5_guideGoes, Cond.selects RX5 yX5_guideGoes yX5_guideGoes, Cond.code yX5_guideGoes cX5_guideGoes 2 none, Cond.methodLink RX5 162 yX5_evenness, Cond.instanceMethod yX5_evenness, Cond.selects RX5 yX5_evenness yX5_evenness, Cond.code yX5_evenness cX5_evenness 3 (some .int), Cond.methodLink RX5 159 yX5_ribbons, Cond.instanceMethod yX5_ribbons, Cond.selects RX5 yX5_ribbons yX5_ribbons, Cond.code yX5_ribbons cX5_ribbons 3 (some .int), Cond.methodLink RX5 150 yX5_isRibbon, Cond.instanceMethod yX5_isRibbon, Cond.selects RX5 yX5_isRibbon yX5_isRibbon, Cond.code yX5_isRibbon cX5_isRibbon 2 (some .boolean), Cond.methodLink RX5 147 yX5_isAbove]
def wsX5_ifTraverse_r3 : List Cond := [Cond.instanceMethod yX5_isAbove, Cond.selects RX5 yX5_isAbove yX5_isAbove, Cond.code yX5_isAbove cX5_isAbove 3 (some .boolean), Cond.methodLink RX5 165 yX5_bare, Cond.instanceMethod yX5_bare, Cond.selects RX5 yX5_bare yX5_bare, Cond.code yX5_bare cX5_bare 3 (some .int)]
def wsX5_ifTraverse : List Cond := .code yX5_ifTraverse cX5_ifTraverse 4 (some .int) :: ((wsX5_ifTraverse_r1 ++ (wsX5_ifTraverse_r2 ++ wsX5_ifTraverse_r3)) ++ wsX50)
def wsX5_bestTraverse_r1 : List Cond := [Cond.constantLong RX5 99 (500), Cond.methodLink RX5 63 yX5_in, Cond.static yX5_in, Cond.initialized RX5, Cond.code yX5_in cX5_in 6 (some .boolean), Cond.methodLink RX5 170 yX5_windsWith, Cond.instanceMethod yX5_windsWith, Cond.selects RX5 yX5_windsWith yX5_windsWith, Cond.code yX5_windsWith cX5_windsWith 5 (some .int), Cond.fieldLink RX5 7 "ThreadWinderModel" "all" "[I", Cond.fieldLink RX5 16 "ThreadWinderModel" "tried" "[I", Cond.methodLink RX5 32 yX5_copy, Cond.static yX5_copy, Cond.code yX5_copy cX5_copy 3 none, Cond.methodLink RX5 48 yX5_isFull, Cond.instanceMethod yX5_isFull, Cond.selects RX5 yX5_isFull yX5_isFull, Cond.code yX5_isFull cX5_isFull 1 (some .boolean), Cond.methodLink RX5 44 yX5_greatest, Cond.instanceMethod yX5_greatest, Cond.selects RX5 yX5_greatest yX5_greatest, Cond.code yX5_greatest cX5_greatest 3 (some .int), Cond.methodLink RX5 52 yX5_place, Cond.instanceMethod yX5_place]
def wsX5_bestTraverse_r2 : List Cond := [Cond.selects RX5 yX5_place yX5_place, Cond.code yX5_place cX5_place 1 (some .int), Cond.methodLink RX5 40 yX5_placeOn, Cond.static yX5_placeOn, Cond.code yX5_placeOn cX5_placeOn 1 (some .int), Cond.methodLink RX5 58 yX5_guideGoes, Cond.instanceMethod yX5_guideGoes, Cond.selects RX5 yX5_guideGoes yX5_guideGoes, Cond.code yX5_guideGoes cX5_guideGoes 2 none, Cond.methodLink RX5 162 yX5_evenness, Cond.instanceMethod yX5_evenness, Cond.selects RX5 yX5_evenness yX5_evenness, Cond.code yX5_evenness cX5_evenness 3 (some .int), Cond.methodLink RX5 159 yX5_ribbons, Cond.instanceMethod yX5_ribbons, Cond.selects RX5 yX5_ribbons yX5_ribbons, Cond.code yX5_ribbons cX5_ribbons 3 (some .int), Cond.methodLink RX5 150 yX5_isRibbon, Cond.instanceMethod yX5_isRibbon, Cond.selects RX5 yX5_isRibbon yX5_isRibbon, Cond.code yX5_isRibbon cX5_isRibbon 2 (some .boolean), Cond.methodLink RX5 147 yX5_isAbove, Cond.instanceMethod yX5_isAbove, Cond.selects RX5 yX5_isAbove yX5_isAbove]
def wsX5_bestTraverse_r3 : List Cond := [Cond.code yX5_isAbove cX5_isAbove 3 (some .boolean), Cond.constantLong RX5 61 (11), Cond.methodLink RX5 165 yX5_bare, Cond.instanceMethod yX5_bare, Cond.selects RX5 yX5_bare yX5_bare, Cond.code yX5_bare cX5_bare 3 (some .int)]
def wsX5_bestTraverse : List Cond := .code yX5_bestTraverse cX5_bestTraverse 4 (some .int) :: ((wsX5_bestTraverse_r1 ++ (wsX5_bestTraverse_r2 ++ wsX5_bestTraverse_r3)) ++ wsX50)
def wsX5_period : List Cond := .code yX5_period cX5_period 3 (some .int) :: ([.constantLong RX5 61 (11), .methodLink RX5 63 yX5_in, .static yX5_in, .initialized RX5, .code yX5_in cX5_in 6 (some .boolean)])
def wsX5_allKnots : List Cond := .code yX5_allKnots cX5_allKnots 3 (some .int) :: ([.fieldLink RX5 7 "ThreadWinderModel" "all" "[I"] ++ wsX50)
def wsX5_count_r1 : List Cond := [Cond.fieldLink RX5 7 "ThreadWinderModel" "all" "[I", Cond.fieldLink RX5 36 "ThreadWinderModel" "historyLong" "I", Cond.fieldLink RX5 115 "ThreadWinderModel" "textLong" "I", Cond.methodLink RX5 112 yX5_wraps, Cond.instanceMethod yX5_wraps, Cond.selects RX5 yX5_wraps yX5_wraps, Cond.initialized RX5, Cond.code yX5_wraps cX5_wraps 3 (some .int), Cond.methodLink RX5 52 yX5_place, Cond.instanceMethod yX5_place, Cond.selects RX5 yX5_place yX5_place, Cond.code yX5_place cX5_place 1 (some .int), Cond.methodLink RX5 40 yX5_placeOn, Cond.static yX5_placeOn, Cond.code yX5_placeOn cX5_placeOn 1 (some .int), Cond.methodLink RX5 48 yX5_isFull, Cond.instanceMethod yX5_isFull, Cond.selects RX5 yX5_isFull yX5_isFull, Cond.code yX5_isFull cX5_isFull 1 (some .boolean), Cond.methodLink RX5 44 yX5_greatest, Cond.instanceMethod yX5_greatest, Cond.selects RX5 yX5_greatest yX5_greatest, Cond.code yX5_greatest cX5_greatest 3 (some .int), Cond.methodLink RX5 162 yX5_evenness]
def wsX5_count_r2 : List Cond := [Cond.instanceMethod yX5_evenness, Cond.selects RX5 yX5_evenness yX5_evenness, Cond.code yX5_evenness cX5_evenness 3 (some .int), Cond.methodLink RX5 159 yX5_ribbons, Cond.instanceMethod yX5_ribbons, Cond.selects RX5 yX5_ribbons yX5_ribbons, Cond.code yX5_ribbons cX5_ribbons 3 (some .int), Cond.methodLink RX5 150 yX5_isRibbon, Cond.instanceMethod yX5_isRibbon, Cond.selects RX5 yX5_isRibbon yX5_isRibbon, Cond.code yX5_isRibbon cX5_isRibbon 2 (some .boolean), Cond.methodLink RX5 147 yX5_isAbove, Cond.instanceMethod yX5_isAbove, Cond.selects RX5 yX5_isAbove yX5_isAbove, Cond.code yX5_isAbove cX5_isAbove 3 (some .boolean), Cond.constantLong RX5 61 (11), Cond.methodLink RX5 63 yX5_in, Cond.static yX5_in, Cond.code yX5_in cX5_in 6 (some .boolean), Cond.methodLink RX5 174 yX5_allKnots, Cond.instanceMethod yX5_allKnots, Cond.selects RX5 yX5_allKnots yX5_allKnots, Cond.code yX5_allKnots cX5_allKnots 3 (some .int), Cond.methodLink RX5 177 yX5_breaks]
def wsX5_count_r3 : List Cond := [Cond.instanceMethod yX5_breaks, Cond.selects RX5 yX5_breaks yX5_breaks, Cond.code yX5_breaks cX5_breaks 1 (some .int), Cond.constant RX5 39 (1048576), Cond.methodLink RX5 180 yX5_doffs, Cond.instanceMethod yX5_doffs, Cond.selects RX5 yX5_doffs yX5_doffs, Cond.code yX5_doffs cX5_doffs 1 (some .int)]
def wsX5_count : List Cond := .code yX5_count cX5_count 2 (some .int) :: ((wsX5_count_r1 ++ (wsX5_count_r2 ++ wsX5_count_r3)) ++ wsX50)
def wsJ9_abs_0f7a4 : List Cond := .code yJ9_abs_0f7a4 cJ9_abs_0f7a4 1 (some .int) :: ([])
def wsJ9_max_7cf53 : List Cond := .code yJ9_max_7cf53 cJ9_max_7cf53 2 (some .int) :: ([])
def wsJ9_min_7cf53 : List Cond := .code yJ9_min_7cf53 cJ9_min_7cf53 2 (some .int) :: ([])
def wsL_law_r1 : List Cond := [Cond.classLink RL 7 RX4, Cond.instantiable RX4 8, Cond.initialized RX4, Cond.classLink RL 10 RX5, Cond.instantiable RX5 12, Cond.initialized RX5, Cond.methodLink RL 9 yX4_init, Cond.instanceMethod yX4_init, Cond.code yX4_init cX4_init 1 none, Cond.methodLink RX4 3 objectInit, Cond.instanceMethod objectInit, Cond.code objectInit ⟨#[0xb1]⟩ 1 none, Cond.classLink RX4 9 RX2, Cond.instantiable RX2 11, Cond.initialized RX2, Cond.fieldLink RX4 12 "ThreadWinder" "now" "LThreadWinder$State;", Cond.fieldLink RX4 16 "ThreadWinder" "trial" "LThreadWinder$State;", Cond.fieldLink RX4 19 "ThreadWinder" "snapshot" "LThreadWinder$State;", Cond.classLink RX4 22 RX3, Cond.instantiable RX3 4, Cond.initialized RX3, Cond.fieldLink RX4 25 "ThreadWinder" "imagined" "LThreadWinder$Wraps;", Cond.classLink RX4 29 RX1, Cond.instantiable RX1 3]
def wsL_law_r2 : List Cond := [Cond.initialized RX1, Cond.fieldLink RX4 32 "ThreadWinder" "history" "LThreadWinder$History;", Cond.classLink RX4 36 RX0, Cond.instantiable RX0 7, Cond.initialized RX0, Cond.fieldLink RX4 39 "ThreadWinder" "text" "LThreadWinder$CommandText;", Cond.fieldLink RX4 43 "ThreadWinder" "snapshotTaken" "Z", Cond.fieldLink RX4 47 "ThreadWinder" "latestStop" "I", Cond.instanceMethod yX2_init, Cond.code yX2_init cX2_init 1 none, Cond.methodLink RX2 3 objectInit, Cond.classLink RX2 9 RX3, Cond.fieldLink RX2 12 "ThreadWinder$State" "wraps" "LThreadWinder$Wraps;", Cond.arrayClass .int, Cond.fieldLink RX2 18 "ThreadWinder$State" "knots" "[I", Cond.methodLink RX2 25 ⟨"[I", "clone", "()Ljava/lang/Object;"⟩, Cond.sameMethod "[I" "java/lang/Object" "clone" "()Ljava/lang/Object;", Cond.native ⟨"java/lang/Object", "clone", "()Ljava/lang/Object;"⟩, Cond.instanceMethod ⟨"java/lang/Object", "clone", "()Ljava/lang/Object;"⟩, Cond.selects "[I" ⟨"[I", "clone", "()Ljava/lang/Object;"⟩ ⟨"java/lang/Object", "clone", "()Ljava/lang/Object;"⟩, Cond.classLink RX2 26 "[I", Cond.fieldLink RX2 30 "ThreadWinder$State" "numbers" "[I", Cond.fieldLink RX2 33 "ThreadWinder$State" "coneLeft" "I", Cond.fieldLink RX2 37 "ThreadWinder$State" "warmth" "I"]
def wsL_law_r3 : List Cond := [Cond.fieldLink RX2 40 "ThreadWinder$State" "broken" "Z", Cond.fieldLink RX2 44 "ThreadWinder$State" "lastPlace" "I", Cond.fieldLink RX2 47 "ThreadWinder$State" "lastTension" "I", Cond.fieldLink RX2 50 "ThreadWinder$State" "turnsDone" "I", Cond.fieldLink RX2 53 "ThreadWinder$State" "breaks" "I", Cond.fieldLink RX2 56 "ThreadWinder$State" "packagesOff" "I", Cond.instanceMethod yX3_init, Cond.code yX3_init cX3_init 1 none, Cond.methodLink RX3 3 objectInit, Cond.fieldLink RX3 9 "ThreadWinder$Wraps" "heights" "[I", Cond.fieldLink RX3 15 "ThreadWinder$Wraps" "laid" "I", Cond.fieldLink RX3 19 "ThreadWinder$Wraps" "tallest" "I", Cond.fieldLink RX3 22 "ThreadWinder$Wraps" "way" "I", Cond.instanceMethod yX1_init, Cond.code yX1_init cX1_init 2 none, Cond.methodLink RX1 3 objectInit, Cond.classLink RX1 9 RX2, Cond.fieldLink RX1 11 "ThreadWinder$History" "states" "[LThreadWinder$State;", Cond.fieldLink RX1 17 "ThreadWinder$History" "next" "I", Cond.fieldLink RX1 21 "ThreadWinder$History" "kept" "I", Cond.instanceMethod yX0_init, Cond.code yX0_init cX0_init 1 none, Cond.methodLink RX0 3 objectInit, Cond.arrayClass .char]
def wsL_law_r4 : List Cond := [Cond.fieldLink RX0 9 "ThreadWinder$CommandText" "characters" "[C", Cond.fieldLink RX0 15 "ThreadWinder$CommandText" "kinds" "[I", Cond.fieldLink RX0 19 "ThreadWinder$CommandText" "values" "[I", Cond.fieldLink RX0 22 "ThreadWinder$CommandText" "length" "I", Cond.fieldLink RX0 26 "ThreadWinder$CommandText" "commands" "I", Cond.fieldLink RX0 29 "ThreadWinder$CommandText" "kind" "I", Cond.fieldLink RX0 32 "ThreadWinder$CommandText" "value" "I", Cond.methodLink RL 12 yX5_init, Cond.instanceMethod yX5_init, Cond.code yX5_init cX5_init 1 none, Cond.methodLink RX5 1 objectInit, Cond.fieldLink RX5 7 "ThreadWinderModel" "all" "[I", Cond.fieldLink RX5 13 "ThreadWinderModel" "kept" "[I", Cond.fieldLink RX5 16 "ThreadWinderModel" "tried" "[I", Cond.fieldLink RX5 19 "ThreadWinderModel" "history" "[I", Cond.fieldLink RX5 22 "ThreadWinderModel" "snapshot" "[I", Cond.fieldLink RX5 25 "ThreadWinderModel" "text" "[I", Cond.fieldLink RX5 28 "ThreadWinderModel" "stop" "I", Cond.methodLink RL 13 yX4_set, Cond.instanceMethod yX4_set, Cond.selects RX4 yX4_set yX4_set, Cond.code yX4_set cX4_set 3 (some .int), Cond.instanceMethod yX2_copyFrom, Cond.selects RX2 yX2_copyFrom yX2_copyFrom]
def wsL_law_r5 : List Cond := [Cond.code yX2_copyFrom cX2_copyFrom 2 none, Cond.methodLink RX2 63 arraycopyName, Cond.native arraycopyName, Cond.static arraycopyName, Cond.initialized "java/lang/System", Cond.instanceMethod yX3_copyFrom, Cond.selects RX3 yX3_copyFrom yX3_copyFrom, Cond.code yX3_copyFrom cX3_copyFrom 2 none, Cond.methodLink RX3 25 arraycopyName, Cond.instanceMethod yX2_changeNumber, Cond.selects RX2 yX2_changeNumber yX2_changeNumber, Cond.code yX2_changeNumber cX2_changeNumber 4 (some .int), Cond.static yX4_inRange, Cond.code yX4_inRange cX4_inRange 2 (some .boolean), Cond.methodLink RX4 158 yX4_lowest, Cond.static yX4_lowest, Cond.code yX4_lowest cX4_lowest 1 (some .int), Cond.fieldLink RX4 216 "ThreadWinder" "LOWEST" "[I", Cond.methodLink RX4 161 yX4_highest, Cond.static yX4_highest, Cond.code yX4_highest cX4_highest 1 (some .int), Cond.fieldLink RX4 220 "ThreadWinder" "HIGHEST" "[I", Cond.methodLink RX4 59 yX4_finishAct, Cond.instanceMethod yX4_finishAct]
def wsL_law_r6 : List Cond := [Cond.selects RX4 yX4_finishAct yX4_finishAct, Cond.code yX4_finishAct cX4_finishAct 2 (some .int), Cond.instanceMethod yX1_remember, Cond.selects RX1 yX1_remember yX1_remember, Cond.code yX1_remember cX1_remember 3 none, Cond.methodLink RX1 33 Lib.Math.min.name, Cond.static Lib.Math.min.name, Cond.initialized "java/lang/Math", Cond.code Lib.Math.min.name Lib.Math.min.code 2 (some .int), Cond.methodLink RX1 25 yX1_stateAt, Cond.instanceMethod yX1_stateAt, Cond.selects RX1 yX1_stateAt yX1_stateAt, Cond.code yX1_stateAt cX1_stateAt 2 (some (.object "ThreadWinder$State")), Cond.methodLink RL 17 yX5_set, Cond.instanceMethod yX5_set, Cond.selects RX5 yX5_set yX5_set, Cond.code yX5_set cX5_set 4 (some .int), Cond.constantLong RX5 77 (4), Cond.methodLink RX5 63 yX5_in, Cond.static yX5_in, Cond.code yX5_in cX5_in 6 (some .boolean), Cond.methodLink RX5 79 yX5_isNumber, Cond.static yX5_isNumber, Cond.code yX5_isNumber cX5_isNumber 2 (some .boolean)]
def wsL_law_r7 : List Cond := [Cond.constantLong RX5 61 (11), Cond.constantLong RX5 67 (9), Cond.constantLong RX5 69 (5), Cond.constantLong RX5 71 (50), Cond.constantLong RX5 73 (10), Cond.constantLong RX5 75 (99), Cond.methodLink RX5 83 yX5_remember, Cond.instanceMethod yX5_remember, Cond.selects RX5 yX5_remember yX5_remember, Cond.code yX5_remember cX5_remember 1 none, Cond.methodLink RX5 32 yX5_copy, Cond.static yX5_copy, Cond.code yX5_copy cX5_copy 3 none, Cond.methodLink RX5 86 yX5_doSet, Cond.instanceMethod yX5_doSet, Cond.selects RX5 yX5_doSet yX5_doSet, Cond.code yX5_doSet cX5_doSet 4 (some .int), Cond.methodLink RX5 90 yX5_acted, Cond.instanceMethod yX5_acted, Cond.selects RX5 yX5_acted yX5_acted, Cond.code yX5_acted cX5_acted 3 (some .int), Cond.fieldLink RX5 36 "ThreadWinderModel" "historyLong" "I", Cond.methodLink RL 18 yX4_wind, Cond.instanceMethod yX4_wind]
def wsL_law_r8 : List Cond := [Cond.selects RX4 yX4_wind yX4_wind, Cond.code yX4_wind cX4_wind 2 (some .int), Cond.instanceMethod yX2_turnOften, Cond.selects RX2 yX2_turnOften yX2_turnOften, Cond.code yX2_turnOften cX2_turnOften 4 (some .int), Cond.methodLink RX2 88 yX2_isIdle, Cond.instanceMethod yX2_isIdle, Cond.selects RX2 yX2_isIdle yX2_isIdle, Cond.code yX2_isIdle cX2_isIdle 1 (some .boolean), Cond.methodLink RX2 140 yX2_isConeEmpty, Cond.instanceMethod yX2_isConeEmpty, Cond.selects RX2 yX2_isConeEmpty yX2_isConeEmpty, Cond.code yX2_isConeEmpty cX2_isConeEmpty 1 (some .boolean), Cond.instanceMethod yX3_isFull, Cond.selects RX3 yX3_isFull yX3_isFull, Cond.code yX3_isFull cX3_isFull 1 (some .boolean), Cond.methodLink RX2 95 yX2_turnOnce, Cond.instanceMethod yX2_turnOnce, Cond.selects RX2 yX2_turnOnce yX2_turnOnce, Cond.code yX2_turnOnce cX2_turnOnce 3 none, Cond.instanceMethod yX3_guidePlace, Cond.selects RX3 yX3_guidePlace yX3_guidePlace, Cond.code yX3_guidePlace cX3_guidePlace 1 (some .int), Cond.instanceMethod yX3_heightAt]
def wsL_law_r9 : List Cond := [Cond.selects RX3 yX3_heightAt yX3_heightAt, Cond.code yX3_heightAt cX3_heightAt 2 (some .int), Cond.instanceMethod yX3_layWrap, Cond.selects RX3 yX3_layWrap yX3_layWrap, Cond.code yX3_layWrap cX3_layWrap 2 none, Cond.methodLink RX3 45 Lib.Math.max.name, Cond.static Lib.Math.max.name, Cond.code Lib.Math.max.name Lib.Math.max.code 2 (some .int), Cond.methodLink RX3 41 yX3_guidePlace, Cond.methodLink RX2 107 yX2_tensionAt, Cond.instanceMethod yX2_tensionAt, Cond.selects RX2 yX2_tensionAt yX2_tensionAt, Cond.code yX2_tensionAt cX2_tensionAt 4 (some .int), Cond.methodLink RX2 120 Lib.Math.abs.name, Cond.static Lib.Math.abs.name, Cond.code Lib.Math.abs.name Lib.Math.abs.code 1 (some .int), Cond.methodLink RX2 113 yX2_number, Cond.instanceMethod yX2_number, Cond.selects RX2 yX2_number yX2_number, Cond.code yX2_number cX2_number 2 (some .int), Cond.methodLink RX2 110 yX2_warmDiscs, Cond.instanceMethod yX2_warmDiscs, Cond.selects RX2 yX2_warmDiscs yX2_warmDiscs, Cond.code yX2_warmDiscs cX2_warmDiscs 1 none]
def wsL_law_r10 : List Cond := [Cond.methodLink RX2 125 Lib.Math.min.name, Cond.methodLink RX2 128 Lib.Math.max.name, Cond.instanceMethod yX3_moveGuide, Cond.selects RX3 yX3_moveGuide yX3_moveGuide, Cond.code yX3_moveGuide cX3_moveGuide 6 none, Cond.static yX4_oneIf, Cond.code yX4_oneIf cX4_oneIf 1 (some .int), Cond.methodLink RL 22 yX5_wind, Cond.instanceMethod yX5_wind, Cond.selects RX5 yX5_wind yX5_wind, Cond.code yX5_wind cX5_wind 3 (some .int), Cond.constantLong RX5 99 (500), Cond.methodLink RX5 101 yX5_doWind, Cond.instanceMethod yX5_doWind, Cond.selects RX5 yX5_doWind yX5_doWind, Cond.code yX5_doWind cX5_doWind 4 (some .int), Cond.methodLink RX5 93 yX5_isIdle, Cond.instanceMethod yX5_isIdle, Cond.selects RX5 yX5_isIdle yX5_isIdle, Cond.code yX5_isIdle cX5_isIdle 1 (some .boolean), Cond.methodLink RX5 48 yX5_isFull, Cond.instanceMethod yX5_isFull, Cond.selects RX5 yX5_isFull yX5_isFull, Cond.code yX5_isFull cX5_isFull 1 (some .boolean)]
def wsL_law_r11 : List Cond := [Cond.methodLink RX5 44 yX5_greatest, Cond.instanceMethod yX5_greatest, Cond.selects RX5 yX5_greatest yX5_greatest, Cond.code yX5_greatest cX5_greatest 3 (some .int), Cond.methodLink RX5 96 yX5_turns, Cond.instanceMethod yX5_turns, Cond.selects RX5 yX5_turns yX5_turns, Cond.code yX5_turns cX5_turns 2 (some .boolean), Cond.methodLink RX5 52 yX5_place, Cond.instanceMethod yX5_place, Cond.selects RX5 yX5_place yX5_place, Cond.code yX5_place cX5_place 1 (some .int), Cond.methodLink RX5 40 yX5_placeOn, Cond.static yX5_placeOn, Cond.code yX5_placeOn cX5_placeOn 1 (some .int), Cond.methodLink RX5 55 yX5_pulls, Cond.instanceMethod yX5_pulls, Cond.selects RX5 yX5_pulls yX5_pulls, Cond.code yX5_pulls cX5_pulls 4 none, Cond.methodLink RX5 58 yX5_guideGoes, Cond.instanceMethod yX5_guideGoes, Cond.selects RX5 yX5_guideGoes yX5_guideGoes, Cond.code yX5_guideGoes cX5_guideGoes 2 none, Cond.methodLink RL 23 yX4_knot]
def wsL_law_r12 : List Cond := [Cond.instanceMethod yX4_knot, Cond.selects RX4 yX4_knot yX4_knot, Cond.code yX4_knot cX4_knot 1 (some .int), Cond.instanceMethod yX2_tieKnot, Cond.selects RX2 yX2_tieKnot yX2_tieKnot, Cond.code yX2_tieKnot cX2_tieKnot 2 (some .int), Cond.methodLink RL 27 yX5_knot, Cond.instanceMethod yX5_knot, Cond.selects RX5 yX5_knot yX5_knot, Cond.code yX5_knot cX5_knot 2 (some .int), Cond.methodLink RX5 104 yX5_doKnot, Cond.instanceMethod yX5_doKnot, Cond.selects RX5 yX5_doKnot yX5_doKnot, Cond.code yX5_doKnot cX5_doKnot 1 (some .int), Cond.methodLink RL 28 yX4_cone, Cond.instanceMethod yX4_cone, Cond.selects RX4 yX4_cone yX4_cone, Cond.code yX4_cone cX4_cone 2 (some .int), Cond.instanceMethod yX2_changeCone, Cond.selects RX2 yX2_changeCone yX2_changeCone, Cond.code yX2_changeCone cX2_changeCone 3 (some .int), Cond.methodLink RL 31 yX5_cone, Cond.instanceMethod yX5_cone, Cond.selects RX5 yX5_cone yX5_cone]
def wsL_law_r13 : List Cond := [Cond.code yX5_cone cX5_cone 2 (some .int), Cond.constantLong RX5 107 (9999), Cond.methodLink RX5 109 yX5_doCone, Cond.instanceMethod yX5_doCone, Cond.selects RX5 yX5_doCone yX5_doCone, Cond.code yX5_doCone cX5_doCone 3 (some .int), Cond.methodLink RL 32 yX4_doff, Cond.instanceMethod yX4_doff, Cond.selects RX4 yX4_doff yX4_doff, Cond.code yX4_doff cX4_doff 1 (some .int), Cond.instanceMethod yX2_takePackageOff, Cond.selects RX2 yX2_takePackageOff yX2_takePackageOff, Cond.code yX2_takePackageOff cX2_takePackageOff 2 (some .int), Cond.instanceMethod yX3_clear, Cond.selects RX3 yX3_clear yX3_clear, Cond.code yX3_clear cX3_clear 1 none, Cond.methodLink RX3 31 yJ7_fill_53178, Cond.static yJ7_fill_53178, Cond.initialized RJ7, Cond.code yJ7_fill_53178 cJ7_fill_53178 4 none, Cond.methodLink RX2 134 yJ7_fill_53178, Cond.methodLink RL 35 yX5_doff, Cond.instanceMethod yX5_doff, Cond.selects RX5 yX5_doff yX5_doff]
def wsL_law_r14 : List Cond := [Cond.code yX5_doff cX5_doff 3 (some .int), Cond.constant RX5 39 (1048576), Cond.methodLink RX5 112 yX5_wraps, Cond.instanceMethod yX5_wraps, Cond.selects RX5 yX5_wraps yX5_wraps, Cond.code yX5_wraps cX5_wraps 3 (some .int), Cond.methodLink RL 36 yX4_type, Cond.instanceMethod yX4_type, Cond.selects RX4 yX4_type yX4_type, Cond.code yX4_type cX4_type 2 (some .int), Cond.instanceMethod yX0_append, Cond.selects RX0 yX0_append yX0_append, Cond.code yX0_append cX0_append 2 (some .int), Cond.methodLink RL 40 yX5_type, Cond.instanceMethod yX5_type, Cond.selects RX5 yX5_type yX5_type, Cond.code yX5_type cX5_type 2 (some .int), Cond.fieldLink RX5 115 "ThreadWinderModel" "textLong" "I", Cond.methodLink RL 41 yX4_clearText, Cond.instanceMethod yX4_clearText, Cond.selects RX4 yX4_clearText yX4_clearText, Cond.code yX4_clearText cX4_clearText 1 (some .int), Cond.instanceMethod yX0_empty, Cond.selects RX0 yX0_empty yX0_empty]
def wsL_law_r15 : List Cond := [Cond.code yX0_empty cX0_empty 2 (some .int), Cond.methodLink RL 44 yX5_clearText, Cond.instanceMethod yX5_clearText, Cond.selects RX5 yX5_clearText yX5_clearText, Cond.code yX5_clearText cX5_clearText 2 (some .int), Cond.methodLink RL 45 yX4_perform, Cond.instanceMethod yX4_perform, Cond.selects RX4 yX4_perform yX4_perform, Cond.code yX4_perform cX4_perform 4 (some .int), Cond.instanceMethod yX0_read, Cond.selects RX0 yX0_read yX0_read, Cond.code yX0_read cX0_read 2 (some .int), Cond.methodLink RX0 35 yX0_takes, Cond.instanceMethod yX0_takes, Cond.selects RX0 yX0_takes yX0_takes, Cond.code yX0_takes cX0_takes 2 (some .boolean), Cond.methodLink RX0 46 yX0_kindOf, Cond.static yX0_kindOf, Cond.code yX0_kindOf cX0_kindOf 1 (some .int), Cond.methodLink RX0 39 yX0_isComplete, Cond.instanceMethod yX0_isComplete, Cond.selects RX0 yX0_isComplete yX0_isComplete, Cond.code yX0_isComplete cX0_isComplete 1 (some .boolean), Cond.methodLink RX0 43 yX0_addCommand]
def wsL_law_r16 : List Cond := [Cond.instanceMethod yX0_addCommand, Cond.selects RX0 yX0_addCommand yX0_addCommand, Cond.code yX0_addCommand cX0_addCommand 1 none, Cond.methodLink RX0 50 yX0_takesDigit, Cond.instanceMethod yX0_takesDigit, Cond.selects RX0 yX0_takesDigit yX0_takesDigit, Cond.code yX0_takesDigit cX0_takesDigit 4 (some .boolean), Cond.instanceMethod yX0_commandAt, Cond.selects RX0 yX0_commandAt yX0_commandAt, Cond.code yX0_commandAt cX0_commandAt 2 (some .int), Cond.instanceMethod yX0_valueAt, Cond.selects RX0 yX0_valueAt yX0_valueAt, Cond.code yX0_valueAt cX0_valueAt 2 (some .int), Cond.instanceMethod yX2_obey, Cond.selects RX2 yX2_obey yX2_obey, Cond.code yX2_obey cX2_obey 3 (some .int), Cond.methodLink RX2 69 yX2_turnOften, Cond.methodLink RX2 73 yX2_changeCone, Cond.methodLink RX2 76 yX2_tieKnot, Cond.methodLink RX2 80 yX2_changeNumber, Cond.methodLink RL 48 yX5_perform, Cond.instanceMethod yX5_perform, Cond.selects RX5 yX5_perform yX5_perform, Cond.code yX5_perform cX5_perform 4 (some .int)]
def wsL_law_r17 : List Cond := [Cond.fieldLink RX5 118 "ThreadWinderModel" "spot" "I", Cond.methodLink RX5 141 yX5_fault, Cond.instanceMethod yX5_fault, Cond.selects RX5 yX5_fault yX5_fault, Cond.code yX5_fault cX5_fault 2 (some .int), Cond.methodLink RX5 137 yX5_command, Cond.instanceMethod yX5_command, Cond.selects RX5 yX5_command yX5_command, Cond.code yX5_command cX5_command 5 (some .int), Cond.fieldLink RX5 124 "ThreadWinderModel" "number" "I", Cond.methodLink RX5 127 yX5_takes, Cond.instanceMethod yX5_takes, Cond.selects RX5 yX5_takes yX5_takes, Cond.code yX5_takes cX5_takes 3 (some .boolean), Cond.methodLink RX5 121 yX5_isHere, Cond.instanceMethod yX5_isHere, Cond.selects RX5 yX5_isHere yX5_isHere, Cond.code yX5_isHere cX5_isHere 3 (some .boolean), Cond.methodLink RX5 131 yX5_readsNumber, Cond.instanceMethod yX5_readsNumber, Cond.selects RX5 yX5_readsNumber yX5_readsNumber, Cond.code yX5_readsNumber cX5_readsNumber 3 (some .boolean), Cond.methodLink RX5 134 yX5_whichOf, Cond.static yX5_whichOf]
def wsL_law_r18 : List Cond := [Cond.code yX5_whichOf cX5_whichOf 1 (some .int), Cond.methodLink RL 49 yX4_stopped, Cond.instanceMethod yX4_stopped, Cond.selects RX4 yX4_stopped yX4_stopped, Cond.code yX4_stopped cX4_stopped 1 (some .int), Cond.methodLink RL 52 yX5_stopped, Cond.instanceMethod yX5_stopped, Cond.selects RX5 yX5_stopped yX5_stopped, Cond.code yX5_stopped cX5_stopped 1 (some .int), Cond.methodLink RL 53 yX4_undo, Cond.instanceMethod yX4_undo, Cond.selects RX4 yX4_undo yX4_undo, Cond.code yX4_undo cX4_undo 1 (some .int), Cond.instanceMethod yX1_takeLatest, Cond.selects RX1 yX1_takeLatest yX1_takeLatest, Cond.code yX1_takeLatest cX1_takeLatest 4 (some .int), Cond.methodLink RL 56 yX5_undo, Cond.instanceMethod yX5_undo, Cond.selects RX5 yX5_undo yX5_undo, Cond.code yX5_undo cX5_undo 2 (some .int), Cond.methodLink RL 57 yX4_keep, Cond.instanceMethod yX4_keep, Cond.selects RX4 yX4_keep yX4_keep, Cond.code yX4_keep cX4_keep 1 (some .int)]
def wsL_law_r19 : List Cond := [Cond.methodLink RL 60 yX5_keep, Cond.instanceMethod yX5_keep, Cond.selects RX5 yX5_keep yX5_keep, Cond.code yX5_keep cX5_keep 1 (some .int), Cond.fieldLink RX5 144 "ThreadWinderModel" "isTaken" "I", Cond.methodLink RL 61 yX4_restore, Cond.instanceMethod yX4_restore, Cond.selects RX4 yX4_restore yX4_restore, Cond.code yX4_restore cX4_restore 1 (some .int), Cond.methodLink RL 64 yX5_restore, Cond.instanceMethod yX5_restore, Cond.selects RX5 yX5_restore yX5_restore, Cond.code yX5_restore cX5_restore 1 (some .int), Cond.methodLink RL 65 yX4_place, Cond.instanceMethod yX4_place, Cond.selects RX4 yX4_place yX4_place, Cond.code yX4_place cX4_place 3 (some .int), Cond.instanceMethod yX2_knotsAt, Cond.selects RX2 yX2_knotsAt yX2_knotsAt, Cond.code yX2_knotsAt cX2_knotsAt 2 (some .int), Cond.instanceMethod yX3_isRibbon, Cond.selects RX3 yX3_isRibbon yX3_isRibbon, Cond.code yX3_isRibbon cX3_isRibbon 4 (some .boolean), Cond.methodLink RX3 54 yX3_isRibbonOver]
def wsL_law_r20 : List Cond := [Cond.instanceMethod yX3_isRibbonOver, Cond.selects RX3 yX3_isRibbonOver yX3_isRibbonOver, Cond.code yX3_isRibbonOver cX3_isRibbonOver 3 (some .boolean), Cond.methodLink RX3 58 yX3_heightAt, Cond.methodLink RX4 118 yX4_oneIf, Cond.instanceMethod yX2_isBad, Cond.selects RX2 yX2_isBad yX2_isBad, Cond.code yX2_isBad cX2_isBad 2 (some .boolean), Cond.methodLink RX2 146 yX2_knotsAt, Cond.methodLink RL 68 yX5_place_, Cond.instanceMethod yX5_place_, Cond.selects RX5 yX5_place_ yX5_place_, Cond.code yX5_place_ cX5_place_ 3 (some .int), Cond.methodLink RX5 150 yX5_isRibbon, Cond.instanceMethod yX5_isRibbon, Cond.selects RX5 yX5_isRibbon yX5_isRibbon, Cond.code yX5_isRibbon cX5_isRibbon 2 (some .boolean), Cond.methodLink RX5 147 yX5_isAbove, Cond.instanceMethod yX5_isAbove, Cond.selects RX5 yX5_isAbove yX5_isAbove, Cond.code yX5_isAbove cX5_isAbove 3 (some .boolean), Cond.methodLink RX5 153 yX5_isBad, Cond.instanceMethod yX5_isBad, Cond.selects RX5 yX5_isBad yX5_isBad]
def wsL_law_r21 : List Cond := [Cond.code yX5_isBad cX5_isBad 2 (some .boolean), Cond.methodLink RL 69 yX4_wrong, Cond.instanceMethod yX4_wrong, Cond.selects RX4 yX4_wrong yX4_wrong, Cond.code yX4_wrong cX4_wrong 1 (some .int), Cond.instanceMethod yX2_hasBadPlace, Cond.selects RX2 yX2_hasBadPlace yX2_hasBadPlace, Cond.code yX2_hasBadPlace cX2_hasBadPlace 3 (some .boolean), Cond.methodLink RX2 149 yX2_isBad, Cond.instanceMethod yX3_ribbons, Cond.selects RX3 yX3_ribbons yX3_ribbons, Cond.code yX3_ribbons cX3_ribbons 3 (some .int), Cond.methodLink RX3 62 yX3_isRibbon, Cond.instanceMethod yX3_evenness, Cond.selects RX3 yX3_evenness yX3_evenness, Cond.code yX3_evenness cX3_evenness 6 (some .int), Cond.methodLink RX3 51 Lib.Math.min.name, Cond.methodLink RL 72 yX5_wrong, Cond.instanceMethod yX5_wrong, Cond.selects RX5 yX5_wrong yX5_wrong, Cond.code yX5_wrong cX5_wrong 1 (some .int), Cond.methodLink RX5 156 yX5_isAnyBad, Cond.instanceMethod yX5_isAnyBad, Cond.selects RX5 yX5_isAnyBad yX5_isAnyBad]
def wsL_law_r22 : List Cond := [Cond.code yX5_isAnyBad cX5_isAnyBad 3 (some .boolean), Cond.methodLink RX5 159 yX5_ribbons, Cond.instanceMethod yX5_ribbons, Cond.selects RX5 yX5_ribbons yX5_ribbons, Cond.code yX5_ribbons cX5_ribbons 3 (some .int), Cond.methodLink RX5 162 yX5_evenness, Cond.instanceMethod yX5_evenness, Cond.selects RX5 yX5_evenness yX5_evenness, Cond.code yX5_evenness cX5_evenness 3 (some .int), Cond.methodLink RL 73 yX4_breaksIn, Cond.instanceMethod yX4_breaksIn, Cond.selects RX4 yX4_breaksIn yX4_breaksIn, Cond.code yX4_breaksIn cX4_breaksIn 2 (some .int), Cond.methodLink RL 76 yX5_breaksIn, Cond.instanceMethod yX5_breaksIn, Cond.selects RX5 yX5_breaksIn yX5_breaksIn, Cond.code yX5_breaksIn cX5_breaksIn 3 (some .int), Cond.methodLink RL 77 yX4_ifTraverse, Cond.instanceMethod yX4_ifTraverse, Cond.selects RX4 yX4_ifTraverse yX4_ifTraverse, Cond.code yX4_ifTraverse cX4_ifTraverse 4 (some .int), Cond.methodLink RX4 147 yX4_inRange, Cond.methodLink RX4 151 yX4_imagine, Cond.instanceMethod yX4_imagine]
def wsL_law_r23 : List Cond := [Cond.selects RX4 yX4_imagine yX4_imagine, Cond.code yX4_imagine cX4_imagine 4 none, Cond.instanceMethod yX3_barePlaces, Cond.selects RX3 yX3_barePlaces yX3_barePlaces, Cond.code yX3_barePlaces cX3_barePlaces 6 (some .int), Cond.methodLink RL 81 yX5_ifTraverse, Cond.instanceMethod yX5_ifTraverse, Cond.selects RX5 yX5_ifTraverse yX5_ifTraverse, Cond.code yX5_ifTraverse cX5_ifTraverse 4 (some .int), Cond.constantLong RX5 168 (2), Cond.methodLink RX5 170 yX5_windsWith, Cond.instanceMethod yX5_windsWith, Cond.selects RX5 yX5_windsWith yX5_windsWith, Cond.code yX5_windsWith cX5_windsWith 5 (some .int), Cond.methodLink RX5 165 yX5_bare, Cond.instanceMethod yX5_bare, Cond.selects RX5 yX5_bare yX5_bare, Cond.code yX5_bare cX5_bare 3 (some .int), Cond.methodLink RL 82 yX4_bestTraverse, Cond.instanceMethod yX4_bestTraverse, Cond.selects RX4 yX4_bestTraverse yX4_bestTraverse, Cond.code yX4_bestTraverse cX4_bestTraverse 6 (some .int), Cond.methodLink RL 85 yX5_bestTraverse, Cond.instanceMethod yX5_bestTraverse]
def wsL_law_r24 : List Cond := [Cond.selects RX5 yX5_bestTraverse yX5_bestTraverse, Cond.code yX5_bestTraverse cX5_bestTraverse 4 (some .int), Cond.methodLink RL 86 yX4_period, Cond.instanceMethod yX4_period, Cond.selects RX4 yX4_period yX4_period, Cond.code yX4_period cX4_period 3 (some .int), Cond.methodLink RL 89 yX5_period, Cond.instanceMethod yX5_period, Cond.selects RX5 yX5_period yX5_period, Cond.code yX5_period cX5_period 3 (some .int), Cond.methodLink RL 90 yX4_count, Cond.instanceMethod yX4_count, Cond.selects RX4 yX4_count yX4_count, Cond.code yX4_count cX4_count 2 (some .int), Cond.instanceMethod yX3_guideGoesBack, Cond.selects RX3 yX3_guideGoesBack yX3_guideGoesBack, Cond.code yX3_guideGoesBack cX3_guideGoesBack 1 (some .boolean), Cond.instanceMethod yX2_allKnots, Cond.selects RX2 yX2_allKnots yX2_allKnots, Cond.code yX2_allKnots cX2_allKnots 6 (some .int), Cond.methodLink RL 93 yX5_count, Cond.instanceMethod yX5_count, Cond.selects RX5 yX5_count yX5_count, Cond.code yX5_count cX5_count 2 (some .int)]
def wsL_law_r25 : List Cond := [Cond.methodLink RX5 174 yX5_allKnots, Cond.instanceMethod yX5_allKnots, Cond.selects RX5 yX5_allKnots yX5_allKnots, Cond.code yX5_allKnots cX5_allKnots 3 (some .int), Cond.methodLink RX5 177 yX5_breaks, Cond.instanceMethod yX5_breaks, Cond.selects RX5 yX5_breaks yX5_breaks, Cond.code yX5_breaks cX5_breaks 1 (some .int), Cond.methodLink RX5 180 yX5_doffs, Cond.instanceMethod yX5_doffs, Cond.selects RX5 yX5_doffs yX5_doffs, Cond.code yX5_doffs cX5_doffs 1 (some .int)]
def wsL_law : List Cond := (wsL_law_r1 ++ (wsL_law_r2 ++ (wsL_law_r3 ++ (wsL_law_r4 ++ (wsL_law_r5 ++ (wsL_law_r6 ++ (wsL_law_r7 ++ (wsL_law_r8 ++ (wsL_law_r9 ++ (wsL_law_r10 ++ (wsL_law_r11 ++ (wsL_law_r12 ++ (wsL_law_r13 ++ (wsL_law_r14 ++ (wsL_law_r15 ++ (wsL_law_r16 ++ (wsL_law_r17 ++ (wsL_law_r18 ++ (wsL_law_r19 ++ (wsL_law_r20 ++ (wsL_law_r21 ++ (wsL_law_r22 ++ (wsL_law_r23 ++ (wsL_law_r24 ++ wsL_law_r25)))))))))))))))))))))))) ++ wsX40 ++ wsX50 ++ wsX20 ++ wsX30 ++ wsX10 ++ wsX00 ++ ([] : List Cond)
abbrev vwCl : List vw_C := [(RX0, TX0, 7), (RX1, TX1, 3), (RX2, TX2, 11), (RX3, TX3, 4), (RX4, TX4, 8), (RX5, TX5, 12)]
end
section
theorem dX0_init_0 : decode cX0_init 0 = .ok (.aload_n 0, 1) := by decide +kernel
theorem dX0_init_1 : decode cX0_init 1 = .ok (.invokespecial 3, 3) := by decide +kernel
theorem dX0_init_4 : decode cX0_init 4 = .ok (.aload_n 0, 1) := by decide +kernel
theorem dX0_init_5 : decode cX0_init 5 = .ok (.bipush 60, 2) := by decide +kernel
theorem dX0_init_7 : decode cX0_init 7 = .ok (.newarray .char, 2) := by decide +kernel
theorem dX0_init_9 : decode cX0_init 9 = .ok (.putfield 9, 3) := by decide +kernel
theorem dX0_init_12 : decode cX0_init 12 = .ok (.aload_n 0, 1) := by decide +kernel
theorem dX0_init_13 : decode cX0_init 13 = .ok (.bipush 60, 2) := by decide +kernel
theorem dX0_init_15 : decode cX0_init 15 = .ok (.newarray .int, 2) := by decide +kernel
theorem dX0_init_17 : decode cX0_init 17 = .ok (.putfield 15, 3) := by decide +kernel
theorem dX0_init_20 : decode cX0_init 20 = .ok (.aload_n 0, 1) := by decide +kernel
theorem dX0_init_21 : decode cX0_init 21 = .ok (.bipush 60, 2) := by decide +kernel
theorem dX0_init_23 : decode cX0_init 23 = .ok (.newarray .int, 2) := by decide +kernel
theorem dX0_init_25 : decode cX0_init 25 = .ok (.putfield 19, 3) := by decide +kernel
theorem dX0_init_28 : decode cX0_init 28 = .ok (.aload_n 0, 1) := by decide +kernel
theorem dX0_init_29 : decode cX0_init 29 = .ok (.iconst 0, 1) := by decide +kernel
theorem dX0_init_30 : decode cX0_init 30 = .ok (.putfield 22, 3) := by decide +kernel
theorem dX0_init_33 : decode cX0_init 33 = .ok (.aload_n 0, 1) := by decide +kernel
theorem dX0_init_34 : decode cX0_init 34 = .ok (.iconst 0, 1) := by decide +kernel
theorem dX0_init_35 : decode cX0_init 35 = .ok (.putfield 26, 3) := by decide +kernel
theorem dX0_init_38 : decode cX0_init 38 = .ok (.aload_n 0, 1) := by decide +kernel
theorem dX0_init_39 : decode cX0_init 39 = .ok (.iconst (-1), 1) := by decide +kernel
theorem dX0_init_40 : decode cX0_init 40 = .ok (.putfield 29, 3) := by decide +kernel
theorem dX0_init_43 : decode cX0_init 43 = .ok (.aload_n 0, 1) := by decide +kernel
theorem dX0_init_44 : decode cX0_init 44 = .ok (.iconst (-1), 1) := by decide +kernel
theorem dX0_init_45 : decode cX0_init 45 = .ok (.putfield 32, 3) := by decide +kernel
theorem dX0_init_48 : decode cX0_init 48 = .ok (.return_, 1) := by decide +kernel
theorem dX0_append_0 : decode cX0_append 0 = .ok (.aload_n 0, 1) := by decide +kernel
theorem dX0_append_1 : decode cX0_append 1 = .ok (.getfield 22, 3) := by decide +kernel
theorem dX0_append_4 : decode cX0_append 4 = .ok (.ifCond .lt 15, 3) := by decide +kernel
theorem dX0_append_7 : decode cX0_append 7 = .ok (.aload_n 0, 1) := by decide +kernel
theorem dX0_append_8 : decode cX0_append 8 = .ok (.getfield 22, 3) := by decide +kernel
theorem dX0_append_11 : decode cX0_append 11 = .ok (.aload_n 0, 1) := by decide +kernel
theorem dX0_append_12 : decode cX0_append 12 = .ok (.getfield 9, 3) := by decide +kernel
theorem dX0_append_15 : decode cX0_append 15 = .ok (.arraylength, 1) := by decide +kernel
theorem dX0_append_16 : decode cX0_append 16 = .ok (.if_icmp .lt 6, 3) := by decide +kernel
theorem dX0_append_19 : decode cX0_append 19 = .ok (.bipush (-3), 2) := by decide +kernel
theorem dX0_append_21 : decode cX0_append 21 = .ok (.ireturn, 1) := by decide +kernel
theorem dX0_append_22 : decode cX0_append 22 = .ok (.aload_n 0, 1) := by decide +kernel
theorem dX0_append_23 : decode cX0_append 23 = .ok (.getfield 9, 3) := by decide +kernel
theorem dX0_append_26 : decode cX0_append 26 = .ok (.aload_n 0, 1) := by decide +kernel
theorem dX0_append_27 : decode cX0_append 27 = .ok (.getfield 22, 3) := by decide +kernel
theorem dX0_append_30 : decode cX0_append 30 = .ok (.iload_n 1, 1) := by decide +kernel
theorem dX0_append_31 : decode cX0_append 31 = .ok (.castore, 1) := by decide +kernel
theorem dX0_append_32 : decode cX0_append 32 = .ok (.aload_n 0, 1) := by decide +kernel
theorem dX0_append_33 : decode cX0_append 33 = .ok (.dup, 1) := by decide +kernel
theorem dX0_append_34 : decode cX0_append 34 = .ok (.getfield 22, 3) := by decide +kernel
theorem dX0_append_37 : decode cX0_append 37 = .ok (.iconst 1, 1) := by decide +kernel
theorem dX0_append_38 : decode cX0_append 38 = .ok (.iadd, 1) := by decide +kernel
theorem dX0_append_39 : decode cX0_append 39 = .ok (.putfield 22, 3) := by decide +kernel
theorem dX0_append_42 : decode cX0_append 42 = .ok (.aload_n 0, 1) := by decide +kernel
theorem dX0_append_43 : decode cX0_append 43 = .ok (.getfield 22, 3) := by decide +kernel
theorem dX0_append_46 : decode cX0_append 46 = .ok (.ireturn, 1) := by decide +kernel
theorem dX0_empty_0 : decode cX0_empty 0 = .ok (.aload_n 0, 1) := by decide +kernel
theorem dX0_empty_1 : decode cX0_empty 1 = .ok (.getfield 22, 3) := by decide +kernel
theorem dX0_empty_4 : decode cX0_empty 4 = .ok (.istore_n 1, 1) := by decide +kernel
theorem dX0_empty_5 : decode cX0_empty 5 = .ok (.aload_n 0, 1) := by decide +kernel
theorem dX0_empty_6 : decode cX0_empty 6 = .ok (.iconst 0, 1) := by decide +kernel
theorem dX0_empty_7 : decode cX0_empty 7 = .ok (.putfield 22, 3) := by decide +kernel
theorem dX0_empty_10 : decode cX0_empty 10 = .ok (.iload_n 1, 1) := by decide +kernel
theorem dX0_empty_11 : decode cX0_empty 11 = .ok (.ireturn, 1) := by decide +kernel
set_option maxRecDepth 20000 in
theorem ggX0_read_X0_takes : GoodIn wsX0_read wsX0_takes := goodIn_r _ [10, 2, 11, 12, 9, 13, 14, 15, 16, 17, 3, 18, 19, 20, 21, 22, 23, 24, 25, 1, 26, 27, 28, 29, 30, 31, 32, 33, 34, 35, 36, 37, 38, 39, 40, 41] (by decide +kernel) (by decide +kernel)
set_option maxRecDepth 20000 in
theorem gX0_read_X0_takes : GoodIn wsX0_read (wsV RX0 35 RX0 yX0_takes wsX0_takes) := goodIn_app (goodIn_of _ (by decide +kernel)) ggX0_read_X0_takes
set_option maxRecDepth 20000 in
theorem ggX0_read_X0_isComplete : GoodIn wsX0_read wsX0_isComplete := goodIn_r _ [17, 2, 3, 18, 19, 20, 21, 35, 36, 37, 38, 39, 40, 41] (by decide +kernel) (by decide +kernel)
set_option maxRecDepth 20000 in
theorem gX0_read_X0_isComplete : GoodIn wsX0_read (wsV RX0 39 RX0 yX0_isComplete wsX0_isComplete) := goodIn_app (goodIn_of _ (by decide +kernel)) ggX0_read_X0_isComplete
set_option maxRecDepth 20000 in
theorem ggX0_read_X0_addCommand : GoodIn wsX0_read wsX0_addCommand := goodIn_r _ [25, 1, 26, 27, 2, 3, 35, 36, 37, 38, 39, 40, 41] (by decide +kernel) (by decide +kernel)
set_option maxRecDepth 20000 in
theorem gX0_read_X0_addCommand : GoodIn wsX0_read (wsV RX0 43 RX0 yX0_addCommand wsX0_addCommand) := goodIn_app (goodIn_of _ (by decide +kernel)) ggX0_read_X0_addCommand
theorem dX0_read_0 : decode cX0_read 0 = .ok (.aload_n 0, 1) := by decide +kernel
theorem dX0_read_1 : decode cX0_read 1 = .ok (.iconst 0, 1) := by decide +kernel
theorem dX0_read_2 : decode cX0_read 2 = .ok (.putfield 26, 3) := by decide +kernel
theorem dX0_read_5 : decode cX0_read 5 = .ok (.aload_n 0, 1) := by decide +kernel
theorem dX0_read_6 : decode cX0_read 6 = .ok (.iconst (-1), 1) := by decide +kernel
theorem dX0_read_7 : decode cX0_read 7 = .ok (.putfield 29, 3) := by decide +kernel
theorem dX0_read_10 : decode cX0_read 10 = .ok (.aload_n 0, 1) := by decide +kernel
theorem dX0_read_11 : decode cX0_read 11 = .ok (.iconst (-1), 1) := by decide +kernel
theorem dX0_read_12 : decode cX0_read 12 = .ok (.putfield 32, 3) := by decide +kernel
theorem dX0_read_15 : decode cX0_read 15 = .ok (.iconst 0, 1) := by decide +kernel
theorem dX0_read_16 : decode cX0_read 16 = .ok (.istore_n 1, 1) := by decide +kernel
theorem dX0_read_17 : decode cX0_read 17 = .ok (.iload_n 1, 1) := by decide +kernel
theorem dX0_read_18 : decode cX0_read 18 = .ok (.aload_n 0, 1) := by decide +kernel
theorem dX0_read_19 : decode cX0_read 19 = .ok (.getfield 22, 3) := by decide +kernel
theorem dX0_read_22 : decode cX0_read 22 = .ok (.if_icmp .ge 33, 3) := by decide +kernel
theorem dX0_read_25 : decode cX0_read 25 = .ok (.iload_n 1, 1) := by decide +kernel
theorem dX0_read_26 : decode cX0_read 26 = .ok (.aload_n 0, 1) := by decide +kernel
theorem dX0_read_27 : decode cX0_read 27 = .ok (.getfield 9, 3) := by decide +kernel
theorem dX0_read_30 : decode cX0_read 30 = .ok (.arraylength, 1) := by decide +kernel
theorem dX0_read_31 : decode cX0_read 31 = .ok (.if_icmp .ge 24, 3) := by decide +kernel
theorem dX0_read_34 : decode cX0_read 34 = .ok (.aload_n 0, 1) := by decide +kernel
theorem dX0_read_35 : decode cX0_read 35 = .ok (.aload_n 0, 1) := by decide +kernel
theorem dX0_read_36 : decode cX0_read 36 = .ok (.getfield 9, 3) := by decide +kernel
theorem dX0_read_39 : decode cX0_read 39 = .ok (.iload_n 1, 1) := by decide +kernel
theorem dX0_read_40 : decode cX0_read 40 = .ok (.caload, 1) := by decide +kernel
theorem dX0_read_41 : decode cX0_read 41 = .ok (.invokevirtual 35, 3) := by decide +kernel
theorem dX0_read_44 : decode cX0_read 44 = .ok (.ifCond .ne 5, 3) := by decide +kernel
theorem dX0_read_47 : decode cX0_read 47 = .ok (.iload_n 1, 1) := by decide +kernel
theorem dX0_read_48 : decode cX0_read 48 = .ok (.ireturn, 1) := by decide +kernel
theorem dX0_read_49 : decode cX0_read 49 = .ok (.iinc 1 1, 3) := by decide +kernel
theorem dX0_read_52 : decode cX0_read 52 = .ok (.goto (-35), 3) := by decide +kernel
theorem dX0_read_55 : decode cX0_read 55 = .ok (.aload_n 0, 1) := by decide +kernel
theorem dX0_read_56 : decode cX0_read 56 = .ok (.invokevirtual 39, 3) := by decide +kernel
theorem dX0_read_59 : decode cX0_read 59 = .ok (.ifCond .ne 8, 3) := by decide +kernel
theorem dX0_read_62 : decode cX0_read 62 = .ok (.aload_n 0, 1) := by decide +kernel
theorem dX0_read_63 : decode cX0_read 63 = .ok (.getfield 22, 3) := by decide +kernel
theorem dX0_read_66 : decode cX0_read 66 = .ok (.ireturn, 1) := by decide +kernel
theorem dX0_read_67 : decode cX0_read 67 = .ok (.aload_n 0, 1) := by decide +kernel
theorem dX0_read_68 : decode cX0_read 68 = .ok (.invokevirtual 43, 3) := by decide +kernel
theorem dX0_read_71 : decode cX0_read 71 = .ok (.iconst (-1), 1) := by decide +kernel
theorem dX0_read_72 : decode cX0_read 72 = .ok (.ireturn, 1) := by decide +kernel
set_option maxRecDepth 20000 in
theorem ggX0_takes_X0_kindOf : GoodIn wsX0_takes wsX0_kindOf := goodIn_r _ [5] (by decide +kernel) (by decide +kernel)
set_option maxRecDepth 20000 in
theorem gX0_takes_X0_kindOf : GoodIn wsX0_takes (va_wsS RX0 46 yX0_kindOf wsX0_kindOf) := goodIn_app (goodIn_of _ (by decide +kernel)) ggX0_takes_X0_kindOf
set_option maxRecDepth 20000 in
theorem ggX0_takes_X0_isComplete : GoodIn wsX0_takes wsX0_isComplete := goodIn_r _ [9, 1, 10, 11, 12, 13, 14, 29, 30, 31, 32, 33, 34, 35] (by decide +kernel) (by decide +kernel)
set_option maxRecDepth 20000 in
theorem gX0_takes_X0_isComplete : GoodIn wsX0_takes (wsV RX0 39 RX0 yX0_isComplete wsX0_isComplete) := goodIn_app (goodIn_of _ (by decide +kernel)) ggX0_takes_X0_isComplete
set_option maxRecDepth 20000 in
theorem ggX0_takes_X0_addCommand : GoodIn wsX0_takes wsX0_addCommand := goodIn_r _ [18, 19, 20, 21, 1, 10, 29, 30, 31, 32, 33, 34, 35] (by decide +kernel) (by decide +kernel)
set_option maxRecDepth 20000 in
theorem gX0_takes_X0_addCommand : GoodIn wsX0_takes (wsV RX0 43 RX0 yX0_addCommand wsX0_addCommand) := goodIn_app (goodIn_of _ (by decide +kernel)) ggX0_takes_X0_addCommand
set_option maxRecDepth 20000 in
theorem ggX0_takes_X0_takesDigit : GoodIn wsX0_takes wsX0_takesDigit := goodIn_r _ [25, 1, 10, 11, 12, 13, 14, 26, 27, 28, 29, 30, 31, 32, 33, 34, 35] (by decide +kernel) (by decide +kernel)
set_option maxRecDepth 20000 in
theorem gX0_takes_X0_takesDigit : GoodIn wsX0_takes (wsV RX0 50 RX0 yX0_takesDigit wsX0_takesDigit) := goodIn_app (goodIn_of _ (by decide +kernel)) ggX0_takes_X0_takesDigit
theorem dX0_takes_0 : decode cX0_takes 0 = .ok (.aload_n 0, 1) := by decide +kernel
theorem dX0_takes_1 : decode cX0_takes 1 = .ok (.getfield 29, 3) := by decide +kernel
theorem dX0_takes_4 : decode cX0_takes 4 = .ok (.iconst (-1), 1) := by decide +kernel
theorem dX0_takes_5 : decode cX0_takes 5 = .ok (.if_icmp .ne 25, 3) := by decide +kernel
theorem dX0_takes_8 : decode cX0_takes 8 = .ok (.aload_n 0, 1) := by decide +kernel
theorem dX0_takes_9 : decode cX0_takes 9 = .ok (.iload_n 1, 1) := by decide +kernel
theorem dX0_takes_10 : decode cX0_takes 10 = .ok (.invokestatic 46, 3) := by decide +kernel
theorem dX0_takes_13 : decode cX0_takes 13 = .ok (.putfield 29, 3) := by decide +kernel
theorem dX0_takes_16 : decode cX0_takes 16 = .ok (.aload_n 0, 1) := by decide +kernel
theorem dX0_takes_17 : decode cX0_takes 17 = .ok (.getfield 29, 3) := by decide +kernel
theorem dX0_takes_20 : decode cX0_takes 20 = .ok (.iconst (-1), 1) := by decide +kernel
theorem dX0_takes_21 : decode cX0_takes 21 = .ok (.if_icmp .eq 7, 3) := by decide +kernel
theorem dX0_takes_24 : decode cX0_takes 24 = .ok (.iconst 1, 1) := by decide +kernel
theorem dX0_takes_25 : decode cX0_takes 25 = .ok (.goto 4, 3) := by decide +kernel
theorem dX0_takes_28 : decode cX0_takes 28 = .ok (.iconst 0, 1) := by decide +kernel
theorem dX0_takes_29 : decode cX0_takes 29 = .ok (.ireturn, 1) := by decide +kernel
theorem dX0_takes_30 : decode cX0_takes 30 = .ok (.iload_n 1, 1) := by decide +kernel
theorem dX0_takes_31 : decode cX0_takes 31 = .ok (.bipush 44, 2) := by decide +kernel
theorem dX0_takes_33 : decode cX0_takes 33 = .ok (.if_icmp .ne 16, 3) := by decide +kernel
theorem dX0_takes_36 : decode cX0_takes 36 = .ok (.aload_n 0, 1) := by decide +kernel
theorem dX0_takes_37 : decode cX0_takes 37 = .ok (.invokevirtual 39, 3) := by decide +kernel
theorem dX0_takes_40 : decode cX0_takes 40 = .ok (.ifCond .eq 9, 3) := by decide +kernel
theorem dX0_takes_43 : decode cX0_takes 43 = .ok (.aload_n 0, 1) := by decide +kernel
theorem dX0_takes_44 : decode cX0_takes 44 = .ok (.invokevirtual 43, 3) := by decide +kernel
theorem dX0_takes_47 : decode cX0_takes 47 = .ok (.iconst 1, 1) := by decide +kernel
theorem dX0_takes_48 : decode cX0_takes 48 = .ok (.ireturn, 1) := by decide +kernel
theorem dX0_takes_49 : decode cX0_takes 49 = .ok (.iload_n 1, 1) := by decide +kernel
theorem dX0_takes_50 : decode cX0_takes 50 = .ok (.bipush 48, 2) := by decide +kernel
theorem dX0_takes_52 : decode cX0_takes 52 = .ok (.if_icmp .lt 24, 3) := by decide +kernel
theorem dX0_takes_55 : decode cX0_takes 55 = .ok (.iload_n 1, 1) := by decide +kernel
theorem dX0_takes_56 : decode cX0_takes 56 = .ok (.bipush 57, 2) := by decide +kernel
theorem dX0_takes_58 : decode cX0_takes 58 = .ok (.if_icmp .gt 18, 3) := by decide +kernel
theorem dX0_takes_61 : decode cX0_takes 61 = .ok (.aload_n 0, 1) := by decide +kernel
theorem dX0_takes_62 : decode cX0_takes 62 = .ok (.iload_n 1, 1) := by decide +kernel
theorem dX0_takes_63 : decode cX0_takes 63 = .ok (.bipush 48, 2) := by decide +kernel
theorem dX0_takes_65 : decode cX0_takes 65 = .ok (.isub, 1) := by decide +kernel
theorem dX0_takes_66 : decode cX0_takes 66 = .ok (.invokevirtual 50, 3) := by decide +kernel
theorem dX0_takes_69 : decode cX0_takes 69 = .ok (.ifCond .eq 7, 3) := by decide +kernel
theorem dX0_takes_72 : decode cX0_takes 72 = .ok (.iconst 1, 1) := by decide +kernel
theorem dX0_takes_73 : decode cX0_takes 73 = .ok (.goto 4, 3) := by decide +kernel
theorem dX0_takes_76 : decode cX0_takes 76 = .ok (.iconst 0, 1) := by decide +kernel
theorem dX0_takes_77 : decode cX0_takes 77 = .ok (.ireturn, 1) := by decide +kernel
set_option maxRecDepth 20000 in
theorem ggX0_takesDigit_X4_lowest : GoodIn wsX0_takesDigit wsX4_lowest := goodIn_r _ [5, 6] (by decide +kernel) (by decide +kernel)
set_option maxRecDepth 20000 in
theorem gX0_takesDigit_X4_lowest_n54 : GoodIn wsX0_takesDigit (wsX4_lowest) := ggX0_takesDigit_X4_lowest
set_option maxRecDepth 20000 in
theorem ggX0_takesDigit_X4_highest : GoodIn wsX0_takesDigit wsX4_highest := goodIn_r _ [8, 9] (by decide +kernel) (by decide +kernel)
set_option maxRecDepth 20000 in
theorem gX0_takesDigit_X4_highest_n58 : GoodIn wsX0_takesDigit (wsX4_highest) := ggX0_takesDigit_X4_highest
theorem dX0_takesDigit_0 : decode cX0_takesDigit 0 = .ok (.aload_n 0, 1) := by decide +kernel
theorem dX0_takesDigit_1 : decode cX0_takesDigit 1 = .ok (.getfield 29, 3) := by decide +kernel
theorem dX0_takesDigit_4 : decode cX0_takesDigit 4 = .ok (.bipush 7, 2) := by decide +kernel
theorem dX0_takesDigit_6 : decode cX0_takesDigit 6 = .ok (.if_icmp .eq 10, 3) := by decide +kernel
theorem dX0_takesDigit_9 : decode cX0_takesDigit 9 = .ok (.aload_n 0, 1) := by decide +kernel
theorem dX0_takesDigit_10 : decode cX0_takesDigit 10 = .ok (.getfield 32, 3) := by decide +kernel
theorem dX0_takesDigit_13 : decode cX0_takesDigit 13 = .ok (.ifCond .ne 5, 3) := by decide +kernel
theorem dX0_takesDigit_16 : decode cX0_takesDigit 16 = .ok (.iconst 0, 1) := by decide +kernel
theorem dX0_takesDigit_17 : decode cX0_takesDigit 17 = .ok (.ireturn, 1) := by decide +kernel
theorem dX0_takesDigit_18 : decode cX0_takesDigit 18 = .ok (.aload_n 0, 1) := by decide +kernel
theorem dX0_takesDigit_19 : decode cX0_takesDigit 19 = .ok (.getfield 32, 3) := by decide +kernel
theorem dX0_takesDigit_22 : decode cX0_takesDigit 22 = .ok (.iconst (-1), 1) := by decide +kernel
theorem dX0_takesDigit_23 : decode cX0_takesDigit 23 = .ok (.if_icmp .ne 7, 3) := by decide +kernel
theorem dX0_takesDigit_26 : decode cX0_takesDigit 26 = .ok (.iload_n 1, 1) := by decide +kernel
theorem dX0_takesDigit_27 : decode cX0_takesDigit 27 = .ok (.goto 12, 3) := by decide +kernel
theorem dX0_takesDigit_30 : decode cX0_takesDigit 30 = .ok (.bipush 10, 2) := by decide +kernel
theorem dX0_takesDigit_32 : decode cX0_takesDigit 32 = .ok (.aload_n 0, 1) := by decide +kernel
theorem dX0_takesDigit_33 : decode cX0_takesDigit 33 = .ok (.getfield 32, 3) := by decide +kernel
theorem dX0_takesDigit_36 : decode cX0_takesDigit 36 = .ok (.imul, 1) := by decide +kernel
theorem dX0_takesDigit_37 : decode cX0_takesDigit 37 = .ok (.iload_n 1, 1) := by decide +kernel
theorem dX0_takesDigit_38 : decode cX0_takesDigit 38 = .ok (.iadd, 1) := by decide +kernel
theorem dX0_takesDigit_39 : decode cX0_takesDigit 39 = .ok (.istore_n 2, 1) := by decide +kernel
theorem dX0_takesDigit_40 : decode cX0_takesDigit 40 = .ok (.iload_n 2, 1) := by decide +kernel
theorem dX0_takesDigit_41 : decode cX0_takesDigit 41 = .ok (.ifCond .gt 13, 3) := by decide +kernel
theorem dX0_takesDigit_44 : decode cX0_takesDigit 44 = .ok (.aload_n 0, 1) := by decide +kernel
theorem dX0_takesDigit_45 : decode cX0_takesDigit 45 = .ok (.getfield 29, 3) := by decide +kernel
theorem dX0_takesDigit_48 : decode cX0_takesDigit 48 = .ok (.invokestatic 54, 3) := by decide +kernel
theorem dX0_takesDigit_51 : decode cX0_takesDigit 51 = .ok (.ifCond .ne 7, 3) := by decide +kernel
theorem dX0_takesDigit_54 : decode cX0_takesDigit 54 = .ok (.iconst 1, 1) := by decide +kernel
theorem dX0_takesDigit_55 : decode cX0_takesDigit 55 = .ok (.goto 4, 3) := by decide +kernel
theorem dX0_takesDigit_58 : decode cX0_takesDigit 58 = .ok (.iconst 0, 1) := by decide +kernel
theorem dX0_takesDigit_59 : decode cX0_takesDigit 59 = .ok (.istore_n 3, 1) := by decide +kernel
theorem dX0_takesDigit_60 : decode cX0_takesDigit 60 = .ok (.iload_n 3, 1) := by decide +kernel
theorem dX0_takesDigit_61 : decode cX0_takesDigit 61 = .ok (.ifCond .eq 14, 3) := by decide +kernel
theorem dX0_takesDigit_64 : decode cX0_takesDigit 64 = .ok (.iload_n 2, 1) := by decide +kernel
theorem dX0_takesDigit_65 : decode cX0_takesDigit 65 = .ok (.aload_n 0, 1) := by decide +kernel
theorem dX0_takesDigit_66 : decode cX0_takesDigit 66 = .ok (.getfield 29, 3) := by decide +kernel
theorem dX0_takesDigit_69 : decode cX0_takesDigit 69 = .ok (.invokestatic 58, 3) := by decide +kernel
theorem dX0_takesDigit_72 : decode cX0_takesDigit 72 = .ok (.if_icmp .le 5, 3) := by decide +kernel
theorem dX0_takesDigit_75 : decode cX0_takesDigit 75 = .ok (.iconst 0, 1) := by decide +kernel
theorem dX0_takesDigit_76 : decode cX0_takesDigit 76 = .ok (.ireturn, 1) := by decide +kernel
theorem dX0_takesDigit_77 : decode cX0_takesDigit 77 = .ok (.aload_n 0, 1) := by decide +kernel
theorem dX0_takesDigit_78 : decode cX0_takesDigit 78 = .ok (.iload_n 2, 1) := by decide +kernel
theorem dX0_takesDigit_79 : decode cX0_takesDigit 79 = .ok (.putfield 32, 3) := by decide +kernel
theorem dX0_takesDigit_82 : decode cX0_takesDigit 82 = .ok (.iconst 1, 1) := by decide +kernel
theorem dX0_takesDigit_83 : decode cX0_takesDigit 83 = .ok (.ireturn, 1) := by decide +kernel
set_option maxRecDepth 20000 in
theorem ggX0_isComplete_X4_lowest : GoodIn wsX0_isComplete wsX4_lowest := goodIn_r _ [5, 6] (by decide +kernel) (by decide +kernel)
set_option maxRecDepth 20000 in
theorem gX0_isComplete_X4_lowest_n54 : GoodIn wsX0_isComplete (wsX4_lowest) := ggX0_isComplete_X4_lowest
theorem dX0_isComplete_0 : decode cX0_isComplete 0 = .ok (.aload_n 0, 1) := by decide +kernel
theorem dX0_isComplete_1 : decode cX0_isComplete 1 = .ok (.getfield 29, 3) := by decide +kernel
theorem dX0_isComplete_4 : decode cX0_isComplete 4 = .ok (.bipush 7, 2) := by decide +kernel
theorem dX0_isComplete_6 : decode cX0_isComplete 6 = .ok (.if_icmp .eq 25, 3) := by decide +kernel
theorem dX0_isComplete_9 : decode cX0_isComplete 9 = .ok (.aload_n 0, 1) := by decide +kernel
theorem dX0_isComplete_10 : decode cX0_isComplete 10 = .ok (.getfield 29, 3) := by decide +kernel
theorem dX0_isComplete_13 : decode cX0_isComplete 13 = .ok (.iconst (-1), 1) := by decide +kernel
theorem dX0_isComplete_14 : decode cX0_isComplete 14 = .ok (.if_icmp .eq 21, 3) := by decide +kernel
theorem dX0_isComplete_17 : decode cX0_isComplete 17 = .ok (.aload_n 0, 1) := by decide +kernel
theorem dX0_isComplete_18 : decode cX0_isComplete 18 = .ok (.getfield 32, 3) := by decide +kernel
theorem dX0_isComplete_21 : decode cX0_isComplete 21 = .ok (.aload_n 0, 1) := by decide +kernel
theorem dX0_isComplete_22 : decode cX0_isComplete 22 = .ok (.getfield 29, 3) := by decide +kernel
theorem dX0_isComplete_25 : decode cX0_isComplete 25 = .ok (.invokestatic 54, 3) := by decide +kernel
theorem dX0_isComplete_28 : decode cX0_isComplete 28 = .ok (.if_icmp .lt 7, 3) := by decide +kernel
theorem dX0_isComplete_31 : decode cX0_isComplete 31 = .ok (.iconst 1, 1) := by decide +kernel
theorem dX0_isComplete_32 : decode cX0_isComplete 32 = .ok (.goto 4, 3) := by decide +kernel
theorem dX0_isComplete_35 : decode cX0_isComplete 35 = .ok (.iconst 0, 1) := by decide +kernel
theorem dX0_isComplete_36 : decode cX0_isComplete 36 = .ok (.ireturn, 1) := by decide +kernel
theorem dX0_addCommand_0 : decode cX0_addCommand 0 = .ok (.aload_n 0, 1) := by decide +kernel
theorem dX0_addCommand_1 : decode cX0_addCommand 1 = .ok (.getfield 26, 3) := by decide +kernel
theorem dX0_addCommand_4 : decode cX0_addCommand 4 = .ok (.ifCond .lt 63, 3) := by decide +kernel
theorem dX0_addCommand_7 : decode cX0_addCommand 7 = .ok (.aload_n 0, 1) := by decide +kernel
theorem dX0_addCommand_8 : decode cX0_addCommand 8 = .ok (.getfield 26, 3) := by decide +kernel
theorem dX0_addCommand_11 : decode cX0_addCommand 11 = .ok (.aload_n 0, 1) := by decide +kernel
theorem dX0_addCommand_12 : decode cX0_addCommand 12 = .ok (.getfield 15, 3) := by decide +kernel
theorem dX0_addCommand_15 : decode cX0_addCommand 15 = .ok (.arraylength, 1) := by decide +kernel
theorem dX0_addCommand_16 : decode cX0_addCommand 16 = .ok (.if_icmp .ge 51, 3) := by decide +kernel
theorem dX0_addCommand_19 : decode cX0_addCommand 19 = .ok (.aload_n 0, 1) := by decide +kernel
theorem dX0_addCommand_20 : decode cX0_addCommand 20 = .ok (.getfield 26, 3) := by decide +kernel
theorem dX0_addCommand_23 : decode cX0_addCommand 23 = .ok (.aload_n 0, 1) := by decide +kernel
theorem dX0_addCommand_24 : decode cX0_addCommand 24 = .ok (.getfield 19, 3) := by decide +kernel
theorem dX0_addCommand_27 : decode cX0_addCommand 27 = .ok (.arraylength, 1) := by decide +kernel
theorem dX0_addCommand_28 : decode cX0_addCommand 28 = .ok (.if_icmp .ge 39, 3) := by decide +kernel
theorem dX0_addCommand_31 : decode cX0_addCommand 31 = .ok (.aload_n 0, 1) := by decide +kernel
theorem dX0_addCommand_32 : decode cX0_addCommand 32 = .ok (.getfield 15, 3) := by decide +kernel
theorem dX0_addCommand_35 : decode cX0_addCommand 35 = .ok (.aload_n 0, 1) := by decide +kernel
theorem dX0_addCommand_36 : decode cX0_addCommand 36 = .ok (.getfield 26, 3) := by decide +kernel
theorem dX0_addCommand_39 : decode cX0_addCommand 39 = .ok (.aload_n 0, 1) := by decide +kernel
theorem dX0_addCommand_40 : decode cX0_addCommand 40 = .ok (.getfield 29, 3) := by decide +kernel
theorem dX0_addCommand_43 : decode cX0_addCommand 43 = .ok (.iastore, 1) := by decide +kernel
theorem dX0_addCommand_44 : decode cX0_addCommand 44 = .ok (.aload_n 0, 1) := by decide +kernel
theorem dX0_addCommand_45 : decode cX0_addCommand 45 = .ok (.getfield 19, 3) := by decide +kernel
theorem dX0_addCommand_48 : decode cX0_addCommand 48 = .ok (.aload_n 0, 1) := by decide +kernel
theorem dX0_addCommand_49 : decode cX0_addCommand 49 = .ok (.getfield 26, 3) := by decide +kernel
theorem dX0_addCommand_52 : decode cX0_addCommand 52 = .ok (.aload_n 0, 1) := by decide +kernel
theorem dX0_addCommand_53 : decode cX0_addCommand 53 = .ok (.getfield 32, 3) := by decide +kernel
theorem dX0_addCommand_56 : decode cX0_addCommand 56 = .ok (.iastore, 1) := by decide +kernel
theorem dX0_addCommand_57 : decode cX0_addCommand 57 = .ok (.aload_n 0, 1) := by decide +kernel
theorem dX0_addCommand_58 : decode cX0_addCommand 58 = .ok (.dup, 1) := by decide +kernel
theorem dX0_addCommand_59 : decode cX0_addCommand 59 = .ok (.getfield 26, 3) := by decide +kernel
theorem dX0_addCommand_62 : decode cX0_addCommand 62 = .ok (.iconst 1, 1) := by decide +kernel
theorem dX0_addCommand_63 : decode cX0_addCommand 63 = .ok (.iadd, 1) := by decide +kernel
theorem dX0_addCommand_64 : decode cX0_addCommand 64 = .ok (.putfield 26, 3) := by decide +kernel
theorem dX0_addCommand_67 : decode cX0_addCommand 67 = .ok (.aload_n 0, 1) := by decide +kernel
theorem dX0_addCommand_68 : decode cX0_addCommand 68 = .ok (.iconst (-1), 1) := by decide +kernel
theorem dX0_addCommand_69 : decode cX0_addCommand 69 = .ok (.putfield 29, 3) := by decide +kernel
theorem dX0_addCommand_72 : decode cX0_addCommand 72 = .ok (.aload_n 0, 1) := by decide +kernel
theorem dX0_addCommand_73 : decode cX0_addCommand 73 = .ok (.iconst (-1), 1) := by decide +kernel
theorem dX0_addCommand_74 : decode cX0_addCommand 74 = .ok (.putfield 32, 3) := by decide +kernel
theorem dX0_addCommand_77 : decode cX0_addCommand 77 = .ok (.return_, 1) := by decide +kernel
theorem dX0_commandAt_0 : decode cX0_commandAt 0 = .ok (.iload_n 1, 1) := by decide +kernel
theorem dX0_commandAt_1 : decode cX0_commandAt 1 = .ok (.ifCond .lt 21, 3) := by decide +kernel
theorem dX0_commandAt_4 : decode cX0_commandAt 4 = .ok (.iload_n 1, 1) := by decide +kernel
theorem dX0_commandAt_5 : decode cX0_commandAt 5 = .ok (.aload_n 0, 1) := by decide +kernel
theorem dX0_commandAt_6 : decode cX0_commandAt 6 = .ok (.getfield 15, 3) := by decide +kernel
theorem dX0_commandAt_9 : decode cX0_commandAt 9 = .ok (.arraylength, 1) := by decide +kernel
theorem dX0_commandAt_10 : decode cX0_commandAt 10 = .ok (.if_icmp .ge 12, 3) := by decide +kernel
theorem dX0_commandAt_13 : decode cX0_commandAt 13 = .ok (.aload_n 0, 1) := by decide +kernel
theorem dX0_commandAt_14 : decode cX0_commandAt 14 = .ok (.getfield 15, 3) := by decide +kernel
theorem dX0_commandAt_17 : decode cX0_commandAt 17 = .ok (.iload_n 1, 1) := by decide +kernel
theorem dX0_commandAt_18 : decode cX0_commandAt 18 = .ok (.iaload, 1) := by decide +kernel
theorem dX0_commandAt_19 : decode cX0_commandAt 19 = .ok (.goto 4, 3) := by decide +kernel
theorem dX0_commandAt_22 : decode cX0_commandAt 22 = .ok (.iconst (-1), 1) := by decide +kernel
theorem dX0_commandAt_23 : decode cX0_commandAt 23 = .ok (.ireturn, 1) := by decide +kernel
theorem dX0_valueAt_0 : decode cX0_valueAt 0 = .ok (.iload_n 1, 1) := by decide +kernel
theorem dX0_valueAt_1 : decode cX0_valueAt 1 = .ok (.ifCond .lt 21, 3) := by decide +kernel
theorem dX0_valueAt_4 : decode cX0_valueAt 4 = .ok (.iload_n 1, 1) := by decide +kernel
theorem dX0_valueAt_5 : decode cX0_valueAt 5 = .ok (.aload_n 0, 1) := by decide +kernel
theorem dX0_valueAt_6 : decode cX0_valueAt 6 = .ok (.getfield 19, 3) := by decide +kernel
theorem dX0_valueAt_9 : decode cX0_valueAt 9 = .ok (.arraylength, 1) := by decide +kernel
theorem dX0_valueAt_10 : decode cX0_valueAt 10 = .ok (.if_icmp .ge 12, 3) := by decide +kernel
theorem dX0_valueAt_13 : decode cX0_valueAt 13 = .ok (.aload_n 0, 1) := by decide +kernel
theorem dX0_valueAt_14 : decode cX0_valueAt 14 = .ok (.getfield 19, 3) := by decide +kernel
theorem dX0_valueAt_17 : decode cX0_valueAt 17 = .ok (.iload_n 1, 1) := by decide +kernel
theorem dX0_valueAt_18 : decode cX0_valueAt 18 = .ok (.iaload, 1) := by decide +kernel
theorem dX0_valueAt_19 : decode cX0_valueAt 19 = .ok (.goto 4, 3) := by decide +kernel
theorem dX0_valueAt_22 : decode cX0_valueAt 22 = .ok (.iconst (-1), 1) := by decide +kernel
theorem dX0_valueAt_23 : decode cX0_valueAt 23 = .ok (.ireturn, 1) := by decide +kernel
theorem dX0_kindOf_0 : decode cX0_kindOf 0 = .ok (.iload_n 0, 1) := by decide +kernel
theorem dX0_kindOf_1 : decode cX0_kindOf 1 = .ok (.tableswitch 117 99 119 #[111, 101, 117, 117, 109, 117, 117, 117, 105, 117, 117, 114, 117, 117, 117, 117, 107, 99, 117, 117, 103], 99) := by decide +kernel
theorem dX0_kindOf_100 : decode cX0_kindOf 100 = .ok (.iconst 0, 1) := by decide +kernel
theorem dX0_kindOf_101 : decode cX0_kindOf 101 = .ok (.ireturn, 1) := by decide +kernel
theorem dX0_kindOf_102 : decode cX0_kindOf 102 = .ok (.iconst 1, 1) := by decide +kernel
theorem dX0_kindOf_103 : decode cX0_kindOf 103 = .ok (.ireturn, 1) := by decide +kernel
theorem dX0_kindOf_104 : decode cX0_kindOf 104 = .ok (.iconst 2, 1) := by decide +kernel
theorem dX0_kindOf_105 : decode cX0_kindOf 105 = .ok (.ireturn, 1) := by decide +kernel
theorem dX0_kindOf_106 : decode cX0_kindOf 106 = .ok (.iconst 3, 1) := by decide +kernel
theorem dX0_kindOf_107 : decode cX0_kindOf 107 = .ok (.ireturn, 1) := by decide +kernel
theorem dX0_kindOf_108 : decode cX0_kindOf 108 = .ok (.iconst 4, 1) := by decide +kernel
theorem dX0_kindOf_109 : decode cX0_kindOf 109 = .ok (.ireturn, 1) := by decide +kernel
theorem dX0_kindOf_110 : decode cX0_kindOf 110 = .ok (.iconst 5, 1) := by decide +kernel
theorem dX0_kindOf_111 : decode cX0_kindOf 111 = .ok (.ireturn, 1) := by decide +kernel
theorem dX0_kindOf_112 : decode cX0_kindOf 112 = .ok (.bipush 6, 2) := by decide +kernel
theorem dX0_kindOf_114 : decode cX0_kindOf 114 = .ok (.ireturn, 1) := by decide +kernel
theorem dX0_kindOf_115 : decode cX0_kindOf 115 = .ok (.bipush 7, 2) := by decide +kernel
theorem dX0_kindOf_117 : decode cX0_kindOf 117 = .ok (.ireturn, 1) := by decide +kernel
theorem dX0_kindOf_118 : decode cX0_kindOf 118 = .ok (.iconst (-1), 1) := by decide +kernel
theorem dX0_kindOf_119 : decode cX0_kindOf 119 = .ok (.ireturn, 1) := by decide +kernel
set_option maxRecDepth 20000 in
theorem ggX1_init_X2_init : GoodIn wsX1_init wsX2_init := goodIn_r _ [11, 12, 2, 3, 13, 14, 15, 16, 17, 18, 19, 20, 21, 22, 23, 24, 25, 26, 27, 28, 29, 30, 31, 32, 33, 34, 35, 36, 37, 38, 39, 40, 55, 56, 57, 58, 44, 45, 46, 47, 48, 49, 50, 51, 52, 53, 54] (by decide +kernel) (by decide +kernel)
set_option maxRecDepth 20000 in
theorem gX1_init_X2_init_n24 : GoodIn wsX1_init (wsX2_init) := ggX1_init_X2_init
theorem dX1_init_0 : decode cX1_init 0 = .ok (.aload_n 0, 1) := by decide +kernel
theorem dX1_init_1 : decode cX1_init 1 = .ok (.invokespecial 3, 3) := by decide +kernel
theorem dX1_init_4 : decode cX1_init 4 = .ok (.aload_n 0, 1) := by decide +kernel
theorem dX1_init_5 : decode cX1_init 5 = .ok (.iconst 4, 1) := by decide +kernel
theorem dX1_init_6 : decode cX1_init 6 = .ok (.anewarray 9, 3) := by decide +kernel
theorem dX1_init_9 : decode cX1_init 9 = .ok (.putfield 11, 3) := by decide +kernel
theorem dX1_init_12 : decode cX1_init 12 = .ok (.aload_n 0, 1) := by decide +kernel
theorem dX1_init_13 : decode cX1_init 13 = .ok (.iconst 0, 1) := by decide +kernel
theorem dX1_init_14 : decode cX1_init 14 = .ok (.putfield 17, 3) := by decide +kernel
theorem dX1_init_17 : decode cX1_init 17 = .ok (.aload_n 0, 1) := by decide +kernel
theorem dX1_init_18 : decode cX1_init 18 = .ok (.iconst 0, 1) := by decide +kernel
theorem dX1_init_19 : decode cX1_init 19 = .ok (.putfield 21, 3) := by decide +kernel
theorem dX1_init_22 : decode cX1_init 22 = .ok (.iconst 0, 1) := by decide +kernel
theorem dX1_init_23 : decode cX1_init 23 = .ok (.istore_n 1, 1) := by decide +kernel
theorem dX1_init_24 : decode cX1_init 24 = .ok (.iload_n 1, 1) := by decide +kernel
theorem dX1_init_25 : decode cX1_init 25 = .ok (.aload_n 0, 1) := by decide +kernel
theorem dX1_init_26 : decode cX1_init 26 = .ok (.getfield 11, 3) := by decide +kernel
theorem dX1_init_29 : decode cX1_init 29 = .ok (.arraylength, 1) := by decide +kernel
theorem dX1_init_30 : decode cX1_init 30 = .ok (.if_icmp .ge 22, 3) := by decide +kernel
theorem dX1_init_33 : decode cX1_init 33 = .ok (.aload_n 0, 1) := by decide +kernel
theorem dX1_init_34 : decode cX1_init 34 = .ok (.getfield 11, 3) := by decide +kernel
theorem dX1_init_37 : decode cX1_init 37 = .ok (.iload_n 1, 1) := by decide +kernel
theorem dX1_init_38 : decode cX1_init 38 = .ok (.new 9, 3) := by decide +kernel
theorem dX1_init_41 : decode cX1_init 41 = .ok (.dup, 1) := by decide +kernel
theorem dX1_init_42 : decode cX1_init 42 = .ok (.invokespecial 24, 3) := by decide +kernel
theorem dX1_init_45 : decode cX1_init 45 = .ok (.aastore, 1) := by decide +kernel
theorem dX1_init_46 : decode cX1_init 46 = .ok (.iinc 1 1, 3) := by decide +kernel
theorem dX1_init_49 : decode cX1_init 49 = .ok (.goto (-25), 3) := by decide +kernel
theorem dX1_init_52 : decode cX1_init 52 = .ok (.return_, 1) := by decide +kernel
set_option maxRecDepth 20000 in
theorem ggX1_remember_X1_stateAt : GoodIn wsX1_remember wsX1_stateAt := goodIn_r _ [11, 12, 41, 42, 43] (by decide +kernel) (by decide +kernel)
set_option maxRecDepth 20000 in
theorem gX1_remember_X1_stateAt : GoodIn wsX1_remember (wsV RX1 25 RX1 yX1_stateAt wsX1_stateAt) := goodIn_app (goodIn_of _ (by decide +kernel)) ggX1_remember_X1_stateAt
set_option maxRecDepth 20000 in
theorem ggX1_remember_X2_copyFrom : GoodIn wsX1_remember wsX2_copyFrom := goodIn_r _ [16, 17, 18, 19, 20, 21, 22, 23, 24, 25, 26, 27, 28, 29, 30, 31, 32, 33, 34, 35, 36, 37, 38, 39, 40, 44, 45, 46, 47, 48, 49, 50, 51, 52, 53, 54, 55, 56, 57, 58] (by decide +kernel) (by decide +kernel)
set_option maxRecDepth 20000 in
theorem gX1_remember_X2_copyFrom_n29 : GoodIn wsX1_remember (wsX2_copyFrom) := ggX1_remember_X2_copyFrom
theorem dX1_remember_0 : decode cX1_remember 0 = .ok (.aload_n 0, 1) := by decide +kernel
theorem dX1_remember_1 : decode cX1_remember 1 = .ok (.aload_n 0, 1) := by decide +kernel
theorem dX1_remember_2 : decode cX1_remember 2 = .ok (.getfield 17, 3) := by decide +kernel
theorem dX1_remember_5 : decode cX1_remember 5 = .ok (.invokevirtual 25, 3) := by decide +kernel
theorem dX1_remember_8 : decode cX1_remember 8 = .ok (.astore_n 2, 1) := by decide +kernel
theorem dX1_remember_9 : decode cX1_remember 9 = .ok (.aload_n 2, 1) := by decide +kernel
theorem dX1_remember_10 : decode cX1_remember 10 = .ok (.ifnull 34, 3) := by decide +kernel
theorem dX1_remember_13 : decode cX1_remember 13 = .ok (.aload_n 2, 1) := by decide +kernel
theorem dX1_remember_14 : decode cX1_remember 14 = .ok (.aload_n 1, 1) := by decide +kernel
theorem dX1_remember_15 : decode cX1_remember 15 = .ok (.invokevirtual 29, 3) := by decide +kernel
theorem dX1_remember_18 : decode cX1_remember 18 = .ok (.aload_n 0, 1) := by decide +kernel
theorem dX1_remember_19 : decode cX1_remember 19 = .ok (.aload_n 0, 1) := by decide +kernel
theorem dX1_remember_20 : decode cX1_remember 20 = .ok (.getfield 17, 3) := by decide +kernel
theorem dX1_remember_23 : decode cX1_remember 23 = .ok (.iconst 1, 1) := by decide +kernel
theorem dX1_remember_24 : decode cX1_remember 24 = .ok (.iadd, 1) := by decide +kernel
theorem dX1_remember_25 : decode cX1_remember 25 = .ok (.iconst 4, 1) := by decide +kernel
theorem dX1_remember_26 : decode cX1_remember 26 = .ok (.irem, 1) := by decide +kernel
theorem dX1_remember_27 : decode cX1_remember 27 = .ok (.putfield 17, 3) := by decide +kernel
theorem dX1_remember_30 : decode cX1_remember 30 = .ok (.aload_n 0, 1) := by decide +kernel
theorem dX1_remember_31 : decode cX1_remember 31 = .ok (.aload_n 0, 1) := by decide +kernel
theorem dX1_remember_32 : decode cX1_remember 32 = .ok (.getfield 21, 3) := by decide +kernel
theorem dX1_remember_35 : decode cX1_remember 35 = .ok (.iconst 1, 1) := by decide +kernel
theorem dX1_remember_36 : decode cX1_remember 36 = .ok (.iadd, 1) := by decide +kernel
theorem dX1_remember_37 : decode cX1_remember 37 = .ok (.iconst 4, 1) := by decide +kernel
theorem dX1_remember_38 : decode cX1_remember 38 = .ok (.invokestatic 33, 3) := by decide +kernel
theorem dX1_remember_41 : decode cX1_remember 41 = .ok (.putfield 21, 3) := by decide +kernel
theorem dX1_remember_44 : decode cX1_remember 44 = .ok (.return_, 1) := by decide +kernel
set_option maxRecDepth 20000 in
theorem ggX1_takeLatest_X1_stateAt : GoodIn wsX1_takeLatest wsX1_stateAt := goodIn_r _ [7, 8, 37, 38, 39] (by decide +kernel) (by decide +kernel)
set_option maxRecDepth 20000 in
theorem gX1_takeLatest_X1_stateAt : GoodIn wsX1_takeLatest (wsV RX1 25 RX1 yX1_stateAt wsX1_stateAt) := goodIn_app (goodIn_of _ (by decide +kernel)) ggX1_takeLatest_X1_stateAt
set_option maxRecDepth 20000 in
theorem ggX1_takeLatest_X2_copyFrom : GoodIn wsX1_takeLatest wsX2_copyFrom := goodIn_r _ [12, 13, 14, 15, 16, 17, 18, 19, 20, 21, 22, 23, 24, 25, 26, 27, 28, 29, 30, 31, 32, 33, 34, 35, 36, 40, 41, 42, 43, 44, 45, 46, 47, 48, 49, 50, 51, 52, 53, 54] (by decide +kernel) (by decide +kernel)
set_option maxRecDepth 20000 in
theorem gX1_takeLatest_X2_copyFrom_n29 : GoodIn wsX1_takeLatest (wsX2_copyFrom) := ggX1_takeLatest_X2_copyFrom
theorem dX1_takeLatest_0 : decode cX1_takeLatest 0 = .ok (.aload_n 0, 1) := by decide +kernel
theorem dX1_takeLatest_1 : decode cX1_takeLatest 1 = .ok (.getfield 17, 3) := by decide +kernel
theorem dX1_takeLatest_4 : decode cX1_takeLatest 4 = .ok (.iconst 4, 1) := by decide +kernel
theorem dX1_takeLatest_5 : decode cX1_takeLatest 5 = .ok (.iadd, 1) := by decide +kernel
theorem dX1_takeLatest_6 : decode cX1_takeLatest 6 = .ok (.iconst 1, 1) := by decide +kernel
theorem dX1_takeLatest_7 : decode cX1_takeLatest 7 = .ok (.isub, 1) := by decide +kernel
theorem dX1_takeLatest_8 : decode cX1_takeLatest 8 = .ok (.iconst 4, 1) := by decide +kernel
theorem dX1_takeLatest_9 : decode cX1_takeLatest 9 = .ok (.irem, 1) := by decide +kernel
theorem dX1_takeLatest_10 : decode cX1_takeLatest 10 = .ok (.istore_n 2, 1) := by decide +kernel
theorem dX1_takeLatest_11 : decode cX1_takeLatest 11 = .ok (.aload_n 0, 1) := by decide +kernel
theorem dX1_takeLatest_12 : decode cX1_takeLatest 12 = .ok (.iload_n 2, 1) := by decide +kernel
theorem dX1_takeLatest_13 : decode cX1_takeLatest 13 = .ok (.invokevirtual 25, 3) := by decide +kernel
theorem dX1_takeLatest_16 : decode cX1_takeLatest 16 = .ok (.astore_n 3, 1) := by decide +kernel
theorem dX1_takeLatest_17 : decode cX1_takeLatest 17 = .ok (.aload_n 0, 1) := by decide +kernel
theorem dX1_takeLatest_18 : decode cX1_takeLatest 18 = .ok (.getfield 21, 3) := by decide +kernel
theorem dX1_takeLatest_21 : decode cX1_takeLatest 21 = .ok (.ifCond .eq 7, 3) := by decide +kernel
theorem dX1_takeLatest_24 : decode cX1_takeLatest 24 = .ok (.aload_n 3, 1) := by decide +kernel
theorem dX1_takeLatest_25 : decode cX1_takeLatest 25 = .ok (.ifnonnull 6, 3) := by decide +kernel
theorem dX1_takeLatest_28 : decode cX1_takeLatest 28 = .ok (.bipush (-5), 2) := by decide +kernel
theorem dX1_takeLatest_30 : decode cX1_takeLatest 30 = .ok (.ireturn, 1) := by decide +kernel
theorem dX1_takeLatest_31 : decode cX1_takeLatest 31 = .ok (.aload_n 1, 1) := by decide +kernel
theorem dX1_takeLatest_32 : decode cX1_takeLatest 32 = .ok (.aload_n 3, 1) := by decide +kernel
theorem dX1_takeLatest_33 : decode cX1_takeLatest 33 = .ok (.invokevirtual 29, 3) := by decide +kernel
theorem dX1_takeLatest_36 : decode cX1_takeLatest 36 = .ok (.aload_n 0, 1) := by decide +kernel
theorem dX1_takeLatest_37 : decode cX1_takeLatest 37 = .ok (.iload_n 2, 1) := by decide +kernel
theorem dX1_takeLatest_38 : decode cX1_takeLatest 38 = .ok (.putfield 17, 3) := by decide +kernel
theorem dX1_takeLatest_41 : decode cX1_takeLatest 41 = .ok (.aload_n 0, 1) := by decide +kernel
theorem dX1_takeLatest_42 : decode cX1_takeLatest 42 = .ok (.dup, 1) := by decide +kernel
theorem dX1_takeLatest_43 : decode cX1_takeLatest 43 = .ok (.getfield 21, 3) := by decide +kernel
theorem dX1_takeLatest_46 : decode cX1_takeLatest 46 = .ok (.iconst 1, 1) := by decide +kernel
theorem dX1_takeLatest_47 : decode cX1_takeLatest 47 = .ok (.isub, 1) := by decide +kernel
theorem dX1_takeLatest_48 : decode cX1_takeLatest 48 = .ok (.putfield 21, 3) := by decide +kernel
theorem dX1_takeLatest_51 : decode cX1_takeLatest 51 = .ok (.aload_n 0, 1) := by decide +kernel
theorem dX1_takeLatest_52 : decode cX1_takeLatest 52 = .ok (.getfield 21, 3) := by decide +kernel
theorem dX1_takeLatest_55 : decode cX1_takeLatest 55 = .ok (.ireturn, 1) := by decide +kernel
theorem dX1_stateAt_0 : decode cX1_stateAt 0 = .ok (.iload_n 1, 1) := by decide +kernel
theorem dX1_stateAt_1 : decode cX1_stateAt 1 = .ok (.ifCond .lt 21, 3) := by decide +kernel
theorem dX1_stateAt_4 : decode cX1_stateAt 4 = .ok (.iload_n 1, 1) := by decide +kernel
theorem dX1_stateAt_5 : decode cX1_stateAt 5 = .ok (.aload_n 0, 1) := by decide +kernel
theorem dX1_stateAt_6 : decode cX1_stateAt 6 = .ok (.getfield 11, 3) := by decide +kernel
theorem dX1_stateAt_9 : decode cX1_stateAt 9 = .ok (.arraylength, 1) := by decide +kernel
theorem dX1_stateAt_10 : decode cX1_stateAt 10 = .ok (.if_icmp .ge 12, 3) := by decide +kernel
theorem dX1_stateAt_13 : decode cX1_stateAt 13 = .ok (.aload_n 0, 1) := by decide +kernel
theorem dX1_stateAt_14 : decode cX1_stateAt 14 = .ok (.getfield 11, 3) := by decide +kernel
theorem dX1_stateAt_17 : decode cX1_stateAt 17 = .ok (.iload_n 1, 1) := by decide +kernel
theorem dX1_stateAt_18 : decode cX1_stateAt 18 = .ok (.aaload, 1) := by decide +kernel
theorem dX1_stateAt_19 : decode cX1_stateAt 19 = .ok (.goto 4, 3) := by decide +kernel
theorem dX1_stateAt_22 : decode cX1_stateAt 22 = .ok (.aconst_null, 1) := by decide +kernel
theorem dX1_stateAt_23 : decode cX1_stateAt 23 = .ok (.areturn, 1) := by decide +kernel
set_option maxRecDepth 20000 in
theorem ggX2_init_X3_init : GoodIn wsX2_init wsX3_init := goodIn_r _ [26, 27, 2, 3, 8, 28, 29, 30, 31, 32, 33, 34, 35] (by decide +kernel) (by decide +kernel)
set_option maxRecDepth 20000 in
theorem gX2_init_X3_init_n11 : GoodIn wsX2_init (wsX3_init) := ggX2_init_X3_init
theorem dX2_init_0 : decode cX2_init 0 = .ok (.aload_n 0, 1) := by decide +kernel
theorem dX2_init_1 : decode cX2_init 1 = .ok (.invokespecial 3, 3) := by decide +kernel
theorem dX2_init_4 : decode cX2_init 4 = .ok (.aload_n 0, 1) := by decide +kernel
theorem dX2_init_5 : decode cX2_init 5 = .ok (.new 9, 3) := by decide +kernel
theorem dX2_init_8 : decode cX2_init 8 = .ok (.dup, 1) := by decide +kernel
theorem dX2_init_9 : decode cX2_init 9 = .ok (.invokespecial 11, 3) := by decide +kernel
theorem dX2_init_12 : decode cX2_init 12 = .ok (.putfield 12, 3) := by decide +kernel
theorem dX2_init_15 : decode cX2_init 15 = .ok (.aload_n 0, 1) := by decide +kernel
theorem dX2_init_16 : decode cX2_init 16 = .ok (.bipush 12, 2) := by decide +kernel
theorem dX2_init_18 : decode cX2_init 18 = .ok (.newarray .int, 2) := by decide +kernel
theorem dX2_init_20 : decode cX2_init 20 = .ok (.putfield 18, 3) := by decide +kernel
theorem dX2_init_23 : decode cX2_init 23 = .ok (.aload_n 0, 1) := by decide +kernel
theorem dX2_init_24 : decode cX2_init 24 = .ok (.getstatic 22, 3) := by decide +kernel
theorem dX2_init_27 : decode cX2_init 27 = .ok (.invokevirtual 25, 3) := by decide +kernel
theorem dX2_init_30 : decode cX2_init 30 = .ok (.checkcast 26, 3) := by decide +kernel
theorem dX2_init_33 : decode cX2_init 33 = .ok (.putfield 30, 3) := by decide +kernel
theorem dX2_init_36 : decode cX2_init 36 = .ok (.aload_n 0, 1) := by decide +kernel
theorem dX2_init_37 : decode cX2_init 37 = .ok (.sipush 5000, 3) := by decide +kernel
theorem dX2_init_40 : decode cX2_init 40 = .ok (.putfield 33, 3) := by decide +kernel
theorem dX2_init_43 : decode cX2_init 43 = .ok (.aload_n 0, 1) := by decide +kernel
theorem dX2_init_44 : decode cX2_init 44 = .ok (.iconst 0, 1) := by decide +kernel
theorem dX2_init_45 : decode cX2_init 45 = .ok (.putfield 37, 3) := by decide +kernel
theorem dX2_init_48 : decode cX2_init 48 = .ok (.aload_n 0, 1) := by decide +kernel
theorem dX2_init_49 : decode cX2_init 49 = .ok (.iconst 0, 1) := by decide +kernel
theorem dX2_init_50 : decode cX2_init 50 = .ok (.putfield 40, 3) := by decide +kernel
theorem dX2_init_53 : decode cX2_init 53 = .ok (.aload_n 0, 1) := by decide +kernel
theorem dX2_init_54 : decode cX2_init 54 = .ok (.iconst (-1), 1) := by decide +kernel
theorem dX2_init_55 : decode cX2_init 55 = .ok (.putfield 44, 3) := by decide +kernel
theorem dX2_init_58 : decode cX2_init 58 = .ok (.aload_n 0, 1) := by decide +kernel
theorem dX2_init_59 : decode cX2_init 59 = .ok (.iconst 0, 1) := by decide +kernel
theorem dX2_init_60 : decode cX2_init 60 = .ok (.putfield 47, 3) := by decide +kernel
theorem dX2_init_63 : decode cX2_init 63 = .ok (.aload_n 0, 1) := by decide +kernel
theorem dX2_init_64 : decode cX2_init 64 = .ok (.iconst 0, 1) := by decide +kernel
theorem dX2_init_65 : decode cX2_init 65 = .ok (.putfield 50, 3) := by decide +kernel
theorem dX2_init_68 : decode cX2_init 68 = .ok (.aload_n 0, 1) := by decide +kernel
theorem dX2_init_69 : decode cX2_init 69 = .ok (.iconst 0, 1) := by decide +kernel
theorem dX2_init_70 : decode cX2_init 70 = .ok (.putfield 53, 3) := by decide +kernel
theorem dX2_init_73 : decode cX2_init 73 = .ok (.aload_n 0, 1) := by decide +kernel
theorem dX2_init_74 : decode cX2_init 74 = .ok (.iconst 0, 1) := by decide +kernel
theorem dX2_init_75 : decode cX2_init 75 = .ok (.putfield 56, 3) := by decide +kernel
theorem dX2_init_78 : decode cX2_init 78 = .ok (.return_, 1) := by decide +kernel
set_option maxRecDepth 20000 in
theorem ggX2_copyFrom_X3_copyFrom : GoodIn wsX2_copyFrom wsX3_copyFrom := goodIn_r _ [19, 20, 21, 4, 5, 6, 22, 23, 24, 36, 37, 38, 39] (by decide +kernel) (by decide +kernel)
set_option maxRecDepth 20000 in
theorem gX2_copyFrom_X3_copyFrom_n59 : GoodIn wsX2_copyFrom (wsX3_copyFrom) := ggX2_copyFrom_X3_copyFrom
theorem dX2_copyFrom_0 : decode cX2_copyFrom 0 = .ok (.aload_n 0, 1) := by decide +kernel
theorem dX2_copyFrom_1 : decode cX2_copyFrom 1 = .ok (.getfield 12, 3) := by decide +kernel
theorem dX2_copyFrom_4 : decode cX2_copyFrom 4 = .ok (.aload_n 1, 1) := by decide +kernel
theorem dX2_copyFrom_5 : decode cX2_copyFrom 5 = .ok (.getfield 12, 3) := by decide +kernel
theorem dX2_copyFrom_8 : decode cX2_copyFrom 8 = .ok (.invokevirtual 59, 3) := by decide +kernel
theorem dX2_copyFrom_11 : decode cX2_copyFrom 11 = .ok (.aload_n 1, 1) := by decide +kernel
theorem dX2_copyFrom_12 : decode cX2_copyFrom 12 = .ok (.getfield 18, 3) := by decide +kernel
theorem dX2_copyFrom_15 : decode cX2_copyFrom 15 = .ok (.iconst 0, 1) := by decide +kernel
theorem dX2_copyFrom_16 : decode cX2_copyFrom 16 = .ok (.aload_n 0, 1) := by decide +kernel
theorem dX2_copyFrom_17 : decode cX2_copyFrom 17 = .ok (.getfield 18, 3) := by decide +kernel
theorem dX2_copyFrom_20 : decode cX2_copyFrom 20 = .ok (.iconst 0, 1) := by decide +kernel
theorem dX2_copyFrom_21 : decode cX2_copyFrom 21 = .ok (.bipush 12, 2) := by decide +kernel
theorem dX2_copyFrom_23 : decode cX2_copyFrom 23 = .ok (.invokestatic 63, 3) := by decide +kernel
theorem dX2_copyFrom_26 : decode cX2_copyFrom 26 = .ok (.aload_n 1, 1) := by decide +kernel
theorem dX2_copyFrom_27 : decode cX2_copyFrom 27 = .ok (.getfield 30, 3) := by decide +kernel
theorem dX2_copyFrom_30 : decode cX2_copyFrom 30 = .ok (.iconst 0, 1) := by decide +kernel
theorem dX2_copyFrom_31 : decode cX2_copyFrom 31 = .ok (.aload_n 0, 1) := by decide +kernel
theorem dX2_copyFrom_32 : decode cX2_copyFrom 32 = .ok (.getfield 30, 3) := by decide +kernel
theorem dX2_copyFrom_35 : decode cX2_copyFrom 35 = .ok (.iconst 0, 1) := by decide +kernel
theorem dX2_copyFrom_36 : decode cX2_copyFrom 36 = .ok (.getstatic 22, 3) := by decide +kernel
theorem dX2_copyFrom_39 : decode cX2_copyFrom 39 = .ok (.arraylength, 1) := by decide +kernel
theorem dX2_copyFrom_40 : decode cX2_copyFrom 40 = .ok (.invokestatic 63, 3) := by decide +kernel
theorem dX2_copyFrom_43 : decode cX2_copyFrom 43 = .ok (.aload_n 0, 1) := by decide +kernel
theorem dX2_copyFrom_44 : decode cX2_copyFrom 44 = .ok (.aload_n 1, 1) := by decide +kernel
theorem dX2_copyFrom_45 : decode cX2_copyFrom 45 = .ok (.getfield 33, 3) := by decide +kernel
theorem dX2_copyFrom_48 : decode cX2_copyFrom 48 = .ok (.putfield 33, 3) := by decide +kernel
theorem dX2_copyFrom_51 : decode cX2_copyFrom 51 = .ok (.aload_n 0, 1) := by decide +kernel
theorem dX2_copyFrom_52 : decode cX2_copyFrom 52 = .ok (.aload_n 1, 1) := by decide +kernel
theorem dX2_copyFrom_53 : decode cX2_copyFrom 53 = .ok (.getfield 37, 3) := by decide +kernel
theorem dX2_copyFrom_56 : decode cX2_copyFrom 56 = .ok (.putfield 37, 3) := by decide +kernel
theorem dX2_copyFrom_59 : decode cX2_copyFrom 59 = .ok (.aload_n 0, 1) := by decide +kernel
theorem dX2_copyFrom_60 : decode cX2_copyFrom 60 = .ok (.aload_n 1, 1) := by decide +kernel
theorem dX2_copyFrom_61 : decode cX2_copyFrom 61 = .ok (.getfield 40, 3) := by decide +kernel
theorem dX2_copyFrom_64 : decode cX2_copyFrom 64 = .ok (.putfield 40, 3) := by decide +kernel
theorem dX2_copyFrom_67 : decode cX2_copyFrom 67 = .ok (.aload_n 0, 1) := by decide +kernel
theorem dX2_copyFrom_68 : decode cX2_copyFrom 68 = .ok (.aload_n 1, 1) := by decide +kernel
theorem dX2_copyFrom_69 : decode cX2_copyFrom 69 = .ok (.getfield 44, 3) := by decide +kernel
theorem dX2_copyFrom_72 : decode cX2_copyFrom 72 = .ok (.putfield 44, 3) := by decide +kernel
theorem dX2_copyFrom_75 : decode cX2_copyFrom 75 = .ok (.aload_n 0, 1) := by decide +kernel
theorem dX2_copyFrom_76 : decode cX2_copyFrom 76 = .ok (.aload_n 1, 1) := by decide +kernel
theorem dX2_copyFrom_77 : decode cX2_copyFrom 77 = .ok (.getfield 47, 3) := by decide +kernel
theorem dX2_copyFrom_80 : decode cX2_copyFrom 80 = .ok (.putfield 47, 3) := by decide +kernel
theorem dX2_copyFrom_83 : decode cX2_copyFrom 83 = .ok (.aload_n 0, 1) := by decide +kernel
theorem dX2_copyFrom_84 : decode cX2_copyFrom 84 = .ok (.aload_n 1, 1) := by decide +kernel
theorem dX2_copyFrom_85 : decode cX2_copyFrom 85 = .ok (.getfield 50, 3) := by decide +kernel
theorem dX2_copyFrom_88 : decode cX2_copyFrom 88 = .ok (.putfield 50, 3) := by decide +kernel
theorem dX2_copyFrom_91 : decode cX2_copyFrom 91 = .ok (.aload_n 0, 1) := by decide +kernel
theorem dX2_copyFrom_92 : decode cX2_copyFrom 92 = .ok (.aload_n 1, 1) := by decide +kernel
theorem dX2_copyFrom_93 : decode cX2_copyFrom 93 = .ok (.getfield 53, 3) := by decide +kernel
theorem dX2_copyFrom_96 : decode cX2_copyFrom 96 = .ok (.putfield 53, 3) := by decide +kernel
theorem dX2_copyFrom_99 : decode cX2_copyFrom 99 = .ok (.aload_n 0, 1) := by decide +kernel
theorem dX2_copyFrom_100 : decode cX2_copyFrom 100 = .ok (.aload_n 1, 1) := by decide +kernel
theorem dX2_copyFrom_101 : decode cX2_copyFrom 101 = .ok (.getfield 56, 3) := by decide +kernel
theorem dX2_copyFrom_104 : decode cX2_copyFrom 104 = .ok (.putfield 56, 3) := by decide +kernel
theorem dX2_copyFrom_107 : decode cX2_copyFrom 107 = .ok (.return_, 1) := by decide +kernel
set_option maxRecDepth 20000 in
theorem ggX2_obey_X2_turnOften : GoodIn wsX2_obey wsX2_turnOften := goodIn_r _ [5, 6, 7, 8, 9, 10, 11, 12, 13, 14, 15, 16, 17, 18, 19, 20, 4, 21, 22, 23, 24, 25, 26, 27, 28, 29, 30, 31, 32, 33, 34, 35, 36, 37, 38, 39, 40, 41, 42, 43, 44, 45, 46, 47, 48, 49, 50, 51, 52, 53, 54, 55, 56, 57, 58, 59, 60, 61, 62, 63, 64, 65, 66, 67, 68, 69, 70, 71, 72, 73, 74, 75, 76, 77, 78, 79, 80, 81, 82, 83, 97, 98, 99, 100, 101, 102, 103, 104, 105, 106, 107, 108, 109, 110, 111] (by decide +kernel) (by decide +kernel)
set_option maxRecDepth 20000 in
theorem gX2_obey_X2_turnOften : GoodIn wsX2_obey (wsV RX2 69 RX2 yX2_turnOften wsX2_turnOften) := goodIn_app (goodIn_of _ (by decide +kernel)) ggX2_obey_X2_turnOften
set_option maxRecDepth 20000 in
theorem ggX2_obey_X2_changeCone : GoodIn wsX2_obey wsX2_changeCone := goodIn_r _ [87, 27, 6, 22, 7, 8, 9, 10, 11, 12, 13, 14, 15, 16, 17, 97, 98, 99, 100, 101, 102, 103, 104, 105, 106, 107, 108, 109, 110, 111] (by decide +kernel) (by decide +kernel)
set_option maxRecDepth 20000 in
theorem gX2_obey_X2_changeCone : GoodIn wsX2_obey (wsV RX2 73 RX2 yX2_changeCone wsX2_changeCone) := goodIn_app (goodIn_of _ (by decide +kernel)) ggX2_obey_X2_changeCone
set_option maxRecDepth 20000 in
theorem ggX2_obey_X2_tieKnot : GoodIn wsX2_obey wsX2_tieKnot := goodIn_r _ [91, 27, 22, 39, 92, 66, 67, 68, 4, 69, 70, 97, 98, 99, 100, 101, 102, 103, 104, 105, 106, 107] (by decide +kernel) (by decide +kernel)
set_option maxRecDepth 20000 in
theorem gX2_obey_X2_tieKnot : GoodIn wsX2_obey (wsV RX2 76 RX2 yX2_tieKnot wsX2_tieKnot) := goodIn_app (goodIn_of _ (by decide +kernel)) ggX2_obey_X2_tieKnot
set_option maxRecDepth 20000 in
theorem ggX2_obey_X2_changeNumber : GoodIn wsX2_obey wsX2_changeNumber := goodIn_r _ [96, 70, 7, 8, 9, 10, 11, 12, 13, 14, 15, 16, 17, 97, 98, 99, 100, 101, 102, 103, 104, 105, 106, 107] (by decide +kernel) (by decide +kernel)
set_option maxRecDepth 20000 in
theorem gX2_obey_X2_changeNumber : GoodIn wsX2_obey (wsV RX2 80 RX2 yX2_changeNumber wsX2_changeNumber) := goodIn_app (goodIn_of _ (by decide +kernel)) ggX2_obey_X2_changeNumber
theorem dX2_obey_0 : decode cX2_obey 0 = .ok (.iload_n 1, 1) := by decide +kernel
theorem dX2_obey_1 : decode cX2_obey 1 = .ok (.tableswitch 44 5 7 #[27, 33, 39], 27) := by decide +kernel
theorem dX2_obey_28 : decode cX2_obey 28 = .ok (.aload_n 0, 1) := by decide +kernel
theorem dX2_obey_29 : decode cX2_obey 29 = .ok (.iload_n 2, 1) := by decide +kernel
theorem dX2_obey_30 : decode cX2_obey 30 = .ok (.invokevirtual 69, 3) := by decide +kernel
theorem dX2_obey_33 : decode cX2_obey 33 = .ok (.ireturn, 1) := by decide +kernel
theorem dX2_obey_34 : decode cX2_obey 34 = .ok (.aload_n 0, 1) := by decide +kernel
theorem dX2_obey_35 : decode cX2_obey 35 = .ok (.iload_n 2, 1) := by decide +kernel
theorem dX2_obey_36 : decode cX2_obey 36 = .ok (.invokevirtual 73, 3) := by decide +kernel
theorem dX2_obey_39 : decode cX2_obey 39 = .ok (.ireturn, 1) := by decide +kernel
theorem dX2_obey_40 : decode cX2_obey 40 = .ok (.aload_n 0, 1) := by decide +kernel
theorem dX2_obey_41 : decode cX2_obey 41 = .ok (.invokevirtual 76, 3) := by decide +kernel
theorem dX2_obey_44 : decode cX2_obey 44 = .ok (.ireturn, 1) := by decide +kernel
theorem dX2_obey_45 : decode cX2_obey 45 = .ok (.aload_n 0, 1) := by decide +kernel
theorem dX2_obey_46 : decode cX2_obey 46 = .ok (.iload_n 1, 1) := by decide +kernel
theorem dX2_obey_47 : decode cX2_obey 47 = .ok (.iload_n 2, 1) := by decide +kernel
theorem dX2_obey_48 : decode cX2_obey 48 = .ok (.invokevirtual 80, 3) := by decide +kernel
theorem dX2_obey_51 : decode cX2_obey 51 = .ok (.ireturn, 1) := by decide +kernel
set_option maxRecDepth 20000 in
theorem ggX2_changeNumber_X4_inRange : GoodIn wsX2_changeNumber wsX4_inRange := goodIn_r _ [4, 5, 6, 3, 7, 8, 9, 10, 11, 12] (by decide +kernel) (by decide +kernel)
set_option maxRecDepth 20000 in
theorem gX2_changeNumber_X4_inRange_n84 : GoodIn wsX2_changeNumber (wsX4_inRange) := ggX2_changeNumber_X4_inRange
theorem dX2_changeNumber_0 : decode cX2_changeNumber 0 = .ok (.iload_n 1, 1) := by decide +kernel
theorem dX2_changeNumber_1 : decode cX2_changeNumber 1 = .ok (.ifCond .lt 12, 3) := by decide +kernel
theorem dX2_changeNumber_4 : decode cX2_changeNumber 4 = .ok (.iload_n 1, 1) := by decide +kernel
theorem dX2_changeNumber_5 : decode cX2_changeNumber 5 = .ok (.aload_n 0, 1) := by decide +kernel
theorem dX2_changeNumber_6 : decode cX2_changeNumber 6 = .ok (.getfield 30, 3) := by decide +kernel
theorem dX2_changeNumber_9 : decode cX2_changeNumber 9 = .ok (.arraylength, 1) := by decide +kernel
theorem dX2_changeNumber_10 : decode cX2_changeNumber 10 = .ok (.if_icmp .lt 5, 3) := by decide +kernel
theorem dX2_changeNumber_13 : decode cX2_changeNumber 13 = .ok (.iconst (-1), 1) := by decide +kernel
theorem dX2_changeNumber_14 : decode cX2_changeNumber 14 = .ok (.ireturn, 1) := by decide +kernel
theorem dX2_changeNumber_15 : decode cX2_changeNumber 15 = .ok (.iload_n 1, 1) := by decide +kernel
theorem dX2_changeNumber_16 : decode cX2_changeNumber 16 = .ok (.iload_n 2, 1) := by decide +kernel
theorem dX2_changeNumber_17 : decode cX2_changeNumber 17 = .ok (.invokestatic 84, 3) := by decide +kernel
theorem dX2_changeNumber_20 : decode cX2_changeNumber 20 = .ok (.ifCond .ne 6, 3) := by decide +kernel
theorem dX2_changeNumber_23 : decode cX2_changeNumber 23 = .ok (.bipush (-2), 2) := by decide +kernel
theorem dX2_changeNumber_25 : decode cX2_changeNumber 25 = .ok (.ireturn, 1) := by decide +kernel
theorem dX2_changeNumber_26 : decode cX2_changeNumber 26 = .ok (.aload_n 0, 1) := by decide +kernel
theorem dX2_changeNumber_27 : decode cX2_changeNumber 27 = .ok (.getfield 30, 3) := by decide +kernel
theorem dX2_changeNumber_30 : decode cX2_changeNumber 30 = .ok (.iload_n 1, 1) := by decide +kernel
theorem dX2_changeNumber_31 : decode cX2_changeNumber 31 = .ok (.iaload, 1) := by decide +kernel
theorem dX2_changeNumber_32 : decode cX2_changeNumber 32 = .ok (.istore_n 3, 1) := by decide +kernel
theorem dX2_changeNumber_33 : decode cX2_changeNumber 33 = .ok (.iload_n 3, 1) := by decide +kernel
theorem dX2_changeNumber_34 : decode cX2_changeNumber 34 = .ok (.iload_n 2, 1) := by decide +kernel
theorem dX2_changeNumber_35 : decode cX2_changeNumber 35 = .ok (.if_icmp .ne 6, 3) := by decide +kernel
theorem dX2_changeNumber_38 : decode cX2_changeNumber 38 = .ok (.bipush (-5), 2) := by decide +kernel
theorem dX2_changeNumber_40 : decode cX2_changeNumber 40 = .ok (.ireturn, 1) := by decide +kernel
theorem dX2_changeNumber_41 : decode cX2_changeNumber 41 = .ok (.aload_n 0, 1) := by decide +kernel
theorem dX2_changeNumber_42 : decode cX2_changeNumber 42 = .ok (.getfield 30, 3) := by decide +kernel
theorem dX2_changeNumber_45 : decode cX2_changeNumber 45 = .ok (.iload_n 1, 1) := by decide +kernel
theorem dX2_changeNumber_46 : decode cX2_changeNumber 46 = .ok (.iload_n 2, 1) := by decide +kernel
theorem dX2_changeNumber_47 : decode cX2_changeNumber 47 = .ok (.iastore, 1) := by decide +kernel
theorem dX2_changeNumber_48 : decode cX2_changeNumber 48 = .ok (.iload_n 3, 1) := by decide +kernel
theorem dX2_changeNumber_49 : decode cX2_changeNumber 49 = .ok (.ireturn, 1) := by decide +kernel
set_option maxRecDepth 20000 in
theorem ggX2_turnOften_X4_inRange : GoodIn wsX2_turnOften wsX4_inRange := goodIn_r _ [4, 5, 6, 3, 7, 8, 9, 10, 11, 12] (by decide +kernel) (by decide +kernel)
set_option maxRecDepth 20000 in
theorem gX2_turnOften_X4_inRange_n84 : GoodIn wsX2_turnOften (wsX4_inRange) := ggX2_turnOften_X4_inRange
set_option maxRecDepth 20000 in
theorem ggX2_turnOften_X2_isIdle : GoodIn wsX2_turnOften wsX2_isIdle := goodIn_r _ [17, 18, 1, 19, 20, 21, 16, 22, 23, 24, 25, 26, 27, 28, 80, 81, 82, 83, 84, 85, 86, 87, 88, 89, 90, 91, 92, 93, 94] (by decide +kernel) (by decide +kernel)
set_option maxRecDepth 20000 in
theorem gX2_turnOften_X2_isIdle : GoodIn wsX2_turnOften (wsV RX2 88 RX2 yX2_isIdle wsX2_isIdle) := goodIn_app (goodIn_of _ (by decide +kernel)) ggX2_turnOften_X2_isIdle
set_option maxRecDepth 20000 in
theorem ggX2_turnOften_X2_turnOnce : GoodIn wsX2_turnOften wsX2_turnOnce := goodIn_r _ [32, 33, 1, 23, 34, 35, 18, 36, 13, 14, 15, 16, 17, 19, 20, 21, 22, 24, 25, 26, 27, 28, 37, 38, 39, 40, 41, 42, 43, 44, 45, 46, 47, 48, 49, 50, 51, 52, 53, 54, 55, 56, 57, 58, 59, 60, 61, 62, 63, 64, 65, 66, 67, 68, 69, 70, 71, 72, 73, 74, 75, 76, 77, 78, 3, 79, 80, 81, 82, 83, 84, 85, 86, 87, 88, 89, 90, 91, 92, 93, 94] (by decide +kernel) (by decide +kernel)
set_option maxRecDepth 20000 in
theorem gX2_turnOften_X2_turnOnce : GoodIn wsX2_turnOften (wsV RX2 95 RX2 yX2_turnOnce wsX2_turnOnce) := goodIn_app (goodIn_of _ (by decide +kernel)) ggX2_turnOften_X2_turnOnce
theorem dX2_turnOften_0 : decode cX2_turnOften 0 = .ok (.iconst 5, 1) := by decide +kernel
theorem dX2_turnOften_1 : decode cX2_turnOften 1 = .ok (.iload_n 1, 1) := by decide +kernel
theorem dX2_turnOften_2 : decode cX2_turnOften 2 = .ok (.invokestatic 84, 3) := by decide +kernel
theorem dX2_turnOften_5 : decode cX2_turnOften 5 = .ok (.ifCond .ne 6, 3) := by decide +kernel
theorem dX2_turnOften_8 : decode cX2_turnOften 8 = .ok (.bipush (-2), 2) := by decide +kernel
theorem dX2_turnOften_10 : decode cX2_turnOften 10 = .ok (.ireturn, 1) := by decide +kernel
theorem dX2_turnOften_11 : decode cX2_turnOften 11 = .ok (.aload_n 0, 1) := by decide +kernel
theorem dX2_turnOften_12 : decode cX2_turnOften 12 = .ok (.invokevirtual 88, 3) := by decide +kernel
theorem dX2_turnOften_15 : decode cX2_turnOften 15 = .ok (.ifCond .eq 6, 3) := by decide +kernel
theorem dX2_turnOften_18 : decode cX2_turnOften 18 = .ok (.bipush (-5), 2) := by decide +kernel
theorem dX2_turnOften_20 : decode cX2_turnOften 20 = .ok (.ireturn, 1) := by decide +kernel
theorem dX2_turnOften_21 : decode cX2_turnOften 21 = .ok (.aload_n 0, 1) := by decide +kernel
theorem dX2_turnOften_22 : decode cX2_turnOften 22 = .ok (.getfield 12, 3) := by decide +kernel
theorem dX2_turnOften_25 : decode cX2_turnOften 25 = .ok (.getfield 92, 3) := by decide +kernel
theorem dX2_turnOften_28 : decode cX2_turnOften 28 = .ok (.istore_n 2, 1) := by decide +kernel
theorem dX2_turnOften_29 : decode cX2_turnOften 29 = .ok (.iconst 0, 1) := by decide +kernel
theorem dX2_turnOften_30 : decode cX2_turnOften 30 = .ok (.istore_n 3, 1) := by decide +kernel
theorem dX2_turnOften_31 : decode cX2_turnOften 31 = .ok (.iload_n 3, 1) := by decide +kernel
theorem dX2_turnOften_32 : decode cX2_turnOften 32 = .ok (.iload_n 1, 1) := by decide +kernel
theorem dX2_turnOften_33 : decode cX2_turnOften 33 = .ok (.if_icmp .ge 20, 3) := by decide +kernel
theorem dX2_turnOften_36 : decode cX2_turnOften 36 = .ok (.aload_n 0, 1) := by decide +kernel
theorem dX2_turnOften_37 : decode cX2_turnOften 37 = .ok (.invokevirtual 88, 3) := by decide +kernel
theorem dX2_turnOften_40 : decode cX2_turnOften 40 = .ok (.ifCond .ne 13, 3) := by decide +kernel
theorem dX2_turnOften_43 : decode cX2_turnOften 43 = .ok (.aload_n 0, 1) := by decide +kernel
theorem dX2_turnOften_44 : decode cX2_turnOften 44 = .ok (.invokevirtual 95, 3) := by decide +kernel
theorem dX2_turnOften_47 : decode cX2_turnOften 47 = .ok (.iinc 3 1, 3) := by decide +kernel
theorem dX2_turnOften_50 : decode cX2_turnOften 50 = .ok (.goto (-19), 3) := by decide +kernel
theorem dX2_turnOften_53 : decode cX2_turnOften 53 = .ok (.aload_n 0, 1) := by decide +kernel
theorem dX2_turnOften_54 : decode cX2_turnOften 54 = .ok (.getfield 12, 3) := by decide +kernel
theorem dX2_turnOften_57 : decode cX2_turnOften 57 = .ok (.getfield 92, 3) := by decide +kernel
theorem dX2_turnOften_60 : decode cX2_turnOften 60 = .ok (.iload_n 2, 1) := by decide +kernel
theorem dX2_turnOften_61 : decode cX2_turnOften 61 = .ok (.isub, 1) := by decide +kernel
theorem dX2_turnOften_62 : decode cX2_turnOften 62 = .ok (.ireturn, 1) := by decide +kernel
set_option maxRecDepth 20000 in
theorem ggX2_turnOnce_X2_isIdle : GoodIn wsX2_turnOnce wsX2_isIdle := goodIn_r _ [12, 6, 2, 13, 14, 15, 11, 16, 3, 17, 18, 19, 20, 21, 66, 67, 68, 69, 70, 71, 72, 73, 74, 75, 76, 77, 78, 79, 80] (by decide +kernel) (by decide +kernel)
set_option maxRecDepth 20000 in
theorem gX2_turnOnce_X2_isIdle : GoodIn wsX2_turnOnce (wsV RX2 88 RX2 yX2_isIdle wsX2_isIdle) := goodIn_app (goodIn_of _ (by decide +kernel)) ggX2_turnOnce_X2_isIdle
set_option maxRecDepth 20000 in
theorem ggX2_turnOnce_X3_guidePlace : GoodIn wsX2_turnOnce wsX3_guidePlace := goodIn_r _ [24, 25, 77, 78, 79, 80] (by decide +kernel) (by decide +kernel)
set_option maxRecDepth 20000 in
theorem gX2_turnOnce_X3_guidePlace_n98 : GoodIn wsX2_turnOnce (wsX3_guidePlace) := ggX2_turnOnce_X3_guidePlace
set_option maxRecDepth 20000 in
theorem ggX2_turnOnce_X3_heightAt : GoodIn wsX2_turnOnce wsX3_heightAt := goodIn_r _ [28, 29, 77, 78, 79, 80] (by decide +kernel) (by decide +kernel)
set_option maxRecDepth 20000 in
theorem gX2_turnOnce_X3_heightAt_n101 : GoodIn wsX2_turnOnce (wsX3_heightAt) := ggX2_turnOnce_X3_heightAt
set_option maxRecDepth 20000 in
theorem ggX2_turnOnce_X3_layWrap : GoodIn wsX2_turnOnce wsX3_layWrap := goodIn_r _ [32, 29, 33, 21, 34, 35, 36, 37, 38, 22, 23, 18, 24, 25, 77, 78, 79, 80] (by decide +kernel) (by decide +kernel)
set_option maxRecDepth 20000 in
theorem gX2_turnOnce_X3_layWrap_n104 : GoodIn wsX2_turnOnce (wsX3_layWrap) := ggX2_turnOnce_X3_layWrap
set_option maxRecDepth 20000 in
theorem ggX2_turnOnce_X2_tensionAt : GoodIn wsX2_turnOnce wsX2_tensionAt := goodIn_r _ [42, 43, 5, 2, 44, 45, 36, 46, 47, 48, 49, 11, 50, 51, 26, 18, 27, 28, 29, 66, 67, 68, 69, 70, 71, 72, 73, 74, 75, 76, 77, 78, 79, 80] (by decide +kernel) (by decide +kernel)
set_option maxRecDepth 20000 in
theorem gX2_turnOnce_X2_tensionAt : GoodIn wsX2_turnOnce (wsV RX2 107 RX2 yX2_tensionAt wsX2_tensionAt) := goodIn_app (goodIn_of _ (by decide +kernel)) ggX2_turnOnce_X2_tensionAt
set_option maxRecDepth 20000 in
theorem ggX2_turnOnce_X2_warmDiscs : GoodIn wsX2_turnOnce wsX2_warmDiscs := goodIn_r _ [55, 43, 56, 57, 36, 58, 59, 35, 37, 47, 48, 49, 11, 50, 51, 66, 67, 68, 69, 70, 71, 72, 73, 74, 75, 76] (by decide +kernel) (by decide +kernel)
set_option maxRecDepth 20000 in
theorem gX2_turnOnce_X2_warmDiscs : GoodIn wsX2_turnOnce (wsV RX2 110 RX2 yX2_warmDiscs wsX2_warmDiscs) := goodIn_app (goodIn_of _ (by decide +kernel)) ggX2_turnOnce_X2_warmDiscs
set_option maxRecDepth 20000 in
theorem ggX2_turnOnce_X2_number : GoodIn wsX2_turnOnce wsX2_number := goodIn_r _ [50, 51, 66, 67, 68, 69, 70, 71, 72, 73, 74, 75, 76] (by decide +kernel) (by decide +kernel)
set_option maxRecDepth 20000 in
theorem gX2_turnOnce_X2_number : GoodIn wsX2_turnOnce (wsV RX2 113 RX2 yX2_number wsX2_number) := goodIn_app (goodIn_of _ (by decide +kernel)) ggX2_turnOnce_X2_number
set_option maxRecDepth 20000 in
theorem ggX2_turnOnce_X3_moveGuide : GoodIn wsX2_turnOnce wsX3_moveGuide := goodIn_r _ [62, 25, 63, 64, 65, 77, 78, 79, 80] (by decide +kernel) (by decide +kernel)
set_option maxRecDepth 20000 in
theorem gX2_turnOnce_X3_moveGuide_n116 : GoodIn wsX2_turnOnce (wsX3_moveGuide) := ggX2_turnOnce_X3_moveGuide
theorem dX2_turnOnce_0 : decode cX2_turnOnce 0 = .ok (.aload_n 0, 1) := by decide +kernel
theorem dX2_turnOnce_1 : decode cX2_turnOnce 1 = .ok (.invokevirtual 88, 3) := by decide +kernel
theorem dX2_turnOnce_4 : decode cX2_turnOnce 4 = .ok (.ifCond .eq 4, 3) := by decide +kernel
theorem dX2_turnOnce_7 : decode cX2_turnOnce 7 = .ok (.return_, 1) := by decide +kernel
theorem dX2_turnOnce_8 : decode cX2_turnOnce 8 = .ok (.aload_n 0, 1) := by decide +kernel
theorem dX2_turnOnce_9 : decode cX2_turnOnce 9 = .ok (.dup, 1) := by decide +kernel
theorem dX2_turnOnce_10 : decode cX2_turnOnce 10 = .ok (.getfield 50, 3) := by decide +kernel
theorem dX2_turnOnce_13 : decode cX2_turnOnce 13 = .ok (.iconst 1, 1) := by decide +kernel
theorem dX2_turnOnce_14 : decode cX2_turnOnce 14 = .ok (.iadd, 1) := by decide +kernel
theorem dX2_turnOnce_15 : decode cX2_turnOnce 15 = .ok (.putfield 50, 3) := by decide +kernel
theorem dX2_turnOnce_18 : decode cX2_turnOnce 18 = .ok (.aload_n 0, 1) := by decide +kernel
theorem dX2_turnOnce_19 : decode cX2_turnOnce 19 = .ok (.getfield 12, 3) := by decide +kernel
theorem dX2_turnOnce_22 : decode cX2_turnOnce 22 = .ok (.invokevirtual 98, 3) := by decide +kernel
theorem dX2_turnOnce_25 : decode cX2_turnOnce 25 = .ok (.istore_n 1, 1) := by decide +kernel
theorem dX2_turnOnce_26 : decode cX2_turnOnce 26 = .ok (.bipush 10, 2) := by decide +kernel
theorem dX2_turnOnce_28 : decode cX2_turnOnce 28 = .ok (.aload_n 0, 1) := by decide +kernel
theorem dX2_turnOnce_29 : decode cX2_turnOnce 29 = .ok (.getfield 12, 3) := by decide +kernel
theorem dX2_turnOnce_32 : decode cX2_turnOnce 32 = .ok (.iload_n 1, 1) := by decide +kernel
theorem dX2_turnOnce_33 : decode cX2_turnOnce 33 = .ok (.invokevirtual 101, 3) := by decide +kernel
theorem dX2_turnOnce_36 : decode cX2_turnOnce 36 = .ok (.iadd, 1) := by decide +kernel
theorem dX2_turnOnce_37 : decode cX2_turnOnce 37 = .ok (.istore_n 2, 1) := by decide +kernel
theorem dX2_turnOnce_38 : decode cX2_turnOnce 38 = .ok (.aload_n 0, 1) := by decide +kernel
theorem dX2_turnOnce_39 : decode cX2_turnOnce 39 = .ok (.getfield 33, 3) := by decide +kernel
theorem dX2_turnOnce_42 : decode cX2_turnOnce 42 = .ok (.iload_n 2, 1) := by decide +kernel
theorem dX2_turnOnce_43 : decode cX2_turnOnce 43 = .ok (.if_icmp .ge 9, 3) := by decide +kernel
theorem dX2_turnOnce_46 : decode cX2_turnOnce 46 = .ok (.aload_n 0, 1) := by decide +kernel
theorem dX2_turnOnce_47 : decode cX2_turnOnce 47 = .ok (.iconst 0, 1) := by decide +kernel
theorem dX2_turnOnce_48 : decode cX2_turnOnce 48 = .ok (.putfield 33, 3) := by decide +kernel
theorem dX2_turnOnce_51 : decode cX2_turnOnce 51 = .ok (.return_, 1) := by decide +kernel
theorem dX2_turnOnce_52 : decode cX2_turnOnce 52 = .ok (.aload_n 0, 1) := by decide +kernel
theorem dX2_turnOnce_53 : decode cX2_turnOnce 53 = .ok (.dup, 1) := by decide +kernel
theorem dX2_turnOnce_54 : decode cX2_turnOnce 54 = .ok (.getfield 33, 3) := by decide +kernel
theorem dX2_turnOnce_57 : decode cX2_turnOnce 57 = .ok (.iload_n 2, 1) := by decide +kernel
theorem dX2_turnOnce_58 : decode cX2_turnOnce 58 = .ok (.isub, 1) := by decide +kernel
theorem dX2_turnOnce_59 : decode cX2_turnOnce 59 = .ok (.putfield 33, 3) := by decide +kernel
theorem dX2_turnOnce_62 : decode cX2_turnOnce 62 = .ok (.aload_n 0, 1) := by decide +kernel
theorem dX2_turnOnce_63 : decode cX2_turnOnce 63 = .ok (.getfield 12, 3) := by decide +kernel
theorem dX2_turnOnce_66 : decode cX2_turnOnce 66 = .ok (.invokevirtual 104, 3) := by decide +kernel
theorem dX2_turnOnce_69 : decode cX2_turnOnce 69 = .ok (.aload_n 0, 1) := by decide +kernel
theorem dX2_turnOnce_70 : decode cX2_turnOnce 70 = .ok (.aload_n 0, 1) := by decide +kernel
theorem dX2_turnOnce_71 : decode cX2_turnOnce 71 = .ok (.iload_n 1, 1) := by decide +kernel
theorem dX2_turnOnce_72 : decode cX2_turnOnce 72 = .ok (.invokevirtual 107, 3) := by decide +kernel
theorem dX2_turnOnce_75 : decode cX2_turnOnce 75 = .ok (.putfield 47, 3) := by decide +kernel
theorem dX2_turnOnce_78 : decode cX2_turnOnce 78 = .ok (.aload_n 0, 1) := by decide +kernel
theorem dX2_turnOnce_79 : decode cX2_turnOnce 79 = .ok (.iload_n 1, 1) := by decide +kernel
theorem dX2_turnOnce_80 : decode cX2_turnOnce 80 = .ok (.putfield 44, 3) := by decide +kernel
theorem dX2_turnOnce_83 : decode cX2_turnOnce 83 = .ok (.aload_n 0, 1) := by decide +kernel
theorem dX2_turnOnce_84 : decode cX2_turnOnce 84 = .ok (.invokevirtual 110, 3) := by decide +kernel
theorem dX2_turnOnce_87 : decode cX2_turnOnce 87 = .ok (.aload_n 0, 1) := by decide +kernel
theorem dX2_turnOnce_88 : decode cX2_turnOnce 88 = .ok (.getfield 47, 3) := by decide +kernel
theorem dX2_turnOnce_91 : decode cX2_turnOnce 91 = .ok (.aload_n 0, 1) := by decide +kernel
theorem dX2_turnOnce_92 : decode cX2_turnOnce 92 = .ok (.iconst 4, 1) := by decide +kernel
theorem dX2_turnOnce_93 : decode cX2_turnOnce 93 = .ok (.invokevirtual 113, 3) := by decide +kernel
theorem dX2_turnOnce_96 : decode cX2_turnOnce 96 = .ok (.if_icmp .le 18, 3) := by decide +kernel
theorem dX2_turnOnce_99 : decode cX2_turnOnce 99 = .ok (.aload_n 0, 1) := by decide +kernel
theorem dX2_turnOnce_100 : decode cX2_turnOnce 100 = .ok (.iconst 1, 1) := by decide +kernel
theorem dX2_turnOnce_101 : decode cX2_turnOnce 101 = .ok (.putfield 40, 3) := by decide +kernel
theorem dX2_turnOnce_104 : decode cX2_turnOnce 104 = .ok (.aload_n 0, 1) := by decide +kernel
theorem dX2_turnOnce_105 : decode cX2_turnOnce 105 = .ok (.dup, 1) := by decide +kernel
theorem dX2_turnOnce_106 : decode cX2_turnOnce 106 = .ok (.getfield 53, 3) := by decide +kernel
theorem dX2_turnOnce_109 : decode cX2_turnOnce 109 = .ok (.iconst 1, 1) := by decide +kernel
theorem dX2_turnOnce_110 : decode cX2_turnOnce 110 = .ok (.iadd, 1) := by decide +kernel
theorem dX2_turnOnce_111 : decode cX2_turnOnce 111 = .ok (.putfield 53, 3) := by decide +kernel
theorem dX2_turnOnce_114 : decode cX2_turnOnce 114 = .ok (.aload_n 0, 1) := by decide +kernel
theorem dX2_turnOnce_115 : decode cX2_turnOnce 115 = .ok (.getfield 12, 3) := by decide +kernel
theorem dX2_turnOnce_118 : decode cX2_turnOnce 118 = .ok (.aload_n 0, 1) := by decide +kernel
theorem dX2_turnOnce_119 : decode cX2_turnOnce 119 = .ok (.iconst 0, 1) := by decide +kernel
theorem dX2_turnOnce_120 : decode cX2_turnOnce 120 = .ok (.invokevirtual 113, 3) := by decide +kernel
theorem dX2_turnOnce_123 : decode cX2_turnOnce 123 = .ok (.aload_n 0, 1) := by decide +kernel
theorem dX2_turnOnce_124 : decode cX2_turnOnce 124 = .ok (.iconst 2, 1) := by decide +kernel
theorem dX2_turnOnce_125 : decode cX2_turnOnce 125 = .ok (.invokevirtual 113, 3) := by decide +kernel
theorem dX2_turnOnce_128 : decode cX2_turnOnce 128 = .ok (.aload_n 0, 1) := by decide +kernel
theorem dX2_turnOnce_129 : decode cX2_turnOnce 129 = .ok (.getfield 50, 3) := by decide +kernel
theorem dX2_turnOnce_132 : decode cX2_turnOnce 132 = .ok (.invokevirtual 116, 3) := by decide +kernel
theorem dX2_turnOnce_135 : decode cX2_turnOnce 135 = .ok (.return_, 1) := by decide +kernel
set_option maxRecDepth 20000 in
theorem ggX2_tensionAt_X2_number : GoodIn wsX2_tensionAt wsX2_number := goodIn_r _ [12, 13, 19, 20, 21, 22, 23, 24, 25, 26, 27, 28, 29] (by decide +kernel) (by decide +kernel)
set_option maxRecDepth 20000 in
theorem gX2_tensionAt_X2_number : GoodIn wsX2_tensionAt (wsV RX2 113 RX2 yX2_number wsX2_number) := goodIn_app (goodIn_of _ (by decide +kernel)) ggX2_tensionAt_X2_number
set_option maxRecDepth 20000 in
theorem ggX2_tensionAt_X3_heightAt : GoodIn wsX2_tensionAt wsX3_heightAt := goodIn_r _ [17, 18, 30, 31, 32, 33] (by decide +kernel) (by decide +kernel)
set_option maxRecDepth 20000 in
theorem gX2_tensionAt_X3_heightAt_n101 : GoodIn wsX2_tensionAt (wsX3_heightAt) := ggX2_tensionAt_X3_heightAt
theorem dX2_tensionAt_0 : decode cX2_tensionAt 0 = .ok (.iconst 4, 1) := by decide +kernel
theorem dX2_tensionAt_1 : decode cX2_tensionAt 1 = .ok (.aload_n 0, 1) := by decide +kernel
theorem dX2_tensionAt_2 : decode cX2_tensionAt 2 = .ok (.iconst 1, 1) := by decide +kernel
theorem dX2_tensionAt_3 : decode cX2_tensionAt 3 = .ok (.invokevirtual 113, 3) := by decide +kernel
theorem dX2_tensionAt_6 : decode cX2_tensionAt 6 = .ok (.imul, 1) := by decide +kernel
theorem dX2_tensionAt_7 : decode cX2_tensionAt 7 = .ok (.aload_n 0, 1) := by decide +kernel
theorem dX2_tensionAt_8 : decode cX2_tensionAt 8 = .ok (.getfield 37, 3) := by decide +kernel
theorem dX2_tensionAt_11 : decode cX2_tensionAt 11 = .ok (.bipush 10, 2) := by decide +kernel
theorem dX2_tensionAt_13 : decode cX2_tensionAt 13 = .ok (.idiv, 1) := by decide +kernel
theorem dX2_tensionAt_14 : decode cX2_tensionAt 14 = .ok (.iadd, 1) := by decide +kernel
theorem dX2_tensionAt_15 : decode cX2_tensionAt 15 = .ok (.istore_n 2, 1) := by decide +kernel
theorem dX2_tensionAt_16 : decode cX2_tensionAt 16 = .ok (.aload_n 0, 1) := by decide +kernel
theorem dX2_tensionAt_17 : decode cX2_tensionAt 17 = .ok (.getfield 44, 3) := by decide +kernel
theorem dX2_tensionAt_20 : decode cX2_tensionAt 20 = .ok (.iconst (-1), 1) := by decide +kernel
theorem dX2_tensionAt_21 : decode cX2_tensionAt 21 = .ok (.if_icmp .ne 5, 3) := by decide +kernel
theorem dX2_tensionAt_24 : decode cX2_tensionAt 24 = .ok (.iload_n 2, 1) := by decide +kernel
theorem dX2_tensionAt_25 : decode cX2_tensionAt 25 = .ok (.ireturn, 1) := by decide +kernel
theorem dX2_tensionAt_26 : decode cX2_tensionAt 26 = .ok (.aload_n 0, 1) := by decide +kernel
theorem dX2_tensionAt_27 : decode cX2_tensionAt 27 = .ok (.getfield 12, 3) := by decide +kernel
theorem dX2_tensionAt_30 : decode cX2_tensionAt 30 = .ok (.iload_n 1, 1) := by decide +kernel
theorem dX2_tensionAt_31 : decode cX2_tensionAt 31 = .ok (.invokevirtual 101, 3) := by decide +kernel
theorem dX2_tensionAt_34 : decode cX2_tensionAt 34 = .ok (.aload_n 0, 1) := by decide +kernel
theorem dX2_tensionAt_35 : decode cX2_tensionAt 35 = .ok (.getfield 12, 3) := by decide +kernel
theorem dX2_tensionAt_38 : decode cX2_tensionAt 38 = .ok (.aload_n 0, 1) := by decide +kernel
theorem dX2_tensionAt_39 : decode cX2_tensionAt 39 = .ok (.getfield 44, 3) := by decide +kernel
theorem dX2_tensionAt_42 : decode cX2_tensionAt 42 = .ok (.invokevirtual 101, 3) := by decide +kernel
theorem dX2_tensionAt_45 : decode cX2_tensionAt 45 = .ok (.isub, 1) := by decide +kernel
theorem dX2_tensionAt_46 : decode cX2_tensionAt 46 = .ok (.invokestatic 120, 3) := by decide +kernel
theorem dX2_tensionAt_49 : decode cX2_tensionAt 49 = .ok (.istore_n 3, 1) := by decide +kernel
theorem dX2_tensionAt_50 : decode cX2_tensionAt 50 = .ok (.iload_n 2, 1) := by decide +kernel
theorem dX2_tensionAt_51 : decode cX2_tensionAt 51 = .ok (.iconst 2, 1) := by decide +kernel
theorem dX2_tensionAt_52 : decode cX2_tensionAt 52 = .ok (.iload_n 3, 1) := by decide +kernel
theorem dX2_tensionAt_53 : decode cX2_tensionAt 53 = .ok (.imul, 1) := by decide +kernel
theorem dX2_tensionAt_54 : decode cX2_tensionAt 54 = .ok (.iadd, 1) := by decide +kernel
theorem dX2_tensionAt_55 : decode cX2_tensionAt 55 = .ok (.ireturn, 1) := by decide +kernel
set_option maxRecDepth 20000 in
theorem ggX2_warmDiscs_X2_number : GoodIn wsX2_warmDiscs wsX2_number := goodIn_r _ [13, 14, 15, 16, 17, 18, 19, 20, 21, 22, 23, 24, 25] (by decide +kernel) (by decide +kernel)
set_option maxRecDepth 20000 in
theorem gX2_warmDiscs_X2_number : GoodIn wsX2_warmDiscs (wsV RX2 113 RX2 yX2_number wsX2_number) := goodIn_app (goodIn_of _ (by decide +kernel)) ggX2_warmDiscs_X2_number
theorem dX2_warmDiscs_0 : decode cX2_warmDiscs 0 = .ok (.aload_n 0, 1) := by decide +kernel
theorem dX2_warmDiscs_1 : decode cX2_warmDiscs 1 = .ok (.iconst 0, 1) := by decide +kernel
theorem dX2_warmDiscs_2 : decode cX2_warmDiscs 2 = .ok (.sipush 300, 3) := by decide +kernel
theorem dX2_warmDiscs_5 : decode cX2_warmDiscs 5 = .ok (.aload_n 0, 1) := by decide +kernel
theorem dX2_warmDiscs_6 : decode cX2_warmDiscs 6 = .ok (.getfield 37, 3) := by decide +kernel
theorem dX2_warmDiscs_9 : decode cX2_warmDiscs 9 = .ok (.aload_n 0, 1) := by decide +kernel
theorem dX2_warmDiscs_10 : decode cX2_warmDiscs 10 = .ok (.iconst 1, 1) := by decide +kernel
theorem dX2_warmDiscs_11 : decode cX2_warmDiscs 11 = .ok (.invokevirtual 113, 3) := by decide +kernel
theorem dX2_warmDiscs_14 : decode cX2_warmDiscs 14 = .ok (.iadd, 1) := by decide +kernel
theorem dX2_warmDiscs_15 : decode cX2_warmDiscs 15 = .ok (.iconst 1, 1) := by decide +kernel
theorem dX2_warmDiscs_16 : decode cX2_warmDiscs 16 = .ok (.isub, 1) := by decide +kernel
theorem dX2_warmDiscs_17 : decode cX2_warmDiscs 17 = .ok (.invokestatic 125, 3) := by decide +kernel
theorem dX2_warmDiscs_20 : decode cX2_warmDiscs 20 = .ok (.invokestatic 128, 3) := by decide +kernel
theorem dX2_warmDiscs_23 : decode cX2_warmDiscs 23 = .ok (.putfield 37, 3) := by decide +kernel
theorem dX2_warmDiscs_26 : decode cX2_warmDiscs 26 = .ok (.return_, 1) := by decide +kernel
set_option maxRecDepth 20000 in
theorem ggX2_tieKnot_X2_number : GoodIn wsX2_tieKnot wsX2_number := goodIn_r _ [9, 10, 11, 12, 13, 14, 15, 16, 17, 18, 19, 20, 21] (by decide +kernel) (by decide +kernel)
set_option maxRecDepth 20000 in
theorem gX2_tieKnot_X2_number : GoodIn wsX2_tieKnot (wsV RX2 113 RX2 yX2_number wsX2_number) := goodIn_app (goodIn_of _ (by decide +kernel)) ggX2_tieKnot_X2_number
theorem dX2_tieKnot_0 : decode cX2_tieKnot 0 = .ok (.aload_n 0, 1) := by decide +kernel
theorem dX2_tieKnot_1 : decode cX2_tieKnot 1 = .ok (.iconst 3, 1) := by decide +kernel
theorem dX2_tieKnot_2 : decode cX2_tieKnot 2 = .ok (.invokevirtual 113, 3) := by decide +kernel
theorem dX2_tieKnot_5 : decode cX2_tieKnot 5 = .ok (.istore_n 1, 1) := by decide +kernel
theorem dX2_tieKnot_6 : decode cX2_tieKnot 6 = .ok (.aload_n 0, 1) := by decide +kernel
theorem dX2_tieKnot_7 : decode cX2_tieKnot 7 = .ok (.getfield 33, 3) := by decide +kernel
theorem dX2_tieKnot_10 : decode cX2_tieKnot 10 = .ok (.iload_n 1, 1) := by decide +kernel
theorem dX2_tieKnot_11 : decode cX2_tieKnot 11 = .ok (.if_icmp .ge 6, 3) := by decide +kernel
theorem dX2_tieKnot_14 : decode cX2_tieKnot 14 = .ok (.bipush (-4), 2) := by decide +kernel
theorem dX2_tieKnot_16 : decode cX2_tieKnot 16 = .ok (.ireturn, 1) := by decide +kernel
theorem dX2_tieKnot_17 : decode cX2_tieKnot 17 = .ok (.aload_n 0, 1) := by decide +kernel
theorem dX2_tieKnot_18 : decode cX2_tieKnot 18 = .ok (.getfield 40, 3) := by decide +kernel
theorem dX2_tieKnot_21 : decode cX2_tieKnot 21 = .ok (.ifCond .eq 22, 3) := by decide +kernel
theorem dX2_tieKnot_24 : decode cX2_tieKnot 24 = .ok (.aload_n 0, 1) := by decide +kernel
theorem dX2_tieKnot_25 : decode cX2_tieKnot 25 = .ok (.getfield 44, 3) := by decide +kernel
theorem dX2_tieKnot_28 : decode cX2_tieKnot 28 = .ok (.ifCond .lt 15, 3) := by decide +kernel
theorem dX2_tieKnot_31 : decode cX2_tieKnot 31 = .ok (.aload_n 0, 1) := by decide +kernel
theorem dX2_tieKnot_32 : decode cX2_tieKnot 32 = .ok (.getfield 44, 3) := by decide +kernel
theorem dX2_tieKnot_35 : decode cX2_tieKnot 35 = .ok (.aload_n 0, 1) := by decide +kernel
theorem dX2_tieKnot_36 : decode cX2_tieKnot 36 = .ok (.getfield 18, 3) := by decide +kernel
theorem dX2_tieKnot_39 : decode cX2_tieKnot 39 = .ok (.arraylength, 1) := by decide +kernel
theorem dX2_tieKnot_40 : decode cX2_tieKnot 40 = .ok (.if_icmp .lt 6, 3) := by decide +kernel
theorem dX2_tieKnot_43 : decode cX2_tieKnot 43 = .ok (.bipush (-5), 2) := by decide +kernel
theorem dX2_tieKnot_45 : decode cX2_tieKnot 45 = .ok (.ireturn, 1) := by decide +kernel
theorem dX2_tieKnot_46 : decode cX2_tieKnot 46 = .ok (.aload_n 0, 1) := by decide +kernel
theorem dX2_tieKnot_47 : decode cX2_tieKnot 47 = .ok (.dup, 1) := by decide +kernel
theorem dX2_tieKnot_48 : decode cX2_tieKnot 48 = .ok (.getfield 33, 3) := by decide +kernel
theorem dX2_tieKnot_51 : decode cX2_tieKnot 51 = .ok (.iload_n 1, 1) := by decide +kernel
theorem dX2_tieKnot_52 : decode cX2_tieKnot 52 = .ok (.isub, 1) := by decide +kernel
theorem dX2_tieKnot_53 : decode cX2_tieKnot 53 = .ok (.putfield 33, 3) := by decide +kernel
theorem dX2_tieKnot_56 : decode cX2_tieKnot 56 = .ok (.aload_n 0, 1) := by decide +kernel
theorem dX2_tieKnot_57 : decode cX2_tieKnot 57 = .ok (.iconst 0, 1) := by decide +kernel
theorem dX2_tieKnot_58 : decode cX2_tieKnot 58 = .ok (.putfield 40, 3) := by decide +kernel
theorem dX2_tieKnot_61 : decode cX2_tieKnot 61 = .ok (.aload_n 0, 1) := by decide +kernel
theorem dX2_tieKnot_62 : decode cX2_tieKnot 62 = .ok (.getfield 18, 3) := by decide +kernel
theorem dX2_tieKnot_65 : decode cX2_tieKnot 65 = .ok (.aload_n 0, 1) := by decide +kernel
theorem dX2_tieKnot_66 : decode cX2_tieKnot 66 = .ok (.getfield 44, 3) := by decide +kernel
theorem dX2_tieKnot_69 : decode cX2_tieKnot 69 = .ok (.dup2, 1) := by decide +kernel
theorem dX2_tieKnot_70 : decode cX2_tieKnot 70 = .ok (.iaload, 1) := by decide +kernel
theorem dX2_tieKnot_71 : decode cX2_tieKnot 71 = .ok (.iconst 1, 1) := by decide +kernel
theorem dX2_tieKnot_72 : decode cX2_tieKnot 72 = .ok (.iadd, 1) := by decide +kernel
theorem dX2_tieKnot_73 : decode cX2_tieKnot 73 = .ok (.iastore, 1) := by decide +kernel
theorem dX2_tieKnot_74 : decode cX2_tieKnot 74 = .ok (.aload_n 0, 1) := by decide +kernel
theorem dX2_tieKnot_75 : decode cX2_tieKnot 75 = .ok (.getfield 18, 3) := by decide +kernel
theorem dX2_tieKnot_78 : decode cX2_tieKnot 78 = .ok (.aload_n 0, 1) := by decide +kernel
theorem dX2_tieKnot_79 : decode cX2_tieKnot 79 = .ok (.getfield 44, 3) := by decide +kernel
theorem dX2_tieKnot_82 : decode cX2_tieKnot 82 = .ok (.iaload, 1) := by decide +kernel
theorem dX2_tieKnot_83 : decode cX2_tieKnot 83 = .ok (.ireturn, 1) := by decide +kernel
set_option maxRecDepth 20000 in
theorem ggX2_changeCone_X4_inRange : GoodIn wsX2_changeCone wsX4_inRange := goodIn_r _ [6, 7, 8, 5, 9, 10, 11, 12, 13, 14] (by decide +kernel) (by decide +kernel)
set_option maxRecDepth 20000 in
theorem gX2_changeCone_X4_inRange_n84 : GoodIn wsX2_changeCone (wsX4_inRange) := ggX2_changeCone_X4_inRange
theorem dX2_changeCone_0 : decode cX2_changeCone 0 = .ok (.bipush 6, 2) := by decide +kernel
theorem dX2_changeCone_2 : decode cX2_changeCone 2 = .ok (.iload_n 1, 1) := by decide +kernel
theorem dX2_changeCone_3 : decode cX2_changeCone 3 = .ok (.invokestatic 84, 3) := by decide +kernel
theorem dX2_changeCone_6 : decode cX2_changeCone 6 = .ok (.ifCond .ne 6, 3) := by decide +kernel
theorem dX2_changeCone_9 : decode cX2_changeCone 9 = .ok (.bipush (-2), 2) := by decide +kernel
theorem dX2_changeCone_11 : decode cX2_changeCone 11 = .ok (.ireturn, 1) := by decide +kernel
theorem dX2_changeCone_12 : decode cX2_changeCone 12 = .ok (.aload_n 0, 1) := by decide +kernel
theorem dX2_changeCone_13 : decode cX2_changeCone 13 = .ok (.getfield 33, 3) := by decide +kernel
theorem dX2_changeCone_16 : decode cX2_changeCone 16 = .ok (.istore_n 2, 1) := by decide +kernel
theorem dX2_changeCone_17 : decode cX2_changeCone 17 = .ok (.aload_n 0, 1) := by decide +kernel
theorem dX2_changeCone_18 : decode cX2_changeCone 18 = .ok (.iload_n 1, 1) := by decide +kernel
theorem dX2_changeCone_19 : decode cX2_changeCone 19 = .ok (.putfield 33, 3) := by decide +kernel
theorem dX2_changeCone_22 : decode cX2_changeCone 22 = .ok (.aload_n 0, 1) := by decide +kernel
theorem dX2_changeCone_23 : decode cX2_changeCone 23 = .ok (.aload_n 0, 1) := by decide +kernel
theorem dX2_changeCone_24 : decode cX2_changeCone 24 = .ok (.getfield 12, 3) := by decide +kernel
theorem dX2_changeCone_27 : decode cX2_changeCone 27 = .ok (.getfield 92, 3) := by decide +kernel
theorem dX2_changeCone_30 : decode cX2_changeCone 30 = .ok (.ifCond .le 7, 3) := by decide +kernel
theorem dX2_changeCone_33 : decode cX2_changeCone 33 = .ok (.iconst 1, 1) := by decide +kernel
theorem dX2_changeCone_34 : decode cX2_changeCone 34 = .ok (.goto 4, 3) := by decide +kernel
theorem dX2_changeCone_37 : decode cX2_changeCone 37 = .ok (.iconst 0, 1) := by decide +kernel
theorem dX2_changeCone_38 : decode cX2_changeCone 38 = .ok (.putfield 40, 3) := by decide +kernel
theorem dX2_changeCone_41 : decode cX2_changeCone 41 = .ok (.iload_n 2, 1) := by decide +kernel
theorem dX2_changeCone_42 : decode cX2_changeCone 42 = .ok (.ireturn, 1) := by decide +kernel
set_option maxRecDepth 20000 in
theorem ggX2_takePackageOff_X3_clear : GoodIn wsX2_takePackageOff wsX3_clear := goodIn_r _ [10, 11, 12, 13, 14, 15, 16, 17, 18, 31, 32, 33, 34] (by decide +kernel) (by decide +kernel)
set_option maxRecDepth 20000 in
theorem gX2_takePackageOff_X3_clear_n131 : GoodIn wsX2_takePackageOff (wsX3_clear) := ggX2_takePackageOff_X3_clear
set_option maxRecDepth 20000 in
theorem ggX2_takePackageOff_J7_fill_53178 : GoodIn wsX2_takePackageOff wsJ7_fill_53178 := goodIn_r _ [18] (by decide +kernel) (by decide +kernel)
set_option maxRecDepth 20000 in
theorem gX2_takePackageOff_J7_fill_53178 : GoodIn wsX2_takePackageOff (va_wsS RX2 134 yJ7_fill_53178 wsJ7_fill_53178) := goodIn_app (goodIn_of _ (by decide +kernel)) ggX2_takePackageOff_J7_fill_53178
theorem dX2_takePackageOff_0 : decode cX2_takePackageOff 0 = .ok (.aload_n 0, 1) := by decide +kernel
theorem dX2_takePackageOff_1 : decode cX2_takePackageOff 1 = .ok (.getfield 12, 3) := by decide +kernel
theorem dX2_takePackageOff_4 : decode cX2_takePackageOff 4 = .ok (.getfield 92, 3) := by decide +kernel
theorem dX2_takePackageOff_7 : decode cX2_takePackageOff 7 = .ok (.istore_n 1, 1) := by decide +kernel
theorem dX2_takePackageOff_8 : decode cX2_takePackageOff 8 = .ok (.iload_n 1, 1) := by decide +kernel
theorem dX2_takePackageOff_9 : decode cX2_takePackageOff 9 = .ok (.ifCond .ne 6, 3) := by decide +kernel
theorem dX2_takePackageOff_12 : decode cX2_takePackageOff 12 = .ok (.bipush (-5), 2) := by decide +kernel
theorem dX2_takePackageOff_14 : decode cX2_takePackageOff 14 = .ok (.ireturn, 1) := by decide +kernel
theorem dX2_takePackageOff_15 : decode cX2_takePackageOff 15 = .ok (.aload_n 0, 1) := by decide +kernel
theorem dX2_takePackageOff_16 : decode cX2_takePackageOff 16 = .ok (.getfield 12, 3) := by decide +kernel
theorem dX2_takePackageOff_19 : decode cX2_takePackageOff 19 = .ok (.invokevirtual 131, 3) := by decide +kernel
theorem dX2_takePackageOff_22 : decode cX2_takePackageOff 22 = .ok (.aload_n 0, 1) := by decide +kernel
theorem dX2_takePackageOff_23 : decode cX2_takePackageOff 23 = .ok (.getfield 18, 3) := by decide +kernel
theorem dX2_takePackageOff_26 : decode cX2_takePackageOff 26 = .ok (.iconst 0, 1) := by decide +kernel
theorem dX2_takePackageOff_27 : decode cX2_takePackageOff 27 = .ok (.invokestatic 134, 3) := by decide +kernel
theorem dX2_takePackageOff_30 : decode cX2_takePackageOff 30 = .ok (.aload_n 0, 1) := by decide +kernel
theorem dX2_takePackageOff_31 : decode cX2_takePackageOff 31 = .ok (.iconst 0, 1) := by decide +kernel
theorem dX2_takePackageOff_32 : decode cX2_takePackageOff 32 = .ok (.putfield 40, 3) := by decide +kernel
theorem dX2_takePackageOff_35 : decode cX2_takePackageOff 35 = .ok (.aload_n 0, 1) := by decide +kernel
theorem dX2_takePackageOff_36 : decode cX2_takePackageOff 36 = .ok (.iconst (-1), 1) := by decide +kernel
theorem dX2_takePackageOff_37 : decode cX2_takePackageOff 37 = .ok (.putfield 44, 3) := by decide +kernel
theorem dX2_takePackageOff_40 : decode cX2_takePackageOff 40 = .ok (.aload_n 0, 1) := by decide +kernel
theorem dX2_takePackageOff_41 : decode cX2_takePackageOff 41 = .ok (.iconst 0, 1) := by decide +kernel
theorem dX2_takePackageOff_42 : decode cX2_takePackageOff 42 = .ok (.putfield 47, 3) := by decide +kernel
theorem dX2_takePackageOff_45 : decode cX2_takePackageOff 45 = .ok (.aload_n 0, 1) := by decide +kernel
theorem dX2_takePackageOff_46 : decode cX2_takePackageOff 46 = .ok (.dup, 1) := by decide +kernel
theorem dX2_takePackageOff_47 : decode cX2_takePackageOff 47 = .ok (.getfield 56, 3) := by decide +kernel
theorem dX2_takePackageOff_50 : decode cX2_takePackageOff 50 = .ok (.iconst 1, 1) := by decide +kernel
theorem dX2_takePackageOff_51 : decode cX2_takePackageOff 51 = .ok (.iadd, 1) := by decide +kernel
theorem dX2_takePackageOff_52 : decode cX2_takePackageOff 52 = .ok (.putfield 56, 3) := by decide +kernel
theorem dX2_takePackageOff_55 : decode cX2_takePackageOff 55 = .ok (.iload_n 1, 1) := by decide +kernel
theorem dX2_takePackageOff_56 : decode cX2_takePackageOff 56 = .ok (.ireturn, 1) := by decide +kernel
set_option maxRecDepth 20000 in
theorem ggX2_isIdle_X2_isConeEmpty : GoodIn wsX2_isIdle wsX2_isConeEmpty := goodIn_r _ [7, 8, 14, 15, 16, 17, 18, 19, 20, 21, 22, 23, 24] (by decide +kernel) (by decide +kernel)
set_option maxRecDepth 20000 in
theorem gX2_isIdle_X2_isConeEmpty : GoodIn wsX2_isIdle (wsV RX2 140 RX2 yX2_isConeEmpty wsX2_isConeEmpty) := goodIn_app (goodIn_of _ (by decide +kernel)) ggX2_isIdle_X2_isConeEmpty
set_option maxRecDepth 20000 in
theorem ggX2_isIdle_X3_isFull : GoodIn wsX2_isIdle wsX3_isFull := goodIn_r _ [12, 13, 25, 26, 27, 28] (by decide +kernel) (by decide +kernel)
set_option maxRecDepth 20000 in
theorem gX2_isIdle_X3_isFull_n143 : GoodIn wsX2_isIdle (wsX3_isFull) := ggX2_isIdle_X3_isFull
theorem dX2_isIdle_0 : decode cX2_isIdle 0 = .ok (.aload_n 0, 1) := by decide +kernel
theorem dX2_isIdle_1 : decode cX2_isIdle 1 = .ok (.getfield 40, 3) := by decide +kernel
theorem dX2_isIdle_4 : decode cX2_isIdle 4 = .ok (.ifCond .ne 20, 3) := by decide +kernel
theorem dX2_isIdle_7 : decode cX2_isIdle 7 = .ok (.aload_n 0, 1) := by decide +kernel
theorem dX2_isIdle_8 : decode cX2_isIdle 8 = .ok (.invokevirtual 140, 3) := by decide +kernel
theorem dX2_isIdle_11 : decode cX2_isIdle 11 = .ok (.ifCond .ne 13, 3) := by decide +kernel
theorem dX2_isIdle_14 : decode cX2_isIdle 14 = .ok (.aload_n 0, 1) := by decide +kernel
theorem dX2_isIdle_15 : decode cX2_isIdle 15 = .ok (.getfield 12, 3) := by decide +kernel
theorem dX2_isIdle_18 : decode cX2_isIdle 18 = .ok (.invokevirtual 143, 3) := by decide +kernel
theorem dX2_isIdle_21 : decode cX2_isIdle 21 = .ok (.ifCond .eq 7, 3) := by decide +kernel
theorem dX2_isIdle_24 : decode cX2_isIdle 24 = .ok (.iconst 1, 1) := by decide +kernel
theorem dX2_isIdle_25 : decode cX2_isIdle 25 = .ok (.goto 4, 3) := by decide +kernel
theorem dX2_isIdle_28 : decode cX2_isIdle 28 = .ok (.iconst 0, 1) := by decide +kernel
theorem dX2_isIdle_29 : decode cX2_isIdle 29 = .ok (.ireturn, 1) := by decide +kernel
theorem dX2_isConeEmpty_0 : decode cX2_isConeEmpty 0 = .ok (.aload_n 0, 1) := by decide +kernel
theorem dX2_isConeEmpty_1 : decode cX2_isConeEmpty 1 = .ok (.getfield 33, 3) := by decide +kernel
theorem dX2_isConeEmpty_4 : decode cX2_isConeEmpty 4 = .ok (.ifCond .ne 7, 3) := by decide +kernel
theorem dX2_isConeEmpty_7 : decode cX2_isConeEmpty 7 = .ok (.iconst 1, 1) := by decide +kernel
theorem dX2_isConeEmpty_8 : decode cX2_isConeEmpty 8 = .ok (.goto 4, 3) := by decide +kernel
theorem dX2_isConeEmpty_11 : decode cX2_isConeEmpty 11 = .ok (.iconst 0, 1) := by decide +kernel
theorem dX2_isConeEmpty_12 : decode cX2_isConeEmpty 12 = .ok (.ireturn, 1) := by decide +kernel
theorem dX2_number_0 : decode cX2_number 0 = .ok (.iload_n 1, 1) := by decide +kernel
theorem dX2_number_1 : decode cX2_number 1 = .ok (.ifCond .lt 21, 3) := by decide +kernel
theorem dX2_number_4 : decode cX2_number 4 = .ok (.iload_n 1, 1) := by decide +kernel
theorem dX2_number_5 : decode cX2_number 5 = .ok (.aload_n 0, 1) := by decide +kernel
theorem dX2_number_6 : decode cX2_number 6 = .ok (.getfield 30, 3) := by decide +kernel
theorem dX2_number_9 : decode cX2_number 9 = .ok (.arraylength, 1) := by decide +kernel
theorem dX2_number_10 : decode cX2_number 10 = .ok (.if_icmp .ge 12, 3) := by decide +kernel
theorem dX2_number_13 : decode cX2_number 13 = .ok (.aload_n 0, 1) := by decide +kernel
theorem dX2_number_14 : decode cX2_number 14 = .ok (.getfield 30, 3) := by decide +kernel
theorem dX2_number_17 : decode cX2_number 17 = .ok (.iload_n 1, 1) := by decide +kernel
theorem dX2_number_18 : decode cX2_number 18 = .ok (.iaload, 1) := by decide +kernel
theorem dX2_number_19 : decode cX2_number 19 = .ok (.goto 4, 3) := by decide +kernel
theorem dX2_number_22 : decode cX2_number 22 = .ok (.iconst 0, 1) := by decide +kernel
theorem dX2_number_23 : decode cX2_number 23 = .ok (.ireturn, 1) := by decide +kernel
theorem dX2_knotsAt_0 : decode cX2_knotsAt 0 = .ok (.iload_n 1, 1) := by decide +kernel
theorem dX2_knotsAt_1 : decode cX2_knotsAt 1 = .ok (.ifCond .lt 21, 3) := by decide +kernel
theorem dX2_knotsAt_4 : decode cX2_knotsAt 4 = .ok (.iload_n 1, 1) := by decide +kernel
theorem dX2_knotsAt_5 : decode cX2_knotsAt 5 = .ok (.aload_n 0, 1) := by decide +kernel
theorem dX2_knotsAt_6 : decode cX2_knotsAt 6 = .ok (.getfield 18, 3) := by decide +kernel
theorem dX2_knotsAt_9 : decode cX2_knotsAt 9 = .ok (.arraylength, 1) := by decide +kernel
theorem dX2_knotsAt_10 : decode cX2_knotsAt 10 = .ok (.if_icmp .ge 12, 3) := by decide +kernel
theorem dX2_knotsAt_13 : decode cX2_knotsAt 13 = .ok (.aload_n 0, 1) := by decide +kernel
theorem dX2_knotsAt_14 : decode cX2_knotsAt 14 = .ok (.getfield 18, 3) := by decide +kernel
theorem dX2_knotsAt_17 : decode cX2_knotsAt 17 = .ok (.iload_n 1, 1) := by decide +kernel
theorem dX2_knotsAt_18 : decode cX2_knotsAt 18 = .ok (.iaload, 1) := by decide +kernel
theorem dX2_knotsAt_19 : decode cX2_knotsAt 19 = .ok (.goto 4, 3) := by decide +kernel
theorem dX2_knotsAt_22 : decode cX2_knotsAt 22 = .ok (.iconst 0, 1) := by decide +kernel
theorem dX2_knotsAt_23 : decode cX2_knotsAt 23 = .ok (.ireturn, 1) := by decide +kernel
set_option maxRecDepth 20000 in
theorem ggX2_isBad_X2_knotsAt : GoodIn wsX2_isBad wsX2_knotsAt := goodIn_r _ [5, 6, 7, 8, 9, 10, 11, 12, 13, 14, 15, 16, 17] (by decide +kernel) (by decide +kernel)
set_option maxRecDepth 20000 in
theorem gX2_isBad_X2_knotsAt : GoodIn wsX2_isBad (wsV RX2 146 RX2 yX2_knotsAt wsX2_knotsAt) := goodIn_app (goodIn_of _ (by decide +kernel)) ggX2_isBad_X2_knotsAt
theorem dX2_isBad_0 : decode cX2_isBad 0 = .ok (.aload_n 0, 1) := by decide +kernel
theorem dX2_isBad_1 : decode cX2_isBad 1 = .ok (.iload_n 1, 1) := by decide +kernel
theorem dX2_isBad_2 : decode cX2_isBad 2 = .ok (.invokevirtual 146, 3) := by decide +kernel
theorem dX2_isBad_5 : decode cX2_isBad 5 = .ok (.iconst 2, 1) := by decide +kernel
theorem dX2_isBad_6 : decode cX2_isBad 6 = .ok (.if_icmp .le 7, 3) := by decide +kernel
theorem dX2_isBad_9 : decode cX2_isBad 9 = .ok (.iconst 1, 1) := by decide +kernel
theorem dX2_isBad_10 : decode cX2_isBad 10 = .ok (.goto 4, 3) := by decide +kernel
theorem dX2_isBad_13 : decode cX2_isBad 13 = .ok (.iconst 0, 1) := by decide +kernel
theorem dX2_isBad_14 : decode cX2_isBad 14 = .ok (.ireturn, 1) := by decide +kernel
set_option maxRecDepth 20000 in
theorem ggX2_hasBadPlace_X2_isBad : GoodIn wsX2_hasBadPlace wsX2_isBad := goodIn_r _ [5, 6, 7, 8, 4, 9, 10, 11, 12, 13, 14, 15, 16, 17, 18, 19, 20, 21] (by decide +kernel) (by decide +kernel)
set_option maxRecDepth 20000 in
theorem gX2_hasBadPlace_X2_isBad : GoodIn wsX2_hasBadPlace (wsV RX2 149 RX2 yX2_isBad wsX2_isBad) := goodIn_app (goodIn_of _ (by decide +kernel)) ggX2_hasBadPlace_X2_isBad
theorem dX2_hasBadPlace_0 : decode cX2_hasBadPlace 0 = .ok (.iconst 0, 1) := by decide +kernel
theorem dX2_hasBadPlace_1 : decode cX2_hasBadPlace 1 = .ok (.istore_n 1, 1) := by decide +kernel
theorem dX2_hasBadPlace_2 : decode cX2_hasBadPlace 2 = .ok (.iconst 0, 1) := by decide +kernel
theorem dX2_hasBadPlace_3 : decode cX2_hasBadPlace 3 = .ok (.istore_n 2, 1) := by decide +kernel
theorem dX2_hasBadPlace_4 : decode cX2_hasBadPlace 4 = .ok (.iload_n 2, 1) := by decide +kernel
theorem dX2_hasBadPlace_5 : decode cX2_hasBadPlace 5 = .ok (.bipush 12, 2) := by decide +kernel
theorem dX2_hasBadPlace_7 : decode cX2_hasBadPlace 7 = .ok (.if_icmp .ge 27, 3) := by decide +kernel
theorem dX2_hasBadPlace_10 : decode cX2_hasBadPlace 10 = .ok (.iload_n 1, 1) := by decide +kernel
theorem dX2_hasBadPlace_11 : decode cX2_hasBadPlace 11 = .ok (.ifCond .ne 11, 3) := by decide +kernel
theorem dX2_hasBadPlace_14 : decode cX2_hasBadPlace 14 = .ok (.aload_n 0, 1) := by decide +kernel
theorem dX2_hasBadPlace_15 : decode cX2_hasBadPlace 15 = .ok (.iload_n 2, 1) := by decide +kernel
theorem dX2_hasBadPlace_16 : decode cX2_hasBadPlace 16 = .ok (.invokevirtual 149, 3) := by decide +kernel
theorem dX2_hasBadPlace_19 : decode cX2_hasBadPlace 19 = .ok (.ifCond .eq 7, 3) := by decide +kernel
theorem dX2_hasBadPlace_22 : decode cX2_hasBadPlace 22 = .ok (.iconst 1, 1) := by decide +kernel
theorem dX2_hasBadPlace_23 : decode cX2_hasBadPlace 23 = .ok (.goto 4, 3) := by decide +kernel
theorem dX2_hasBadPlace_26 : decode cX2_hasBadPlace 26 = .ok (.iconst 0, 1) := by decide +kernel
theorem dX2_hasBadPlace_27 : decode cX2_hasBadPlace 27 = .ok (.istore_n 1, 1) := by decide +kernel
theorem dX2_hasBadPlace_28 : decode cX2_hasBadPlace 28 = .ok (.iinc 2 1, 3) := by decide +kernel
theorem dX2_hasBadPlace_31 : decode cX2_hasBadPlace 31 = .ok (.goto (-27), 3) := by decide +kernel
theorem dX2_hasBadPlace_34 : decode cX2_hasBadPlace 34 = .ok (.iload_n 1, 1) := by decide +kernel
theorem dX2_hasBadPlace_35 : decode cX2_hasBadPlace 35 = .ok (.ireturn, 1) := by decide +kernel
theorem dX2_allKnots_0 : decode cX2_allKnots 0 = .ok (.iconst 0, 1) := by decide +kernel
theorem dX2_allKnots_1 : decode cX2_allKnots 1 = .ok (.istore_n 1, 1) := by decide +kernel
theorem dX2_allKnots_2 : decode cX2_allKnots 2 = .ok (.aload_n 0, 1) := by decide +kernel
theorem dX2_allKnots_3 : decode cX2_allKnots 3 = .ok (.getfield 18, 3) := by decide +kernel
theorem dX2_allKnots_6 : decode cX2_allKnots 6 = .ok (.astore_n 2, 1) := by decide +kernel
theorem dX2_allKnots_7 : decode cX2_allKnots 7 = .ok (.aload_n 2, 1) := by decide +kernel
theorem dX2_allKnots_8 : decode cX2_allKnots 8 = .ok (.arraylength, 1) := by decide +kernel
theorem dX2_allKnots_9 : decode cX2_allKnots 9 = .ok (.istore_n 3, 1) := by decide +kernel
theorem dX2_allKnots_10 : decode cX2_allKnots 10 = .ok (.iconst 0, 1) := by decide +kernel
theorem dX2_allKnots_11 : decode cX2_allKnots 11 = .ok (.istore 4, 2) := by decide +kernel
theorem dX2_allKnots_13 : decode cX2_allKnots 13 = .ok (.iload 4, 2) := by decide +kernel
theorem dX2_allKnots_15 : decode cX2_allKnots 15 = .ok (.iload_n 3, 1) := by decide +kernel
theorem dX2_allKnots_16 : decode cX2_allKnots 16 = .ok (.if_icmp .ge 20, 3) := by decide +kernel
theorem dX2_allKnots_19 : decode cX2_allKnots 19 = .ok (.aload_n 2, 1) := by decide +kernel
theorem dX2_allKnots_20 : decode cX2_allKnots 20 = .ok (.iload 4, 2) := by decide +kernel
theorem dX2_allKnots_22 : decode cX2_allKnots 22 = .ok (.iaload, 1) := by decide +kernel
theorem dX2_allKnots_23 : decode cX2_allKnots 23 = .ok (.istore 5, 2) := by decide +kernel
theorem dX2_allKnots_25 : decode cX2_allKnots 25 = .ok (.iload_n 1, 1) := by decide +kernel
theorem dX2_allKnots_26 : decode cX2_allKnots 26 = .ok (.iload 5, 2) := by decide +kernel
theorem dX2_allKnots_28 : decode cX2_allKnots 28 = .ok (.iadd, 1) := by decide +kernel
theorem dX2_allKnots_29 : decode cX2_allKnots 29 = .ok (.istore_n 1, 1) := by decide +kernel
theorem dX2_allKnots_30 : decode cX2_allKnots 30 = .ok (.iinc 4 1, 3) := by decide +kernel
theorem dX2_allKnots_33 : decode cX2_allKnots 33 = .ok (.goto (-20), 3) := by decide +kernel
theorem dX2_allKnots_36 : decode cX2_allKnots 36 = .ok (.iload_n 1, 1) := by decide +kernel
theorem dX2_allKnots_37 : decode cX2_allKnots 37 = .ok (.ireturn, 1) := by decide +kernel
end
section
theorem dX3_init_0 : decode cX3_init 0 = .ok (.aload_n 0, 1) := by decide +kernel
theorem dX3_init_1 : decode cX3_init 1 = .ok (.invokespecial 3, 3) := by decide +kernel
theorem dX3_init_4 : decode cX3_init 4 = .ok (.aload_n 0, 1) := by decide +kernel
theorem dX3_init_5 : decode cX3_init 5 = .ok (.bipush 12, 2) := by decide +kernel
theorem dX3_init_7 : decode cX3_init 7 = .ok (.newarray .int, 2) := by decide +kernel
theorem dX3_init_9 : decode cX3_init 9 = .ok (.putfield 9, 3) := by decide +kernel
theorem dX3_init_12 : decode cX3_init 12 = .ok (.aload_n 0, 1) := by decide +kernel
theorem dX3_init_13 : decode cX3_init 13 = .ok (.iconst 0, 1) := by decide +kernel
theorem dX3_init_14 : decode cX3_init 14 = .ok (.putfield 15, 3) := by decide +kernel
theorem dX3_init_17 : decode cX3_init 17 = .ok (.aload_n 0, 1) := by decide +kernel
theorem dX3_init_18 : decode cX3_init 18 = .ok (.iconst 0, 1) := by decide +kernel
theorem dX3_init_19 : decode cX3_init 19 = .ok (.putfield 19, 3) := by decide +kernel
theorem dX3_init_22 : decode cX3_init 22 = .ok (.aload_n 0, 1) := by decide +kernel
theorem dX3_init_23 : decode cX3_init 23 = .ok (.iconst 0, 1) := by decide +kernel
theorem dX3_init_24 : decode cX3_init 24 = .ok (.putfield 22, 3) := by decide +kernel
theorem dX3_init_27 : decode cX3_init 27 = .ok (.return_, 1) := by decide +kernel
theorem dX3_copyFrom_0 : decode cX3_copyFrom 0 = .ok (.aload_n 1, 1) := by decide +kernel
theorem dX3_copyFrom_1 : decode cX3_copyFrom 1 = .ok (.getfield 9, 3) := by decide +kernel
theorem dX3_copyFrom_4 : decode cX3_copyFrom 4 = .ok (.iconst 0, 1) := by decide +kernel
theorem dX3_copyFrom_5 : decode cX3_copyFrom 5 = .ok (.aload_n 0, 1) := by decide +kernel
theorem dX3_copyFrom_6 : decode cX3_copyFrom 6 = .ok (.getfield 9, 3) := by decide +kernel
theorem dX3_copyFrom_9 : decode cX3_copyFrom 9 = .ok (.iconst 0, 1) := by decide +kernel
theorem dX3_copyFrom_10 : decode cX3_copyFrom 10 = .ok (.bipush 12, 2) := by decide +kernel
theorem dX3_copyFrom_12 : decode cX3_copyFrom 12 = .ok (.invokestatic 25, 3) := by decide +kernel
theorem dX3_copyFrom_15 : decode cX3_copyFrom 15 = .ok (.aload_n 0, 1) := by decide +kernel
theorem dX3_copyFrom_16 : decode cX3_copyFrom 16 = .ok (.aload_n 1, 1) := by decide +kernel
theorem dX3_copyFrom_17 : decode cX3_copyFrom 17 = .ok (.getfield 15, 3) := by decide +kernel
theorem dX3_copyFrom_20 : decode cX3_copyFrom 20 = .ok (.putfield 15, 3) := by decide +kernel
theorem dX3_copyFrom_23 : decode cX3_copyFrom 23 = .ok (.aload_n 0, 1) := by decide +kernel
theorem dX3_copyFrom_24 : decode cX3_copyFrom 24 = .ok (.aload_n 1, 1) := by decide +kernel
theorem dX3_copyFrom_25 : decode cX3_copyFrom 25 = .ok (.getfield 19, 3) := by decide +kernel
theorem dX3_copyFrom_28 : decode cX3_copyFrom 28 = .ok (.putfield 19, 3) := by decide +kernel
theorem dX3_copyFrom_31 : decode cX3_copyFrom 31 = .ok (.aload_n 0, 1) := by decide +kernel
theorem dX3_copyFrom_32 : decode cX3_copyFrom 32 = .ok (.aload_n 1, 1) := by decide +kernel
theorem dX3_copyFrom_33 : decode cX3_copyFrom 33 = .ok (.getfield 22, 3) := by decide +kernel
theorem dX3_copyFrom_36 : decode cX3_copyFrom 36 = .ok (.putfield 22, 3) := by decide +kernel
theorem dX3_copyFrom_39 : decode cX3_copyFrom 39 = .ok (.return_, 1) := by decide +kernel
set_option maxRecDepth 20000 in
theorem ggX3_clear_J7_fill_53178 : GoodIn wsX3_clear wsJ7_fill_53178 := goodIn_r _ [8] (by decide +kernel) (by decide +kernel)
set_option maxRecDepth 20000 in
theorem gX3_clear_J7_fill_53178 : GoodIn wsX3_clear (va_wsS RX3 31 yJ7_fill_53178 wsJ7_fill_53178) := goodIn_app (goodIn_of _ (by decide +kernel)) ggX3_clear_J7_fill_53178
theorem dX3_clear_0 : decode cX3_clear 0 = .ok (.aload_n 0, 1) := by decide +kernel
theorem dX3_clear_1 : decode cX3_clear 1 = .ok (.getfield 9, 3) := by decide +kernel
theorem dX3_clear_4 : decode cX3_clear 4 = .ok (.iconst 0, 1) := by decide +kernel
theorem dX3_clear_5 : decode cX3_clear 5 = .ok (.invokestatic 31, 3) := by decide +kernel
theorem dX3_clear_8 : decode cX3_clear 8 = .ok (.aload_n 0, 1) := by decide +kernel
theorem dX3_clear_9 : decode cX3_clear 9 = .ok (.iconst 0, 1) := by decide +kernel
theorem dX3_clear_10 : decode cX3_clear 10 = .ok (.putfield 15, 3) := by decide +kernel
theorem dX3_clear_13 : decode cX3_clear 13 = .ok (.aload_n 0, 1) := by decide +kernel
theorem dX3_clear_14 : decode cX3_clear 14 = .ok (.iconst 0, 1) := by decide +kernel
theorem dX3_clear_15 : decode cX3_clear 15 = .ok (.putfield 19, 3) := by decide +kernel
theorem dX3_clear_18 : decode cX3_clear 18 = .ok (.aload_n 0, 1) := by decide +kernel
theorem dX3_clear_19 : decode cX3_clear 19 = .ok (.iconst 0, 1) := by decide +kernel
theorem dX3_clear_20 : decode cX3_clear 20 = .ok (.putfield 22, 3) := by decide +kernel
theorem dX3_clear_23 : decode cX3_clear 23 = .ok (.return_, 1) := by decide +kernel
theorem dX3_guidePlace_0 : decode cX3_guidePlace 0 = .ok (.aload_n 0, 1) := by decide +kernel
theorem dX3_guidePlace_1 : decode cX3_guidePlace 1 = .ok (.getfield 22, 3) := by decide +kernel
theorem dX3_guidePlace_4 : decode cX3_guidePlace 4 = .ok (.bipush 11, 2) := by decide +kernel
theorem dX3_guidePlace_6 : decode cX3_guidePlace 6 = .ok (.if_icmp .gt 10, 3) := by decide +kernel
theorem dX3_guidePlace_9 : decode cX3_guidePlace 9 = .ok (.aload_n 0, 1) := by decide +kernel
theorem dX3_guidePlace_10 : decode cX3_guidePlace 10 = .ok (.getfield 22, 3) := by decide +kernel
theorem dX3_guidePlace_13 : decode cX3_guidePlace 13 = .ok (.goto 10, 3) := by decide +kernel
theorem dX3_guidePlace_16 : decode cX3_guidePlace 16 = .ok (.bipush 22, 2) := by decide +kernel
theorem dX3_guidePlace_18 : decode cX3_guidePlace 18 = .ok (.aload_n 0, 1) := by decide +kernel
theorem dX3_guidePlace_19 : decode cX3_guidePlace 19 = .ok (.getfield 22, 3) := by decide +kernel
theorem dX3_guidePlace_22 : decode cX3_guidePlace 22 = .ok (.isub, 1) := by decide +kernel
theorem dX3_guidePlace_23 : decode cX3_guidePlace 23 = .ok (.ireturn, 1) := by decide +kernel
theorem dX3_guideGoesBack_0 : decode cX3_guideGoesBack 0 = .ok (.aload_n 0, 1) := by decide +kernel
theorem dX3_guideGoesBack_1 : decode cX3_guideGoesBack 1 = .ok (.getfield 22, 3) := by decide +kernel
theorem dX3_guideGoesBack_4 : decode cX3_guideGoesBack 4 = .ok (.bipush 11, 2) := by decide +kernel
theorem dX3_guideGoesBack_6 : decode cX3_guideGoesBack 6 = .ok (.if_icmp .lt 7, 3) := by decide +kernel
theorem dX3_guideGoesBack_9 : decode cX3_guideGoesBack 9 = .ok (.iconst 1, 1) := by decide +kernel
theorem dX3_guideGoesBack_10 : decode cX3_guideGoesBack 10 = .ok (.goto 4, 3) := by decide +kernel
theorem dX3_guideGoesBack_13 : decode cX3_guideGoesBack 13 = .ok (.iconst 0, 1) := by decide +kernel
theorem dX3_guideGoesBack_14 : decode cX3_guideGoesBack 14 = .ok (.ireturn, 1) := by decide +kernel
set_option maxRecDepth 20000 in
theorem ggX3_moveGuide_X4_oneIf : GoodIn wsX3_moveGuide wsX4_oneIf := goodIn_r _ [4] (by decide +kernel) (by decide +kernel)
set_option maxRecDepth 20000 in
theorem gX3_moveGuide_X4_oneIf_n37 : GoodIn wsX3_moveGuide (wsX4_oneIf) := ggX3_moveGuide_X4_oneIf
theorem dX3_moveGuide_0 : decode cX3_moveGuide 0 = .ok (.bipush 8, 2) := by decide +kernel
theorem dX3_moveGuide_2 : decode cX3_moveGuide 2 = .ok (.iload_n 2, 1) := by decide +kernel
theorem dX3_moveGuide_3 : decode cX3_moveGuide 3 = .ok (.isub, 1) := by decide +kernel
theorem dX3_moveGuide_4 : decode cX3_moveGuide 4 = .ok (.istore 4, 2) := by decide +kernel
theorem dX3_moveGuide_6 : decode cX3_moveGuide 6 = .ok (.iload_n 2, 1) := by decide +kernel
theorem dX3_moveGuide_7 : decode cX3_moveGuide 7 = .ok (.ifCond .le 19, 3) := by decide +kernel
theorem dX3_moveGuide_10 : decode cX3_moveGuide 10 = .ok (.iload 4, 2) := by decide +kernel
theorem dX3_moveGuide_12 : decode cX3_moveGuide 12 = .ok (.ifCond .le 14, 3) := by decide +kernel
theorem dX3_moveGuide_15 : decode cX3_moveGuide 15 = .ok (.iload_n 3, 1) := by decide +kernel
theorem dX3_moveGuide_16 : decode cX3_moveGuide 16 = .ok (.iload 4, 2) := by decide +kernel
theorem dX3_moveGuide_18 : decode cX3_moveGuide 18 = .ok (.irem, 1) := by decide +kernel
theorem dX3_moveGuide_19 : decode cX3_moveGuide 19 = .ok (.ifCond .ne 7, 3) := by decide +kernel
theorem dX3_moveGuide_22 : decode cX3_moveGuide 22 = .ok (.iconst 1, 1) := by decide +kernel
theorem dX3_moveGuide_23 : decode cX3_moveGuide 23 = .ok (.goto 4, 3) := by decide +kernel
theorem dX3_moveGuide_26 : decode cX3_moveGuide 26 = .ok (.iconst 0, 1) := by decide +kernel
theorem dX3_moveGuide_27 : decode cX3_moveGuide 27 = .ok (.istore 5, 2) := by decide +kernel
theorem dX3_moveGuide_29 : decode cX3_moveGuide 29 = .ok (.aload_n 0, 1) := by decide +kernel
theorem dX3_moveGuide_30 : decode cX3_moveGuide 30 = .ok (.aload_n 0, 1) := by decide +kernel
theorem dX3_moveGuide_31 : decode cX3_moveGuide 31 = .ok (.getfield 22, 3) := by decide +kernel
theorem dX3_moveGuide_34 : decode cX3_moveGuide 34 = .ok (.iload_n 1, 1) := by decide +kernel
theorem dX3_moveGuide_35 : decode cX3_moveGuide 35 = .ok (.iadd, 1) := by decide +kernel
theorem dX3_moveGuide_36 : decode cX3_moveGuide 36 = .ok (.iload 5, 2) := by decide +kernel
theorem dX3_moveGuide_38 : decode cX3_moveGuide 38 = .ok (.invokestatic 37, 3) := by decide +kernel
theorem dX3_moveGuide_41 : decode cX3_moveGuide 41 = .ok (.iadd, 1) := by decide +kernel
theorem dX3_moveGuide_42 : decode cX3_moveGuide 42 = .ok (.bipush 22, 2) := by decide +kernel
theorem dX3_moveGuide_44 : decode cX3_moveGuide 44 = .ok (.irem, 1) := by decide +kernel
theorem dX3_moveGuide_45 : decode cX3_moveGuide 45 = .ok (.putfield 22, 3) := by decide +kernel
theorem dX3_moveGuide_48 : decode cX3_moveGuide 48 = .ok (.return_, 1) := by decide +kernel
set_option maxRecDepth 20000 in
theorem ggX3_layWrap_X3_guidePlace : GoodIn wsX3_layWrap wsX3_guidePlace := goodIn_r _ [12, 13, 14, 15, 16, 17] (by decide +kernel) (by decide +kernel)
set_option maxRecDepth 20000 in
theorem gX3_layWrap_X3_guidePlace : GoodIn wsX3_layWrap (wsV RX3 41 RX3 yX3_guidePlace wsX3_guidePlace) := goodIn_app (goodIn_of _ (by decide +kernel)) ggX3_layWrap_X3_guidePlace
theorem dX3_layWrap_0 : decode cX3_layWrap 0 = .ok (.aload_n 0, 1) := by decide +kernel
theorem dX3_layWrap_1 : decode cX3_layWrap 1 = .ok (.invokevirtual 41, 3) := by decide +kernel
theorem dX3_layWrap_4 : decode cX3_layWrap 4 = .ok (.istore_n 1, 1) := by decide +kernel
theorem dX3_layWrap_5 : decode cX3_layWrap 5 = .ok (.iload_n 1, 1) := by decide +kernel
theorem dX3_layWrap_6 : decode cX3_layWrap 6 = .ok (.ifCond .lt 49, 3) := by decide +kernel
theorem dX3_layWrap_9 : decode cX3_layWrap 9 = .ok (.iload_n 1, 1) := by decide +kernel
theorem dX3_layWrap_10 : decode cX3_layWrap 10 = .ok (.aload_n 0, 1) := by decide +kernel
theorem dX3_layWrap_11 : decode cX3_layWrap 11 = .ok (.getfield 9, 3) := by decide +kernel
theorem dX3_layWrap_14 : decode cX3_layWrap 14 = .ok (.arraylength, 1) := by decide +kernel
theorem dX3_layWrap_15 : decode cX3_layWrap 15 = .ok (.if_icmp .ge 40, 3) := by decide +kernel
theorem dX3_layWrap_18 : decode cX3_layWrap 18 = .ok (.aload_n 0, 1) := by decide +kernel
theorem dX3_layWrap_19 : decode cX3_layWrap 19 = .ok (.getfield 9, 3) := by decide +kernel
theorem dX3_layWrap_22 : decode cX3_layWrap 22 = .ok (.iload_n 1, 1) := by decide +kernel
theorem dX3_layWrap_23 : decode cX3_layWrap 23 = .ok (.dup2, 1) := by decide +kernel
theorem dX3_layWrap_24 : decode cX3_layWrap 24 = .ok (.iaload, 1) := by decide +kernel
theorem dX3_layWrap_25 : decode cX3_layWrap 25 = .ok (.iconst 1, 1) := by decide +kernel
theorem dX3_layWrap_26 : decode cX3_layWrap 26 = .ok (.iadd, 1) := by decide +kernel
theorem dX3_layWrap_27 : decode cX3_layWrap 27 = .ok (.iastore, 1) := by decide +kernel
theorem dX3_layWrap_28 : decode cX3_layWrap 28 = .ok (.aload_n 0, 1) := by decide +kernel
theorem dX3_layWrap_29 : decode cX3_layWrap 29 = .ok (.dup, 1) := by decide +kernel
theorem dX3_layWrap_30 : decode cX3_layWrap 30 = .ok (.getfield 15, 3) := by decide +kernel
theorem dX3_layWrap_33 : decode cX3_layWrap 33 = .ok (.iconst 1, 1) := by decide +kernel
theorem dX3_layWrap_34 : decode cX3_layWrap 34 = .ok (.iadd, 1) := by decide +kernel
theorem dX3_layWrap_35 : decode cX3_layWrap 35 = .ok (.putfield 15, 3) := by decide +kernel
theorem dX3_layWrap_38 : decode cX3_layWrap 38 = .ok (.aload_n 0, 1) := by decide +kernel
theorem dX3_layWrap_39 : decode cX3_layWrap 39 = .ok (.aload_n 0, 1) := by decide +kernel
theorem dX3_layWrap_40 : decode cX3_layWrap 40 = .ok (.getfield 19, 3) := by decide +kernel
theorem dX3_layWrap_43 : decode cX3_layWrap 43 = .ok (.aload_n 0, 1) := by decide +kernel
theorem dX3_layWrap_44 : decode cX3_layWrap 44 = .ok (.getfield 9, 3) := by decide +kernel
theorem dX3_layWrap_47 : decode cX3_layWrap 47 = .ok (.iload_n 1, 1) := by decide +kernel
theorem dX3_layWrap_48 : decode cX3_layWrap 48 = .ok (.iaload, 1) := by decide +kernel
theorem dX3_layWrap_49 : decode cX3_layWrap 49 = .ok (.invokestatic 45, 3) := by decide +kernel
theorem dX3_layWrap_52 : decode cX3_layWrap 52 = .ok (.putfield 19, 3) := by decide +kernel
theorem dX3_layWrap_55 : decode cX3_layWrap 55 = .ok (.return_, 1) := by decide +kernel
theorem dX3_heightAt_0 : decode cX3_heightAt 0 = .ok (.iload_n 1, 1) := by decide +kernel
theorem dX3_heightAt_1 : decode cX3_heightAt 1 = .ok (.ifCond .lt 21, 3) := by decide +kernel
theorem dX3_heightAt_4 : decode cX3_heightAt 4 = .ok (.iload_n 1, 1) := by decide +kernel
theorem dX3_heightAt_5 : decode cX3_heightAt 5 = .ok (.aload_n 0, 1) := by decide +kernel
theorem dX3_heightAt_6 : decode cX3_heightAt 6 = .ok (.getfield 9, 3) := by decide +kernel
theorem dX3_heightAt_9 : decode cX3_heightAt 9 = .ok (.arraylength, 1) := by decide +kernel
theorem dX3_heightAt_10 : decode cX3_heightAt 10 = .ok (.if_icmp .ge 12, 3) := by decide +kernel
theorem dX3_heightAt_13 : decode cX3_heightAt 13 = .ok (.aload_n 0, 1) := by decide +kernel
theorem dX3_heightAt_14 : decode cX3_heightAt 14 = .ok (.getfield 9, 3) := by decide +kernel
theorem dX3_heightAt_17 : decode cX3_heightAt 17 = .ok (.iload_n 1, 1) := by decide +kernel
theorem dX3_heightAt_18 : decode cX3_heightAt 18 = .ok (.iaload, 1) := by decide +kernel
theorem dX3_heightAt_19 : decode cX3_heightAt 19 = .ok (.goto 4, 3) := by decide +kernel
theorem dX3_heightAt_22 : decode cX3_heightAt 22 = .ok (.iconst 0, 1) := by decide +kernel
theorem dX3_heightAt_23 : decode cX3_heightAt 23 = .ok (.ireturn, 1) := by decide +kernel
theorem dX3_isFull_0 : decode cX3_isFull 0 = .ok (.aload_n 0, 1) := by decide +kernel
theorem dX3_isFull_1 : decode cX3_isFull 1 = .ok (.getfield 19, 3) := by decide +kernel
theorem dX3_isFull_4 : decode cX3_isFull 4 = .ok (.sipush 200, 3) := by decide +kernel
theorem dX3_isFull_7 : decode cX3_isFull 7 = .ok (.if_icmp .lt 7, 3) := by decide +kernel
theorem dX3_isFull_10 : decode cX3_isFull 10 = .ok (.iconst 1, 1) := by decide +kernel
theorem dX3_isFull_11 : decode cX3_isFull 11 = .ok (.goto 4, 3) := by decide +kernel
theorem dX3_isFull_14 : decode cX3_isFull 14 = .ok (.iconst 0, 1) := by decide +kernel
theorem dX3_isFull_15 : decode cX3_isFull 15 = .ok (.ireturn, 1) := by decide +kernel
theorem dX3_evenness_0 : decode cX3_evenness 0 = .ok (.aload_n 0, 1) := by decide +kernel
theorem dX3_evenness_1 : decode cX3_evenness 1 = .ok (.getfield 19, 3) := by decide +kernel
theorem dX3_evenness_4 : decode cX3_evenness 4 = .ok (.istore_n 1, 1) := by decide +kernel
theorem dX3_evenness_5 : decode cX3_evenness 5 = .ok (.aload_n 0, 1) := by decide +kernel
theorem dX3_evenness_6 : decode cX3_evenness 6 = .ok (.getfield 9, 3) := by decide +kernel
theorem dX3_evenness_9 : decode cX3_evenness 9 = .ok (.astore_n 2, 1) := by decide +kernel
theorem dX3_evenness_10 : decode cX3_evenness 10 = .ok (.aload_n 2, 1) := by decide +kernel
theorem dX3_evenness_11 : decode cX3_evenness 11 = .ok (.arraylength, 1) := by decide +kernel
theorem dX3_evenness_12 : decode cX3_evenness 12 = .ok (.istore_n 3, 1) := by decide +kernel
theorem dX3_evenness_13 : decode cX3_evenness 13 = .ok (.iconst 0, 1) := by decide +kernel
theorem dX3_evenness_14 : decode cX3_evenness 14 = .ok (.istore 4, 2) := by decide +kernel
theorem dX3_evenness_16 : decode cX3_evenness 16 = .ok (.iload 4, 2) := by decide +kernel
theorem dX3_evenness_18 : decode cX3_evenness 18 = .ok (.iload_n 3, 1) := by decide +kernel
theorem dX3_evenness_19 : decode cX3_evenness 19 = .ok (.if_icmp .ge 22, 3) := by decide +kernel
theorem dX3_evenness_22 : decode cX3_evenness 22 = .ok (.aload_n 2, 1) := by decide +kernel
theorem dX3_evenness_23 : decode cX3_evenness 23 = .ok (.iload 4, 2) := by decide +kernel
theorem dX3_evenness_25 : decode cX3_evenness 25 = .ok (.iaload, 1) := by decide +kernel
theorem dX3_evenness_26 : decode cX3_evenness 26 = .ok (.istore 5, 2) := by decide +kernel
theorem dX3_evenness_28 : decode cX3_evenness 28 = .ok (.iload_n 1, 1) := by decide +kernel
theorem dX3_evenness_29 : decode cX3_evenness 29 = .ok (.iload 5, 2) := by decide +kernel
theorem dX3_evenness_31 : decode cX3_evenness 31 = .ok (.invokestatic 51, 3) := by decide +kernel
theorem dX3_evenness_34 : decode cX3_evenness 34 = .ok (.istore_n 1, 1) := by decide +kernel
theorem dX3_evenness_35 : decode cX3_evenness 35 = .ok (.iinc 4 1, 3) := by decide +kernel
theorem dX3_evenness_38 : decode cX3_evenness 38 = .ok (.goto (-22), 3) := by decide +kernel
theorem dX3_evenness_41 : decode cX3_evenness 41 = .ok (.aload_n 0, 1) := by decide +kernel
theorem dX3_evenness_42 : decode cX3_evenness 42 = .ok (.getfield 19, 3) := by decide +kernel
theorem dX3_evenness_45 : decode cX3_evenness 45 = .ok (.iload_n 1, 1) := by decide +kernel
theorem dX3_evenness_46 : decode cX3_evenness 46 = .ok (.isub, 1) := by decide +kernel
theorem dX3_evenness_47 : decode cX3_evenness 47 = .ok (.ireturn, 1) := by decide +kernel
set_option maxRecDepth 20000 in
theorem ggX3_isRibbon_X3_isRibbonOver : GoodIn wsX3_isRibbon wsX3_isRibbonOver := goodIn_r _ [5, 6, 7, 8, 4, 9, 10, 11, 12, 13, 14] (by decide +kernel) (by decide +kernel)
set_option maxRecDepth 20000 in
theorem gX3_isRibbon_X3_isRibbonOver : GoodIn wsX3_isRibbon (wsV RX3 54 RX3 yX3_isRibbonOver wsX3_isRibbonOver) := goodIn_app (goodIn_of _ (by decide +kernel)) ggX3_isRibbon_X3_isRibbonOver
theorem dX3_isRibbon_0 : decode cX3_isRibbon 0 = .ok (.iload_n 1, 1) := by decide +kernel
theorem dX3_isRibbon_1 : decode cX3_isRibbon 1 = .ok (.ifCond .eq 14, 3) := by decide +kernel
theorem dX3_isRibbon_4 : decode cX3_isRibbon 4 = .ok (.aload_n 0, 1) := by decide +kernel
theorem dX3_isRibbon_5 : decode cX3_isRibbon 5 = .ok (.iload_n 1, 1) := by decide +kernel
theorem dX3_isRibbon_6 : decode cX3_isRibbon 6 = .ok (.iload_n 1, 1) := by decide +kernel
theorem dX3_isRibbon_7 : decode cX3_isRibbon 7 = .ok (.iconst 1, 1) := by decide +kernel
theorem dX3_isRibbon_8 : decode cX3_isRibbon 8 = .ok (.isub, 1) := by decide +kernel
theorem dX3_isRibbon_9 : decode cX3_isRibbon 9 = .ok (.invokevirtual 54, 3) := by decide +kernel
theorem dX3_isRibbon_12 : decode cX3_isRibbon 12 = .ok (.ifCond .eq 7, 3) := by decide +kernel
theorem dX3_isRibbon_15 : decode cX3_isRibbon 15 = .ok (.iconst 1, 1) := by decide +kernel
theorem dX3_isRibbon_16 : decode cX3_isRibbon 16 = .ok (.goto 4, 3) := by decide +kernel
theorem dX3_isRibbon_19 : decode cX3_isRibbon 19 = .ok (.iconst 0, 1) := by decide +kernel
theorem dX3_isRibbon_20 : decode cX3_isRibbon 20 = .ok (.istore_n 2, 1) := by decide +kernel
theorem dX3_isRibbon_21 : decode cX3_isRibbon 21 = .ok (.iload_n 1, 1) := by decide +kernel
theorem dX3_isRibbon_22 : decode cX3_isRibbon 22 = .ok (.bipush 11, 2) := by decide +kernel
theorem dX3_isRibbon_24 : decode cX3_isRibbon 24 = .ok (.if_icmp .eq 14, 3) := by decide +kernel
theorem dX3_isRibbon_27 : decode cX3_isRibbon 27 = .ok (.aload_n 0, 1) := by decide +kernel
theorem dX3_isRibbon_28 : decode cX3_isRibbon 28 = .ok (.iload_n 1, 1) := by decide +kernel
theorem dX3_isRibbon_29 : decode cX3_isRibbon 29 = .ok (.iload_n 1, 1) := by decide +kernel
theorem dX3_isRibbon_30 : decode cX3_isRibbon 30 = .ok (.iconst 1, 1) := by decide +kernel
theorem dX3_isRibbon_31 : decode cX3_isRibbon 31 = .ok (.iadd, 1) := by decide +kernel
theorem dX3_isRibbon_32 : decode cX3_isRibbon 32 = .ok (.invokevirtual 54, 3) := by decide +kernel
theorem dX3_isRibbon_35 : decode cX3_isRibbon 35 = .ok (.ifCond .eq 7, 3) := by decide +kernel
theorem dX3_isRibbon_38 : decode cX3_isRibbon 38 = .ok (.iconst 1, 1) := by decide +kernel
theorem dX3_isRibbon_39 : decode cX3_isRibbon 39 = .ok (.goto 4, 3) := by decide +kernel
theorem dX3_isRibbon_42 : decode cX3_isRibbon 42 = .ok (.iconst 0, 1) := by decide +kernel
theorem dX3_isRibbon_43 : decode cX3_isRibbon 43 = .ok (.istore_n 3, 1) := by decide +kernel
theorem dX3_isRibbon_44 : decode cX3_isRibbon 44 = .ok (.iload_n 2, 1) := by decide +kernel
theorem dX3_isRibbon_45 : decode cX3_isRibbon 45 = .ok (.ifCond .eq 11, 3) := by decide +kernel
theorem dX3_isRibbon_48 : decode cX3_isRibbon 48 = .ok (.iload_n 3, 1) := by decide +kernel
theorem dX3_isRibbon_49 : decode cX3_isRibbon 49 = .ok (.ifCond .eq 7, 3) := by decide +kernel
theorem dX3_isRibbon_52 : decode cX3_isRibbon 52 = .ok (.iconst 1, 1) := by decide +kernel
theorem dX3_isRibbon_53 : decode cX3_isRibbon 53 = .ok (.goto 4, 3) := by decide +kernel
theorem dX3_isRibbon_56 : decode cX3_isRibbon 56 = .ok (.iconst 0, 1) := by decide +kernel
theorem dX3_isRibbon_57 : decode cX3_isRibbon 57 = .ok (.ireturn, 1) := by decide +kernel
set_option maxRecDepth 20000 in
theorem ggX3_isRibbonOver_X3_heightAt : GoodIn wsX3_isRibbonOver wsX3_heightAt := goodIn_r _ [5, 6, 7, 8, 9, 10] (by decide +kernel) (by decide +kernel)
set_option maxRecDepth 20000 in
theorem gX3_isRibbonOver_X3_heightAt : GoodIn wsX3_isRibbonOver (wsV RX3 58 RX3 yX3_heightAt wsX3_heightAt) := goodIn_app (goodIn_of _ (by decide +kernel)) ggX3_isRibbonOver_X3_heightAt
theorem dX3_isRibbonOver_0 : decode cX3_isRibbonOver 0 = .ok (.aload_n 0, 1) := by decide +kernel
theorem dX3_isRibbonOver_1 : decode cX3_isRibbonOver 1 = .ok (.iload_n 1, 1) := by decide +kernel
theorem dX3_isRibbonOver_2 : decode cX3_isRibbonOver 2 = .ok (.invokevirtual 58, 3) := by decide +kernel
theorem dX3_isRibbonOver_5 : decode cX3_isRibbonOver 5 = .ok (.aload_n 0, 1) := by decide +kernel
theorem dX3_isRibbonOver_6 : decode cX3_isRibbonOver 6 = .ok (.iload_n 2, 1) := by decide +kernel
theorem dX3_isRibbonOver_7 : decode cX3_isRibbonOver 7 = .ok (.invokevirtual 58, 3) := by decide +kernel
theorem dX3_isRibbonOver_10 : decode cX3_isRibbonOver 10 = .ok (.isub, 1) := by decide +kernel
theorem dX3_isRibbonOver_11 : decode cX3_isRibbonOver 11 = .ok (.bipush 6, 2) := by decide +kernel
theorem dX3_isRibbonOver_13 : decode cX3_isRibbonOver 13 = .ok (.if_icmp .lt 7, 3) := by decide +kernel
theorem dX3_isRibbonOver_16 : decode cX3_isRibbonOver 16 = .ok (.iconst 1, 1) := by decide +kernel
theorem dX3_isRibbonOver_17 : decode cX3_isRibbonOver 17 = .ok (.goto 4, 3) := by decide +kernel
theorem dX3_isRibbonOver_20 : decode cX3_isRibbonOver 20 = .ok (.iconst 0, 1) := by decide +kernel
theorem dX3_isRibbonOver_21 : decode cX3_isRibbonOver 21 = .ok (.ireturn, 1) := by decide +kernel
set_option maxRecDepth 20000 in
theorem ggX3_ribbons_X3_isRibbon : GoodIn wsX3_ribbons wsX3_isRibbon := goodIn_r _ [5, 6, 7, 8, 4, 9, 10, 11, 12, 13, 14, 18, 19, 20, 21] (by decide +kernel) (by decide +kernel)
set_option maxRecDepth 20000 in
theorem gX3_ribbons_X3_isRibbon : GoodIn wsX3_ribbons (wsV RX3 62 RX3 yX3_isRibbon wsX3_isRibbon) := goodIn_app (goodIn_of _ (by decide +kernel)) ggX3_ribbons_X3_isRibbon
set_option maxRecDepth 20000 in
theorem ggX3_ribbons_X4_oneIf : GoodIn wsX3_ribbons wsX4_oneIf := goodIn_r _ [17] (by decide +kernel) (by decide +kernel)
set_option maxRecDepth 20000 in
theorem gX3_ribbons_X4_oneIf_n37 : GoodIn wsX3_ribbons (wsX4_oneIf) := ggX3_ribbons_X4_oneIf
theorem dX3_ribbons_0 : decode cX3_ribbons 0 = .ok (.iconst 0, 1) := by decide +kernel
theorem dX3_ribbons_1 : decode cX3_ribbons 1 = .ok (.istore_n 1, 1) := by decide +kernel
theorem dX3_ribbons_2 : decode cX3_ribbons 2 = .ok (.iconst 0, 1) := by decide +kernel
theorem dX3_ribbons_3 : decode cX3_ribbons 3 = .ok (.istore_n 2, 1) := by decide +kernel
theorem dX3_ribbons_4 : decode cX3_ribbons 4 = .ok (.iload_n 2, 1) := by decide +kernel
theorem dX3_ribbons_5 : decode cX3_ribbons 5 = .ok (.bipush 12, 2) := by decide +kernel
theorem dX3_ribbons_7 : decode cX3_ribbons 7 = .ok (.if_icmp .ge 20, 3) := by decide +kernel
theorem dX3_ribbons_10 : decode cX3_ribbons 10 = .ok (.iload_n 1, 1) := by decide +kernel
theorem dX3_ribbons_11 : decode cX3_ribbons 11 = .ok (.aload_n 0, 1) := by decide +kernel
theorem dX3_ribbons_12 : decode cX3_ribbons 12 = .ok (.iload_n 2, 1) := by decide +kernel
theorem dX3_ribbons_13 : decode cX3_ribbons 13 = .ok (.invokevirtual 62, 3) := by decide +kernel
theorem dX3_ribbons_16 : decode cX3_ribbons 16 = .ok (.invokestatic 37, 3) := by decide +kernel
theorem dX3_ribbons_19 : decode cX3_ribbons 19 = .ok (.iadd, 1) := by decide +kernel
theorem dX3_ribbons_20 : decode cX3_ribbons 20 = .ok (.istore_n 1, 1) := by decide +kernel
theorem dX3_ribbons_21 : decode cX3_ribbons 21 = .ok (.iinc 2 1, 3) := by decide +kernel
theorem dX3_ribbons_24 : decode cX3_ribbons 24 = .ok (.goto (-20), 3) := by decide +kernel
theorem dX3_ribbons_27 : decode cX3_ribbons 27 = .ok (.iload_n 1, 1) := by decide +kernel
theorem dX3_ribbons_28 : decode cX3_ribbons 28 = .ok (.ireturn, 1) := by decide +kernel
set_option maxRecDepth 20000 in
theorem ggX3_barePlaces_X4_oneIf : GoodIn wsX3_barePlaces wsX4_oneIf := goodIn_r _ [4] (by decide +kernel) (by decide +kernel)
set_option maxRecDepth 20000 in
theorem gX3_barePlaces_X4_oneIf_n37 : GoodIn wsX3_barePlaces (wsX4_oneIf) := ggX3_barePlaces_X4_oneIf
theorem dX3_barePlaces_0 : decode cX3_barePlaces 0 = .ok (.iconst 0, 1) := by decide +kernel
theorem dX3_barePlaces_1 : decode cX3_barePlaces 1 = .ok (.istore_n 1, 1) := by decide +kernel
theorem dX3_barePlaces_2 : decode cX3_barePlaces 2 = .ok (.aload_n 0, 1) := by decide +kernel
theorem dX3_barePlaces_3 : decode cX3_barePlaces 3 = .ok (.getfield 9, 3) := by decide +kernel
theorem dX3_barePlaces_6 : decode cX3_barePlaces 6 = .ok (.astore_n 2, 1) := by decide +kernel
theorem dX3_barePlaces_7 : decode cX3_barePlaces 7 = .ok (.aload_n 2, 1) := by decide +kernel
theorem dX3_barePlaces_8 : decode cX3_barePlaces 8 = .ok (.arraylength, 1) := by decide +kernel
theorem dX3_barePlaces_9 : decode cX3_barePlaces 9 = .ok (.istore_n 3, 1) := by decide +kernel
theorem dX3_barePlaces_10 : decode cX3_barePlaces 10 = .ok (.iconst 0, 1) := by decide +kernel
theorem dX3_barePlaces_11 : decode cX3_barePlaces 11 = .ok (.istore 4, 2) := by decide +kernel
theorem dX3_barePlaces_13 : decode cX3_barePlaces 13 = .ok (.iload 4, 2) := by decide +kernel
theorem dX3_barePlaces_15 : decode cX3_barePlaces 15 = .ok (.iload_n 3, 1) := by decide +kernel
theorem dX3_barePlaces_16 : decode cX3_barePlaces 16 = .ok (.if_icmp .ge 31, 3) := by decide +kernel
theorem dX3_barePlaces_19 : decode cX3_barePlaces 19 = .ok (.aload_n 2, 1) := by decide +kernel
theorem dX3_barePlaces_20 : decode cX3_barePlaces 20 = .ok (.iload 4, 2) := by decide +kernel
theorem dX3_barePlaces_22 : decode cX3_barePlaces 22 = .ok (.iaload, 1) := by decide +kernel
theorem dX3_barePlaces_23 : decode cX3_barePlaces 23 = .ok (.istore 5, 2) := by decide +kernel
theorem dX3_barePlaces_25 : decode cX3_barePlaces 25 = .ok (.iload_n 1, 1) := by decide +kernel
theorem dX3_barePlaces_26 : decode cX3_barePlaces 26 = .ok (.iload 5, 2) := by decide +kernel
theorem dX3_barePlaces_28 : decode cX3_barePlaces 28 = .ok (.ifCond .ne 7, 3) := by decide +kernel
theorem dX3_barePlaces_31 : decode cX3_barePlaces 31 = .ok (.iconst 1, 1) := by decide +kernel
theorem dX3_barePlaces_32 : decode cX3_barePlaces 32 = .ok (.goto 4, 3) := by decide +kernel
theorem dX3_barePlaces_35 : decode cX3_barePlaces 35 = .ok (.iconst 0, 1) := by decide +kernel
theorem dX3_barePlaces_36 : decode cX3_barePlaces 36 = .ok (.invokestatic 37, 3) := by decide +kernel
theorem dX3_barePlaces_39 : decode cX3_barePlaces 39 = .ok (.iadd, 1) := by decide +kernel
theorem dX3_barePlaces_40 : decode cX3_barePlaces 40 = .ok (.istore_n 1, 1) := by decide +kernel
theorem dX3_barePlaces_41 : decode cX3_barePlaces 41 = .ok (.iinc 4 1, 3) := by decide +kernel
theorem dX3_barePlaces_44 : decode cX3_barePlaces 44 = .ok (.goto (-31), 3) := by decide +kernel
theorem dX3_barePlaces_47 : decode cX3_barePlaces 47 = .ok (.iload_n 1, 1) := by decide +kernel
theorem dX3_barePlaces_48 : decode cX3_barePlaces 48 = .ok (.ireturn, 1) := by decide +kernel
set_option maxRecDepth 20000 in
theorem ggX4_init_X2_init : GoodIn wsX4_init wsX2_init := goodIn_r _ [25, 26, 2, 3, 27, 11, 12, 28, 29, 30, 31, 32, 33, 34, 35, 36, 37, 38, 39, 40, 41, 42, 43, 44, 45, 46, 47, 48, 49, 50, 51, 52, 90, 91, 92, 93, 71, 72, 73, 74, 75, 76, 77, 78, 79, 80, 81] (by decide +kernel) (by decide +kernel)
set_option maxRecDepth 20000 in
theorem gX4_init_X2_init_n11 : GoodIn wsX4_init (wsX2_init) := ggX4_init_X2_init
set_option maxRecDepth 20000 in
theorem ggX4_init_X3_init : GoodIn wsX4_init wsX3_init := goodIn_r _ [47, 48, 2, 3, 29, 49, 50, 51, 52, 90, 91, 92, 93] (by decide +kernel) (by decide +kernel)
set_option maxRecDepth 20000 in
theorem gX4_init_X3_init_n24 : GoodIn wsX4_init (wsX3_init) := ggX4_init_X3_init
set_option maxRecDepth 20000 in
theorem ggX4_init_X1_init : GoodIn wsX4_init wsX1_init := goodIn_r _ [54, 55, 2, 3, 56, 57, 58, 59, 5, 6, 24, 25, 26, 27, 11, 12, 28, 29, 30, 31, 32, 33, 34, 35, 36, 37, 38, 39, 40, 41, 42, 43, 44, 45, 46, 47, 48, 49, 50, 51, 52, 94, 95, 96, 71, 72, 73, 74, 75, 76, 77, 78, 79, 80, 81, 90, 91, 92, 93] (by decide +kernel) (by decide +kernel)
set_option maxRecDepth 20000 in
theorem gX4_init_X1_init_n31 : GoodIn wsX4_init (wsX1_init) := ggX4_init_X1_init
set_option maxRecDepth 20000 in
theorem ggX4_init_X0_init : GoodIn wsX4_init wsX0_init := goodIn_r _ [61, 62, 2, 3, 63, 64, 29, 65, 66, 67, 68, 69, 70, 97, 98, 99, 100, 101, 102, 103] (by decide +kernel) (by decide +kernel)
set_option maxRecDepth 20000 in
theorem gX4_init_X0_init_n38 : GoodIn wsX4_init (wsX0_init) := ggX4_init_X0_init
end
section
theorem dX4_init_0 : decode cX4_init 0 = .ok (.aload_n 0, 1) := by decide +kernel
theorem dX4_init_1 : decode cX4_init 1 = .ok (.invokespecial 3, 3) := by decide +kernel
theorem dX4_init_4 : decode cX4_init 4 = .ok (.aload_n 0, 1) := by decide +kernel
theorem dX4_init_5 : decode cX4_init 5 = .ok (.new 9, 3) := by decide +kernel
theorem dX4_init_8 : decode cX4_init 8 = .ok (.dup, 1) := by decide +kernel
theorem dX4_init_9 : decode cX4_init 9 = .ok (.invokespecial 11, 3) := by decide +kernel
theorem dX4_init_12 : decode cX4_init 12 = .ok (.putfield 12, 3) := by decide +kernel
theorem dX4_init_15 : decode cX4_init 15 = .ok (.aload_n 0, 1) := by decide +kernel
theorem dX4_init_16 : decode cX4_init 16 = .ok (.new 9, 3) := by decide +kernel
theorem dX4_init_19 : decode cX4_init 19 = .ok (.dup, 1) := by decide +kernel
theorem dX4_init_20 : decode cX4_init 20 = .ok (.invokespecial 11, 3) := by decide +kernel
theorem dX4_init_23 : decode cX4_init 23 = .ok (.putfield 16, 3) := by decide +kernel
theorem dX4_init_26 : decode cX4_init 26 = .ok (.aload_n 0, 1) := by decide +kernel
theorem dX4_init_27 : decode cX4_init 27 = .ok (.new 9, 3) := by decide +kernel
theorem dX4_init_30 : decode cX4_init 30 = .ok (.dup, 1) := by decide +kernel
theorem dX4_init_31 : decode cX4_init 31 = .ok (.invokespecial 11, 3) := by decide +kernel
theorem dX4_init_34 : decode cX4_init 34 = .ok (.putfield 19, 3) := by decide +kernel
theorem dX4_init_37 : decode cX4_init 37 = .ok (.aload_n 0, 1) := by decide +kernel
theorem dX4_init_38 : decode cX4_init 38 = .ok (.new 22, 3) := by decide +kernel
theorem dX4_init_41 : decode cX4_init 41 = .ok (.dup, 1) := by decide +kernel
theorem dX4_init_42 : decode cX4_init 42 = .ok (.invokespecial 24, 3) := by decide +kernel
theorem dX4_init_45 : decode cX4_init 45 = .ok (.putfield 25, 3) := by decide +kernel
theorem dX4_init_48 : decode cX4_init 48 = .ok (.aload_n 0, 1) := by decide +kernel
theorem dX4_init_49 : decode cX4_init 49 = .ok (.new 29, 3) := by decide +kernel
theorem dX4_init_52 : decode cX4_init 52 = .ok (.dup, 1) := by decide +kernel
theorem dX4_init_53 : decode cX4_init 53 = .ok (.invokespecial 31, 3) := by decide +kernel
theorem dX4_init_56 : decode cX4_init 56 = .ok (.putfield 32, 3) := by decide +kernel
theorem dX4_init_59 : decode cX4_init 59 = .ok (.aload_n 0, 1) := by decide +kernel
theorem dX4_init_60 : decode cX4_init 60 = .ok (.new 36, 3) := by decide +kernel
theorem dX4_init_63 : decode cX4_init 63 = .ok (.dup, 1) := by decide +kernel
theorem dX4_init_64 : decode cX4_init 64 = .ok (.invokespecial 38, 3) := by decide +kernel
theorem dX4_init_67 : decode cX4_init 67 = .ok (.putfield 39, 3) := by decide +kernel
theorem dX4_init_70 : decode cX4_init 70 = .ok (.aload_n 0, 1) := by decide +kernel
theorem dX4_init_71 : decode cX4_init 71 = .ok (.iconst 0, 1) := by decide +kernel
theorem dX4_init_72 : decode cX4_init 72 = .ok (.putfield 43, 3) := by decide +kernel
theorem dX4_init_75 : decode cX4_init 75 = .ok (.aload_n 0, 1) := by decide +kernel
theorem dX4_init_76 : decode cX4_init 76 = .ok (.bipush (-5), 2) := by decide +kernel
theorem dX4_init_78 : decode cX4_init 78 = .ok (.putfield 47, 3) := by decide +kernel
theorem dX4_init_81 : decode cX4_init 81 = .ok (.return_, 1) := by decide +kernel
set_option maxRecDepth 20000 in
theorem ggX4_set_X2_copyFrom : GoodIn wsX4_set wsX2_copyFrom := goodIn_r _ [6, 7, 8, 9, 10, 11, 12, 13, 14, 15, 16, 17, 18, 19, 20, 21, 22, 23, 24, 25, 26, 27, 28, 29, 30, 73, 74, 75, 76, 77, 78, 79, 80, 81, 82, 83, 84, 85, 86, 87] (by decide +kernel) (by decide +kernel)
set_option maxRecDepth 20000 in
theorem gX4_set_X2_copyFrom_n51 : GoodIn wsX4_set (wsX2_copyFrom) := ggX4_set_X2_copyFrom
set_option maxRecDepth 20000 in
theorem ggX4_set_X2_changeNumber : GoodIn wsX4_set wsX2_changeNumber := goodIn_r _ [33, 13, 34, 35, 36, 37, 38, 39, 40, 41, 42, 43, 44, 73, 74, 75, 76, 77, 78, 79, 80, 81, 82, 83] (by decide +kernel) (by decide +kernel)
set_option maxRecDepth 20000 in
theorem gX4_set_X2_changeNumber_n55 : GoodIn wsX4_set (wsX2_changeNumber) := ggX4_set_X2_changeNumber
set_option maxRecDepth 20000 in
theorem ggX4_set_X4_finishAct : GoodIn wsX4_set wsX4_finishAct := goodIn_r _ [48, 49, 2, 1, 50, 51, 52, 53, 54, 55, 56, 57, 58, 59, 60, 61, 62, 63, 64, 3, 4, 5, 6, 7, 8, 9, 10, 11, 12, 13, 14, 15, 16, 17, 18, 19, 20, 21, 22, 23, 24, 25, 26, 27, 28, 29, 30, 65, 66, 67, 68, 69, 70, 71, 72, 88, 89, 90, 73, 74, 75, 76, 77, 78, 79, 80, 81, 82, 83, 84, 85, 86, 87] (by decide +kernel) (by decide +kernel)
set_option maxRecDepth 20000 in
theorem gX4_set_X4_finishAct : GoodIn wsX4_set (wsV RX4 59 RX4 yX4_finishAct wsX4_finishAct) := goodIn_app (goodIn_of _ (by decide +kernel)) ggX4_set_X4_finishAct
theorem dX4_set_0 : decode cX4_set 0 = .ok (.aload_n 0, 1) := by decide +kernel
theorem dX4_set_1 : decode cX4_set 1 = .ok (.getfield 16, 3) := by decide +kernel
theorem dX4_set_4 : decode cX4_set 4 = .ok (.aload_n 0, 1) := by decide +kernel
theorem dX4_set_5 : decode cX4_set 5 = .ok (.getfield 12, 3) := by decide +kernel
theorem dX4_set_8 : decode cX4_set 8 = .ok (.invokevirtual 51, 3) := by decide +kernel
theorem dX4_set_11 : decode cX4_set 11 = .ok (.aload_n 0, 1) := by decide +kernel
theorem dX4_set_12 : decode cX4_set 12 = .ok (.aload_n 0, 1) := by decide +kernel
theorem dX4_set_13 : decode cX4_set 13 = .ok (.getfield 16, 3) := by decide +kernel
theorem dX4_set_16 : decode cX4_set 16 = .ok (.iload_n 1, 1) := by decide +kernel
theorem dX4_set_17 : decode cX4_set 17 = .ok (.iload_n 2, 1) := by decide +kernel
theorem dX4_set_18 : decode cX4_set 18 = .ok (.invokevirtual 55, 3) := by decide +kernel
theorem dX4_set_21 : decode cX4_set 21 = .ok (.invokevirtual 59, 3) := by decide +kernel
theorem dX4_set_24 : decode cX4_set 24 = .ok (.ireturn, 1) := by decide +kernel
set_option maxRecDepth 20000 in
theorem ggX4_wind_X2_copyFrom : GoodIn wsX4_wind wsX2_copyFrom := goodIn_r _ [6, 7, 8, 9, 10, 11, 12, 13, 14, 15, 16, 17, 18, 19, 20, 21, 22, 23, 24, 25, 26, 27, 28, 29, 30, 123, 124, 125, 126, 127, 128, 129, 130, 131, 132, 133, 134, 135, 136, 137] (by decide +kernel) (by decide +kernel)
set_option maxRecDepth 20000 in
theorem gX4_wind_X2_copyFrom_n51 : GoodIn wsX4_wind (wsX2_copyFrom) := ggX4_wind_X2_copyFrom
set_option maxRecDepth 20000 in
theorem ggX4_wind_X2_turnOften : GoodIn wsX4_wind wsX2_turnOften := goodIn_r _ [33, 7, 34, 35, 36, 37, 38, 39, 40, 41, 42, 43, 44, 45, 46, 47, 4, 48, 16, 49, 50, 51, 52, 14, 53, 23, 54, 55, 29, 56, 57, 58, 59, 19, 18, 17, 20, 60, 61, 62, 30, 63, 64, 65, 26, 66, 67, 68, 28, 69, 70, 71, 72, 73, 74, 75, 76, 77, 15, 78, 79, 80, 81, 82, 83, 84, 13, 85, 86, 87, 88, 89, 90, 91, 92, 93, 94, 95, 96, 97, 123, 124, 125, 126, 127, 128, 129, 130, 131, 132, 133, 134, 135, 136, 137] (by decide +kernel) (by decide +kernel)
set_option maxRecDepth 20000 in
theorem gX4_wind_X2_turnOften_n63 : GoodIn wsX4_wind (wsX2_turnOften) := ggX4_wind_X2_turnOften
set_option maxRecDepth 20000 in
theorem ggX4_wind_X4_finishAct : GoodIn wsX4_wind wsX4_finishAct := goodIn_r _ [101, 102, 2, 1, 103, 104, 105, 106, 107, 108, 109, 90, 71, 91, 110, 111, 112, 113, 114, 3, 4, 5, 6, 7, 8, 9, 10, 11, 12, 13, 14, 15, 16, 17, 18, 19, 20, 21, 22, 23, 24, 25, 26, 27, 28, 29, 30, 115, 116, 117, 118, 119, 120, 121, 122, 138, 139, 140, 123, 124, 125, 126, 127, 128, 129, 130, 131, 132, 133, 134, 135, 136, 137] (by decide +kernel) (by decide +kernel)
set_option maxRecDepth 20000 in
theorem gX4_wind_X4_finishAct : GoodIn wsX4_wind (wsV RX4 59 RX4 yX4_finishAct wsX4_finishAct) := goodIn_app (goodIn_of _ (by decide +kernel)) ggX4_wind_X4_finishAct
theorem dX4_wind_0 : decode cX4_wind 0 = .ok (.aload_n 0, 1) := by decide +kernel
theorem dX4_wind_1 : decode cX4_wind 1 = .ok (.getfield 16, 3) := by decide +kernel
theorem dX4_wind_4 : decode cX4_wind 4 = .ok (.aload_n 0, 1) := by decide +kernel
theorem dX4_wind_5 : decode cX4_wind 5 = .ok (.getfield 12, 3) := by decide +kernel
theorem dX4_wind_8 : decode cX4_wind 8 = .ok (.invokevirtual 51, 3) := by decide +kernel
theorem dX4_wind_11 : decode cX4_wind 11 = .ok (.aload_n 0, 1) := by decide +kernel
theorem dX4_wind_12 : decode cX4_wind 12 = .ok (.aload_n 0, 1) := by decide +kernel
theorem dX4_wind_13 : decode cX4_wind 13 = .ok (.getfield 16, 3) := by decide +kernel
theorem dX4_wind_16 : decode cX4_wind 16 = .ok (.iload_n 1, 1) := by decide +kernel
theorem dX4_wind_17 : decode cX4_wind 17 = .ok (.invokevirtual 63, 3) := by decide +kernel
theorem dX4_wind_20 : decode cX4_wind 20 = .ok (.invokevirtual 59, 3) := by decide +kernel
theorem dX4_wind_23 : decode cX4_wind 23 = .ok (.ireturn, 1) := by decide +kernel
set_option maxRecDepth 20000 in
theorem ggX4_knot_X2_copyFrom : GoodIn wsX4_knot wsX2_copyFrom := goodIn_r _ [6, 7, 8, 9, 10, 11, 12, 13, 14, 15, 16, 17, 18, 19, 20, 21, 22, 23, 24, 25, 26, 27, 28, 29, 30, 67, 68, 69, 70, 71, 72, 73, 74, 75, 76, 77, 78, 79, 80, 81] (by decide +kernel) (by decide +kernel)
set_option maxRecDepth 20000 in
theorem gX4_knot_X2_copyFrom_n51 : GoodIn wsX4_knot (wsX2_copyFrom) := ggX4_knot_X2_copyFrom
set_option maxRecDepth 20000 in
theorem ggX4_knot_X2_tieKnot : GoodIn wsX4_knot wsX2_tieKnot := goodIn_r _ [33, 14, 16, 17, 8, 34, 35, 36, 4, 37, 13, 67, 68, 69, 70, 71, 72, 73, 74, 75, 76, 77] (by decide +kernel) (by decide +kernel)
set_option maxRecDepth 20000 in
theorem gX4_knot_X2_tieKnot_n66 : GoodIn wsX4_knot (wsX2_tieKnot) := ggX4_knot_X2_tieKnot
set_option maxRecDepth 20000 in
theorem ggX4_knot_X4_finishAct : GoodIn wsX4_knot wsX4_finishAct := goodIn_r _ [42, 43, 2, 1, 44, 45, 46, 47, 48, 49, 50, 51, 52, 53, 54, 55, 56, 57, 58, 3, 4, 5, 6, 7, 8, 9, 10, 11, 12, 13, 14, 15, 16, 17, 18, 19, 20, 21, 22, 23, 24, 25, 26, 27, 28, 29, 30, 59, 60, 61, 62, 63, 64, 65, 66, 82, 83, 84, 67, 68, 69, 70, 71, 72, 73, 74, 75, 76, 77, 78, 79, 80, 81] (by decide +kernel) (by decide +kernel)
set_option maxRecDepth 20000 in
theorem gX4_knot_X4_finishAct : GoodIn wsX4_knot (wsV RX4 59 RX4 yX4_finishAct wsX4_finishAct) := goodIn_app (goodIn_of _ (by decide +kernel)) ggX4_knot_X4_finishAct
theorem dX4_knot_0 : decode cX4_knot 0 = .ok (.aload_n 0, 1) := by decide +kernel
theorem dX4_knot_1 : decode cX4_knot 1 = .ok (.getfield 16, 3) := by decide +kernel
theorem dX4_knot_4 : decode cX4_knot 4 = .ok (.aload_n 0, 1) := by decide +kernel
theorem dX4_knot_5 : decode cX4_knot 5 = .ok (.getfield 12, 3) := by decide +kernel
theorem dX4_knot_8 : decode cX4_knot 8 = .ok (.invokevirtual 51, 3) := by decide +kernel
theorem dX4_knot_11 : decode cX4_knot 11 = .ok (.aload_n 0, 1) := by decide +kernel
theorem dX4_knot_12 : decode cX4_knot 12 = .ok (.aload_n 0, 1) := by decide +kernel
theorem dX4_knot_13 : decode cX4_knot 13 = .ok (.getfield 16, 3) := by decide +kernel
theorem dX4_knot_16 : decode cX4_knot 16 = .ok (.invokevirtual 66, 3) := by decide +kernel
theorem dX4_knot_19 : decode cX4_knot 19 = .ok (.invokevirtual 59, 3) := by decide +kernel
theorem dX4_knot_22 : decode cX4_knot 22 = .ok (.ireturn, 1) := by decide +kernel
set_option maxRecDepth 20000 in
theorem ggX4_cone_X2_copyFrom : GoodIn wsX4_cone wsX2_copyFrom := goodIn_r _ [6, 7, 8, 9, 10, 11, 12, 13, 14, 15, 16, 17, 18, 19, 20, 21, 22, 23, 24, 25, 26, 27, 28, 29, 30, 73, 74, 75, 76, 77, 78, 79, 80, 81, 82, 83, 84, 85, 86, 87] (by decide +kernel) (by decide +kernel)
set_option maxRecDepth 20000 in
theorem gX4_cone_X2_copyFrom_n51 : GoodIn wsX4_cone (wsX2_copyFrom) := ggX4_cone_X2_copyFrom
set_option maxRecDepth 20000 in
theorem ggX4_cone_X2_changeCone : GoodIn wsX4_cone wsX2_changeCone := goodIn_r _ [33, 14, 7, 16, 34, 35, 36, 37, 38, 39, 40, 41, 42, 43, 44, 73, 74, 75, 76, 77, 78, 79, 80, 81, 82, 83, 84, 85, 86, 87] (by decide +kernel) (by decide +kernel)
set_option maxRecDepth 20000 in
theorem gX4_cone_X2_changeCone_n70 : GoodIn wsX4_cone (wsX2_changeCone) := ggX4_cone_X2_changeCone
set_option maxRecDepth 20000 in
theorem ggX4_cone_X4_finishAct : GoodIn wsX4_cone wsX4_finishAct := goodIn_r _ [48, 49, 2, 1, 50, 51, 52, 53, 54, 55, 56, 57, 58, 59, 60, 61, 62, 63, 64, 3, 4, 5, 6, 7, 8, 9, 10, 11, 12, 13, 14, 15, 16, 17, 18, 19, 20, 21, 22, 23, 24, 25, 26, 27, 28, 29, 30, 65, 66, 67, 68, 69, 70, 71, 72, 88, 89, 90, 73, 74, 75, 76, 77, 78, 79, 80, 81, 82, 83, 84, 85, 86, 87] (by decide +kernel) (by decide +kernel)
set_option maxRecDepth 20000 in
theorem gX4_cone_X4_finishAct : GoodIn wsX4_cone (wsV RX4 59 RX4 yX4_finishAct wsX4_finishAct) := goodIn_app (goodIn_of _ (by decide +kernel)) ggX4_cone_X4_finishAct
theorem dX4_cone_0 : decode cX4_cone 0 = .ok (.aload_n 0, 1) := by decide +kernel
theorem dX4_cone_1 : decode cX4_cone 1 = .ok (.getfield 16, 3) := by decide +kernel
theorem dX4_cone_4 : decode cX4_cone 4 = .ok (.aload_n 0, 1) := by decide +kernel
theorem dX4_cone_5 : decode cX4_cone 5 = .ok (.getfield 12, 3) := by decide +kernel
theorem dX4_cone_8 : decode cX4_cone 8 = .ok (.invokevirtual 51, 3) := by decide +kernel
theorem dX4_cone_11 : decode cX4_cone 11 = .ok (.aload_n 0, 1) := by decide +kernel
theorem dX4_cone_12 : decode cX4_cone 12 = .ok (.aload_n 0, 1) := by decide +kernel
theorem dX4_cone_13 : decode cX4_cone 13 = .ok (.getfield 16, 3) := by decide +kernel
theorem dX4_cone_16 : decode cX4_cone 16 = .ok (.iload_n 1, 1) := by decide +kernel
theorem dX4_cone_17 : decode cX4_cone 17 = .ok (.invokevirtual 70, 3) := by decide +kernel
theorem dX4_cone_20 : decode cX4_cone 20 = .ok (.invokevirtual 59, 3) := by decide +kernel
theorem dX4_cone_23 : decode cX4_cone 23 = .ok (.ireturn, 1) := by decide +kernel
set_option maxRecDepth 20000 in
theorem ggX4_doff_X2_copyFrom : GoodIn wsX4_doff wsX2_copyFrom := goodIn_r _ [6, 7, 8, 9, 10, 11, 12, 13, 14, 15, 16, 17, 18, 19, 20, 21, 22, 23, 24, 25, 26, 27, 28, 29, 30, 71, 72, 73, 74, 75, 76, 77, 78, 79, 80, 81, 82, 83, 84, 85] (by decide +kernel) (by decide +kernel)
set_option maxRecDepth 20000 in
theorem gX4_doff_X2_copyFrom_n51 : GoodIn wsX4_doff (wsX2_copyFrom) := ggX4_doff_X2_copyFrom
set_option maxRecDepth 20000 in
theorem ggX4_doff_X2_takePackageOff : GoodIn wsX4_doff wsX2_takePackageOff := goodIn_r _ [33, 7, 8, 16, 17, 18, 21, 34, 23, 35, 36, 26, 28, 29, 30, 37, 38, 39, 40, 41, 71, 72, 73, 74, 75, 76, 77, 78, 79, 80, 81, 82, 83, 84, 85] (by decide +kernel) (by decide +kernel)
set_option maxRecDepth 20000 in
theorem gX4_doff_X2_takePackageOff_n73 : GoodIn wsX4_doff (wsX2_takePackageOff) := ggX4_doff_X2_takePackageOff
set_option maxRecDepth 20000 in
theorem ggX4_doff_X4_finishAct : GoodIn wsX4_doff wsX4_finishAct := goodIn_r _ [46, 47, 2, 1, 48, 49, 50, 51, 52, 53, 54, 55, 56, 57, 58, 59, 60, 61, 62, 3, 4, 5, 6, 7, 8, 9, 10, 11, 12, 13, 14, 15, 16, 17, 18, 19, 20, 21, 22, 23, 24, 25, 26, 27, 28, 29, 30, 63, 64, 65, 66, 67, 68, 69, 70, 86, 87, 88, 71, 72, 73, 74, 75, 76, 77, 78, 79, 80, 81, 82, 83, 84, 85] (by decide +kernel) (by decide +kernel)
set_option maxRecDepth 20000 in
theorem gX4_doff_X4_finishAct : GoodIn wsX4_doff (wsV RX4 59 RX4 yX4_finishAct wsX4_finishAct) := goodIn_app (goodIn_of _ (by decide +kernel)) ggX4_doff_X4_finishAct
theorem dX4_doff_0 : decode cX4_doff 0 = .ok (.aload_n 0, 1) := by decide +kernel
theorem dX4_doff_1 : decode cX4_doff 1 = .ok (.getfield 16, 3) := by decide +kernel
theorem dX4_doff_4 : decode cX4_doff 4 = .ok (.aload_n 0, 1) := by decide +kernel
theorem dX4_doff_5 : decode cX4_doff 5 = .ok (.getfield 12, 3) := by decide +kernel
theorem dX4_doff_8 : decode cX4_doff 8 = .ok (.invokevirtual 51, 3) := by decide +kernel
theorem dX4_doff_11 : decode cX4_doff 11 = .ok (.aload_n 0, 1) := by decide +kernel
theorem dX4_doff_12 : decode cX4_doff 12 = .ok (.aload_n 0, 1) := by decide +kernel
theorem dX4_doff_13 : decode cX4_doff 13 = .ok (.getfield 16, 3) := by decide +kernel
theorem dX4_doff_16 : decode cX4_doff 16 = .ok (.invokevirtual 73, 3) := by decide +kernel
theorem dX4_doff_19 : decode cX4_doff 19 = .ok (.invokevirtual 59, 3) := by decide +kernel
theorem dX4_doff_22 : decode cX4_doff 22 = .ok (.ireturn, 1) := by decide +kernel
set_option maxRecDepth 20000 in
theorem ggX4_type_X0_append : GoodIn wsX4_type wsX0_append := goodIn_r _ [5, 6, 7, 16, 17, 18, 19, 20, 21, 22] (by decide +kernel) (by decide +kernel)
set_option maxRecDepth 20000 in
theorem gX4_type_X0_append_n76 : GoodIn wsX4_type (wsX0_append) := ggX4_type_X0_append
theorem dX4_type_0 : decode cX4_type 0 = .ok (.aload_n 0, 1) := by decide +kernel
theorem dX4_type_1 : decode cX4_type 1 = .ok (.getfield 39, 3) := by decide +kernel
theorem dX4_type_4 : decode cX4_type 4 = .ok (.iload_n 1, 1) := by decide +kernel
theorem dX4_type_5 : decode cX4_type 5 = .ok (.invokevirtual 76, 3) := by decide +kernel
theorem dX4_type_8 : decode cX4_type 8 = .ok (.ireturn, 1) := by decide +kernel
set_option maxRecDepth 20000 in
theorem ggX4_clearText_X0_empty : GoodIn wsX4_clearText wsX0_empty := goodIn_r _ [5, 6, 15, 16, 17, 18, 19, 20, 21] (by decide +kernel) (by decide +kernel)
set_option maxRecDepth 20000 in
theorem gX4_clearText_X0_empty_n80 : GoodIn wsX4_clearText (wsX0_empty) := ggX4_clearText_X0_empty
theorem dX4_clearText_0 : decode cX4_clearText 0 = .ok (.aload_n 0, 1) := by decide +kernel
theorem dX4_clearText_1 : decode cX4_clearText 1 = .ok (.getfield 39, 3) := by decide +kernel
theorem dX4_clearText_4 : decode cX4_clearText 4 = .ok (.invokevirtual 80, 3) := by decide +kernel
theorem dX4_clearText_7 : decode cX4_clearText 7 = .ok (.ireturn, 1) := by decide +kernel
set_option maxRecDepth 20000 in
theorem ggX4_perform_X0_read : GoodIn wsX4_perform wsX0_read := goodIn_r _ [8, 9, 10, 11, 12, 13, 14, 15, 16, 6, 17, 18, 19, 20, 21, 22, 23, 24, 25, 26, 27, 28, 29, 30, 31, 32, 33, 34, 35, 36, 37, 38, 39, 40, 41, 177, 178, 179, 180, 181, 182, 183] (by decide +kernel) (by decide +kernel)
set_option maxRecDepth 20000 in
theorem gX4_perform_X0_read_n83 : GoodIn wsX4_perform (wsX0_read) := ggX4_perform_X0_read
set_option maxRecDepth 20000 in
theorem ggX4_perform_X2_copyFrom : GoodIn wsX4_perform wsX2_copyFrom := goodIn_r _ [45, 46, 47, 48, 49, 50, 51, 52, 53, 54, 55, 56, 57, 58, 59, 60, 61, 62, 63, 64, 65, 66, 67, 68, 69, 184, 185, 186, 187, 188, 189, 190, 191, 192, 193, 194, 195, 196, 197, 198] (by decide +kernel) (by decide +kernel)
set_option maxRecDepth 20000 in
theorem gX4_perform_X2_copyFrom_n51 : GoodIn wsX4_perform (wsX2_copyFrom) := ggX4_perform_X2_copyFrom
set_option maxRecDepth 20000 in
theorem ggX4_perform_X0_commandAt : GoodIn wsX4_perform wsX0_commandAt := goodIn_r _ [72, 33, 177, 178, 179, 180, 181, 182, 183] (by decide +kernel) (by decide +kernel)
set_option maxRecDepth 20000 in
theorem gX4_perform_X0_commandAt_n89 : GoodIn wsX4_perform (wsX0_commandAt) := ggX4_perform_X0_commandAt
set_option maxRecDepth 20000 in
theorem ggX4_perform_X0_valueAt : GoodIn wsX4_perform wsX0_valueAt := goodIn_r _ [75, 34, 177, 178, 179, 180, 181, 182, 183] (by decide +kernel) (by decide +kernel)
set_option maxRecDepth 20000 in
theorem gX4_perform_X0_valueAt_n92 : GoodIn wsX4_perform (wsX0_valueAt) := ggX4_perform_X0_valueAt
set_option maxRecDepth 20000 in
theorem ggX4_perform_X2_obey : GoodIn wsX4_perform wsX2_obey := goodIn_r _ [78, 79, 80, 81, 43, 82, 46, 83, 26, 84, 85, 25, 27, 28, 86, 39, 40, 41, 87, 88, 89, 90, 55, 91, 92, 93, 94, 53, 95, 62, 96, 97, 68, 98, 99, 100, 101, 58, 57, 56, 59, 102, 103, 104, 69, 105, 106, 107, 65, 108, 109, 110, 67, 111, 112, 113, 114, 115, 116, 117, 118, 119, 54, 120, 121, 122, 123, 124, 125, 126, 52, 127, 128, 129, 130, 131, 132, 133, 134, 135, 136, 137, 138, 139, 140, 141, 142, 143, 144, 145, 146, 147, 47, 148, 149, 150, 151, 184, 185, 186, 187, 188, 189, 190, 191, 192, 193, 194, 195, 196, 197, 198] (by decide +kernel) (by decide +kernel)
set_option maxRecDepth 20000 in
theorem gX4_perform_X2_obey_n95 : GoodIn wsX4_perform (wsX2_obey) := ggX4_perform_X2_obey
set_option maxRecDepth 20000 in
theorem ggX4_perform_X4_finishAct : GoodIn wsX4_perform wsX4_finishAct := goodIn_r _ [155, 156, 3, 2, 157, 158, 159, 160, 161, 162, 163, 132, 113, 133, 164, 165, 166, 167, 168, 42, 43, 44, 45, 46, 47, 48, 49, 50, 51, 52, 53, 54, 55, 56, 57, 58, 59, 60, 61, 62, 63, 64, 65, 66, 67, 68, 69, 169, 170, 171, 172, 173, 174, 175, 176, 199, 200, 201, 184, 185, 186, 187, 188, 189, 190, 191, 192, 193, 194, 195, 196, 197, 198] (by decide +kernel) (by decide +kernel)
set_option maxRecDepth 20000 in
theorem gX4_perform_X4_finishAct : GoodIn wsX4_perform (wsV RX4 59 RX4 yX4_finishAct wsX4_finishAct) := goodIn_app (goodIn_of _ (by decide +kernel)) ggX4_perform_X4_finishAct
theorem dX4_perform_0 : decode cX4_perform 0 = .ok (.aload_n 0, 1) := by decide +kernel
theorem dX4_perform_1 : decode cX4_perform 1 = .ok (.getfield 39, 3) := by decide +kernel
theorem dX4_perform_4 : decode cX4_perform 4 = .ok (.invokevirtual 83, 3) := by decide +kernel
theorem dX4_perform_7 : decode cX4_perform 7 = .ok (.istore_n 1, 1) := by decide +kernel
theorem dX4_perform_8 : decode cX4_perform 8 = .ok (.iload_n 1, 1) := by decide +kernel
theorem dX4_perform_9 : decode cX4_perform 9 = .ok (.iconst (-1), 1) := by decide +kernel
theorem dX4_perform_10 : decode cX4_perform 10 = .ok (.if_icmp .eq 8, 3) := by decide +kernel
theorem dX4_perform_13 : decode cX4_perform 13 = .ok (.bipush (-100), 2) := by decide +kernel
theorem dX4_perform_15 : decode cX4_perform 15 = .ok (.iload_n 1, 1) := by decide +kernel
theorem dX4_perform_16 : decode cX4_perform 16 = .ok (.isub, 1) := by decide +kernel
theorem dX4_perform_17 : decode cX4_perform 17 = .ok (.ireturn, 1) := by decide +kernel
theorem dX4_perform_18 : decode cX4_perform 18 = .ok (.aload_n 0, 1) := by decide +kernel
theorem dX4_perform_19 : decode cX4_perform 19 = .ok (.getfield 16, 3) := by decide +kernel
theorem dX4_perform_22 : decode cX4_perform 22 = .ok (.aload_n 0, 1) := by decide +kernel
theorem dX4_perform_23 : decode cX4_perform 23 = .ok (.getfield 12, 3) := by decide +kernel
theorem dX4_perform_26 : decode cX4_perform 26 = .ok (.invokevirtual 51, 3) := by decide +kernel
theorem dX4_perform_29 : decode cX4_perform 29 = .ok (.iconst 0, 1) := by decide +kernel
theorem dX4_perform_30 : decode cX4_perform 30 = .ok (.istore_n 2, 1) := by decide +kernel
theorem dX4_perform_31 : decode cX4_perform 31 = .ok (.iload_n 2, 1) := by decide +kernel
theorem dX4_perform_32 : decode cX4_perform 32 = .ok (.aload_n 0, 1) := by decide +kernel
theorem dX4_perform_33 : decode cX4_perform 33 = .ok (.getfield 39, 3) := by decide +kernel
theorem dX4_perform_36 : decode cX4_perform 36 = .ok (.getfield 86, 3) := by decide +kernel
theorem dX4_perform_39 : decode cX4_perform 39 = .ok (.if_icmp .ge 51, 3) := by decide +kernel
theorem dX4_perform_42 : decode cX4_perform 42 = .ok (.aload_n 0, 1) := by decide +kernel
theorem dX4_perform_43 : decode cX4_perform 43 = .ok (.getfield 16, 3) := by decide +kernel
theorem dX4_perform_46 : decode cX4_perform 46 = .ok (.aload_n 0, 1) := by decide +kernel
theorem dX4_perform_47 : decode cX4_perform 47 = .ok (.getfield 39, 3) := by decide +kernel
theorem dX4_perform_50 : decode cX4_perform 50 = .ok (.iload_n 2, 1) := by decide +kernel
theorem dX4_perform_51 : decode cX4_perform 51 = .ok (.invokevirtual 89, 3) := by decide +kernel
theorem dX4_perform_54 : decode cX4_perform 54 = .ok (.aload_n 0, 1) := by decide +kernel
theorem dX4_perform_55 : decode cX4_perform 55 = .ok (.getfield 39, 3) := by decide +kernel
theorem dX4_perform_58 : decode cX4_perform 58 = .ok (.iload_n 2, 1) := by decide +kernel
theorem dX4_perform_59 : decode cX4_perform 59 = .ok (.invokevirtual 92, 3) := by decide +kernel
theorem dX4_perform_62 : decode cX4_perform 62 = .ok (.invokevirtual 95, 3) := by decide +kernel
theorem dX4_perform_65 : decode cX4_perform 65 = .ok (.istore_n 3, 1) := by decide +kernel
theorem dX4_perform_66 : decode cX4_perform 66 = .ok (.iload_n 3, 1) := by decide +kernel
theorem dX4_perform_67 : decode cX4_perform 67 = .ok (.ifCond .ge 17, 3) := by decide +kernel
theorem dX4_perform_70 : decode cX4_perform 70 = .ok (.iload_n 3, 1) := by decide +kernel
theorem dX4_perform_71 : decode cX4_perform 71 = .ok (.bipush (-5), 2) := by decide +kernel
theorem dX4_perform_73 : decode cX4_perform 73 = .ok (.if_icmp .eq 11, 3) := by decide +kernel
theorem dX4_perform_76 : decode cX4_perform 76 = .ok (.aload_n 0, 1) := by decide +kernel
theorem dX4_perform_77 : decode cX4_perform 77 = .ok (.iload_n 2, 1) := by decide +kernel
theorem dX4_perform_78 : decode cX4_perform 78 = .ok (.putfield 47, 3) := by decide +kernel
theorem dX4_perform_81 : decode cX4_perform 81 = .ok (.bipush (-4), 2) := by decide +kernel
theorem dX4_perform_83 : decode cX4_perform 83 = .ok (.ireturn, 1) := by decide +kernel
theorem dX4_perform_84 : decode cX4_perform 84 = .ok (.iinc 2 1, 3) := by decide +kernel
theorem dX4_perform_87 : decode cX4_perform 87 = .ok (.goto (-56), 3) := by decide +kernel
theorem dX4_perform_90 : decode cX4_perform 90 = .ok (.aload_n 0, 1) := by decide +kernel
theorem dX4_perform_91 : decode cX4_perform 91 = .ok (.aload_n 0, 1) := by decide +kernel
theorem dX4_perform_92 : decode cX4_perform 92 = .ok (.getfield 39, 3) := by decide +kernel
theorem dX4_perform_95 : decode cX4_perform 95 = .ok (.getfield 86, 3) := by decide +kernel
theorem dX4_perform_98 : decode cX4_perform 98 = .ok (.invokevirtual 59, 3) := by decide +kernel
theorem dX4_perform_101 : decode cX4_perform 101 = .ok (.ireturn, 1) := by decide +kernel
theorem dX4_stopped_0 : decode cX4_stopped 0 = .ok (.aload_n 0, 1) := by decide +kernel
theorem dX4_stopped_1 : decode cX4_stopped 1 = .ok (.getfield 47, 3) := by decide +kernel
theorem dX4_stopped_4 : decode cX4_stopped 4 = .ok (.ireturn, 1) := by decide +kernel
set_option maxRecDepth 20000 in
theorem ggX4_undo_X1_takeLatest : GoodIn wsX4_undo wsX1_takeLatest := goodIn_r _ [6, 7, 8, 9, 10, 11, 4, 12, 13, 14, 15, 16, 17, 18, 19, 20, 21, 22, 23, 24, 25, 26, 27, 28, 29, 30, 31, 32, 33, 34, 35, 36, 37, 38, 39, 40, 41, 50, 51, 52, 53, 54, 55, 56, 57, 58, 59, 60, 61, 62, 63, 64, 65, 66, 67] (by decide +kernel) (by decide +kernel)
set_option maxRecDepth 20000 in
theorem gX4_undo_X1_takeLatest_n98 : GoodIn wsX4_undo (wsX1_takeLatest) := ggX4_undo_X1_takeLatest
theorem dX4_undo_0 : decode cX4_undo 0 = .ok (.aload_n 0, 1) := by decide +kernel
theorem dX4_undo_1 : decode cX4_undo 1 = .ok (.getfield 32, 3) := by decide +kernel
theorem dX4_undo_4 : decode cX4_undo 4 = .ok (.aload_n 0, 1) := by decide +kernel
theorem dX4_undo_5 : decode cX4_undo 5 = .ok (.getfield 12, 3) := by decide +kernel
theorem dX4_undo_8 : decode cX4_undo 8 = .ok (.invokevirtual 98, 3) := by decide +kernel
theorem dX4_undo_11 : decode cX4_undo 11 = .ok (.ireturn, 1) := by decide +kernel
set_option maxRecDepth 20000 in
theorem ggX4_keep_X2_copyFrom : GoodIn wsX4_keep wsX2_copyFrom := goodIn_r _ [7, 8, 9, 10, 11, 12, 13, 14, 15, 16, 17, 18, 19, 20, 21, 22, 23, 24, 25, 26, 27, 28, 29, 30, 31, 40, 41, 42, 43, 44, 45, 46, 47, 48, 49, 50, 51, 52, 53, 54] (by decide +kernel) (by decide +kernel)
set_option maxRecDepth 20000 in
theorem gX4_keep_X2_copyFrom_n51 : GoodIn wsX4_keep (wsX2_copyFrom) := ggX4_keep_X2_copyFrom
theorem dX4_keep_0 : decode cX4_keep 0 = .ok (.aload_n 0, 1) := by decide +kernel
theorem dX4_keep_1 : decode cX4_keep 1 = .ok (.getfield 19, 3) := by decide +kernel
theorem dX4_keep_4 : decode cX4_keep 4 = .ok (.aload_n 0, 1) := by decide +kernel
theorem dX4_keep_5 : decode cX4_keep 5 = .ok (.getfield 12, 3) := by decide +kernel
theorem dX4_keep_8 : decode cX4_keep 8 = .ok (.invokevirtual 51, 3) := by decide +kernel
theorem dX4_keep_11 : decode cX4_keep 11 = .ok (.aload_n 0, 1) := by decide +kernel
theorem dX4_keep_12 : decode cX4_keep 12 = .ok (.iconst 1, 1) := by decide +kernel
theorem dX4_keep_13 : decode cX4_keep 13 = .ok (.putfield 43, 3) := by decide +kernel
theorem dX4_keep_16 : decode cX4_keep 16 = .ok (.aload_n 0, 1) := by decide +kernel
theorem dX4_keep_17 : decode cX4_keep 17 = .ok (.getfield 12, 3) := by decide +kernel
theorem dX4_keep_20 : decode cX4_keep 20 = .ok (.getfield 102, 3) := by decide +kernel
theorem dX4_keep_23 : decode cX4_keep 23 = .ok (.getfield 105, 3) := by decide +kernel
theorem dX4_keep_26 : decode cX4_keep 26 = .ok (.ireturn, 1) := by decide +kernel
set_option maxRecDepth 20000 in
theorem ggX4_restore_X2_copyFrom : GoodIn wsX4_restore wsX2_copyFrom := goodIn_r _ [7, 8, 9, 10, 11, 12, 13, 14, 15, 16, 17, 18, 19, 20, 21, 22, 23, 24, 25, 26, 27, 28, 29, 30, 31, 62, 63, 64, 65, 66, 67, 68, 69, 70, 71, 72, 73, 74, 75, 76] (by decide +kernel) (by decide +kernel)
set_option maxRecDepth 20000 in
theorem gX4_restore_X2_copyFrom_n51 : GoodIn wsX4_restore (wsX2_copyFrom) := ggX4_restore_X2_copyFrom
set_option maxRecDepth 20000 in
theorem ggX4_restore_X4_finishAct : GoodIn wsX4_restore wsX4_finishAct := goodIn_r _ [36, 37, 38, 2, 39, 40, 41, 42, 43, 44, 45, 46, 47, 48, 49, 50, 51, 52, 53, 4, 5, 6, 7, 8, 9, 10, 11, 12, 13, 14, 15, 16, 17, 18, 19, 20, 21, 22, 23, 24, 25, 26, 27, 28, 29, 30, 31, 54, 55, 56, 57, 58, 59, 60, 61, 77, 78, 79, 62, 63, 64, 65, 66, 67, 68, 69, 70, 71, 72, 73, 74, 75, 76] (by decide +kernel) (by decide +kernel)
set_option maxRecDepth 20000 in
theorem gX4_restore_X4_finishAct : GoodIn wsX4_restore (wsV RX4 59 RX4 yX4_finishAct wsX4_finishAct) := goodIn_app (goodIn_of _ (by decide +kernel)) ggX4_restore_X4_finishAct
theorem dX4_restore_0 : decode cX4_restore 0 = .ok (.aload_n 0, 1) := by decide +kernel
theorem dX4_restore_1 : decode cX4_restore 1 = .ok (.getfield 43, 3) := by decide +kernel
theorem dX4_restore_4 : decode cX4_restore 4 = .ok (.ifCond .ne 6, 3) := by decide +kernel
theorem dX4_restore_7 : decode cX4_restore 7 = .ok (.bipush (-5), 2) := by decide +kernel
theorem dX4_restore_9 : decode cX4_restore 9 = .ok (.ireturn, 1) := by decide +kernel
theorem dX4_restore_10 : decode cX4_restore 10 = .ok (.aload_n 0, 1) := by decide +kernel
theorem dX4_restore_11 : decode cX4_restore 11 = .ok (.getfield 16, 3) := by decide +kernel
theorem dX4_restore_14 : decode cX4_restore 14 = .ok (.aload_n 0, 1) := by decide +kernel
theorem dX4_restore_15 : decode cX4_restore 15 = .ok (.getfield 19, 3) := by decide +kernel
theorem dX4_restore_18 : decode cX4_restore 18 = .ok (.invokevirtual 51, 3) := by decide +kernel
theorem dX4_restore_21 : decode cX4_restore 21 = .ok (.aload_n 0, 1) := by decide +kernel
theorem dX4_restore_22 : decode cX4_restore 22 = .ok (.aload_n 0, 1) := by decide +kernel
theorem dX4_restore_23 : decode cX4_restore 23 = .ok (.getfield 16, 3) := by decide +kernel
theorem dX4_restore_26 : decode cX4_restore 26 = .ok (.getfield 102, 3) := by decide +kernel
theorem dX4_restore_29 : decode cX4_restore 29 = .ok (.getfield 105, 3) := by decide +kernel
theorem dX4_restore_32 : decode cX4_restore 32 = .ok (.invokevirtual 59, 3) := by decide +kernel
theorem dX4_restore_35 : decode cX4_restore 35 = .ok (.ireturn, 1) := by decide +kernel
set_option maxRecDepth 20000 in
theorem ggX4_place_X3_heightAt : GoodIn wsX4_place wsX3_heightAt := goodIn_r _ [5, 6, 47, 48, 49, 50] (by decide +kernel) (by decide +kernel)
set_option maxRecDepth 20000 in
theorem gX4_place_X3_heightAt_n108 : GoodIn wsX4_place (wsX3_heightAt) := ggX4_place_X3_heightAt
set_option maxRecDepth 20000 in
theorem ggX4_place_X2_knotsAt : GoodIn wsX4_place wsX2_knotsAt := goodIn_r _ [10, 11, 36, 37, 38, 39, 40, 41, 42, 43, 44, 45, 46] (by decide +kernel) (by decide +kernel)
set_option maxRecDepth 20000 in
theorem gX4_place_X2_knotsAt_n111 : GoodIn wsX4_place (wsX2_knotsAt) := ggX4_place_X2_knotsAt
set_option maxRecDepth 20000 in
theorem ggX4_place_X3_isRibbon : GoodIn wsX4_place wsX3_isRibbon := goodIn_r _ [14, 15, 16, 17, 3, 18, 19, 2, 4, 5, 6, 47, 48, 49, 50] (by decide +kernel) (by decide +kernel)
set_option maxRecDepth 20000 in
theorem gX4_place_X3_isRibbon_n114 : GoodIn wsX4_place (wsX3_isRibbon) := ggX4_place_X3_isRibbon
set_option maxRecDepth 20000 in
theorem ggX4_place_X4_oneIf : GoodIn wsX4_place wsX4_oneIf := goodIn_r _ [23] (by decide +kernel) (by decide +kernel)
set_option maxRecDepth 20000 in
theorem gX4_place_X4_oneIf : GoodIn wsX4_place (va_wsS RX4 118 yX4_oneIf wsX4_oneIf) := goodIn_app (goodIn_of _ (by decide +kernel)) ggX4_place_X4_oneIf
set_option maxRecDepth 20000 in
theorem ggX4_place_X2_isBad : GoodIn wsX4_place wsX2_isBad := goodIn_r _ [26, 27, 7, 9, 8, 10, 11, 36, 37, 38, 39, 40, 41, 42, 43, 44, 45, 46] (by decide +kernel) (by decide +kernel)
set_option maxRecDepth 20000 in
theorem gX4_place_X2_isBad_n122 : GoodIn wsX4_place (wsX2_isBad) := ggX4_place_X2_isBad
theorem dX4_place_0 : decode cX4_place 0 = .ok (.iload_n 1, 1) := by decide +kernel
theorem dX4_place_1 : decode cX4_place 1 = .ok (.ifCond .lt 9, 3) := by decide +kernel
theorem dX4_place_4 : decode cX4_place 4 = .ok (.iload_n 1, 1) := by decide +kernel
theorem dX4_place_5 : decode cX4_place 5 = .ok (.bipush 12, 2) := by decide +kernel
theorem dX4_place_7 : decode cX4_place 7 = .ok (.if_icmp .lt 5, 3) := by decide +kernel
theorem dX4_place_10 : decode cX4_place 10 = .ok (.iconst (-1), 1) := by decide +kernel
theorem dX4_place_11 : decode cX4_place 11 = .ok (.ireturn, 1) := by decide +kernel
theorem dX4_place_12 : decode cX4_place 12 = .ok (.iload_n 2, 1) := by decide +kernel
theorem dX4_place_13 : decode cX4_place 13 = .ok (.tableswitch 79 0 3 #[31, 43, 52, 67], 31) := by decide +kernel
theorem dX4_place_44 : decode cX4_place 44 = .ok (.aload_n 0, 1) := by decide +kernel
theorem dX4_place_45 : decode cX4_place 45 = .ok (.getfield 12, 3) := by decide +kernel
theorem dX4_place_48 : decode cX4_place 48 = .ok (.getfield 102, 3) := by decide +kernel
theorem dX4_place_51 : decode cX4_place 51 = .ok (.iload_n 1, 1) := by decide +kernel
theorem dX4_place_52 : decode cX4_place 52 = .ok (.invokevirtual 108, 3) := by decide +kernel
theorem dX4_place_55 : decode cX4_place 55 = .ok (.ireturn, 1) := by decide +kernel
theorem dX4_place_56 : decode cX4_place 56 = .ok (.aload_n 0, 1) := by decide +kernel
theorem dX4_place_57 : decode cX4_place 57 = .ok (.getfield 12, 3) := by decide +kernel
theorem dX4_place_60 : decode cX4_place 60 = .ok (.iload_n 1, 1) := by decide +kernel
theorem dX4_place_61 : decode cX4_place 61 = .ok (.invokevirtual 111, 3) := by decide +kernel
theorem dX4_place_64 : decode cX4_place 64 = .ok (.ireturn, 1) := by decide +kernel
theorem dX4_place_65 : decode cX4_place 65 = .ok (.aload_n 0, 1) := by decide +kernel
theorem dX4_place_66 : decode cX4_place 66 = .ok (.getfield 12, 3) := by decide +kernel
theorem dX4_place_69 : decode cX4_place 69 = .ok (.getfield 102, 3) := by decide +kernel
theorem dX4_place_72 : decode cX4_place 72 = .ok (.iload_n 1, 1) := by decide +kernel
theorem dX4_place_73 : decode cX4_place 73 = .ok (.invokevirtual 114, 3) := by decide +kernel
theorem dX4_place_76 : decode cX4_place 76 = .ok (.invokestatic 118, 3) := by decide +kernel
theorem dX4_place_79 : decode cX4_place 79 = .ok (.ireturn, 1) := by decide +kernel
theorem dX4_place_80 : decode cX4_place 80 = .ok (.aload_n 0, 1) := by decide +kernel
theorem dX4_place_81 : decode cX4_place 81 = .ok (.getfield 12, 3) := by decide +kernel
theorem dX4_place_84 : decode cX4_place 84 = .ok (.iload_n 1, 1) := by decide +kernel
theorem dX4_place_85 : decode cX4_place 85 = .ok (.invokevirtual 122, 3) := by decide +kernel
theorem dX4_place_88 : decode cX4_place 88 = .ok (.invokestatic 118, 3) := by decide +kernel
theorem dX4_place_91 : decode cX4_place 91 = .ok (.ireturn, 1) := by decide +kernel
theorem dX4_place_92 : decode cX4_place 92 = .ok (.bipush (-2), 2) := by decide +kernel
theorem dX4_place_94 : decode cX4_place 94 = .ok (.ireturn, 1) := by decide +kernel
set_option maxRecDepth 20000 in
theorem ggX4_wrong_X2_isConeEmpty : GoodIn wsX4_wrong wsX2_isConeEmpty := goodIn_r _ [5, 6, 55, 56, 57, 58, 59, 60, 61, 62, 63, 64, 65] (by decide +kernel) (by decide +kernel)
set_option maxRecDepth 20000 in
theorem gX4_wrong_X2_isConeEmpty_n128 : GoodIn wsX4_wrong (wsX2_isConeEmpty) := ggX4_wrong_X2_isConeEmpty
set_option maxRecDepth 20000 in
theorem ggX4_wrong_X2_hasBadPlace : GoodIn wsX4_wrong wsX2_hasBadPlace := goodIn_r _ [9, 10, 11, 12, 3, 13, 14, 15, 16, 17, 18, 55, 56, 57, 58, 59, 60, 61, 62, 63, 64, 65] (by decide +kernel) (by decide +kernel)
set_option maxRecDepth 20000 in
theorem gX4_wrong_X2_hasBadPlace_n132 : GoodIn wsX4_wrong (wsX2_hasBadPlace) := ggX4_wrong_X2_hasBadPlace
set_option maxRecDepth 20000 in
theorem ggX4_wrong_X3_ribbons : GoodIn wsX4_wrong wsX3_ribbons := goodIn_r _ [22, 23, 24, 25, 20, 26, 27, 28, 29, 30, 31, 32, 33, 34, 35, 36, 37, 38, 66, 67, 68, 69] (by decide +kernel) (by decide +kernel)
set_option maxRecDepth 20000 in
theorem gX4_wrong_X3_ribbons_n135 : GoodIn wsX4_wrong (wsX3_ribbons) := ggX4_wrong_X3_ribbons
set_option maxRecDepth 20000 in
theorem ggX4_wrong_X3_evenness : GoodIn wsX4_wrong wsX3_evenness := goodIn_r _ [41, 42, 35, 43, 44, 45, 46, 66, 67, 68, 69] (by decide +kernel) (by decide +kernel)
set_option maxRecDepth 20000 in
theorem gX4_wrong_X3_evenness_n138 : GoodIn wsX4_wrong (wsX3_evenness) := ggX4_wrong_X3_evenness
theorem dX4_wrong_0 : decode cX4_wrong 0 = .ok (.aload_n 0, 1) := by decide +kernel
theorem dX4_wrong_1 : decode cX4_wrong 1 = .ok (.getfield 12, 3) := by decide +kernel
theorem dX4_wrong_4 : decode cX4_wrong 4 = .ok (.getfield 125, 3) := by decide +kernel
theorem dX4_wrong_7 : decode cX4_wrong 7 = .ok (.ifCond .eq 5, 3) := by decide +kernel
theorem dX4_wrong_10 : decode cX4_wrong 10 = .ok (.iconst 1, 1) := by decide +kernel
theorem dX4_wrong_11 : decode cX4_wrong 11 = .ok (.ireturn, 1) := by decide +kernel
theorem dX4_wrong_12 : decode cX4_wrong 12 = .ok (.aload_n 0, 1) := by decide +kernel
theorem dX4_wrong_13 : decode cX4_wrong 13 = .ok (.getfield 12, 3) := by decide +kernel
theorem dX4_wrong_16 : decode cX4_wrong 16 = .ok (.invokevirtual 128, 3) := by decide +kernel
theorem dX4_wrong_19 : decode cX4_wrong 19 = .ok (.ifCond .eq 5, 3) := by decide +kernel
theorem dX4_wrong_22 : decode cX4_wrong 22 = .ok (.iconst 2, 1) := by decide +kernel
theorem dX4_wrong_23 : decode cX4_wrong 23 = .ok (.ireturn, 1) := by decide +kernel
theorem dX4_wrong_24 : decode cX4_wrong 24 = .ok (.aload_n 0, 1) := by decide +kernel
theorem dX4_wrong_25 : decode cX4_wrong 25 = .ok (.getfield 12, 3) := by decide +kernel
theorem dX4_wrong_28 : decode cX4_wrong 28 = .ok (.invokevirtual 132, 3) := by decide +kernel
theorem dX4_wrong_31 : decode cX4_wrong 31 = .ok (.ifCond .eq 5, 3) := by decide +kernel
theorem dX4_wrong_34 : decode cX4_wrong 34 = .ok (.iconst 3, 1) := by decide +kernel
theorem dX4_wrong_35 : decode cX4_wrong 35 = .ok (.ireturn, 1) := by decide +kernel
theorem dX4_wrong_36 : decode cX4_wrong 36 = .ok (.aload_n 0, 1) := by decide +kernel
theorem dX4_wrong_37 : decode cX4_wrong 37 = .ok (.getfield 12, 3) := by decide +kernel
theorem dX4_wrong_40 : decode cX4_wrong 40 = .ok (.getfield 102, 3) := by decide +kernel
theorem dX4_wrong_43 : decode cX4_wrong 43 = .ok (.invokevirtual 135, 3) := by decide +kernel
theorem dX4_wrong_46 : decode cX4_wrong 46 = .ok (.ifCond .le 5, 3) := by decide +kernel
theorem dX4_wrong_49 : decode cX4_wrong 49 = .ok (.iconst 4, 1) := by decide +kernel
theorem dX4_wrong_50 : decode cX4_wrong 50 = .ok (.ireturn, 1) := by decide +kernel
theorem dX4_wrong_51 : decode cX4_wrong 51 = .ok (.aload_n 0, 1) := by decide +kernel
theorem dX4_wrong_52 : decode cX4_wrong 52 = .ok (.getfield 12, 3) := by decide +kernel
theorem dX4_wrong_55 : decode cX4_wrong 55 = .ok (.getfield 102, 3) := by decide +kernel
theorem dX4_wrong_58 : decode cX4_wrong 58 = .ok (.invokevirtual 138, 3) := by decide +kernel
theorem dX4_wrong_61 : decode cX4_wrong 61 = .ok (.bipush 10, 2) := by decide +kernel
theorem dX4_wrong_63 : decode cX4_wrong 63 = .ok (.if_icmp .lt 7, 3) := by decide +kernel
theorem dX4_wrong_66 : decode cX4_wrong 66 = .ok (.iconst 5, 1) := by decide +kernel
theorem dX4_wrong_67 : decode cX4_wrong 67 = .ok (.goto 4, 3) := by decide +kernel
theorem dX4_wrong_70 : decode cX4_wrong 70 = .ok (.iconst 0, 1) := by decide +kernel
theorem dX4_wrong_71 : decode cX4_wrong 71 = .ok (.ireturn, 1) := by decide +kernel
set_option maxRecDepth 20000 in
theorem ggX4_breaksIn_X2_isConeEmpty : GoodIn wsX4_breaksIn wsX2_isConeEmpty := goodIn_r _ [6, 7, 92, 93, 94, 95, 96, 97, 98, 99, 100, 101, 102] (by decide +kernel) (by decide +kernel)
set_option maxRecDepth 20000 in
theorem gX4_breaksIn_X2_isConeEmpty_n128 : GoodIn wsX4_breaksIn (wsX2_isConeEmpty) := ggX4_breaksIn_X2_isConeEmpty
set_option maxRecDepth 20000 in
theorem ggX4_breaksIn_X2_copyFrom : GoodIn wsX4_breaksIn wsX2_copyFrom := goodIn_r _ [10, 11, 12, 13, 14, 15, 16, 17, 7, 18, 19, 20, 21, 22, 23, 24, 25, 26, 27, 28, 29, 30, 31, 32, 33, 92, 93, 94, 95, 96, 97, 98, 99, 100, 101, 102, 103, 104, 105, 106] (by decide +kernel) (by decide +kernel)
set_option maxRecDepth 20000 in
theorem gX4_breaksIn_X2_copyFrom_n51 : GoodIn wsX4_breaksIn (wsX2_copyFrom) := ggX4_breaksIn_X2_copyFrom
set_option maxRecDepth 20000 in
theorem ggX4_breaksIn_X2_isIdle : GoodIn wsX4_breaksIn wsX2_isIdle := goodIn_r _ [36, 19, 11, 37, 3, 5, 4, 6, 7, 38, 26, 39, 40, 32, 92, 93, 94, 95, 96, 97, 98, 99, 100, 101, 102, 103, 104, 105, 106] (by decide +kernel) (by decide +kernel)
set_option maxRecDepth 20000 in
theorem gX4_breaksIn_X2_isIdle_n141 : GoodIn wsX4_breaksIn (wsX2_isIdle) := ggX4_breaksIn_X2_isIdle
set_option maxRecDepth 20000 in
theorem ggX4_breaksIn_X2_turnOnce : GoodIn wsX4_breaksIn wsX2_turnOnce := goodIn_r _ [43, 22, 11, 7, 21, 20, 19, 23, 44, 34, 35, 4, 36, 37, 3, 5, 6, 38, 26, 39, 40, 32, 45, 46, 47, 33, 48, 49, 50, 29, 51, 52, 53, 31, 54, 55, 56, 57, 58, 59, 60, 61, 62, 18, 63, 64, 65, 66, 67, 68, 69, 17, 70, 71, 72, 73, 74, 75, 76, 77, 78, 79, 80, 81, 82, 83, 92, 93, 94, 95, 96, 97, 98, 99, 100, 101, 102, 103, 104, 105, 106] (by decide +kernel) (by decide +kernel)
set_option maxRecDepth 20000 in
theorem gX4_breaksIn_X2_turnOnce_n144 : GoodIn wsX4_breaksIn (wsX2_turnOnce) := ggX4_breaksIn_X2_turnOnce
theorem dX4_breaksIn_0 : decode cX4_breaksIn 0 = .ok (.aload_n 0, 1) := by decide +kernel
theorem dX4_breaksIn_1 : decode cX4_breaksIn 1 = .ok (.getfield 12, 3) := by decide +kernel
theorem dX4_breaksIn_4 : decode cX4_breaksIn 4 = .ok (.getfield 125, 3) := by decide +kernel
theorem dX4_breaksIn_7 : decode cX4_breaksIn 7 = .ok (.ifCond .ne 13, 3) := by decide +kernel
theorem dX4_breaksIn_10 : decode cX4_breaksIn 10 = .ok (.aload_n 0, 1) := by decide +kernel
theorem dX4_breaksIn_11 : decode cX4_breaksIn 11 = .ok (.getfield 12, 3) := by decide +kernel
theorem dX4_breaksIn_14 : decode cX4_breaksIn 14 = .ok (.invokevirtual 128, 3) := by decide +kernel
theorem dX4_breaksIn_17 : decode cX4_breaksIn 17 = .ok (.ifCond .eq 6, 3) := by decide +kernel
theorem dX4_breaksIn_20 : decode cX4_breaksIn 20 = .ok (.bipush (-4), 2) := by decide +kernel
theorem dX4_breaksIn_22 : decode cX4_breaksIn 22 = .ok (.ireturn, 1) := by decide +kernel
theorem dX4_breaksIn_23 : decode cX4_breaksIn 23 = .ok (.aload_n 0, 1) := by decide +kernel
theorem dX4_breaksIn_24 : decode cX4_breaksIn 24 = .ok (.getfield 16, 3) := by decide +kernel
theorem dX4_breaksIn_27 : decode cX4_breaksIn 27 = .ok (.aload_n 0, 1) := by decide +kernel
theorem dX4_breaksIn_28 : decode cX4_breaksIn 28 = .ok (.getfield 12, 3) := by decide +kernel
theorem dX4_breaksIn_31 : decode cX4_breaksIn 31 = .ok (.invokevirtual 51, 3) := by decide +kernel
theorem dX4_breaksIn_34 : decode cX4_breaksIn 34 = .ok (.iconst 1, 1) := by decide +kernel
theorem dX4_breaksIn_35 : decode cX4_breaksIn 35 = .ok (.istore_n 1, 1) := by decide +kernel
theorem dX4_breaksIn_36 : decode cX4_breaksIn 36 = .ok (.iload_n 1, 1) := by decide +kernel
theorem dX4_breaksIn_37 : decode cX4_breaksIn 37 = .ok (.sipush 1000, 3) := by decide +kernel
theorem dX4_breaksIn_40 : decode cX4_breaksIn 40 = .ok (.if_icmp .gt 38, 3) := by decide +kernel
theorem dX4_breaksIn_43 : decode cX4_breaksIn 43 = .ok (.aload_n 0, 1) := by decide +kernel
theorem dX4_breaksIn_44 : decode cX4_breaksIn 44 = .ok (.getfield 16, 3) := by decide +kernel
theorem dX4_breaksIn_47 : decode cX4_breaksIn 47 = .ok (.invokevirtual 141, 3) := by decide +kernel
theorem dX4_breaksIn_50 : decode cX4_breaksIn 50 = .ok (.ifCond .ne 28, 3) := by decide +kernel
theorem dX4_breaksIn_53 : decode cX4_breaksIn 53 = .ok (.aload_n 0, 1) := by decide +kernel
theorem dX4_breaksIn_54 : decode cX4_breaksIn 54 = .ok (.getfield 16, 3) := by decide +kernel
theorem dX4_breaksIn_57 : decode cX4_breaksIn 57 = .ok (.invokevirtual 144, 3) := by decide +kernel
theorem dX4_breaksIn_60 : decode cX4_breaksIn 60 = .ok (.aload_n 0, 1) := by decide +kernel
theorem dX4_breaksIn_61 : decode cX4_breaksIn 61 = .ok (.getfield 16, 3) := by decide +kernel
theorem dX4_breaksIn_64 : decode cX4_breaksIn 64 = .ok (.getfield 125, 3) := by decide +kernel
theorem dX4_breaksIn_67 : decode cX4_breaksIn 67 = .ok (.ifCond .eq 5, 3) := by decide +kernel
theorem dX4_breaksIn_70 : decode cX4_breaksIn 70 = .ok (.iload_n 1, 1) := by decide +kernel
theorem dX4_breaksIn_71 : decode cX4_breaksIn 71 = .ok (.ireturn, 1) := by decide +kernel
theorem dX4_breaksIn_72 : decode cX4_breaksIn 72 = .ok (.iinc 1 1, 3) := by decide +kernel
theorem dX4_breaksIn_75 : decode cX4_breaksIn 75 = .ok (.goto (-39), 3) := by decide +kernel
theorem dX4_breaksIn_78 : decode cX4_breaksIn 78 = .ok (.bipush (-5), 2) := by decide +kernel
theorem dX4_breaksIn_80 : decode cX4_breaksIn 80 = .ok (.ireturn, 1) := by decide +kernel
set_option maxRecDepth 20000 in
theorem ggX4_ifTraverse_X4_inRange : GoodIn wsX4_ifTraverse wsX4_inRange := goodIn_r _ [5, 6, 7, 4, 8, 9, 10, 11, 12, 13] (by decide +kernel) (by decide +kernel)
set_option maxRecDepth 20000 in
theorem gX4_ifTraverse_X4_inRange : GoodIn wsX4_ifTraverse (va_wsS RX4 147 yX4_inRange wsX4_inRange) := goodIn_app (goodIn_of _ (by decide +kernel)) ggX4_ifTraverse_X4_inRange
set_option maxRecDepth 20000 in
theorem ggX4_ifTraverse_X4_imagine : GoodIn wsX4_ifTraverse wsX4_imagine := goodIn_r _ [17, 1, 18, 19, 20, 21, 22, 23, 24, 25, 26, 27, 28, 29, 30, 31, 32, 33, 34, 35, 36, 37, 38, 39, 40, 41, 42, 43, 44, 45, 46, 47, 48, 49, 50, 51, 52, 53, 4, 54, 79, 80, 81, 82, 83, 84, 85, 86, 87, 88, 89, 90, 91, 92, 93, 94, 95, 96, 97, 98, 99, 100, 101] (by decide +kernel) (by decide +kernel)
set_option maxRecDepth 20000 in
theorem gX4_ifTraverse_X4_imagine : GoodIn wsX4_ifTraverse (wsV RX4 151 RX4 yX4_imagine wsX4_imagine) := goodIn_app (goodIn_of _ (by decide +kernel)) ggX4_ifTraverse_X4_imagine
set_option maxRecDepth 20000 in
theorem ggX4_ifTraverse_X3_evenness : GoodIn wsX4_ifTraverse wsX3_evenness := goodIn_r _ [57, 25, 23, 58, 59, 39, 60, 87, 88, 89, 90] (by decide +kernel) (by decide +kernel)
set_option maxRecDepth 20000 in
theorem gX4_ifTraverse_X3_evenness_n138 : GoodIn wsX4_ifTraverse (wsX3_evenness) := ggX4_ifTraverse_X3_evenness
set_option maxRecDepth 20000 in
theorem ggX4_ifTraverse_X3_ribbons : GoodIn wsX4_ifTraverse wsX3_ribbons := goodIn_r _ [63, 64, 65, 66, 20, 67, 68, 69, 70, 71, 72, 73, 74, 75, 23, 53, 4, 54, 87, 88, 89, 90] (by decide +kernel) (by decide +kernel)
set_option maxRecDepth 20000 in
theorem gX4_ifTraverse_X3_ribbons_n135 : GoodIn wsX4_ifTraverse (wsX3_ribbons) := ggX4_ifTraverse_X3_ribbons
set_option maxRecDepth 20000 in
theorem ggX4_ifTraverse_X3_barePlaces : GoodIn wsX4_ifTraverse wsX3_barePlaces := goodIn_r _ [78, 23, 53, 4, 54, 87, 88, 89, 90] (by decide +kernel) (by decide +kernel)
set_option maxRecDepth 20000 in
theorem gX4_ifTraverse_X3_barePlaces_n155 : GoodIn wsX4_ifTraverse (wsX3_barePlaces) := ggX4_ifTraverse_X3_barePlaces
theorem dX4_ifTraverse_0 : decode cX4_ifTraverse 0 = .ok (.iconst 0, 1) := by decide +kernel
theorem dX4_ifTraverse_1 : decode cX4_ifTraverse 1 = .ok (.iload_n 1, 1) := by decide +kernel
theorem dX4_ifTraverse_2 : decode cX4_ifTraverse 2 = .ok (.invokestatic 147, 3) := by decide +kernel
theorem dX4_ifTraverse_5 : decode cX4_ifTraverse 5 = .ok (.ifCond .eq 11, 3) := by decide +kernel
theorem dX4_ifTraverse_8 : decode cX4_ifTraverse 8 = .ok (.iconst 5, 1) := by decide +kernel
theorem dX4_ifTraverse_9 : decode cX4_ifTraverse 9 = .ok (.iload_n 2, 1) := by decide +kernel
theorem dX4_ifTraverse_10 : decode cX4_ifTraverse 10 = .ok (.invokestatic 147, 3) := by decide +kernel
theorem dX4_ifTraverse_13 : decode cX4_ifTraverse 13 = .ok (.ifCond .ne 6, 3) := by decide +kernel
theorem dX4_ifTraverse_16 : decode cX4_ifTraverse 16 = .ok (.bipush (-2), 2) := by decide +kernel
theorem dX4_ifTraverse_18 : decode cX4_ifTraverse 18 = .ok (.ireturn, 1) := by decide +kernel
theorem dX4_ifTraverse_19 : decode cX4_ifTraverse 19 = .ok (.aload_n 0, 1) := by decide +kernel
theorem dX4_ifTraverse_20 : decode cX4_ifTraverse 20 = .ok (.iload_n 1, 1) := by decide +kernel
theorem dX4_ifTraverse_21 : decode cX4_ifTraverse 21 = .ok (.iload_n 2, 1) := by decide +kernel
theorem dX4_ifTraverse_22 : decode cX4_ifTraverse 22 = .ok (.invokevirtual 151, 3) := by decide +kernel
theorem dX4_ifTraverse_25 : decode cX4_ifTraverse 25 = .ok (.iload_n 3, 1) := by decide +kernel
theorem dX4_ifTraverse_26 : decode cX4_ifTraverse 26 = .ok (.tableswitch 50 0 2 #[26, 34, 42], 26) := by decide +kernel
theorem dX4_ifTraverse_52 : decode cX4_ifTraverse 52 = .ok (.aload_n 0, 1) := by decide +kernel
theorem dX4_ifTraverse_53 : decode cX4_ifTraverse 53 = .ok (.getfield 25, 3) := by decide +kernel
theorem dX4_ifTraverse_56 : decode cX4_ifTraverse 56 = .ok (.invokevirtual 138, 3) := by decide +kernel
theorem dX4_ifTraverse_59 : decode cX4_ifTraverse 59 = .ok (.ireturn, 1) := by decide +kernel
theorem dX4_ifTraverse_60 : decode cX4_ifTraverse 60 = .ok (.aload_n 0, 1) := by decide +kernel
theorem dX4_ifTraverse_61 : decode cX4_ifTraverse 61 = .ok (.getfield 25, 3) := by decide +kernel
theorem dX4_ifTraverse_64 : decode cX4_ifTraverse 64 = .ok (.invokevirtual 135, 3) := by decide +kernel
theorem dX4_ifTraverse_67 : decode cX4_ifTraverse 67 = .ok (.ireturn, 1) := by decide +kernel
theorem dX4_ifTraverse_68 : decode cX4_ifTraverse 68 = .ok (.aload_n 0, 1) := by decide +kernel
theorem dX4_ifTraverse_69 : decode cX4_ifTraverse 69 = .ok (.getfield 25, 3) := by decide +kernel
theorem dX4_ifTraverse_72 : decode cX4_ifTraverse 72 = .ok (.invokevirtual 155, 3) := by decide +kernel
theorem dX4_ifTraverse_75 : decode cX4_ifTraverse 75 = .ok (.ireturn, 1) := by decide +kernel
theorem dX4_ifTraverse_76 : decode cX4_ifTraverse 76 = .ok (.bipush (-2), 2) := by decide +kernel
theorem dX4_ifTraverse_78 : decode cX4_ifTraverse 78 = .ok (.ireturn, 1) := by decide +kernel
set_option maxRecDepth 20000 in
theorem ggX4_bestTraverse_X4_inRange : GoodIn wsX4_bestTraverse wsX4_inRange := goodIn_r _ [5, 6, 7, 4, 8, 9, 10, 11, 12, 13] (by decide +kernel) (by decide +kernel)
set_option maxRecDepth 20000 in
theorem gX4_bestTraverse_X4_inRange : GoodIn wsX4_bestTraverse (va_wsS RX4 147 yX4_inRange wsX4_inRange) := goodIn_app (goodIn_of _ (by decide +kernel)) ggX4_bestTraverse_X4_inRange
set_option maxRecDepth 20000 in
theorem ggX4_bestTraverse_X4_lowest : GoodIn wsX4_bestTraverse wsX4_lowest := goodIn_r _ [8, 9] (by decide +kernel) (by decide +kernel)
set_option maxRecDepth 20000 in
theorem gX4_bestTraverse_X4_lowest : GoodIn wsX4_bestTraverse (va_wsS RX4 158 yX4_lowest wsX4_lowest) := goodIn_app (goodIn_of _ (by decide +kernel)) ggX4_bestTraverse_X4_lowest
set_option maxRecDepth 20000 in
theorem ggX4_bestTraverse_X4_highest : GoodIn wsX4_bestTraverse wsX4_highest := goodIn_r _ [12, 13] (by decide +kernel) (by decide +kernel)
set_option maxRecDepth 20000 in
theorem gX4_bestTraverse_X4_highest : GoodIn wsX4_bestTraverse (va_wsS RX4 161 yX4_highest wsX4_highest) := goodIn_app (goodIn_of _ (by decide +kernel)) ggX4_bestTraverse_X4_highest
set_option maxRecDepth 20000 in
theorem ggX4_bestTraverse_X4_imagine : GoodIn wsX4_bestTraverse wsX4_imagine := goodIn_r _ [17, 1, 18, 19, 20, 21, 22, 23, 24, 25, 26, 27, 28, 29, 30, 31, 32, 33, 34, 35, 36, 37, 38, 39, 40, 41, 42, 43, 44, 45, 46, 47, 48, 49, 50, 51, 52, 53, 4, 54, 61, 62, 63, 64, 65, 66, 67, 68, 69, 70, 71, 72, 73, 74, 75, 76, 77, 78, 79, 80, 81, 82, 83] (by decide +kernel) (by decide +kernel)
set_option maxRecDepth 20000 in
theorem gX4_bestTraverse_X4_imagine : GoodIn wsX4_bestTraverse (wsV RX4 151 RX4 yX4_imagine wsX4_imagine) := goodIn_app (goodIn_of _ (by decide +kernel)) ggX4_bestTraverse_X4_imagine
set_option maxRecDepth 20000 in
theorem ggX4_bestTraverse_X3_evenness : GoodIn wsX4_bestTraverse wsX3_evenness := goodIn_r _ [57, 25, 23, 58, 59, 39, 60, 69, 70, 71, 72] (by decide +kernel) (by decide +kernel)
set_option maxRecDepth 20000 in
theorem gX4_bestTraverse_X3_evenness_n138 : GoodIn wsX4_bestTraverse (wsX3_evenness) := ggX4_bestTraverse_X3_evenness
theorem dX4_bestTraverse_0 : decode cX4_bestTraverse 0 = .ok (.iconst 5, 1) := by decide +kernel
theorem dX4_bestTraverse_1 : decode cX4_bestTraverse 1 = .ok (.iload_n 1, 1) := by decide +kernel
theorem dX4_bestTraverse_2 : decode cX4_bestTraverse 2 = .ok (.invokestatic 147, 3) := by decide +kernel
theorem dX4_bestTraverse_5 : decode cX4_bestTraverse 5 = .ok (.ifCond .ne 6, 3) := by decide +kernel
theorem dX4_bestTraverse_8 : decode cX4_bestTraverse 8 = .ok (.bipush (-2), 2) := by decide +kernel
theorem dX4_bestTraverse_10 : decode cX4_bestTraverse 10 = .ok (.ireturn, 1) := by decide +kernel
theorem dX4_bestTraverse_11 : decode cX4_bestTraverse 11 = .ok (.iconst 0, 1) := by decide +kernel
theorem dX4_bestTraverse_12 : decode cX4_bestTraverse 12 = .ok (.istore_n 2, 1) := by decide +kernel
theorem dX4_bestTraverse_13 : decode cX4_bestTraverse 13 = .ok (.iconst 0, 1) := by decide +kernel
theorem dX4_bestTraverse_14 : decode cX4_bestTraverse 14 = .ok (.istore_n 3, 1) := by decide +kernel
theorem dX4_bestTraverse_15 : decode cX4_bestTraverse 15 = .ok (.iconst 0, 1) := by decide +kernel
theorem dX4_bestTraverse_16 : decode cX4_bestTraverse 16 = .ok (.invokestatic 158, 3) := by decide +kernel
theorem dX4_bestTraverse_19 : decode cX4_bestTraverse 19 = .ok (.istore 4, 2) := by decide +kernel
theorem dX4_bestTraverse_21 : decode cX4_bestTraverse 21 = .ok (.iload 4, 2) := by decide +kernel
theorem dX4_bestTraverse_23 : decode cX4_bestTraverse 23 = .ok (.iconst 0, 1) := by decide +kernel
theorem dX4_bestTraverse_24 : decode cX4_bestTraverse 24 = .ok (.invokestatic 161, 3) := by decide +kernel
theorem dX4_bestTraverse_27 : decode cX4_bestTraverse 27 = .ok (.if_icmp .gt 41, 3) := by decide +kernel
theorem dX4_bestTraverse_30 : decode cX4_bestTraverse 30 = .ok (.aload_n 0, 1) := by decide +kernel
theorem dX4_bestTraverse_31 : decode cX4_bestTraverse 31 = .ok (.iload 4, 2) := by decide +kernel
theorem dX4_bestTraverse_33 : decode cX4_bestTraverse 33 = .ok (.iload_n 1, 1) := by decide +kernel
theorem dX4_bestTraverse_34 : decode cX4_bestTraverse 34 = .ok (.invokevirtual 151, 3) := by decide +kernel
theorem dX4_bestTraverse_37 : decode cX4_bestTraverse 37 = .ok (.aload_n 0, 1) := by decide +kernel
theorem dX4_bestTraverse_38 : decode cX4_bestTraverse 38 = .ok (.getfield 25, 3) := by decide +kernel
theorem dX4_bestTraverse_41 : decode cX4_bestTraverse 41 = .ok (.invokevirtual 138, 3) := by decide +kernel
theorem dX4_bestTraverse_44 : decode cX4_bestTraverse 44 = .ok (.istore 5, 2) := by decide +kernel
theorem dX4_bestTraverse_46 : decode cX4_bestTraverse 46 = .ok (.iload_n 2, 1) := by decide +kernel
theorem dX4_bestTraverse_47 : decode cX4_bestTraverse 47 = .ok (.ifCond .eq 9, 3) := by decide +kernel
theorem dX4_bestTraverse_50 : decode cX4_bestTraverse 50 = .ok (.iload 5, 2) := by decide +kernel
theorem dX4_bestTraverse_52 : decode cX4_bestTraverse 52 = .ok (.iload_n 3, 1) := by decide +kernel
theorem dX4_bestTraverse_53 : decode cX4_bestTraverse 53 = .ok (.if_icmp .ge 9, 3) := by decide +kernel
theorem dX4_bestTraverse_56 : decode cX4_bestTraverse 56 = .ok (.iload 4, 2) := by decide +kernel
theorem dX4_bestTraverse_58 : decode cX4_bestTraverse 58 = .ok (.istore_n 2, 1) := by decide +kernel
theorem dX4_bestTraverse_59 : decode cX4_bestTraverse 59 = .ok (.iload 5, 2) := by decide +kernel
theorem dX4_bestTraverse_61 : decode cX4_bestTraverse 61 = .ok (.istore_n 3, 1) := by decide +kernel
theorem dX4_bestTraverse_62 : decode cX4_bestTraverse 62 = .ok (.iinc 4 1, 3) := by decide +kernel
theorem dX4_bestTraverse_65 : decode cX4_bestTraverse 65 = .ok (.goto (-44), 3) := by decide +kernel
theorem dX4_bestTraverse_68 : decode cX4_bestTraverse 68 = .ok (.iload_n 2, 1) := by decide +kernel
theorem dX4_bestTraverse_69 : decode cX4_bestTraverse 69 = .ok (.ireturn, 1) := by decide +kernel
set_option maxRecDepth 20000 in
theorem ggX4_period_X4_inRange : GoodIn wsX4_period wsX4_inRange := goodIn_r _ [4, 5, 6, 3, 7, 8, 9, 10, 11, 12] (by decide +kernel) (by decide +kernel)
set_option maxRecDepth 20000 in
theorem gX4_period_X4_inRange : GoodIn wsX4_period (va_wsS RX4 147 yX4_inRange wsX4_inRange) := goodIn_app (goodIn_of _ (by decide +kernel)) ggX4_period_X4_inRange
theorem dX4_period_0 : decode cX4_period 0 = .ok (.iconst 0, 1) := by decide +kernel
theorem dX4_period_1 : decode cX4_period 1 = .ok (.iload_n 1, 1) := by decide +kernel
theorem dX4_period_2 : decode cX4_period 2 = .ok (.invokestatic 147, 3) := by decide +kernel
theorem dX4_period_5 : decode cX4_period 5 = .ok (.ifCond .ne 6, 3) := by decide +kernel
theorem dX4_period_8 : decode cX4_period 8 = .ok (.bipush (-2), 2) := by decide +kernel
theorem dX4_period_10 : decode cX4_period 10 = .ok (.ireturn, 1) := by decide +kernel
theorem dX4_period_11 : decode cX4_period 11 = .ok (.iconst 1, 1) := by decide +kernel
theorem dX4_period_12 : decode cX4_period 12 = .ok (.istore_n 2, 1) := by decide +kernel
theorem dX4_period_13 : decode cX4_period 13 = .ok (.iload_n 2, 1) := by decide +kernel
theorem dX4_period_14 : decode cX4_period 14 = .ok (.bipush 22, 2) := by decide +kernel
theorem dX4_period_16 : decode cX4_period 16 = .ok (.if_icmp .ge 18, 3) := by decide +kernel
theorem dX4_period_19 : decode cX4_period 19 = .ok (.iload_n 2, 1) := by decide +kernel
theorem dX4_period_20 : decode cX4_period 20 = .ok (.iload_n 1, 1) := by decide +kernel
theorem dX4_period_21 : decode cX4_period 21 = .ok (.imul, 1) := by decide +kernel
theorem dX4_period_22 : decode cX4_period 22 = .ok (.bipush 22, 2) := by decide +kernel
theorem dX4_period_24 : decode cX4_period 24 = .ok (.irem, 1) := by decide +kernel
theorem dX4_period_25 : decode cX4_period 25 = .ok (.ifCond .eq 9, 3) := by decide +kernel
theorem dX4_period_28 : decode cX4_period 28 = .ok (.iinc 2 1, 3) := by decide +kernel
theorem dX4_period_31 : decode cX4_period 31 = .ok (.goto (-18), 3) := by decide +kernel
theorem dX4_period_34 : decode cX4_period 34 = .ok (.iload_n 2, 1) := by decide +kernel
theorem dX4_period_35 : decode cX4_period 35 = .ok (.ireturn, 1) := by decide +kernel
set_option maxRecDepth 20000 in
theorem ggX4_count_X3_guidePlace : GoodIn wsX4_count wsX3_guidePlace := goodIn_r _ [7, 8, 75, 76, 77, 78] (by decide +kernel) (by decide +kernel)
set_option maxRecDepth 20000 in
theorem gX4_count_X3_guidePlace_n167 : GoodIn wsX4_count (wsX3_guidePlace) := ggX4_count_X3_guidePlace
set_option maxRecDepth 20000 in
theorem ggX4_count_X3_guideGoesBack : GoodIn wsX4_count wsX3_guideGoesBack := goodIn_r _ [11, 8, 75, 76, 77, 78] (by decide +kernel) (by decide +kernel)
set_option maxRecDepth 20000 in
theorem gX4_count_X3_guideGoesBack_n170 : GoodIn wsX4_count (wsX3_guideGoesBack) := ggX4_count_X3_guideGoesBack
set_option maxRecDepth 20000 in
theorem ggX4_count_X4_oneIf : GoodIn wsX4_count wsX4_oneIf := goodIn_r _ [15] (by decide +kernel) (by decide +kernel)
set_option maxRecDepth 20000 in
theorem gX4_count_X4_oneIf : GoodIn wsX4_count (va_wsS RX4 118 yX4_oneIf wsX4_oneIf) := goodIn_app (goodIn_of _ (by decide +kernel)) ggX4_count_X4_oneIf
set_option maxRecDepth 20000 in
theorem ggX4_count_X2_isConeEmpty : GoodIn wsX4_count wsX2_isConeEmpty := goodIn_r _ [19, 20, 64, 65, 66, 67, 68, 69, 70, 71, 72, 73, 74] (by decide +kernel) (by decide +kernel)
set_option maxRecDepth 20000 in
theorem gX4_count_X2_isConeEmpty_n128 : GoodIn wsX4_count (wsX2_isConeEmpty) := ggX4_count_X2_isConeEmpty
set_option maxRecDepth 20000 in
theorem ggX4_count_X3_isFull : GoodIn wsX4_count wsX3_isFull := goodIn_r _ [23, 24, 75, 76, 77, 78] (by decide +kernel) (by decide +kernel)
set_option maxRecDepth 20000 in
theorem gX4_count_X3_isFull_n179 : GoodIn wsX4_count (wsX3_isFull) := ggX4_count_X3_isFull
set_option maxRecDepth 20000 in
theorem ggX4_count_X3_evenness : GoodIn wsX4_count wsX3_evenness := goodIn_r _ [27, 24, 28, 29, 30, 31, 32, 75, 76, 77, 78] (by decide +kernel) (by decide +kernel)
set_option maxRecDepth 20000 in
theorem gX4_count_X3_evenness_n138 : GoodIn wsX4_count (wsX3_evenness) := ggX4_count_X3_evenness
set_option maxRecDepth 20000 in
theorem ggX4_count_X3_ribbons : GoodIn wsX4_count wsX3_ribbons := goodIn_r _ [35, 36, 37, 38, 5, 39, 40, 41, 42, 43, 44, 45, 46, 47, 28, 13, 14, 15, 75, 76, 77, 78] (by decide +kernel) (by decide +kernel)
set_option maxRecDepth 20000 in
theorem gX4_count_X3_ribbons_n135 : GoodIn wsX4_count (wsX3_ribbons) := ggX4_count_X3_ribbons
set_option maxRecDepth 20000 in
theorem ggX4_count_X2_allKnots : GoodIn wsX4_count wsX2_allKnots := goodIn_r _ [50, 51, 64, 65, 66, 67, 68, 69, 70, 71, 72, 73, 74] (by decide +kernel) (by decide +kernel)
set_option maxRecDepth 20000 in
theorem gX4_count_X2_allKnots_n182 : GoodIn wsX4_count (wsX2_allKnots) := ggX4_count_X2_allKnots
set_option maxRecDepth 20000 in
theorem ggX4_count_X2_number : GoodIn wsX4_count wsX2_number := goodIn_r _ [54, 55, 64, 65, 66, 67, 68, 69, 70, 71, 72, 73, 74] (by decide +kernel) (by decide +kernel)
set_option maxRecDepth 20000 in
theorem gX4_count_X2_number_n200 : GoodIn wsX4_count (wsX2_number) := ggX4_count_X2_number
theorem dX4_count_0 : decode cX4_count 0 = .ok (.iload_n 1, 1) := by decide +kernel
theorem dX4_count_1 : decode cX4_count 1 = .ok (.tableswitch 293 0 24 #[115, 126, 134, 145, 159, 167, 175, 186, 197, 211, 222, 233, 241, 249, 257, 265, 273, 293, 293, 293, 281, 281, 281, 281, 281], 115) := by decide +kernel
theorem dX4_count_116 : decode cX4_count 116 = .ok (.aload_n 0, 1) := by decide +kernel
theorem dX4_count_117 : decode cX4_count 117 = .ok (.getfield 12, 3) := by decide +kernel
theorem dX4_count_120 : decode cX4_count 120 = .ok (.getfield 102, 3) := by decide +kernel
theorem dX4_count_123 : decode cX4_count 123 = .ok (.getfield 105, 3) := by decide +kernel
theorem dX4_count_126 : decode cX4_count 126 = .ok (.ireturn, 1) := by decide +kernel
theorem dX4_count_127 : decode cX4_count 127 = .ok (.aload_n 0, 1) := by decide +kernel
theorem dX4_count_128 : decode cX4_count 128 = .ok (.getfield 12, 3) := by decide +kernel
theorem dX4_count_131 : decode cX4_count 131 = .ok (.getfield 164, 3) := by decide +kernel
theorem dX4_count_134 : decode cX4_count 134 = .ok (.ireturn, 1) := by decide +kernel
theorem dX4_count_135 : decode cX4_count 135 = .ok (.aload_n 0, 1) := by decide +kernel
theorem dX4_count_136 : decode cX4_count 136 = .ok (.getfield 12, 3) := by decide +kernel
theorem dX4_count_139 : decode cX4_count 139 = .ok (.getfield 102, 3) := by decide +kernel
theorem dX4_count_142 : decode cX4_count 142 = .ok (.invokevirtual 167, 3) := by decide +kernel
theorem dX4_count_145 : decode cX4_count 145 = .ok (.ireturn, 1) := by decide +kernel
theorem dX4_count_146 : decode cX4_count 146 = .ok (.aload_n 0, 1) := by decide +kernel
theorem dX4_count_147 : decode cX4_count 147 = .ok (.getfield 12, 3) := by decide +kernel
theorem dX4_count_150 : decode cX4_count 150 = .ok (.getfield 102, 3) := by decide +kernel
theorem dX4_count_153 : decode cX4_count 153 = .ok (.invokevirtual 170, 3) := by decide +kernel
theorem dX4_count_156 : decode cX4_count 156 = .ok (.invokestatic 118, 3) := by decide +kernel
theorem dX4_count_159 : decode cX4_count 159 = .ok (.ireturn, 1) := by decide +kernel
theorem dX4_count_160 : decode cX4_count 160 = .ok (.aload_n 0, 1) := by decide +kernel
theorem dX4_count_161 : decode cX4_count 161 = .ok (.getfield 12, 3) := by decide +kernel
theorem dX4_count_164 : decode cX4_count 164 = .ok (.getfield 173, 3) := by decide +kernel
theorem dX4_count_167 : decode cX4_count 167 = .ok (.ireturn, 1) := by decide +kernel
theorem dX4_count_168 : decode cX4_count 168 = .ok (.aload_n 0, 1) := by decide +kernel
theorem dX4_count_169 : decode cX4_count 169 = .ok (.getfield 12, 3) := by decide +kernel
theorem dX4_count_172 : decode cX4_count 172 = .ok (.getfield 176, 3) := by decide +kernel
theorem dX4_count_175 : decode cX4_count 175 = .ok (.ireturn, 1) := by decide +kernel
theorem dX4_count_176 : decode cX4_count 176 = .ok (.aload_n 0, 1) := by decide +kernel
theorem dX4_count_177 : decode cX4_count 177 = .ok (.getfield 12, 3) := by decide +kernel
theorem dX4_count_180 : decode cX4_count 180 = .ok (.getfield 125, 3) := by decide +kernel
theorem dX4_count_183 : decode cX4_count 183 = .ok (.invokestatic 118, 3) := by decide +kernel
theorem dX4_count_186 : decode cX4_count 186 = .ok (.ireturn, 1) := by decide +kernel
theorem dX4_count_187 : decode cX4_count 187 = .ok (.aload_n 0, 1) := by decide +kernel
theorem dX4_count_188 : decode cX4_count 188 = .ok (.getfield 12, 3) := by decide +kernel
theorem dX4_count_191 : decode cX4_count 191 = .ok (.invokevirtual 128, 3) := by decide +kernel
theorem dX4_count_194 : decode cX4_count 194 = .ok (.invokestatic 118, 3) := by decide +kernel
theorem dX4_count_197 : decode cX4_count 197 = .ok (.ireturn, 1) := by decide +kernel
theorem dX4_count_198 : decode cX4_count 198 = .ok (.aload_n 0, 1) := by decide +kernel
theorem dX4_count_199 : decode cX4_count 199 = .ok (.getfield 12, 3) := by decide +kernel
theorem dX4_count_202 : decode cX4_count 202 = .ok (.getfield 102, 3) := by decide +kernel
theorem dX4_count_205 : decode cX4_count 205 = .ok (.invokevirtual 179, 3) := by decide +kernel
theorem dX4_count_208 : decode cX4_count 208 = .ok (.invokestatic 118, 3) := by decide +kernel
theorem dX4_count_211 : decode cX4_count 211 = .ok (.ireturn, 1) := by decide +kernel
theorem dX4_count_212 : decode cX4_count 212 = .ok (.aload_n 0, 1) := by decide +kernel
theorem dX4_count_213 : decode cX4_count 213 = .ok (.getfield 12, 3) := by decide +kernel
theorem dX4_count_216 : decode cX4_count 216 = .ok (.getfield 102, 3) := by decide +kernel
theorem dX4_count_219 : decode cX4_count 219 = .ok (.invokevirtual 138, 3) := by decide +kernel
theorem dX4_count_222 : decode cX4_count 222 = .ok (.ireturn, 1) := by decide +kernel
theorem dX4_count_223 : decode cX4_count 223 = .ok (.aload_n 0, 1) := by decide +kernel
theorem dX4_count_224 : decode cX4_count 224 = .ok (.getfield 12, 3) := by decide +kernel
theorem dX4_count_227 : decode cX4_count 227 = .ok (.getfield 102, 3) := by decide +kernel
theorem dX4_count_230 : decode cX4_count 230 = .ok (.invokevirtual 135, 3) := by decide +kernel
theorem dX4_count_233 : decode cX4_count 233 = .ok (.ireturn, 1) := by decide +kernel
theorem dX4_count_234 : decode cX4_count 234 = .ok (.aload_n 0, 1) := by decide +kernel
theorem dX4_count_235 : decode cX4_count 235 = .ok (.getfield 12, 3) := by decide +kernel
theorem dX4_count_238 : decode cX4_count 238 = .ok (.invokevirtual 182, 3) := by decide +kernel
theorem dX4_count_241 : decode cX4_count 241 = .ok (.ireturn, 1) := by decide +kernel
theorem dX4_count_242 : decode cX4_count 242 = .ok (.aload_n 0, 1) := by decide +kernel
theorem dX4_count_243 : decode cX4_count 243 = .ok (.getfield 12, 3) := by decide +kernel
theorem dX4_count_246 : decode cX4_count 246 = .ok (.getfield 185, 3) := by decide +kernel
theorem dX4_count_249 : decode cX4_count 249 = .ok (.ireturn, 1) := by decide +kernel
theorem dX4_count_250 : decode cX4_count 250 = .ok (.aload_n 0, 1) := by decide +kernel
theorem dX4_count_251 : decode cX4_count 251 = .ok (.getfield 12, 3) := by decide +kernel
theorem dX4_count_254 : decode cX4_count 254 = .ok (.getfield 188, 3) := by decide +kernel
theorem dX4_count_257 : decode cX4_count 257 = .ok (.ireturn, 1) := by decide +kernel
theorem dX4_count_258 : decode cX4_count 258 = .ok (.aload_n 0, 1) := by decide +kernel
theorem dX4_count_259 : decode cX4_count 259 = .ok (.getfield 12, 3) := by decide +kernel
theorem dX4_count_262 : decode cX4_count 262 = .ok (.getfield 191, 3) := by decide +kernel
theorem dX4_count_265 : decode cX4_count 265 = .ok (.ireturn, 1) := by decide +kernel
theorem dX4_count_266 : decode cX4_count 266 = .ok (.aload_n 0, 1) := by decide +kernel
theorem dX4_count_267 : decode cX4_count 267 = .ok (.getfield 32, 3) := by decide +kernel
theorem dX4_count_270 : decode cX4_count 270 = .ok (.getfield 194, 3) := by decide +kernel
theorem dX4_count_273 : decode cX4_count 273 = .ok (.ireturn, 1) := by decide +kernel
theorem dX4_count_274 : decode cX4_count 274 = .ok (.aload_n 0, 1) := by decide +kernel
theorem dX4_count_275 : decode cX4_count 275 = .ok (.getfield 39, 3) := by decide +kernel
theorem dX4_count_278 : decode cX4_count 278 = .ok (.getfield 197, 3) := by decide +kernel
theorem dX4_count_281 : decode cX4_count 281 = .ok (.ireturn, 1) := by decide +kernel
theorem dX4_count_282 : decode cX4_count 282 = .ok (.aload_n 0, 1) := by decide +kernel
theorem dX4_count_283 : decode cX4_count 283 = .ok (.getfield 12, 3) := by decide +kernel
theorem dX4_count_286 : decode cX4_count 286 = .ok (.iload_n 1, 1) := by decide +kernel
theorem dX4_count_287 : decode cX4_count 287 = .ok (.bipush 20, 2) := by decide +kernel
theorem dX4_count_289 : decode cX4_count 289 = .ok (.isub, 1) := by decide +kernel
theorem dX4_count_290 : decode cX4_count 290 = .ok (.invokevirtual 200, 3) := by decide +kernel
theorem dX4_count_293 : decode cX4_count 293 = .ok (.ireturn, 1) := by decide +kernel
theorem dX4_count_294 : decode cX4_count 294 = .ok (.bipush (-2), 2) := by decide +kernel
theorem dX4_count_296 : decode cX4_count 296 = .ok (.ireturn, 1) := by decide +kernel
set_option maxRecDepth 20000 in
theorem ggX4_finishAct_X1_remember : GoodIn wsX4_finishAct wsX1_remember := goodIn_r _ [7, 8, 9, 10, 11, 12, 13, 14, 15, 16, 5, 17, 18, 19, 20, 21, 22, 23, 24, 25, 26, 27, 28, 29, 30, 31, 32, 33, 34, 35, 36, 37, 38, 39, 40, 41, 42, 43, 44, 45, 46, 55, 56, 57, 58, 59, 60, 61, 62, 63, 64, 65, 66, 67, 68, 69, 70, 71, 72] (by decide +kernel) (by decide +kernel)
set_option maxRecDepth 20000 in
theorem gX4_finishAct_X1_remember_n203 : GoodIn wsX4_finishAct (wsX1_remember) := ggX4_finishAct_X1_remember
set_option maxRecDepth 20000 in
theorem ggX4_finishAct_X2_copyFrom : GoodIn wsX4_finishAct wsX2_copyFrom := goodIn_r _ [22, 23, 24, 25, 26, 27, 28, 29, 30, 31, 32, 33, 34, 35, 36, 37, 38, 39, 40, 41, 42, 43, 44, 45, 46, 58, 59, 60, 61, 62, 63, 64, 65, 66, 67, 68, 69, 70, 71, 72] (by decide +kernel) (by decide +kernel)
set_option maxRecDepth 20000 in
theorem gX4_finishAct_X2_copyFrom_n51 : GoodIn wsX4_finishAct (wsX2_copyFrom) := ggX4_finishAct_X2_copyFrom
theorem dX4_finishAct_0 : decode cX4_finishAct 0 = .ok (.iload_n 1, 1) := by decide +kernel
theorem dX4_finishAct_1 : decode cX4_finishAct 1 = .ok (.ifCond .lt 25, 3) := by decide +kernel
theorem dX4_finishAct_4 : decode cX4_finishAct 4 = .ok (.aload_n 0, 1) := by decide +kernel
theorem dX4_finishAct_5 : decode cX4_finishAct 5 = .ok (.getfield 32, 3) := by decide +kernel
theorem dX4_finishAct_8 : decode cX4_finishAct 8 = .ok (.aload_n 0, 1) := by decide +kernel
theorem dX4_finishAct_9 : decode cX4_finishAct 9 = .ok (.getfield 12, 3) := by decide +kernel
theorem dX4_finishAct_12 : decode cX4_finishAct 12 = .ok (.invokevirtual 203, 3) := by decide +kernel
theorem dX4_finishAct_15 : decode cX4_finishAct 15 = .ok (.aload_n 0, 1) := by decide +kernel
theorem dX4_finishAct_16 : decode cX4_finishAct 16 = .ok (.getfield 12, 3) := by decide +kernel
theorem dX4_finishAct_19 : decode cX4_finishAct 19 = .ok (.aload_n 0, 1) := by decide +kernel
theorem dX4_finishAct_20 : decode cX4_finishAct 20 = .ok (.getfield 16, 3) := by decide +kernel
theorem dX4_finishAct_23 : decode cX4_finishAct 23 = .ok (.invokevirtual 51, 3) := by decide +kernel
theorem dX4_finishAct_26 : decode cX4_finishAct 26 = .ok (.iload_n 1, 1) := by decide +kernel
theorem dX4_finishAct_27 : decode cX4_finishAct 27 = .ok (.ireturn, 1) := by decide +kernel
set_option maxRecDepth 20000 in
theorem ggX4_imagine_X3_clear : GoodIn wsX4_imagine wsX3_clear := goodIn_r _ [6, 7, 8, 9, 10, 11, 12, 13, 14, 48, 49, 50, 51] (by decide +kernel) (by decide +kernel)
set_option maxRecDepth 20000 in
theorem gX4_imagine_X3_clear_n206 : GoodIn wsX4_imagine (wsX3_clear) := ggX4_imagine_X3_clear
set_option maxRecDepth 20000 in
theorem ggX4_imagine_X3_isFull : GoodIn wsX4_imagine wsX3_isFull := goodIn_r _ [17, 9, 48, 49, 50, 51] (by decide +kernel) (by decide +kernel)
set_option maxRecDepth 20000 in
theorem gX4_imagine_X3_isFull_n179 : GoodIn wsX4_imagine (wsX3_isFull) := ggX4_imagine_X3_isFull
set_option maxRecDepth 20000 in
theorem ggX4_imagine_X3_layWrap : GoodIn wsX4_imagine wsX3_layWrap := goodIn_r _ [20, 7, 8, 9, 21, 22, 23, 24, 25, 26, 27, 4, 28, 10, 48, 49, 50, 51] (by decide +kernel) (by decide +kernel)
set_option maxRecDepth 20000 in
theorem gX4_imagine_X3_layWrap_n209 : GoodIn wsX4_imagine (wsX3_layWrap) := ggX4_imagine_X3_layWrap
set_option maxRecDepth 20000 in
theorem ggX4_imagine_X2_number : GoodIn wsX4_imagine wsX2_number := goodIn_r _ [32, 33, 52, 53, 54, 55, 56, 57, 58, 59, 60, 61, 62] (by decide +kernel) (by decide +kernel)
set_option maxRecDepth 20000 in
theorem gX4_imagine_X2_number_n200 : GoodIn wsX4_imagine (wsX2_number) := ggX4_imagine_X2_number
set_option maxRecDepth 20000 in
theorem ggX4_imagine_X3_moveGuide : GoodIn wsX4_imagine wsX3_moveGuide := goodIn_r _ [36, 10, 37, 38, 39, 48, 49, 50, 51] (by decide +kernel) (by decide +kernel)
set_option maxRecDepth 20000 in
theorem gX4_imagine_X3_moveGuide_n212 : GoodIn wsX4_imagine (wsX3_moveGuide) := ggX4_imagine_X3_moveGuide
theorem dX4_imagine_0 : decode cX4_imagine 0 = .ok (.aload_n 0, 1) := by decide +kernel
theorem dX4_imagine_1 : decode cX4_imagine 1 = .ok (.getfield 25, 3) := by decide +kernel
theorem dX4_imagine_4 : decode cX4_imagine 4 = .ok (.invokevirtual 206, 3) := by decide +kernel
theorem dX4_imagine_7 : decode cX4_imagine 7 = .ok (.iconst 1, 1) := by decide +kernel
theorem dX4_imagine_8 : decode cX4_imagine 8 = .ok (.istore_n 3, 1) := by decide +kernel
theorem dX4_imagine_9 : decode cX4_imagine 9 = .ok (.iload_n 3, 1) := by decide +kernel
theorem dX4_imagine_10 : decode cX4_imagine 10 = .ok (.iload_n 2, 1) := by decide +kernel
theorem dX4_imagine_11 : decode cX4_imagine 11 = .ok (.if_icmp .gt 43, 3) := by decide +kernel
theorem dX4_imagine_14 : decode cX4_imagine 14 = .ok (.aload_n 0, 1) := by decide +kernel
theorem dX4_imagine_15 : decode cX4_imagine 15 = .ok (.getfield 25, 3) := by decide +kernel
theorem dX4_imagine_18 : decode cX4_imagine 18 = .ok (.invokevirtual 179, 3) := by decide +kernel
theorem dX4_imagine_21 : decode cX4_imagine 21 = .ok (.ifCond .ne 33, 3) := by decide +kernel
theorem dX4_imagine_24 : decode cX4_imagine 24 = .ok (.aload_n 0, 1) := by decide +kernel
theorem dX4_imagine_25 : decode cX4_imagine 25 = .ok (.getfield 25, 3) := by decide +kernel
theorem dX4_imagine_28 : decode cX4_imagine 28 = .ok (.invokevirtual 209, 3) := by decide +kernel
theorem dX4_imagine_31 : decode cX4_imagine 31 = .ok (.aload_n 0, 1) := by decide +kernel
theorem dX4_imagine_32 : decode cX4_imagine 32 = .ok (.getfield 25, 3) := by decide +kernel
theorem dX4_imagine_35 : decode cX4_imagine 35 = .ok (.iload_n 1, 1) := by decide +kernel
theorem dX4_imagine_36 : decode cX4_imagine 36 = .ok (.aload_n 0, 1) := by decide +kernel
theorem dX4_imagine_37 : decode cX4_imagine 37 = .ok (.getfield 12, 3) := by decide +kernel
theorem dX4_imagine_40 : decode cX4_imagine 40 = .ok (.iconst 2, 1) := by decide +kernel
theorem dX4_imagine_41 : decode cX4_imagine 41 = .ok (.invokevirtual 200, 3) := by decide +kernel
theorem dX4_imagine_44 : decode cX4_imagine 44 = .ok (.iload_n 3, 1) := by decide +kernel
theorem dX4_imagine_45 : decode cX4_imagine 45 = .ok (.invokevirtual 212, 3) := by decide +kernel
theorem dX4_imagine_48 : decode cX4_imagine 48 = .ok (.iinc 3 1, 3) := by decide +kernel
theorem dX4_imagine_51 : decode cX4_imagine 51 = .ok (.goto (-42), 3) := by decide +kernel
theorem dX4_imagine_54 : decode cX4_imagine 54 = .ok (.return_, 1) := by decide +kernel
theorem dX4_oneIf_0 : decode cX4_oneIf 0 = .ok (.iload_n 0, 1) := by decide +kernel
theorem dX4_oneIf_1 : decode cX4_oneIf 1 = .ok (.ifCond .eq 7, 3) := by decide +kernel
theorem dX4_oneIf_4 : decode cX4_oneIf 4 = .ok (.iconst 1, 1) := by decide +kernel
theorem dX4_oneIf_5 : decode cX4_oneIf 5 = .ok (.goto 4, 3) := by decide +kernel
theorem dX4_oneIf_8 : decode cX4_oneIf 8 = .ok (.iconst 0, 1) := by decide +kernel
theorem dX4_oneIf_9 : decode cX4_oneIf 9 = .ok (.ireturn, 1) := by decide +kernel
theorem dX4_lowest_0 : decode cX4_lowest 0 = .ok (.iload_n 0, 1) := by decide +kernel
theorem dX4_lowest_1 : decode cX4_lowest 1 = .ok (.ifCond .lt 19, 3) := by decide +kernel
theorem dX4_lowest_4 : decode cX4_lowest 4 = .ok (.iload_n 0, 1) := by decide +kernel
theorem dX4_lowest_5 : decode cX4_lowest 5 = .ok (.getstatic 216, 3) := by decide +kernel
theorem dX4_lowest_8 : decode cX4_lowest 8 = .ok (.arraylength, 1) := by decide +kernel
theorem dX4_lowest_9 : decode cX4_lowest 9 = .ok (.if_icmp .ge 11, 3) := by decide +kernel
theorem dX4_lowest_12 : decode cX4_lowest 12 = .ok (.getstatic 216, 3) := by decide +kernel
theorem dX4_lowest_15 : decode cX4_lowest 15 = .ok (.iload_n 0, 1) := by decide +kernel
theorem dX4_lowest_16 : decode cX4_lowest 16 = .ok (.iaload, 1) := by decide +kernel
theorem dX4_lowest_17 : decode cX4_lowest 17 = .ok (.goto 4, 3) := by decide +kernel
theorem dX4_lowest_20 : decode cX4_lowest 20 = .ok (.iconst 0, 1) := by decide +kernel
theorem dX4_lowest_21 : decode cX4_lowest 21 = .ok (.ireturn, 1) := by decide +kernel
theorem dX4_highest_0 : decode cX4_highest 0 = .ok (.iload_n 0, 1) := by decide +kernel
theorem dX4_highest_1 : decode cX4_highest 1 = .ok (.ifCond .lt 19, 3) := by decide +kernel
theorem dX4_highest_4 : decode cX4_highest 4 = .ok (.iload_n 0, 1) := by decide +kernel
theorem dX4_highest_5 : decode cX4_highest 5 = .ok (.getstatic 220, 3) := by decide +kernel
theorem dX4_highest_8 : decode cX4_highest 8 = .ok (.arraylength, 1) := by decide +kernel
theorem dX4_highest_9 : decode cX4_highest 9 = .ok (.if_icmp .ge 11, 3) := by decide +kernel
theorem dX4_highest_12 : decode cX4_highest 12 = .ok (.getstatic 220, 3) := by decide +kernel
theorem dX4_highest_15 : decode cX4_highest 15 = .ok (.iload_n 0, 1) := by decide +kernel
theorem dX4_highest_16 : decode cX4_highest 16 = .ok (.iaload, 1) := by decide +kernel
theorem dX4_highest_17 : decode cX4_highest 17 = .ok (.goto 4, 3) := by decide +kernel
theorem dX4_highest_20 : decode cX4_highest 20 = .ok (.iconst (-1), 1) := by decide +kernel
theorem dX4_highest_21 : decode cX4_highest 21 = .ok (.ireturn, 1) := by decide +kernel
set_option maxRecDepth 20000 in
theorem ggX4_inRange_X4_lowest : GoodIn wsX4_inRange wsX4_lowest := goodIn_r _ [4, 5] (by decide +kernel) (by decide +kernel)
set_option maxRecDepth 20000 in
theorem gX4_inRange_X4_lowest : GoodIn wsX4_inRange (va_wsS RX4 158 yX4_lowest wsX4_lowest) := goodIn_app (goodIn_of _ (by decide +kernel)) ggX4_inRange_X4_lowest
set_option maxRecDepth 20000 in
theorem ggX4_inRange_X4_highest : GoodIn wsX4_inRange wsX4_highest := goodIn_r _ [8, 9] (by decide +kernel) (by decide +kernel)
set_option maxRecDepth 20000 in
theorem gX4_inRange_X4_highest : GoodIn wsX4_inRange (va_wsS RX4 161 yX4_highest wsX4_highest) := goodIn_app (goodIn_of _ (by decide +kernel)) ggX4_inRange_X4_highest
theorem dX4_inRange_0 : decode cX4_inRange 0 = .ok (.iload_n 1, 1) := by decide +kernel
theorem dX4_inRange_1 : decode cX4_inRange 1 = .ok (.iload_n 0, 1) := by decide +kernel
theorem dX4_inRange_2 : decode cX4_inRange 2 = .ok (.invokestatic 158, 3) := by decide +kernel
theorem dX4_inRange_5 : decode cX4_inRange 5 = .ok (.if_icmp .lt 15, 3) := by decide +kernel
theorem dX4_inRange_8 : decode cX4_inRange 8 = .ok (.iload_n 1, 1) := by decide +kernel
theorem dX4_inRange_9 : decode cX4_inRange 9 = .ok (.iload_n 0, 1) := by decide +kernel
theorem dX4_inRange_10 : decode cX4_inRange 10 = .ok (.invokestatic 161, 3) := by decide +kernel
theorem dX4_inRange_13 : decode cX4_inRange 13 = .ok (.if_icmp .gt 7, 3) := by decide +kernel
theorem dX4_inRange_16 : decode cX4_inRange 16 = .ok (.iconst 1, 1) := by decide +kernel
theorem dX4_inRange_17 : decode cX4_inRange 17 = .ok (.goto 4, 3) := by decide +kernel
theorem dX4_inRange_20 : decode cX4_inRange 20 = .ok (.iconst 0, 1) := by decide +kernel
theorem dX4_inRange_21 : decode cX4_inRange 21 = .ok (.ireturn, 1) := by decide +kernel
end
section
theorem dX5_init_0 : decode cX5_init 0 = .ok (.aload_n 0, 1) := by decide +kernel
theorem dX5_init_1 : decode cX5_init 1 = .ok (.invokespecial 1, 3) := by decide +kernel
theorem dX5_init_4 : decode cX5_init 4 = .ok (.aload_n 0, 1) := by decide +kernel
theorem dX5_init_5 : decode cX5_init 5 = .ok (.bipush 37, 2) := by decide +kernel
theorem dX5_init_7 : decode cX5_init 7 = .ok (.newarray .int, 2) := by decide +kernel
theorem dX5_init_9 : decode cX5_init 9 = .ok (.putfield 7, 3) := by decide +kernel
theorem dX5_init_12 : decode cX5_init 12 = .ok (.aload_n 0, 1) := by decide +kernel
theorem dX5_init_13 : decode cX5_init 13 = .ok (.bipush 37, 2) := by decide +kernel
theorem dX5_init_15 : decode cX5_init 15 = .ok (.newarray .int, 2) := by decide +kernel
theorem dX5_init_17 : decode cX5_init 17 = .ok (.putfield 13, 3) := by decide +kernel
theorem dX5_init_20 : decode cX5_init 20 = .ok (.aload_n 0, 1) := by decide +kernel
theorem dX5_init_21 : decode cX5_init 21 = .ok (.bipush 37, 2) := by decide +kernel
theorem dX5_init_23 : decode cX5_init 23 = .ok (.newarray .int, 2) := by decide +kernel
theorem dX5_init_25 : decode cX5_init 25 = .ok (.putfield 16, 3) := by decide +kernel
theorem dX5_init_28 : decode cX5_init 28 = .ok (.aload_n 0, 1) := by decide +kernel
theorem dX5_init_29 : decode cX5_init 29 = .ok (.sipush 148, 3) := by decide +kernel
theorem dX5_init_32 : decode cX5_init 32 = .ok (.newarray .int, 2) := by decide +kernel
theorem dX5_init_34 : decode cX5_init 34 = .ok (.putfield 19, 3) := by decide +kernel
theorem dX5_init_37 : decode cX5_init 37 = .ok (.aload_n 0, 1) := by decide +kernel
theorem dX5_init_38 : decode cX5_init 38 = .ok (.bipush 37, 2) := by decide +kernel
theorem dX5_init_40 : decode cX5_init 40 = .ok (.newarray .int, 2) := by decide +kernel
theorem dX5_init_42 : decode cX5_init 42 = .ok (.putfield 22, 3) := by decide +kernel
theorem dX5_init_45 : decode cX5_init 45 = .ok (.aload_n 0, 1) := by decide +kernel
theorem dX5_init_46 : decode cX5_init 46 = .ok (.bipush 60, 2) := by decide +kernel
theorem dX5_init_48 : decode cX5_init 48 = .ok (.newarray .int, 2) := by decide +kernel
theorem dX5_init_50 : decode cX5_init 50 = .ok (.putfield 25, 3) := by decide +kernel
theorem dX5_init_53 : decode cX5_init 53 = .ok (.aload_n 0, 1) := by decide +kernel
theorem dX5_init_54 : decode cX5_init 54 = .ok (.bipush (-5), 2) := by decide +kernel
theorem dX5_init_56 : decode cX5_init 56 = .ok (.putfield 28, 3) := by decide +kernel
theorem dX5_init_59 : decode cX5_init 59 = .ok (.aload_n 0, 1) := by decide +kernel
theorem dX5_init_60 : decode cX5_init 60 = .ok (.getfield 7, 3) := by decide +kernel
theorem dX5_init_63 : decode cX5_init 63 = .ok (.bipush 24, 2) := by decide +kernel
theorem dX5_init_65 : decode cX5_init 65 = .ok (.iconst 5, 1) := by decide +kernel
theorem dX5_init_66 : decode cX5_init 66 = .ok (.iastore, 1) := by decide +kernel
theorem dX5_init_67 : decode cX5_init 67 = .ok (.aload_n 0, 1) := by decide +kernel
theorem dX5_init_68 : decode cX5_init 68 = .ok (.getfield 7, 3) := by decide +kernel
theorem dX5_init_71 : decode cX5_init 71 = .ok (.bipush 25, 2) := by decide +kernel
theorem dX5_init_73 : decode cX5_init 73 = .ok (.iconst 3, 1) := by decide +kernel
theorem dX5_init_74 : decode cX5_init 74 = .ok (.iastore, 1) := by decide +kernel
theorem dX5_init_75 : decode cX5_init 75 = .ok (.aload_n 0, 1) := by decide +kernel
theorem dX5_init_76 : decode cX5_init 76 = .ok (.getfield 7, 3) := by decide +kernel
theorem dX5_init_79 : decode cX5_init 79 = .ok (.bipush 27, 2) := by decide +kernel
theorem dX5_init_81 : decode cX5_init 81 = .ok (.bipush 10, 2) := by decide +kernel
theorem dX5_init_83 : decode cX5_init 83 = .ok (.iastore, 1) := by decide +kernel
theorem dX5_init_84 : decode cX5_init 84 = .ok (.aload_n 0, 1) := by decide +kernel
theorem dX5_init_85 : decode cX5_init 85 = .ok (.getfield 7, 3) := by decide +kernel
theorem dX5_init_88 : decode cX5_init 88 = .ok (.bipush 28, 2) := by decide +kernel
theorem dX5_init_90 : decode cX5_init 90 = .ok (.bipush 60, 2) := by decide +kernel
theorem dX5_init_92 : decode cX5_init 92 = .ok (.iastore, 1) := by decide +kernel
theorem dX5_init_93 : decode cX5_init 93 = .ok (.aload_n 0, 1) := by decide +kernel
theorem dX5_init_94 : decode cX5_init 94 = .ok (.getfield 7, 3) := by decide +kernel
theorem dX5_init_97 : decode cX5_init 97 = .ok (.bipush 30, 2) := by decide +kernel
theorem dX5_init_99 : decode cX5_init 99 = .ok (.sipush 5000, 3) := by decide +kernel
theorem dX5_init_102 : decode cX5_init 102 = .ok (.iastore, 1) := by decide +kernel
theorem dX5_init_103 : decode cX5_init 103 = .ok (.aload_n 0, 1) := by decide +kernel
theorem dX5_init_104 : decode cX5_init 104 = .ok (.getfield 7, 3) := by decide +kernel
theorem dX5_init_107 : decode cX5_init 107 = .ok (.bipush 34, 2) := by decide +kernel
theorem dX5_init_109 : decode cX5_init 109 = .ok (.bipush (-5), 2) := by decide +kernel
theorem dX5_init_111 : decode cX5_init 111 = .ok (.iastore, 1) := by decide +kernel
theorem dX5_init_112 : decode cX5_init 112 = .ok (.return_, 1) := by decide +kernel
theorem dX5_in_0 : decode cX5_in 0 = .ok (.lload_n 0, 1) := by decide +kernel
theorem dX5_in_1 : decode cX5_in 1 = .ok (.lload_n 2, 1) := by decide +kernel
theorem dX5_in_2 : decode cX5_in 2 = .ok (.lcmp, 1) := by decide +kernel
theorem dX5_in_3 : decode cX5_in 3 = .ok (.ifCond .lt 14, 3) := by decide +kernel
theorem dX5_in_6 : decode cX5_in 6 = .ok (.lload_n 0, 1) := by decide +kernel
theorem dX5_in_7 : decode cX5_in 7 = .ok (.lload 4, 2) := by decide +kernel
theorem dX5_in_9 : decode cX5_in 9 = .ok (.lcmp, 1) := by decide +kernel
theorem dX5_in_10 : decode cX5_in 10 = .ok (.ifCond .gt 7, 3) := by decide +kernel
theorem dX5_in_13 : decode cX5_in 13 = .ok (.iconst 1, 1) := by decide +kernel
theorem dX5_in_14 : decode cX5_in 14 = .ok (.goto 4, 3) := by decide +kernel
theorem dX5_in_17 : decode cX5_in 17 = .ok (.iconst 0, 1) := by decide +kernel
theorem dX5_in_18 : decode cX5_in 18 = .ok (.ireturn, 1) := by decide +kernel
theorem dX5_copy_0 : decode cX5_copy 0 = .ok (.iconst 0, 1) := by decide +kernel
theorem dX5_copy_1 : decode cX5_copy 1 = .ok (.istore_n 2, 1) := by decide +kernel
theorem dX5_copy_2 : decode cX5_copy 2 = .ok (.iload_n 2, 1) := by decide +kernel
theorem dX5_copy_3 : decode cX5_copy 3 = .ok (.bipush 37, 2) := by decide +kernel
theorem dX5_copy_5 : decode cX5_copy 5 = .ok (.if_icmp .ge 15, 3) := by decide +kernel
theorem dX5_copy_8 : decode cX5_copy 8 = .ok (.aload_n 1, 1) := by decide +kernel
theorem dX5_copy_9 : decode cX5_copy 9 = .ok (.iload_n 2, 1) := by decide +kernel
theorem dX5_copy_10 : decode cX5_copy 10 = .ok (.aload_n 0, 1) := by decide +kernel
theorem dX5_copy_11 : decode cX5_copy 11 = .ok (.iload_n 2, 1) := by decide +kernel
theorem dX5_copy_12 : decode cX5_copy 12 = .ok (.iaload, 1) := by decide +kernel
theorem dX5_copy_13 : decode cX5_copy 13 = .ok (.iastore, 1) := by decide +kernel
theorem dX5_copy_14 : decode cX5_copy 14 = .ok (.iinc 2 1, 3) := by decide +kernel
theorem dX5_copy_17 : decode cX5_copy 17 = .ok (.goto (-15), 3) := by decide +kernel
theorem dX5_copy_20 : decode cX5_copy 20 = .ok (.return_, 1) := by decide +kernel
set_option maxRecDepth 20000 in
theorem ggX5_remember_X5_copy : GoodIn wsX5_remember wsX5_copy := goodIn_r _ [6] (by decide +kernel) (by decide +kernel)
set_option maxRecDepth 20000 in
theorem gX5_remember_X5_copy : GoodIn wsX5_remember (va_wsS RX5 32 yX5_copy wsX5_copy) := goodIn_app (goodIn_of _ (by decide +kernel)) ggX5_remember_X5_copy
theorem dX5_remember_0 : decode cX5_remember 0 = .ok (.aload_n 0, 1) := by decide +kernel
theorem dX5_remember_1 : decode cX5_remember 1 = .ok (.getfield 7, 3) := by decide +kernel
theorem dX5_remember_4 : decode cX5_remember 4 = .ok (.aload_n 0, 1) := by decide +kernel
theorem dX5_remember_5 : decode cX5_remember 5 = .ok (.getfield 13, 3) := by decide +kernel
theorem dX5_remember_8 : decode cX5_remember 8 = .ok (.invokestatic 32, 3) := by decide +kernel
theorem dX5_remember_11 : decode cX5_remember 11 = .ok (.return_, 1) := by decide +kernel
theorem dX5_acted_0 : decode cX5_acted 0 = .ok (.aload_n 0, 1) := by decide +kernel
theorem dX5_acted_1 : decode cX5_acted 1 = .ok (.getfield 36, 3) := by decide +kernel
theorem dX5_acted_4 : decode cX5_acted 4 = .ok (.iconst 4, 1) := by decide +kernel
theorem dX5_acted_5 : decode cX5_acted 5 = .ok (.if_icmp .ne 42, 3) := by decide +kernel
theorem dX5_acted_8 : decode cX5_acted 8 = .ok (.iconst 0, 1) := by decide +kernel
theorem dX5_acted_9 : decode cX5_acted 9 = .ok (.istore_n 2, 1) := by decide +kernel
theorem dX5_acted_10 : decode cX5_acted 10 = .ok (.iload_n 2, 1) := by decide +kernel
theorem dX5_acted_11 : decode cX5_acted 11 = .ok (.bipush 111, 2) := by decide +kernel
theorem dX5_acted_13 : decode cX5_acted 13 = .ok (.if_icmp .ge 24, 3) := by decide +kernel
theorem dX5_acted_16 : decode cX5_acted 16 = .ok (.aload_n 0, 1) := by decide +kernel
theorem dX5_acted_17 : decode cX5_acted 17 = .ok (.getfield 19, 3) := by decide +kernel
theorem dX5_acted_20 : decode cX5_acted 20 = .ok (.iload_n 2, 1) := by decide +kernel
theorem dX5_acted_21 : decode cX5_acted 21 = .ok (.aload_n 0, 1) := by decide +kernel
theorem dX5_acted_22 : decode cX5_acted 22 = .ok (.getfield 19, 3) := by decide +kernel
theorem dX5_acted_25 : decode cX5_acted 25 = .ok (.iload_n 2, 1) := by decide +kernel
theorem dX5_acted_26 : decode cX5_acted 26 = .ok (.bipush 37, 2) := by decide +kernel
theorem dX5_acted_28 : decode cX5_acted 28 = .ok (.iadd, 1) := by decide +kernel
theorem dX5_acted_29 : decode cX5_acted 29 = .ok (.iaload, 1) := by decide +kernel
theorem dX5_acted_30 : decode cX5_acted 30 = .ok (.iastore, 1) := by decide +kernel
theorem dX5_acted_31 : decode cX5_acted 31 = .ok (.iinc 2 1, 3) := by decide +kernel
theorem dX5_acted_34 : decode cX5_acted 34 = .ok (.goto (-24), 3) := by decide +kernel
theorem dX5_acted_37 : decode cX5_acted 37 = .ok (.aload_n 0, 1) := by decide +kernel
theorem dX5_acted_38 : decode cX5_acted 38 = .ok (.dup, 1) := by decide +kernel
theorem dX5_acted_39 : decode cX5_acted 39 = .ok (.getfield 36, 3) := by decide +kernel
theorem dX5_acted_42 : decode cX5_acted 42 = .ok (.iconst 1, 1) := by decide +kernel
theorem dX5_acted_43 : decode cX5_acted 43 = .ok (.isub, 1) := by decide +kernel
theorem dX5_acted_44 : decode cX5_acted 44 = .ok (.putfield 36, 3) := by decide +kernel
theorem dX5_acted_47 : decode cX5_acted 47 = .ok (.iconst 0, 1) := by decide +kernel
theorem dX5_acted_48 : decode cX5_acted 48 = .ok (.istore_n 2, 1) := by decide +kernel
theorem dX5_acted_49 : decode cX5_acted 49 = .ok (.iload_n 2, 1) := by decide +kernel
theorem dX5_acted_50 : decode cX5_acted 50 = .ok (.bipush 37, 2) := by decide +kernel
theorem dX5_acted_52 : decode cX5_acted 52 = .ok (.if_icmp .ge 29, 3) := by decide +kernel
theorem dX5_acted_55 : decode cX5_acted 55 = .ok (.aload_n 0, 1) := by decide +kernel
theorem dX5_acted_56 : decode cX5_acted 56 = .ok (.getfield 19, 3) := by decide +kernel
theorem dX5_acted_59 : decode cX5_acted 59 = .ok (.bipush 37, 2) := by decide +kernel
theorem dX5_acted_61 : decode cX5_acted 61 = .ok (.aload_n 0, 1) := by decide +kernel
theorem dX5_acted_62 : decode cX5_acted 62 = .ok (.getfield 36, 3) := by decide +kernel
theorem dX5_acted_65 : decode cX5_acted 65 = .ok (.imul, 1) := by decide +kernel
theorem dX5_acted_66 : decode cX5_acted 66 = .ok (.iload_n 2, 1) := by decide +kernel
theorem dX5_acted_67 : decode cX5_acted 67 = .ok (.iadd, 1) := by decide +kernel
theorem dX5_acted_68 : decode cX5_acted 68 = .ok (.aload_n 0, 1) := by decide +kernel
theorem dX5_acted_69 : decode cX5_acted 69 = .ok (.getfield 13, 3) := by decide +kernel
theorem dX5_acted_72 : decode cX5_acted 72 = .ok (.iload_n 2, 1) := by decide +kernel
theorem dX5_acted_73 : decode cX5_acted 73 = .ok (.iaload, 1) := by decide +kernel
theorem dX5_acted_74 : decode cX5_acted 74 = .ok (.iastore, 1) := by decide +kernel
theorem dX5_acted_75 : decode cX5_acted 75 = .ok (.iinc 2 1, 3) := by decide +kernel
theorem dX5_acted_78 : decode cX5_acted 78 = .ok (.goto (-29), 3) := by decide +kernel
theorem dX5_acted_81 : decode cX5_acted 81 = .ok (.aload_n 0, 1) := by decide +kernel
theorem dX5_acted_82 : decode cX5_acted 82 = .ok (.dup, 1) := by decide +kernel
theorem dX5_acted_83 : decode cX5_acted 83 = .ok (.getfield 36, 3) := by decide +kernel
theorem dX5_acted_86 : decode cX5_acted 86 = .ok (.iconst 1, 1) := by decide +kernel
theorem dX5_acted_87 : decode cX5_acted 87 = .ok (.iadd, 1) := by decide +kernel
theorem dX5_acted_88 : decode cX5_acted 88 = .ok (.putfield 36, 3) := by decide +kernel
theorem dX5_acted_91 : decode cX5_acted 91 = .ok (.iload_n 1, 1) := by decide +kernel
theorem dX5_acted_92 : decode cX5_acted 92 = .ok (.ireturn, 1) := by decide +kernel
theorem dX5_breaks_0 : decode cX5_breaks 0 = .ok (.aload_n 0, 1) := by decide +kernel
theorem dX5_breaks_1 : decode cX5_breaks 1 = .ok (.getfield 7, 3) := by decide +kernel
theorem dX5_breaks_4 : decode cX5_breaks 4 = .ok (.bipush 36, 2) := by decide +kernel
theorem dX5_breaks_6 : decode cX5_breaks 6 = .ok (.iaload, 1) := by decide +kernel
theorem dX5_breaks_7 : decode cX5_breaks 7 = .ok (.ldc 39, 2) := by decide +kernel
theorem dX5_breaks_9 : decode cX5_breaks 9 = .ok (.irem, 1) := by decide +kernel
theorem dX5_breaks_10 : decode cX5_breaks 10 = .ok (.ireturn, 1) := by decide +kernel
theorem dX5_doffs_0 : decode cX5_doffs 0 = .ok (.aload_n 0, 1) := by decide +kernel
theorem dX5_doffs_1 : decode cX5_doffs 1 = .ok (.getfield 7, 3) := by decide +kernel
theorem dX5_doffs_4 : decode cX5_doffs 4 = .ok (.bipush 36, 2) := by decide +kernel
theorem dX5_doffs_6 : decode cX5_doffs 6 = .ok (.iaload, 1) := by decide +kernel
theorem dX5_doffs_7 : decode cX5_doffs 7 = .ok (.ldc 39, 2) := by decide +kernel
theorem dX5_doffs_9 : decode cX5_doffs 9 = .ok (.idiv, 1) := by decide +kernel
theorem dX5_doffs_10 : decode cX5_doffs 10 = .ok (.ireturn, 1) := by decide +kernel
theorem dX5_placeOn_0 : decode cX5_placeOn 0 = .ok (.iload_n 0, 1) := by decide +kernel
theorem dX5_placeOn_1 : decode cX5_placeOn 1 = .ok (.bipush 11, 2) := by decide +kernel
theorem dX5_placeOn_3 : decode cX5_placeOn 3 = .ok (.if_icmp .gt 7, 3) := by decide +kernel
theorem dX5_placeOn_6 : decode cX5_placeOn 6 = .ok (.iload_n 0, 1) := by decide +kernel
theorem dX5_placeOn_7 : decode cX5_placeOn 7 = .ok (.goto 7, 3) := by decide +kernel
theorem dX5_placeOn_10 : decode cX5_placeOn 10 = .ok (.bipush 22, 2) := by decide +kernel
theorem dX5_placeOn_12 : decode cX5_placeOn 12 = .ok (.iload_n 0, 1) := by decide +kernel
theorem dX5_placeOn_13 : decode cX5_placeOn 13 = .ok (.isub, 1) := by decide +kernel
theorem dX5_placeOn_14 : decode cX5_placeOn 14 = .ok (.ireturn, 1) := by decide +kernel
set_option maxRecDepth 20000 in
theorem ggX5_place_X5_placeOn : GoodIn wsX5_place wsX5_placeOn := goodIn_r _ [5] (by decide +kernel) (by decide +kernel)
set_option maxRecDepth 20000 in
theorem gX5_place_X5_placeOn : GoodIn wsX5_place (va_wsS RX5 40 yX5_placeOn wsX5_placeOn) := goodIn_app (goodIn_of _ (by decide +kernel)) ggX5_place_X5_placeOn
theorem dX5_place_0 : decode cX5_place 0 = .ok (.aload_n 0, 1) := by decide +kernel
theorem dX5_place_1 : decode cX5_place 1 = .ok (.getfield 7, 3) := by decide +kernel
theorem dX5_place_4 : decode cX5_place 4 = .ok (.bipush 29, 2) := by decide +kernel
theorem dX5_place_6 : decode cX5_place 6 = .ok (.iaload, 1) := by decide +kernel
theorem dX5_place_7 : decode cX5_place 7 = .ok (.invokestatic 40, 3) := by decide +kernel
theorem dX5_place_10 : decode cX5_place 10 = .ok (.ireturn, 1) := by decide +kernel
theorem dX5_wraps_0 : decode cX5_wraps 0 = .ok (.iconst 0, 1) := by decide +kernel
theorem dX5_wraps_1 : decode cX5_wraps 1 = .ok (.istore_n 1, 1) := by decide +kernel
theorem dX5_wraps_2 : decode cX5_wraps 2 = .ok (.iconst 0, 1) := by decide +kernel
theorem dX5_wraps_3 : decode cX5_wraps 3 = .ok (.istore_n 2, 1) := by decide +kernel
theorem dX5_wraps_4 : decode cX5_wraps 4 = .ok (.iload_n 2, 1) := by decide +kernel
theorem dX5_wraps_5 : decode cX5_wraps 5 = .ok (.bipush 12, 2) := by decide +kernel
theorem dX5_wraps_7 : decode cX5_wraps 7 = .ok (.if_icmp .ge 20, 3) := by decide +kernel
theorem dX5_wraps_10 : decode cX5_wraps 10 = .ok (.iload_n 1, 1) := by decide +kernel
theorem dX5_wraps_11 : decode cX5_wraps 11 = .ok (.aload_n 0, 1) := by decide +kernel
theorem dX5_wraps_12 : decode cX5_wraps 12 = .ok (.getfield 7, 3) := by decide +kernel
theorem dX5_wraps_15 : decode cX5_wraps 15 = .ok (.iconst 0, 1) := by decide +kernel
theorem dX5_wraps_16 : decode cX5_wraps 16 = .ok (.iload_n 2, 1) := by decide +kernel
theorem dX5_wraps_17 : decode cX5_wraps 17 = .ok (.iadd, 1) := by decide +kernel
theorem dX5_wraps_18 : decode cX5_wraps 18 = .ok (.iaload, 1) := by decide +kernel
theorem dX5_wraps_19 : decode cX5_wraps 19 = .ok (.iadd, 1) := by decide +kernel
theorem dX5_wraps_20 : decode cX5_wraps 20 = .ok (.istore_n 1, 1) := by decide +kernel
theorem dX5_wraps_21 : decode cX5_wraps 21 = .ok (.iinc 2 1, 3) := by decide +kernel
theorem dX5_wraps_24 : decode cX5_wraps 24 = .ok (.goto (-20), 3) := by decide +kernel
theorem dX5_wraps_27 : decode cX5_wraps 27 = .ok (.iload_n 1, 1) := by decide +kernel
theorem dX5_wraps_28 : decode cX5_wraps 28 = .ok (.ireturn, 1) := by decide +kernel
theorem dX5_greatest_0 : decode cX5_greatest 0 = .ok (.iconst 0, 1) := by decide +kernel
theorem dX5_greatest_1 : decode cX5_greatest 1 = .ok (.istore_n 1, 1) := by decide +kernel
theorem dX5_greatest_2 : decode cX5_greatest 2 = .ok (.iconst 0, 1) := by decide +kernel
theorem dX5_greatest_3 : decode cX5_greatest 3 = .ok (.istore_n 2, 1) := by decide +kernel
theorem dX5_greatest_4 : decode cX5_greatest 4 = .ok (.iload_n 2, 1) := by decide +kernel
theorem dX5_greatest_5 : decode cX5_greatest 5 = .ok (.bipush 12, 2) := by decide +kernel
theorem dX5_greatest_7 : decode cX5_greatest 7 = .ok (.if_icmp .ge 34, 3) := by decide +kernel
theorem dX5_greatest_10 : decode cX5_greatest 10 = .ok (.aload_n 0, 1) := by decide +kernel
theorem dX5_greatest_11 : decode cX5_greatest 11 = .ok (.getfield 7, 3) := by decide +kernel
theorem dX5_greatest_14 : decode cX5_greatest 14 = .ok (.iconst 0, 1) := by decide +kernel
theorem dX5_greatest_15 : decode cX5_greatest 15 = .ok (.iload_n 2, 1) := by decide +kernel
theorem dX5_greatest_16 : decode cX5_greatest 16 = .ok (.iadd, 1) := by decide +kernel
theorem dX5_greatest_17 : decode cX5_greatest 17 = .ok (.iaload, 1) := by decide +kernel
theorem dX5_greatest_18 : decode cX5_greatest 18 = .ok (.iload_n 1, 1) := by decide +kernel
theorem dX5_greatest_19 : decode cX5_greatest 19 = .ok (.if_icmp .le 14, 3) := by decide +kernel
theorem dX5_greatest_22 : decode cX5_greatest 22 = .ok (.aload_n 0, 1) := by decide +kernel
theorem dX5_greatest_23 : decode cX5_greatest 23 = .ok (.getfield 7, 3) := by decide +kernel
theorem dX5_greatest_26 : decode cX5_greatest 26 = .ok (.iconst 0, 1) := by decide +kernel
theorem dX5_greatest_27 : decode cX5_greatest 27 = .ok (.iload_n 2, 1) := by decide +kernel
theorem dX5_greatest_28 : decode cX5_greatest 28 = .ok (.iadd, 1) := by decide +kernel
theorem dX5_greatest_29 : decode cX5_greatest 29 = .ok (.iaload, 1) := by decide +kernel
theorem dX5_greatest_30 : decode cX5_greatest 30 = .ok (.goto 4, 3) := by decide +kernel
theorem dX5_greatest_33 : decode cX5_greatest 33 = .ok (.iload_n 1, 1) := by decide +kernel
theorem dX5_greatest_34 : decode cX5_greatest 34 = .ok (.istore_n 1, 1) := by decide +kernel
theorem dX5_greatest_35 : decode cX5_greatest 35 = .ok (.iinc 2 1, 3) := by decide +kernel
theorem dX5_greatest_38 : decode cX5_greatest 38 = .ok (.goto (-34), 3) := by decide +kernel
theorem dX5_greatest_41 : decode cX5_greatest 41 = .ok (.iload_n 1, 1) := by decide +kernel
theorem dX5_greatest_42 : decode cX5_greatest 42 = .ok (.ireturn, 1) := by decide +kernel
set_option maxRecDepth 20000 in
theorem ggX5_evenness_X5_greatest : GoodIn wsX5_evenness wsX5_greatest := goodIn_r _ [6, 1, 7, 8, 9, 10, 11, 12, 13, 14, 15, 16, 17, 18] (by decide +kernel) (by decide +kernel)
set_option maxRecDepth 20000 in
theorem gX5_evenness_X5_greatest : GoodIn wsX5_evenness (wsV RX5 44 RX5 yX5_greatest wsX5_greatest) := goodIn_app (goodIn_of _ (by decide +kernel)) ggX5_evenness_X5_greatest
theorem dX5_evenness_0 : decode cX5_evenness 0 = .ok (.sipush 200, 3) := by decide +kernel
theorem dX5_evenness_3 : decode cX5_evenness 3 = .ok (.istore_n 1, 1) := by decide +kernel
theorem dX5_evenness_4 : decode cX5_evenness 4 = .ok (.iconst 0, 1) := by decide +kernel
theorem dX5_evenness_5 : decode cX5_evenness 5 = .ok (.istore_n 2, 1) := by decide +kernel
theorem dX5_evenness_6 : decode cX5_evenness 6 = .ok (.iload_n 2, 1) := by decide +kernel
theorem dX5_evenness_7 : decode cX5_evenness 7 = .ok (.bipush 12, 2) := by decide +kernel
theorem dX5_evenness_9 : decode cX5_evenness 9 = .ok (.if_icmp .ge 34, 3) := by decide +kernel
theorem dX5_evenness_12 : decode cX5_evenness 12 = .ok (.aload_n 0, 1) := by decide +kernel
theorem dX5_evenness_13 : decode cX5_evenness 13 = .ok (.getfield 7, 3) := by decide +kernel
theorem dX5_evenness_16 : decode cX5_evenness 16 = .ok (.iconst 0, 1) := by decide +kernel
theorem dX5_evenness_17 : decode cX5_evenness 17 = .ok (.iload_n 2, 1) := by decide +kernel
theorem dX5_evenness_18 : decode cX5_evenness 18 = .ok (.iadd, 1) := by decide +kernel
theorem dX5_evenness_19 : decode cX5_evenness 19 = .ok (.iaload, 1) := by decide +kernel
theorem dX5_evenness_20 : decode cX5_evenness 20 = .ok (.iload_n 1, 1) := by decide +kernel
theorem dX5_evenness_21 : decode cX5_evenness 21 = .ok (.if_icmp .ge 14, 3) := by decide +kernel
theorem dX5_evenness_24 : decode cX5_evenness 24 = .ok (.aload_n 0, 1) := by decide +kernel
theorem dX5_evenness_25 : decode cX5_evenness 25 = .ok (.getfield 7, 3) := by decide +kernel
theorem dX5_evenness_28 : decode cX5_evenness 28 = .ok (.iconst 0, 1) := by decide +kernel
theorem dX5_evenness_29 : decode cX5_evenness 29 = .ok (.iload_n 2, 1) := by decide +kernel
theorem dX5_evenness_30 : decode cX5_evenness 30 = .ok (.iadd, 1) := by decide +kernel
theorem dX5_evenness_31 : decode cX5_evenness 31 = .ok (.iaload, 1) := by decide +kernel
theorem dX5_evenness_32 : decode cX5_evenness 32 = .ok (.goto 4, 3) := by decide +kernel
theorem dX5_evenness_35 : decode cX5_evenness 35 = .ok (.iload_n 1, 1) := by decide +kernel
theorem dX5_evenness_36 : decode cX5_evenness 36 = .ok (.istore_n 1, 1) := by decide +kernel
theorem dX5_evenness_37 : decode cX5_evenness 37 = .ok (.iinc 2 1, 3) := by decide +kernel
theorem dX5_evenness_40 : decode cX5_evenness 40 = .ok (.goto (-34), 3) := by decide +kernel
theorem dX5_evenness_43 : decode cX5_evenness 43 = .ok (.aload_n 0, 1) := by decide +kernel
theorem dX5_evenness_44 : decode cX5_evenness 44 = .ok (.invokevirtual 44, 3) := by decide +kernel
theorem dX5_evenness_47 : decode cX5_evenness 47 = .ok (.iload_n 1, 1) := by decide +kernel
theorem dX5_evenness_48 : decode cX5_evenness 48 = .ok (.isub, 1) := by decide +kernel
theorem dX5_evenness_49 : decode cX5_evenness 49 = .ok (.ireturn, 1) := by decide +kernel
set_option maxRecDepth 20000 in
theorem ggX5_isFull_X5_greatest : GoodIn wsX5_isFull wsX5_greatest := goodIn_r _ [5, 6, 7, 8, 9, 10, 11, 12, 13, 14, 15, 16, 17, 18] (by decide +kernel) (by decide +kernel)
set_option maxRecDepth 20000 in
theorem gX5_isFull_X5_greatest : GoodIn wsX5_isFull (wsV RX5 44 RX5 yX5_greatest wsX5_greatest) := goodIn_app (goodIn_of _ (by decide +kernel)) ggX5_isFull_X5_greatest
theorem dX5_isFull_0 : decode cX5_isFull 0 = .ok (.aload_n 0, 1) := by decide +kernel
theorem dX5_isFull_1 : decode cX5_isFull 1 = .ok (.invokevirtual 44, 3) := by decide +kernel
theorem dX5_isFull_4 : decode cX5_isFull 4 = .ok (.sipush 200, 3) := by decide +kernel
theorem dX5_isFull_7 : decode cX5_isFull 7 = .ok (.if_icmp .ne 7, 3) := by decide +kernel
theorem dX5_isFull_10 : decode cX5_isFull 10 = .ok (.iconst 1, 1) := by decide +kernel
theorem dX5_isFull_11 : decode cX5_isFull 11 = .ok (.goto 4, 3) := by decide +kernel
theorem dX5_isFull_14 : decode cX5_isFull 14 = .ok (.iconst 0, 1) := by decide +kernel
theorem dX5_isFull_15 : decode cX5_isFull 15 = .ok (.ireturn, 1) := by decide +kernel
set_option maxRecDepth 20000 in
theorem ggX5_isIdle_X5_isFull : GoodIn wsX5_isIdle wsX5_isFull := goodIn_r _ [6, 7, 8, 9, 5, 10, 1, 11, 12, 13, 14, 15, 16, 17, 18, 19, 20, 21, 22] (by decide +kernel) (by decide +kernel)
set_option maxRecDepth 20000 in
theorem gX5_isIdle_X5_isFull : GoodIn wsX5_isIdle (wsV RX5 48 RX5 yX5_isFull wsX5_isFull) := goodIn_app (goodIn_of _ (by decide +kernel)) ggX5_isIdle_X5_isFull
theorem dX5_isIdle_0 : decode cX5_isIdle 0 = .ok (.aload_n 0, 1) := by decide +kernel
theorem dX5_isIdle_1 : decode cX5_isIdle 1 = .ok (.getfield 7, 3) := by decide +kernel
theorem dX5_isIdle_4 : decode cX5_isIdle 4 = .ok (.bipush 33, 2) := by decide +kernel
theorem dX5_isIdle_6 : decode cX5_isIdle 6 = .ok (.iaload, 1) := by decide +kernel
theorem dX5_isIdle_7 : decode cX5_isIdle 7 = .ok (.iconst 1, 1) := by decide +kernel
theorem dX5_isIdle_8 : decode cX5_isIdle 8 = .ok (.if_icmp .eq 20, 3) := by decide +kernel
theorem dX5_isIdle_11 : decode cX5_isIdle 11 = .ok (.aload_n 0, 1) := by decide +kernel
theorem dX5_isIdle_12 : decode cX5_isIdle 12 = .ok (.getfield 7, 3) := by decide +kernel
theorem dX5_isIdle_15 : decode cX5_isIdle 15 = .ok (.bipush 30, 2) := by decide +kernel
theorem dX5_isIdle_17 : decode cX5_isIdle 17 = .ok (.iaload, 1) := by decide +kernel
theorem dX5_isIdle_18 : decode cX5_isIdle 18 = .ok (.ifCond .eq 10, 3) := by decide +kernel
theorem dX5_isIdle_21 : decode cX5_isIdle 21 = .ok (.aload_n 0, 1) := by decide +kernel
theorem dX5_isIdle_22 : decode cX5_isIdle 22 = .ok (.invokevirtual 48, 3) := by decide +kernel
theorem dX5_isIdle_25 : decode cX5_isIdle 25 = .ok (.ifCond .eq 7, 3) := by decide +kernel
theorem dX5_isIdle_28 : decode cX5_isIdle 28 = .ok (.iconst 1, 1) := by decide +kernel
theorem dX5_isIdle_29 : decode cX5_isIdle 29 = .ok (.goto 4, 3) := by decide +kernel
theorem dX5_isIdle_32 : decode cX5_isIdle 32 = .ok (.iconst 0, 1) := by decide +kernel
theorem dX5_isIdle_33 : decode cX5_isIdle 33 = .ok (.ireturn, 1) := by decide +kernel
theorem dX5_guideGoes_0 : decode cX5_guideGoes 0 = .ok (.aload_n 0, 1) := by decide +kernel
theorem dX5_guideGoes_1 : decode cX5_guideGoes 1 = .ok (.getfield 7, 3) := by decide +kernel
theorem dX5_guideGoes_4 : decode cX5_guideGoes 4 = .ok (.bipush 26, 2) := by decide +kernel
theorem dX5_guideGoes_6 : decode cX5_guideGoes 6 = .ok (.iaload, 1) := by decide +kernel
theorem dX5_guideGoes_7 : decode cX5_guideGoes 7 = .ok (.ifCond .le 28, 3) := by decide +kernel
theorem dX5_guideGoes_10 : decode cX5_guideGoes 10 = .ok (.aload_n 0, 1) := by decide +kernel
theorem dX5_guideGoes_11 : decode cX5_guideGoes 11 = .ok (.getfield 7, 3) := by decide +kernel
theorem dX5_guideGoes_14 : decode cX5_guideGoes 14 = .ok (.bipush 35, 2) := by decide +kernel
theorem dX5_guideGoes_16 : decode cX5_guideGoes 16 = .ok (.iaload, 1) := by decide +kernel
theorem dX5_guideGoes_17 : decode cX5_guideGoes 17 = .ok (.bipush 8, 2) := by decide +kernel
theorem dX5_guideGoes_19 : decode cX5_guideGoes 19 = .ok (.aload_n 0, 1) := by decide +kernel
theorem dX5_guideGoes_20 : decode cX5_guideGoes 20 = .ok (.getfield 7, 3) := by decide +kernel
theorem dX5_guideGoes_23 : decode cX5_guideGoes 23 = .ok (.bipush 26, 2) := by decide +kernel
theorem dX5_guideGoes_25 : decode cX5_guideGoes 25 = .ok (.iaload, 1) := by decide +kernel
theorem dX5_guideGoes_26 : decode cX5_guideGoes 26 = .ok (.isub, 1) := by decide +kernel
theorem dX5_guideGoes_27 : decode cX5_guideGoes 27 = .ok (.irem, 1) := by decide +kernel
theorem dX5_guideGoes_28 : decode cX5_guideGoes 28 = .ok (.ifCond .ne 7, 3) := by decide +kernel
theorem dX5_guideGoes_31 : decode cX5_guideGoes 31 = .ok (.iconst 1, 1) := by decide +kernel
theorem dX5_guideGoes_32 : decode cX5_guideGoes 32 = .ok (.goto 4, 3) := by decide +kernel
theorem dX5_guideGoes_35 : decode cX5_guideGoes 35 = .ok (.iconst 0, 1) := by decide +kernel
theorem dX5_guideGoes_36 : decode cX5_guideGoes 36 = .ok (.istore_n 1, 1) := by decide +kernel
theorem dX5_guideGoes_37 : decode cX5_guideGoes 37 = .ok (.aload_n 0, 1) := by decide +kernel
theorem dX5_guideGoes_38 : decode cX5_guideGoes 38 = .ok (.getfield 7, 3) := by decide +kernel
theorem dX5_guideGoes_41 : decode cX5_guideGoes 41 = .ok (.bipush 29, 2) := by decide +kernel
theorem dX5_guideGoes_43 : decode cX5_guideGoes 43 = .ok (.aload_n 0, 1) := by decide +kernel
theorem dX5_guideGoes_44 : decode cX5_guideGoes 44 = .ok (.getfield 7, 3) := by decide +kernel
theorem dX5_guideGoes_47 : decode cX5_guideGoes 47 = .ok (.bipush 29, 2) := by decide +kernel
theorem dX5_guideGoes_49 : decode cX5_guideGoes 49 = .ok (.iaload, 1) := by decide +kernel
theorem dX5_guideGoes_50 : decode cX5_guideGoes 50 = .ok (.aload_n 0, 1) := by decide +kernel
theorem dX5_guideGoes_51 : decode cX5_guideGoes 51 = .ok (.getfield 7, 3) := by decide +kernel
theorem dX5_guideGoes_54 : decode cX5_guideGoes 54 = .ok (.bipush 24, 2) := by decide +kernel
theorem dX5_guideGoes_56 : decode cX5_guideGoes 56 = .ok (.iaload, 1) := by decide +kernel
theorem dX5_guideGoes_57 : decode cX5_guideGoes 57 = .ok (.iadd, 1) := by decide +kernel
theorem dX5_guideGoes_58 : decode cX5_guideGoes 58 = .ok (.iload_n 1, 1) := by decide +kernel
theorem dX5_guideGoes_59 : decode cX5_guideGoes 59 = .ok (.iadd, 1) := by decide +kernel
theorem dX5_guideGoes_60 : decode cX5_guideGoes 60 = .ok (.bipush 22, 2) := by decide +kernel
theorem dX5_guideGoes_62 : decode cX5_guideGoes 62 = .ok (.irem, 1) := by decide +kernel
theorem dX5_guideGoes_63 : decode cX5_guideGoes 63 = .ok (.iastore, 1) := by decide +kernel
theorem dX5_guideGoes_64 : decode cX5_guideGoes 64 = .ok (.return_, 1) := by decide +kernel
set_option maxRecDepth 20000 in
theorem ggX5_pulls_X5_place : GoodIn wsX5_pulls wsX5_place := goodIn_r _ [6, 1, 7, 8, 5, 9, 10, 11, 12, 13, 14, 15, 16, 17, 18, 19, 20, 21] (by decide +kernel) (by decide +kernel)
set_option maxRecDepth 20000 in
theorem gX5_pulls_X5_place : GoodIn wsX5_pulls (wsV RX5 52 RX5 yX5_place wsX5_place) := goodIn_app (goodIn_of _ (by decide +kernel)) ggX5_pulls_X5_place
theorem dX5_pulls_0 : decode cX5_pulls 0 = .ok (.aload_n 0, 1) := by decide +kernel
theorem dX5_pulls_1 : decode cX5_pulls 1 = .ok (.invokevirtual 52, 3) := by decide +kernel
theorem dX5_pulls_4 : decode cX5_pulls 4 = .ok (.istore_n 1, 1) := by decide +kernel
theorem dX5_pulls_5 : decode cX5_pulls 5 = .ok (.aload_n 0, 1) := by decide +kernel
theorem dX5_pulls_6 : decode cX5_pulls 6 = .ok (.getfield 7, 3) := by decide +kernel
theorem dX5_pulls_9 : decode cX5_pulls 9 = .ok (.bipush 34, 2) := by decide +kernel
theorem dX5_pulls_11 : decode cX5_pulls 11 = .ok (.iaload, 1) := by decide +kernel
theorem dX5_pulls_12 : decode cX5_pulls 12 = .ok (.bipush (-5), 2) := by decide +kernel
theorem dX5_pulls_14 : decode cX5_pulls 14 = .ok (.if_icmp .ne 7, 3) := by decide +kernel
theorem dX5_pulls_17 : decode cX5_pulls 17 = .ok (.iconst 0, 1) := by decide +kernel
theorem dX5_pulls_18 : decode cX5_pulls 18 = .ok (.goto 26, 3) := by decide +kernel
theorem dX5_pulls_21 : decode cX5_pulls 21 = .ok (.aload_n 0, 1) := by decide +kernel
theorem dX5_pulls_22 : decode cX5_pulls 22 = .ok (.getfield 7, 3) := by decide +kernel
theorem dX5_pulls_25 : decode cX5_pulls 25 = .ok (.iconst 0, 1) := by decide +kernel
theorem dX5_pulls_26 : decode cX5_pulls 26 = .ok (.iload_n 1, 1) := by decide +kernel
theorem dX5_pulls_27 : decode cX5_pulls 27 = .ok (.iadd, 1) := by decide +kernel
theorem dX5_pulls_28 : decode cX5_pulls 28 = .ok (.iaload, 1) := by decide +kernel
theorem dX5_pulls_29 : decode cX5_pulls 29 = .ok (.aload_n 0, 1) := by decide +kernel
theorem dX5_pulls_30 : decode cX5_pulls 30 = .ok (.getfield 7, 3) := by decide +kernel
theorem dX5_pulls_33 : decode cX5_pulls 33 = .ok (.iconst 0, 1) := by decide +kernel
theorem dX5_pulls_34 : decode cX5_pulls 34 = .ok (.aload_n 0, 1) := by decide +kernel
theorem dX5_pulls_35 : decode cX5_pulls 35 = .ok (.getfield 7, 3) := by decide +kernel
theorem dX5_pulls_38 : decode cX5_pulls 38 = .ok (.bipush 34, 2) := by decide +kernel
theorem dX5_pulls_40 : decode cX5_pulls 40 = .ok (.iaload, 1) := by decide +kernel
theorem dX5_pulls_41 : decode cX5_pulls 41 = .ok (.iadd, 1) := by decide +kernel
theorem dX5_pulls_42 : decode cX5_pulls 42 = .ok (.iaload, 1) := by decide +kernel
theorem dX5_pulls_43 : decode cX5_pulls 43 = .ok (.isub, 1) := by decide +kernel
theorem dX5_pulls_44 : decode cX5_pulls 44 = .ok (.istore_n 2, 1) := by decide +kernel
theorem dX5_pulls_45 : decode cX5_pulls 45 = .ok (.aload_n 0, 1) := by decide +kernel
theorem dX5_pulls_46 : decode cX5_pulls 46 = .ok (.getfield 7, 3) := by decide +kernel
theorem dX5_pulls_49 : decode cX5_pulls 49 = .ok (.bipush 32, 2) := by decide +kernel
theorem dX5_pulls_51 : decode cX5_pulls 51 = .ok (.iconst 4, 1) := by decide +kernel
theorem dX5_pulls_52 : decode cX5_pulls 52 = .ok (.aload_n 0, 1) := by decide +kernel
theorem dX5_pulls_53 : decode cX5_pulls 53 = .ok (.getfield 7, 3) := by decide +kernel
theorem dX5_pulls_56 : decode cX5_pulls 56 = .ok (.bipush 25, 2) := by decide +kernel
theorem dX5_pulls_58 : decode cX5_pulls 58 = .ok (.iaload, 1) := by decide +kernel
theorem dX5_pulls_59 : decode cX5_pulls 59 = .ok (.imul, 1) := by decide +kernel
theorem dX5_pulls_60 : decode cX5_pulls 60 = .ok (.aload_n 0, 1) := by decide +kernel
theorem dX5_pulls_61 : decode cX5_pulls 61 = .ok (.getfield 7, 3) := by decide +kernel
theorem dX5_pulls_64 : decode cX5_pulls 64 = .ok (.bipush 31, 2) := by decide +kernel
theorem dX5_pulls_66 : decode cX5_pulls 66 = .ok (.iaload, 1) := by decide +kernel
theorem dX5_pulls_67 : decode cX5_pulls 67 = .ok (.bipush 10, 2) := by decide +kernel
theorem dX5_pulls_69 : decode cX5_pulls 69 = .ok (.idiv, 1) := by decide +kernel
theorem dX5_pulls_70 : decode cX5_pulls 70 = .ok (.iadd, 1) := by decide +kernel
theorem dX5_pulls_71 : decode cX5_pulls 71 = .ok (.iconst 2, 1) := by decide +kernel
theorem dX5_pulls_72 : decode cX5_pulls 72 = .ok (.iload_n 2, 1) := by decide +kernel
theorem dX5_pulls_73 : decode cX5_pulls 73 = .ok (.ifCond .ge 8, 3) := by decide +kernel
theorem dX5_pulls_76 : decode cX5_pulls 76 = .ok (.iload_n 2, 1) := by decide +kernel
theorem dX5_pulls_77 : decode cX5_pulls 77 = .ok (.ineg, 1) := by decide +kernel
theorem dX5_pulls_78 : decode cX5_pulls 78 = .ok (.goto 4, 3) := by decide +kernel
theorem dX5_pulls_81 : decode cX5_pulls 81 = .ok (.iload_n 2, 1) := by decide +kernel
theorem dX5_pulls_82 : decode cX5_pulls 82 = .ok (.imul, 1) := by decide +kernel
theorem dX5_pulls_83 : decode cX5_pulls 83 = .ok (.iadd, 1) := by decide +kernel
theorem dX5_pulls_84 : decode cX5_pulls 84 = .ok (.iastore, 1) := by decide +kernel
theorem dX5_pulls_85 : decode cX5_pulls 85 = .ok (.aload_n 0, 1) := by decide +kernel
theorem dX5_pulls_86 : decode cX5_pulls 86 = .ok (.getfield 7, 3) := by decide +kernel
theorem dX5_pulls_89 : decode cX5_pulls 89 = .ok (.bipush 34, 2) := by decide +kernel
theorem dX5_pulls_91 : decode cX5_pulls 91 = .ok (.iload_n 1, 1) := by decide +kernel
theorem dX5_pulls_92 : decode cX5_pulls 92 = .ok (.iastore, 1) := by decide +kernel
theorem dX5_pulls_93 : decode cX5_pulls 93 = .ok (.aload_n 0, 1) := by decide +kernel
theorem dX5_pulls_94 : decode cX5_pulls 94 = .ok (.getfield 7, 3) := by decide +kernel
theorem dX5_pulls_97 : decode cX5_pulls 97 = .ok (.bipush 31, 2) := by decide +kernel
theorem dX5_pulls_99 : decode cX5_pulls 99 = .ok (.iaload, 1) := by decide +kernel
theorem dX5_pulls_100 : decode cX5_pulls 100 = .ok (.aload_n 0, 1) := by decide +kernel
theorem dX5_pulls_101 : decode cX5_pulls 101 = .ok (.getfield 7, 3) := by decide +kernel
theorem dX5_pulls_104 : decode cX5_pulls 104 = .ok (.bipush 25, 2) := by decide +kernel
theorem dX5_pulls_106 : decode cX5_pulls 106 = .ok (.iaload, 1) := by decide +kernel
theorem dX5_pulls_107 : decode cX5_pulls 107 = .ok (.iadd, 1) := by decide +kernel
theorem dX5_pulls_108 : decode cX5_pulls 108 = .ok (.iconst 1, 1) := by decide +kernel
theorem dX5_pulls_109 : decode cX5_pulls 109 = .ok (.isub, 1) := by decide +kernel
theorem dX5_pulls_110 : decode cX5_pulls 110 = .ok (.istore_n 3, 1) := by decide +kernel
theorem dX5_pulls_111 : decode cX5_pulls 111 = .ok (.aload_n 0, 1) := by decide +kernel
theorem dX5_pulls_112 : decode cX5_pulls 112 = .ok (.getfield 7, 3) := by decide +kernel
theorem dX5_pulls_115 : decode cX5_pulls 115 = .ok (.bipush 31, 2) := by decide +kernel
theorem dX5_pulls_117 : decode cX5_pulls 117 = .ok (.iload_n 3, 1) := by decide +kernel
theorem dX5_pulls_118 : decode cX5_pulls 118 = .ok (.ifCond .ge 7, 3) := by decide +kernel
theorem dX5_pulls_121 : decode cX5_pulls 121 = .ok (.iconst 0, 1) := by decide +kernel
theorem dX5_pulls_122 : decode cX5_pulls 122 = .ok (.goto 17, 3) := by decide +kernel
theorem dX5_pulls_125 : decode cX5_pulls 125 = .ok (.iload_n 3, 1) := by decide +kernel
theorem dX5_pulls_126 : decode cX5_pulls 126 = .ok (.sipush 300, 3) := by decide +kernel
theorem dX5_pulls_129 : decode cX5_pulls 129 = .ok (.if_icmp .ge 7, 3) := by decide +kernel
theorem dX5_pulls_132 : decode cX5_pulls 132 = .ok (.iload_n 3, 1) := by decide +kernel
theorem dX5_pulls_133 : decode cX5_pulls 133 = .ok (.goto 6, 3) := by decide +kernel
theorem dX5_pulls_136 : decode cX5_pulls 136 = .ok (.sipush 300, 3) := by decide +kernel
theorem dX5_pulls_139 : decode cX5_pulls 139 = .ok (.iastore, 1) := by decide +kernel
theorem dX5_pulls_140 : decode cX5_pulls 140 = .ok (.aload_n 0, 1) := by decide +kernel
theorem dX5_pulls_141 : decode cX5_pulls 141 = .ok (.getfield 7, 3) := by decide +kernel
theorem dX5_pulls_144 : decode cX5_pulls 144 = .ok (.bipush 32, 2) := by decide +kernel
theorem dX5_pulls_146 : decode cX5_pulls 146 = .ok (.iaload, 1) := by decide +kernel
theorem dX5_pulls_147 : decode cX5_pulls 147 = .ok (.aload_n 0, 1) := by decide +kernel
theorem dX5_pulls_148 : decode cX5_pulls 148 = .ok (.getfield 7, 3) := by decide +kernel
theorem dX5_pulls_151 : decode cX5_pulls 151 = .ok (.bipush 28, 2) := by decide +kernel
theorem dX5_pulls_153 : decode cX5_pulls 153 = .ok (.iaload, 1) := by decide +kernel
theorem dX5_pulls_154 : decode cX5_pulls 154 = .ok (.if_icmp .le 22, 3) := by decide +kernel
theorem dX5_pulls_157 : decode cX5_pulls 157 = .ok (.aload_n 0, 1) := by decide +kernel
theorem dX5_pulls_158 : decode cX5_pulls 158 = .ok (.getfield 7, 3) := by decide +kernel
theorem dX5_pulls_161 : decode cX5_pulls 161 = .ok (.bipush 33, 2) := by decide +kernel
theorem dX5_pulls_163 : decode cX5_pulls 163 = .ok (.iconst 1, 1) := by decide +kernel
theorem dX5_pulls_164 : decode cX5_pulls 164 = .ok (.iastore, 1) := by decide +kernel
theorem dX5_pulls_165 : decode cX5_pulls 165 = .ok (.aload_n 0, 1) := by decide +kernel
theorem dX5_pulls_166 : decode cX5_pulls 166 = .ok (.getfield 7, 3) := by decide +kernel
theorem dX5_pulls_169 : decode cX5_pulls 169 = .ok (.bipush 36, 2) := by decide +kernel
theorem dX5_pulls_171 : decode cX5_pulls 171 = .ok (.dup2, 1) := by decide +kernel
theorem dX5_pulls_172 : decode cX5_pulls 172 = .ok (.iaload, 1) := by decide +kernel
theorem dX5_pulls_173 : decode cX5_pulls 173 = .ok (.iconst 1, 1) := by decide +kernel
theorem dX5_pulls_174 : decode cX5_pulls 174 = .ok (.iadd, 1) := by decide +kernel
theorem dX5_pulls_175 : decode cX5_pulls 175 = .ok (.iastore, 1) := by decide +kernel
theorem dX5_pulls_176 : decode cX5_pulls 176 = .ok (.return_, 1) := by decide +kernel
set_option maxRecDepth 20000 in
theorem ggX5_turns_X5_place : GoodIn wsX5_turns wsX5_place := goodIn_r _ [6, 1, 7, 8, 5, 9, 18, 19, 20, 21, 22, 23, 24, 25, 26, 27, 28, 29] (by decide +kernel) (by decide +kernel)
set_option maxRecDepth 20000 in
theorem gX5_turns_X5_place : GoodIn wsX5_turns (wsV RX5 52 RX5 yX5_place wsX5_place) := goodIn_app (goodIn_of _ (by decide +kernel)) ggX5_turns_X5_place
set_option maxRecDepth 20000 in
theorem ggX5_turns_X5_pulls : GoodIn wsX5_turns wsX5_pulls := goodIn_r _ [13, 1, 2, 3, 4, 5, 6, 7, 8, 9, 18, 19, 20, 21, 22, 23, 24, 25, 26, 27, 28, 29] (by decide +kernel) (by decide +kernel)
set_option maxRecDepth 20000 in
theorem gX5_turns_X5_pulls : GoodIn wsX5_turns (wsV RX5 55 RX5 yX5_pulls wsX5_pulls) := goodIn_app (goodIn_of _ (by decide +kernel)) ggX5_turns_X5_pulls
set_option maxRecDepth 20000 in
theorem ggX5_turns_X5_guideGoes : GoodIn wsX5_turns wsX5_guideGoes := goodIn_r _ [17, 1, 18, 19, 20, 21, 22, 23, 24, 25, 26, 27, 28, 29] (by decide +kernel) (by decide +kernel)
set_option maxRecDepth 20000 in
theorem gX5_turns_X5_guideGoes : GoodIn wsX5_turns (wsV RX5 58 RX5 yX5_guideGoes wsX5_guideGoes) := goodIn_app (goodIn_of _ (by decide +kernel)) ggX5_turns_X5_guideGoes
theorem dX5_turns_0 : decode cX5_turns 0 = .ok (.bipush 10, 2) := by decide +kernel
theorem dX5_turns_2 : decode cX5_turns 2 = .ok (.aload_n 0, 1) := by decide +kernel
theorem dX5_turns_3 : decode cX5_turns 3 = .ok (.getfield 7, 3) := by decide +kernel
theorem dX5_turns_6 : decode cX5_turns 6 = .ok (.iconst 0, 1) := by decide +kernel
theorem dX5_turns_7 : decode cX5_turns 7 = .ok (.aload_n 0, 1) := by decide +kernel
theorem dX5_turns_8 : decode cX5_turns 8 = .ok (.invokevirtual 52, 3) := by decide +kernel
theorem dX5_turns_11 : decode cX5_turns 11 = .ok (.iadd, 1) := by decide +kernel
theorem dX5_turns_12 : decode cX5_turns 12 = .ok (.iaload, 1) := by decide +kernel
theorem dX5_turns_13 : decode cX5_turns 13 = .ok (.iadd, 1) := by decide +kernel
theorem dX5_turns_14 : decode cX5_turns 14 = .ok (.istore_n 1, 1) := by decide +kernel
theorem dX5_turns_15 : decode cX5_turns 15 = .ok (.aload_n 0, 1) := by decide +kernel
theorem dX5_turns_16 : decode cX5_turns 16 = .ok (.getfield 7, 3) := by decide +kernel
theorem dX5_turns_19 : decode cX5_turns 19 = .ok (.bipush 35, 2) := by decide +kernel
theorem dX5_turns_21 : decode cX5_turns 21 = .ok (.dup2, 1) := by decide +kernel
theorem dX5_turns_22 : decode cX5_turns 22 = .ok (.iaload, 1) := by decide +kernel
theorem dX5_turns_23 : decode cX5_turns 23 = .ok (.iconst 1, 1) := by decide +kernel
theorem dX5_turns_24 : decode cX5_turns 24 = .ok (.iadd, 1) := by decide +kernel
theorem dX5_turns_25 : decode cX5_turns 25 = .ok (.iastore, 1) := by decide +kernel
theorem dX5_turns_26 : decode cX5_turns 26 = .ok (.aload_n 0, 1) := by decide +kernel
theorem dX5_turns_27 : decode cX5_turns 27 = .ok (.getfield 7, 3) := by decide +kernel
theorem dX5_turns_30 : decode cX5_turns 30 = .ok (.bipush 30, 2) := by decide +kernel
theorem dX5_turns_32 : decode cX5_turns 32 = .ok (.iaload, 1) := by decide +kernel
theorem dX5_turns_33 : decode cX5_turns 33 = .ok (.iload_n 1, 1) := by decide +kernel
theorem dX5_turns_34 : decode cX5_turns 34 = .ok (.if_icmp .ge 13, 3) := by decide +kernel
theorem dX5_turns_37 : decode cX5_turns 37 = .ok (.aload_n 0, 1) := by decide +kernel
theorem dX5_turns_38 : decode cX5_turns 38 = .ok (.getfield 7, 3) := by decide +kernel
theorem dX5_turns_41 : decode cX5_turns 41 = .ok (.bipush 30, 2) := by decide +kernel
theorem dX5_turns_43 : decode cX5_turns 43 = .ok (.iconst 0, 1) := by decide +kernel
theorem dX5_turns_44 : decode cX5_turns 44 = .ok (.iastore, 1) := by decide +kernel
theorem dX5_turns_45 : decode cX5_turns 45 = .ok (.iconst 0, 1) := by decide +kernel
theorem dX5_turns_46 : decode cX5_turns 46 = .ok (.ireturn, 1) := by decide +kernel
theorem dX5_turns_47 : decode cX5_turns 47 = .ok (.aload_n 0, 1) := by decide +kernel
theorem dX5_turns_48 : decode cX5_turns 48 = .ok (.getfield 7, 3) := by decide +kernel
theorem dX5_turns_51 : decode cX5_turns 51 = .ok (.bipush 30, 2) := by decide +kernel
theorem dX5_turns_53 : decode cX5_turns 53 = .ok (.dup2, 1) := by decide +kernel
theorem dX5_turns_54 : decode cX5_turns 54 = .ok (.iaload, 1) := by decide +kernel
theorem dX5_turns_55 : decode cX5_turns 55 = .ok (.iload_n 1, 1) := by decide +kernel
theorem dX5_turns_56 : decode cX5_turns 56 = .ok (.isub, 1) := by decide +kernel
theorem dX5_turns_57 : decode cX5_turns 57 = .ok (.iastore, 1) := by decide +kernel
theorem dX5_turns_58 : decode cX5_turns 58 = .ok (.aload_n 0, 1) := by decide +kernel
theorem dX5_turns_59 : decode cX5_turns 59 = .ok (.getfield 7, 3) := by decide +kernel
theorem dX5_turns_62 : decode cX5_turns 62 = .ok (.iconst 0, 1) := by decide +kernel
theorem dX5_turns_63 : decode cX5_turns 63 = .ok (.aload_n 0, 1) := by decide +kernel
theorem dX5_turns_64 : decode cX5_turns 64 = .ok (.invokevirtual 52, 3) := by decide +kernel
theorem dX5_turns_67 : decode cX5_turns 67 = .ok (.iadd, 1) := by decide +kernel
theorem dX5_turns_68 : decode cX5_turns 68 = .ok (.dup2, 1) := by decide +kernel
theorem dX5_turns_69 : decode cX5_turns 69 = .ok (.iaload, 1) := by decide +kernel
theorem dX5_turns_70 : decode cX5_turns 70 = .ok (.iconst 1, 1) := by decide +kernel
theorem dX5_turns_71 : decode cX5_turns 71 = .ok (.iadd, 1) := by decide +kernel
theorem dX5_turns_72 : decode cX5_turns 72 = .ok (.iastore, 1) := by decide +kernel
theorem dX5_turns_73 : decode cX5_turns 73 = .ok (.aload_n 0, 1) := by decide +kernel
theorem dX5_turns_74 : decode cX5_turns 74 = .ok (.invokevirtual 55, 3) := by decide +kernel
theorem dX5_turns_77 : decode cX5_turns 77 = .ok (.aload_n 0, 1) := by decide +kernel
theorem dX5_turns_78 : decode cX5_turns 78 = .ok (.invokevirtual 58, 3) := by decide +kernel
theorem dX5_turns_81 : decode cX5_turns 81 = .ok (.iconst 1, 1) := by decide +kernel
theorem dX5_turns_82 : decode cX5_turns 82 = .ok (.ireturn, 1) := by decide +kernel
set_option maxRecDepth 20000 in
theorem ggX5_isNumber_X5_in : GoodIn wsX5_isNumber wsX5_in := goodIn_r _ [10] (by decide +kernel) (by decide +kernel)
set_option maxRecDepth 20000 in
theorem gX5_isNumber_X5_in : GoodIn wsX5_isNumber (va_wsS RX5 63 yX5_in wsX5_in) := goodIn_app (goodIn_of _ (by decide +kernel)) ggX5_isNumber_X5_in
theorem dX5_isNumber_0 : decode cX5_isNumber 0 = .ok (.iload_n 0, 1) := by decide +kernel
theorem dX5_isNumber_1 : decode cX5_isNumber 1 = .ok (.tableswitch 73 0 3 #[31, 41, 51, 61], 31) := by decide +kernel
theorem dX5_isNumber_32 : decode cX5_isNumber 32 = .ok (.iload_n 1, 1) := by decide +kernel
theorem dX5_isNumber_33 : decode cX5_isNumber 33 = .ok (.i2l, 1) := by decide +kernel
theorem dX5_isNumber_34 : decode cX5_isNumber 34 = .ok (.lconst 1, 1) := by decide +kernel
theorem dX5_isNumber_35 : decode cX5_isNumber 35 = .ok (.ldc2_w 61, 3) := by decide +kernel
theorem dX5_isNumber_38 : decode cX5_isNumber 38 = .ok (.invokestatic 63, 3) := by decide +kernel
theorem dX5_isNumber_41 : decode cX5_isNumber 41 = .ok (.ireturn, 1) := by decide +kernel
theorem dX5_isNumber_42 : decode cX5_isNumber 42 = .ok (.iload_n 1, 1) := by decide +kernel
theorem dX5_isNumber_43 : decode cX5_isNumber 43 = .ok (.i2l, 1) := by decide +kernel
theorem dX5_isNumber_44 : decode cX5_isNumber 44 = .ok (.lconst 0, 1) := by decide +kernel
theorem dX5_isNumber_45 : decode cX5_isNumber 45 = .ok (.ldc2_w 67, 3) := by decide +kernel
theorem dX5_isNumber_48 : decode cX5_isNumber 48 = .ok (.invokestatic 63, 3) := by decide +kernel
theorem dX5_isNumber_51 : decode cX5_isNumber 51 = .ok (.ireturn, 1) := by decide +kernel
theorem dX5_isNumber_52 : decode cX5_isNumber 52 = .ok (.iload_n 1, 1) := by decide +kernel
theorem dX5_isNumber_53 : decode cX5_isNumber 53 = .ok (.i2l, 1) := by decide +kernel
theorem dX5_isNumber_54 : decode cX5_isNumber 54 = .ok (.lconst 0, 1) := by decide +kernel
theorem dX5_isNumber_55 : decode cX5_isNumber 55 = .ok (.ldc2_w 69, 3) := by decide +kernel
theorem dX5_isNumber_58 : decode cX5_isNumber 58 = .ok (.invokestatic 63, 3) := by decide +kernel
theorem dX5_isNumber_61 : decode cX5_isNumber 61 = .ok (.ireturn, 1) := by decide +kernel
theorem dX5_isNumber_62 : decode cX5_isNumber 62 = .ok (.iload_n 1, 1) := by decide +kernel
theorem dX5_isNumber_63 : decode cX5_isNumber 63 = .ok (.i2l, 1) := by decide +kernel
theorem dX5_isNumber_64 : decode cX5_isNumber 64 = .ok (.ldc2_w 69, 3) := by decide +kernel
theorem dX5_isNumber_67 : decode cX5_isNumber 67 = .ok (.ldc2_w 71, 3) := by decide +kernel
theorem dX5_isNumber_70 : decode cX5_isNumber 70 = .ok (.invokestatic 63, 3) := by decide +kernel
theorem dX5_isNumber_73 : decode cX5_isNumber 73 = .ok (.ireturn, 1) := by decide +kernel
theorem dX5_isNumber_74 : decode cX5_isNumber 74 = .ok (.iload_n 1, 1) := by decide +kernel
theorem dX5_isNumber_75 : decode cX5_isNumber 75 = .ok (.i2l, 1) := by decide +kernel
theorem dX5_isNumber_76 : decode cX5_isNumber 76 = .ok (.ldc2_w 73, 3) := by decide +kernel
theorem dX5_isNumber_79 : decode cX5_isNumber 79 = .ok (.ldc2_w 75, 3) := by decide +kernel
theorem dX5_isNumber_82 : decode cX5_isNumber 82 = .ok (.invokestatic 63, 3) := by decide +kernel
theorem dX5_isNumber_85 : decode cX5_isNumber 85 = .ok (.ireturn, 1) := by decide +kernel
theorem dX5_doSet_0 : decode cX5_doSet 0 = .ok (.aload_n 0, 1) := by decide +kernel
theorem dX5_doSet_1 : decode cX5_doSet 1 = .ok (.getfield 7, 3) := by decide +kernel
theorem dX5_doSet_4 : decode cX5_doSet 4 = .ok (.bipush 24, 2) := by decide +kernel
theorem dX5_doSet_6 : decode cX5_doSet 6 = .ok (.iload_n 1, 1) := by decide +kernel
theorem dX5_doSet_7 : decode cX5_doSet 7 = .ok (.iadd, 1) := by decide +kernel
theorem dX5_doSet_8 : decode cX5_doSet 8 = .ok (.iaload, 1) := by decide +kernel
theorem dX5_doSet_9 : decode cX5_doSet 9 = .ok (.istore_n 3, 1) := by decide +kernel
theorem dX5_doSet_10 : decode cX5_doSet 10 = .ok (.aload_n 0, 1) := by decide +kernel
theorem dX5_doSet_11 : decode cX5_doSet 11 = .ok (.getfield 7, 3) := by decide +kernel
theorem dX5_doSet_14 : decode cX5_doSet 14 = .ok (.bipush 24, 2) := by decide +kernel
theorem dX5_doSet_16 : decode cX5_doSet 16 = .ok (.iload_n 1, 1) := by decide +kernel
theorem dX5_doSet_17 : decode cX5_doSet 17 = .ok (.iadd, 1) := by decide +kernel
theorem dX5_doSet_18 : decode cX5_doSet 18 = .ok (.iload_n 2, 1) := by decide +kernel
theorem dX5_doSet_19 : decode cX5_doSet 19 = .ok (.iastore, 1) := by decide +kernel
theorem dX5_doSet_20 : decode cX5_doSet 20 = .ok (.iload_n 3, 1) := by decide +kernel
theorem dX5_doSet_21 : decode cX5_doSet 21 = .ok (.iload_n 2, 1) := by decide +kernel
theorem dX5_doSet_22 : decode cX5_doSet 22 = .ok (.if_icmp .ne 8, 3) := by decide +kernel
theorem dX5_doSet_25 : decode cX5_doSet 25 = .ok (.bipush (-5), 2) := by decide +kernel
theorem dX5_doSet_27 : decode cX5_doSet 27 = .ok (.goto 4, 3) := by decide +kernel
theorem dX5_doSet_30 : decode cX5_doSet 30 = .ok (.iload_n 3, 1) := by decide +kernel
theorem dX5_doSet_31 : decode cX5_doSet 31 = .ok (.ireturn, 1) := by decide +kernel
set_option maxRecDepth 20000 in
theorem ggX5_set_X5_in : GoodIn wsX5_set wsX5_in := goodIn_r _ [5] (by decide +kernel) (by decide +kernel)
set_option maxRecDepth 20000 in
theorem gX5_set_X5_in : GoodIn wsX5_set (va_wsS RX5 63 yX5_in wsX5_in) := goodIn_app (goodIn_of _ (by decide +kernel)) ggX5_set_X5_in
set_option maxRecDepth 20000 in
theorem ggX5_set_X5_isNumber : GoodIn wsX5_set wsX5_isNumber := goodIn_r _ [8, 9, 10, 11, 12, 13, 14, 2, 3, 4, 5] (by decide +kernel) (by decide +kernel)
set_option maxRecDepth 20000 in
theorem gX5_set_X5_isNumber : GoodIn wsX5_set (va_wsS RX5 79 yX5_isNumber wsX5_isNumber) := goodIn_app (goodIn_of _ (by decide +kernel)) ggX5_set_X5_isNumber
set_option maxRecDepth 20000 in
theorem ggX5_set_X5_remember : GoodIn wsX5_set wsX5_remember := goodIn_r _ [18, 19, 20, 21, 22, 4, 23, 34, 35, 36, 37, 38, 39, 40, 41, 42, 43, 44, 45] (by decide +kernel) (by decide +kernel)
set_option maxRecDepth 20000 in
theorem gX5_set_X5_remember : GoodIn wsX5_set (wsV RX5 83 RX5 yX5_remember wsX5_remember) := goodIn_app (goodIn_of _ (by decide +kernel)) ggX5_set_X5_remember
set_option maxRecDepth 20000 in
theorem ggX5_set_X5_doSet : GoodIn wsX5_set wsX5_doSet := goodIn_r _ [27, 19, 34, 35, 36, 37, 38, 39, 40, 41, 42, 43, 44, 45] (by decide +kernel) (by decide +kernel)
set_option maxRecDepth 20000 in
theorem gX5_set_X5_doSet : GoodIn wsX5_set (wsV RX5 86 RX5 yX5_doSet wsX5_doSet) := goodIn_app (goodIn_of _ (by decide +kernel)) ggX5_set_X5_doSet
set_option maxRecDepth 20000 in
theorem ggX5_set_X5_acted : GoodIn wsX5_set wsX5_acted := goodIn_r _ [31, 32, 33, 20, 34, 35, 36, 37, 38, 39, 40, 41, 42, 43, 44, 45] (by decide +kernel) (by decide +kernel)
set_option maxRecDepth 20000 in
theorem gX5_set_X5_acted : GoodIn wsX5_set (wsV RX5 90 RX5 yX5_acted wsX5_acted) := goodIn_app (goodIn_of _ (by decide +kernel)) ggX5_set_X5_acted
theorem dX5_set_0 : decode cX5_set 0 = .ok (.iload_n 1, 1) := by decide +kernel
theorem dX5_set_1 : decode cX5_set 1 = .ok (.i2l, 1) := by decide +kernel
theorem dX5_set_2 : decode cX5_set 2 = .ok (.lconst 0, 1) := by decide +kernel
theorem dX5_set_3 : decode cX5_set 3 = .ok (.ldc2_w 77, 3) := by decide +kernel
theorem dX5_set_6 : decode cX5_set 6 = .ok (.invokestatic 63, 3) := by decide +kernel
theorem dX5_set_9 : decode cX5_set 9 = .ok (.ifCond .ne 5, 3) := by decide +kernel
theorem dX5_set_12 : decode cX5_set 12 = .ok (.iconst (-1), 1) := by decide +kernel
theorem dX5_set_13 : decode cX5_set 13 = .ok (.ireturn, 1) := by decide +kernel
theorem dX5_set_14 : decode cX5_set 14 = .ok (.iload_n 1, 1) := by decide +kernel
theorem dX5_set_15 : decode cX5_set 15 = .ok (.iload_n 2, 1) := by decide +kernel
theorem dX5_set_16 : decode cX5_set 16 = .ok (.invokestatic 79, 3) := by decide +kernel
theorem dX5_set_19 : decode cX5_set 19 = .ok (.ifCond .ne 6, 3) := by decide +kernel
theorem dX5_set_22 : decode cX5_set 22 = .ok (.bipush (-2), 2) := by decide +kernel
theorem dX5_set_24 : decode cX5_set 24 = .ok (.ireturn, 1) := by decide +kernel
theorem dX5_set_25 : decode cX5_set 25 = .ok (.aload_n 0, 1) := by decide +kernel
theorem dX5_set_26 : decode cX5_set 26 = .ok (.invokevirtual 83, 3) := by decide +kernel
theorem dX5_set_29 : decode cX5_set 29 = .ok (.aload_n 0, 1) := by decide +kernel
theorem dX5_set_30 : decode cX5_set 30 = .ok (.iload_n 1, 1) := by decide +kernel
theorem dX5_set_31 : decode cX5_set 31 = .ok (.iload_n 2, 1) := by decide +kernel
theorem dX5_set_32 : decode cX5_set 32 = .ok (.invokevirtual 86, 3) := by decide +kernel
theorem dX5_set_35 : decode cX5_set 35 = .ok (.istore_n 3, 1) := by decide +kernel
theorem dX5_set_36 : decode cX5_set 36 = .ok (.iload_n 3, 1) := by decide +kernel
theorem dX5_set_37 : decode cX5_set 37 = .ok (.ifCond .ge 7, 3) := by decide +kernel
theorem dX5_set_40 : decode cX5_set 40 = .ok (.iload_n 3, 1) := by decide +kernel
theorem dX5_set_41 : decode cX5_set 41 = .ok (.goto 8, 3) := by decide +kernel
theorem dX5_set_44 : decode cX5_set 44 = .ok (.aload_n 0, 1) := by decide +kernel
theorem dX5_set_45 : decode cX5_set 45 = .ok (.iload_n 3, 1) := by decide +kernel
theorem dX5_set_46 : decode cX5_set 46 = .ok (.invokevirtual 90, 3) := by decide +kernel
theorem dX5_set_49 : decode cX5_set 49 = .ok (.ireturn, 1) := by decide +kernel
set_option maxRecDepth 20000 in
theorem ggX5_doWind_X5_isIdle : GoodIn wsX5_doWind wsX5_isIdle := goodIn_r _ [5, 6, 7, 8, 9, 4, 10, 11, 12, 13, 14, 34, 35, 36, 37, 38, 39, 40, 41, 42, 43, 44, 45] (by decide +kernel) (by decide +kernel)
set_option maxRecDepth 20000 in
theorem gX5_doWind_X5_isIdle : GoodIn wsX5_doWind (wsV RX5 93 RX5 yX5_isIdle wsX5_isIdle) := goodIn_app (goodIn_of _ (by decide +kernel)) ggX5_doWind_X5_isIdle
set_option maxRecDepth 20000 in
theorem ggX5_doWind_X5_turns : GoodIn wsX5_doWind wsX5_turns := goodIn_r _ [18, 6, 19, 20, 21, 4, 22, 23, 24, 25, 26, 27, 28, 29, 30, 31, 32, 33, 34, 35, 36, 37, 38, 39, 40, 41, 42, 43, 44, 45] (by decide +kernel) (by decide +kernel)
set_option maxRecDepth 20000 in
theorem gX5_doWind_X5_turns : GoodIn wsX5_doWind (wsV RX5 96 RX5 yX5_turns wsX5_turns) := goodIn_app (goodIn_of _ (by decide +kernel)) ggX5_doWind_X5_turns
theorem dX5_doWind_0 : decode cX5_doWind 0 = .ok (.aload_n 0, 1) := by decide +kernel
theorem dX5_doWind_1 : decode cX5_doWind 1 = .ok (.invokevirtual 93, 3) := by decide +kernel
theorem dX5_doWind_4 : decode cX5_doWind 4 = .ok (.ifCond .eq 6, 3) := by decide +kernel
theorem dX5_doWind_7 : decode cX5_doWind 7 = .ok (.bipush (-5), 2) := by decide +kernel
theorem dX5_doWind_9 : decode cX5_doWind 9 = .ok (.ireturn, 1) := by decide +kernel
theorem dX5_doWind_10 : decode cX5_doWind 10 = .ok (.iconst 0, 1) := by decide +kernel
theorem dX5_doWind_11 : decode cX5_doWind 11 = .ok (.istore_n 2, 1) := by decide +kernel
theorem dX5_doWind_12 : decode cX5_doWind 12 = .ok (.iconst 0, 1) := by decide +kernel
theorem dX5_doWind_13 : decode cX5_doWind 13 = .ok (.istore_n 3, 1) := by decide +kernel
theorem dX5_doWind_14 : decode cX5_doWind 14 = .ok (.iload_n 3, 1) := by decide +kernel
theorem dX5_doWind_15 : decode cX5_doWind 15 = .ok (.iload_n 1, 1) := by decide +kernel
theorem dX5_doWind_16 : decode cX5_doWind 16 = .ok (.if_icmp .ge 31, 3) := by decide +kernel
theorem dX5_doWind_19 : decode cX5_doWind 19 = .ok (.aload_n 0, 1) := by decide +kernel
theorem dX5_doWind_20 : decode cX5_doWind 20 = .ok (.invokevirtual 93, 3) := by decide +kernel
theorem dX5_doWind_23 : decode cX5_doWind 23 = .ok (.ifCond .ne 24, 3) := by decide +kernel
theorem dX5_doWind_26 : decode cX5_doWind 26 = .ok (.iload_n 2, 1) := by decide +kernel
theorem dX5_doWind_27 : decode cX5_doWind 27 = .ok (.aload_n 0, 1) := by decide +kernel
theorem dX5_doWind_28 : decode cX5_doWind 28 = .ok (.invokevirtual 96, 3) := by decide +kernel
theorem dX5_doWind_31 : decode cX5_doWind 31 = .ok (.ifCond .eq 7, 3) := by decide +kernel
theorem dX5_doWind_34 : decode cX5_doWind 34 = .ok (.iconst 1, 1) := by decide +kernel
theorem dX5_doWind_35 : decode cX5_doWind 35 = .ok (.goto 4, 3) := by decide +kernel
theorem dX5_doWind_38 : decode cX5_doWind 38 = .ok (.iconst 0, 1) := by decide +kernel
theorem dX5_doWind_39 : decode cX5_doWind 39 = .ok (.iadd, 1) := by decide +kernel
theorem dX5_doWind_40 : decode cX5_doWind 40 = .ok (.istore_n 2, 1) := by decide +kernel
theorem dX5_doWind_41 : decode cX5_doWind 41 = .ok (.iinc 3 1, 3) := by decide +kernel
theorem dX5_doWind_44 : decode cX5_doWind 44 = .ok (.goto (-30), 3) := by decide +kernel
theorem dX5_doWind_47 : decode cX5_doWind 47 = .ok (.iload_n 2, 1) := by decide +kernel
theorem dX5_doWind_48 : decode cX5_doWind 48 = .ok (.ireturn, 1) := by decide +kernel
set_option maxRecDepth 20000 in
theorem ggX5_wind_X5_in : GoodIn wsX5_wind wsX5_in := goodIn_r _ [5] (by decide +kernel) (by decide +kernel)
set_option maxRecDepth 20000 in
theorem gX5_wind_X5_in : GoodIn wsX5_wind (va_wsS RX5 63 yX5_in wsX5_in) := goodIn_app (goodIn_of _ (by decide +kernel)) ggX5_wind_X5_in
set_option maxRecDepth 20000 in
theorem ggX5_wind_X5_remember : GoodIn wsX5_wind wsX5_remember := goodIn_r _ [9, 10, 11, 12, 13, 4, 14, 56, 57, 58, 59, 60, 61, 62, 63, 64, 65, 66, 67] (by decide +kernel) (by decide +kernel)
set_option maxRecDepth 20000 in
theorem gX5_wind_X5_remember : GoodIn wsX5_wind (wsV RX5 83 RX5 yX5_remember wsX5_remember) := goodIn_app (goodIn_of _ (by decide +kernel)) ggX5_wind_X5_remember
set_option maxRecDepth 20000 in
theorem ggX5_wind_X5_doWind : GoodIn wsX5_wind wsX5_doWind := goodIn_r _ [18, 19, 20, 21, 4, 22, 10, 23, 24, 25, 26, 27, 28, 29, 30, 31, 32, 33, 34, 35, 36, 37, 38, 39, 40, 41, 42, 43, 44, 45, 46, 47, 48, 49, 56, 57, 58, 59, 60, 61, 62, 63, 64, 65, 66, 67] (by decide +kernel) (by decide +kernel)
set_option maxRecDepth 20000 in
theorem gX5_wind_X5_doWind : GoodIn wsX5_wind (wsV RX5 101 RX5 yX5_doWind wsX5_doWind) := goodIn_app (goodIn_of _ (by decide +kernel)) ggX5_wind_X5_doWind
set_option maxRecDepth 20000 in
theorem ggX5_wind_X5_acted : GoodIn wsX5_wind wsX5_acted := goodIn_r _ [53, 54, 55, 11, 56, 57, 58, 59, 60, 61, 62, 63, 64, 65, 66, 67] (by decide +kernel) (by decide +kernel)
set_option maxRecDepth 20000 in
theorem gX5_wind_X5_acted : GoodIn wsX5_wind (wsV RX5 90 RX5 yX5_acted wsX5_acted) := goodIn_app (goodIn_of _ (by decide +kernel)) ggX5_wind_X5_acted
theorem dX5_wind_0 : decode cX5_wind 0 = .ok (.iload_n 1, 1) := by decide +kernel
theorem dX5_wind_1 : decode cX5_wind 1 = .ok (.i2l, 1) := by decide +kernel
theorem dX5_wind_2 : decode cX5_wind 2 = .ok (.lconst 1, 1) := by decide +kernel
theorem dX5_wind_3 : decode cX5_wind 3 = .ok (.ldc2_w 99, 3) := by decide +kernel
theorem dX5_wind_6 : decode cX5_wind 6 = .ok (.invokestatic 63, 3) := by decide +kernel
theorem dX5_wind_9 : decode cX5_wind 9 = .ok (.ifCond .ne 6, 3) := by decide +kernel
theorem dX5_wind_12 : decode cX5_wind 12 = .ok (.bipush (-2), 2) := by decide +kernel
theorem dX5_wind_14 : decode cX5_wind 14 = .ok (.ireturn, 1) := by decide +kernel
theorem dX5_wind_15 : decode cX5_wind 15 = .ok (.aload_n 0, 1) := by decide +kernel
theorem dX5_wind_16 : decode cX5_wind 16 = .ok (.invokevirtual 83, 3) := by decide +kernel
theorem dX5_wind_19 : decode cX5_wind 19 = .ok (.aload_n 0, 1) := by decide +kernel
theorem dX5_wind_20 : decode cX5_wind 20 = .ok (.iload_n 1, 1) := by decide +kernel
theorem dX5_wind_21 : decode cX5_wind 21 = .ok (.invokevirtual 101, 3) := by decide +kernel
theorem dX5_wind_24 : decode cX5_wind 24 = .ok (.istore_n 2, 1) := by decide +kernel
theorem dX5_wind_25 : decode cX5_wind 25 = .ok (.iload_n 2, 1) := by decide +kernel
theorem dX5_wind_26 : decode cX5_wind 26 = .ok (.ifCond .ge 7, 3) := by decide +kernel
theorem dX5_wind_29 : decode cX5_wind 29 = .ok (.iload_n 2, 1) := by decide +kernel
theorem dX5_wind_30 : decode cX5_wind 30 = .ok (.goto 8, 3) := by decide +kernel
theorem dX5_wind_33 : decode cX5_wind 33 = .ok (.aload_n 0, 1) := by decide +kernel
theorem dX5_wind_34 : decode cX5_wind 34 = .ok (.iload_n 2, 1) := by decide +kernel
theorem dX5_wind_35 : decode cX5_wind 35 = .ok (.invokevirtual 90, 3) := by decide +kernel
theorem dX5_wind_38 : decode cX5_wind 38 = .ok (.ireturn, 1) := by decide +kernel
theorem dX5_doKnot_0 : decode cX5_doKnot 0 = .ok (.aload_n 0, 1) := by decide +kernel
theorem dX5_doKnot_1 : decode cX5_doKnot 1 = .ok (.getfield 7, 3) := by decide +kernel
theorem dX5_doKnot_4 : decode cX5_doKnot 4 = .ok (.bipush 30, 2) := by decide +kernel
theorem dX5_doKnot_6 : decode cX5_doKnot 6 = .ok (.iaload, 1) := by decide +kernel
theorem dX5_doKnot_7 : decode cX5_doKnot 7 = .ok (.aload_n 0, 1) := by decide +kernel
theorem dX5_doKnot_8 : decode cX5_doKnot 8 = .ok (.getfield 7, 3) := by decide +kernel
theorem dX5_doKnot_11 : decode cX5_doKnot 11 = .ok (.bipush 27, 2) := by decide +kernel
theorem dX5_doKnot_13 : decode cX5_doKnot 13 = .ok (.iaload, 1) := by decide +kernel
theorem dX5_doKnot_14 : decode cX5_doKnot 14 = .ok (.if_icmp .ge 6, 3) := by decide +kernel
theorem dX5_doKnot_17 : decode cX5_doKnot 17 = .ok (.bipush (-4), 2) := by decide +kernel
theorem dX5_doKnot_19 : decode cX5_doKnot 19 = .ok (.ireturn, 1) := by decide +kernel
theorem dX5_doKnot_20 : decode cX5_doKnot 20 = .ok (.aload_n 0, 1) := by decide +kernel
theorem dX5_doKnot_21 : decode cX5_doKnot 21 = .ok (.getfield 7, 3) := by decide +kernel
theorem dX5_doKnot_24 : decode cX5_doKnot 24 = .ok (.bipush 33, 2) := by decide +kernel
theorem dX5_doKnot_26 : decode cX5_doKnot 26 = .ok (.iaload, 1) := by decide +kernel
theorem dX5_doKnot_27 : decode cX5_doKnot 27 = .ok (.ifCond .ne 6, 3) := by decide +kernel
theorem dX5_doKnot_30 : decode cX5_doKnot 30 = .ok (.bipush (-5), 2) := by decide +kernel
theorem dX5_doKnot_32 : decode cX5_doKnot 32 = .ok (.ireturn, 1) := by decide +kernel
theorem dX5_doKnot_33 : decode cX5_doKnot 33 = .ok (.aload_n 0, 1) := by decide +kernel
theorem dX5_doKnot_34 : decode cX5_doKnot 34 = .ok (.getfield 7, 3) := by decide +kernel
theorem dX5_doKnot_37 : decode cX5_doKnot 37 = .ok (.bipush 30, 2) := by decide +kernel
theorem dX5_doKnot_39 : decode cX5_doKnot 39 = .ok (.dup2, 1) := by decide +kernel
theorem dX5_doKnot_40 : decode cX5_doKnot 40 = .ok (.iaload, 1) := by decide +kernel
theorem dX5_doKnot_41 : decode cX5_doKnot 41 = .ok (.aload_n 0, 1) := by decide +kernel
theorem dX5_doKnot_42 : decode cX5_doKnot 42 = .ok (.getfield 7, 3) := by decide +kernel
theorem dX5_doKnot_45 : decode cX5_doKnot 45 = .ok (.bipush 27, 2) := by decide +kernel
theorem dX5_doKnot_47 : decode cX5_doKnot 47 = .ok (.iaload, 1) := by decide +kernel
theorem dX5_doKnot_48 : decode cX5_doKnot 48 = .ok (.isub, 1) := by decide +kernel
theorem dX5_doKnot_49 : decode cX5_doKnot 49 = .ok (.iastore, 1) := by decide +kernel
theorem dX5_doKnot_50 : decode cX5_doKnot 50 = .ok (.aload_n 0, 1) := by decide +kernel
theorem dX5_doKnot_51 : decode cX5_doKnot 51 = .ok (.getfield 7, 3) := by decide +kernel
theorem dX5_doKnot_54 : decode cX5_doKnot 54 = .ok (.bipush 33, 2) := by decide +kernel
theorem dX5_doKnot_56 : decode cX5_doKnot 56 = .ok (.iconst 0, 1) := by decide +kernel
theorem dX5_doKnot_57 : decode cX5_doKnot 57 = .ok (.iastore, 1) := by decide +kernel
theorem dX5_doKnot_58 : decode cX5_doKnot 58 = .ok (.aload_n 0, 1) := by decide +kernel
theorem dX5_doKnot_59 : decode cX5_doKnot 59 = .ok (.getfield 7, 3) := by decide +kernel
theorem dX5_doKnot_62 : decode cX5_doKnot 62 = .ok (.bipush 12, 2) := by decide +kernel
theorem dX5_doKnot_64 : decode cX5_doKnot 64 = .ok (.aload_n 0, 1) := by decide +kernel
theorem dX5_doKnot_65 : decode cX5_doKnot 65 = .ok (.getfield 7, 3) := by decide +kernel
theorem dX5_doKnot_68 : decode cX5_doKnot 68 = .ok (.bipush 34, 2) := by decide +kernel
theorem dX5_doKnot_70 : decode cX5_doKnot 70 = .ok (.iaload, 1) := by decide +kernel
theorem dX5_doKnot_71 : decode cX5_doKnot 71 = .ok (.iadd, 1) := by decide +kernel
theorem dX5_doKnot_72 : decode cX5_doKnot 72 = .ok (.dup2, 1) := by decide +kernel
theorem dX5_doKnot_73 : decode cX5_doKnot 73 = .ok (.iaload, 1) := by decide +kernel
theorem dX5_doKnot_74 : decode cX5_doKnot 74 = .ok (.iconst 1, 1) := by decide +kernel
theorem dX5_doKnot_75 : decode cX5_doKnot 75 = .ok (.iadd, 1) := by decide +kernel
theorem dX5_doKnot_76 : decode cX5_doKnot 76 = .ok (.iastore, 1) := by decide +kernel
theorem dX5_doKnot_77 : decode cX5_doKnot 77 = .ok (.aload_n 0, 1) := by decide +kernel
theorem dX5_doKnot_78 : decode cX5_doKnot 78 = .ok (.getfield 7, 3) := by decide +kernel
theorem dX5_doKnot_81 : decode cX5_doKnot 81 = .ok (.bipush 12, 2) := by decide +kernel
theorem dX5_doKnot_83 : decode cX5_doKnot 83 = .ok (.aload_n 0, 1) := by decide +kernel
theorem dX5_doKnot_84 : decode cX5_doKnot 84 = .ok (.getfield 7, 3) := by decide +kernel
theorem dX5_doKnot_87 : decode cX5_doKnot 87 = .ok (.bipush 34, 2) := by decide +kernel
theorem dX5_doKnot_89 : decode cX5_doKnot 89 = .ok (.iaload, 1) := by decide +kernel
theorem dX5_doKnot_90 : decode cX5_doKnot 90 = .ok (.iadd, 1) := by decide +kernel
theorem dX5_doKnot_91 : decode cX5_doKnot 91 = .ok (.iaload, 1) := by decide +kernel
theorem dX5_doKnot_92 : decode cX5_doKnot 92 = .ok (.ireturn, 1) := by decide +kernel
set_option maxRecDepth 20000 in
theorem ggX5_knot_X5_remember : GoodIn wsX5_knot wsX5_remember := goodIn_r _ [5, 6, 7, 8, 9, 4, 10, 21, 22, 23, 24, 25, 26, 27, 28, 29, 30, 31, 32] (by decide +kernel) (by decide +kernel)
set_option maxRecDepth 20000 in
theorem gX5_knot_X5_remember : GoodIn wsX5_knot (wsV RX5 83 RX5 yX5_remember wsX5_remember) := goodIn_app (goodIn_of _ (by decide +kernel)) ggX5_knot_X5_remember
set_option maxRecDepth 20000 in
theorem ggX5_knot_X5_doKnot : GoodIn wsX5_knot wsX5_doKnot := goodIn_r _ [14, 6, 21, 22, 23, 24, 25, 26, 27, 28, 29, 30, 31, 32] (by decide +kernel) (by decide +kernel)
set_option maxRecDepth 20000 in
theorem gX5_knot_X5_doKnot : GoodIn wsX5_knot (wsV RX5 104 RX5 yX5_doKnot wsX5_doKnot) := goodIn_app (goodIn_of _ (by decide +kernel)) ggX5_knot_X5_doKnot
set_option maxRecDepth 20000 in
theorem ggX5_knot_X5_acted : GoodIn wsX5_knot wsX5_acted := goodIn_r _ [18, 19, 20, 7, 21, 22, 23, 24, 25, 26, 27, 28, 29, 30, 31, 32] (by decide +kernel) (by decide +kernel)
set_option maxRecDepth 20000 in
theorem gX5_knot_X5_acted : GoodIn wsX5_knot (wsV RX5 90 RX5 yX5_acted wsX5_acted) := goodIn_app (goodIn_of _ (by decide +kernel)) ggX5_knot_X5_acted
theorem dX5_knot_0 : decode cX5_knot 0 = .ok (.aload_n 0, 1) := by decide +kernel
theorem dX5_knot_1 : decode cX5_knot 1 = .ok (.invokevirtual 83, 3) := by decide +kernel
theorem dX5_knot_4 : decode cX5_knot 4 = .ok (.aload_n 0, 1) := by decide +kernel
theorem dX5_knot_5 : decode cX5_knot 5 = .ok (.invokevirtual 104, 3) := by decide +kernel
theorem dX5_knot_8 : decode cX5_knot 8 = .ok (.istore_n 1, 1) := by decide +kernel
theorem dX5_knot_9 : decode cX5_knot 9 = .ok (.iload_n 1, 1) := by decide +kernel
theorem dX5_knot_10 : decode cX5_knot 10 = .ok (.ifCond .ge 7, 3) := by decide +kernel
theorem dX5_knot_13 : decode cX5_knot 13 = .ok (.iload_n 1, 1) := by decide +kernel
theorem dX5_knot_14 : decode cX5_knot 14 = .ok (.goto 8, 3) := by decide +kernel
theorem dX5_knot_17 : decode cX5_knot 17 = .ok (.aload_n 0, 1) := by decide +kernel
theorem dX5_knot_18 : decode cX5_knot 18 = .ok (.iload_n 1, 1) := by decide +kernel
theorem dX5_knot_19 : decode cX5_knot 19 = .ok (.invokevirtual 90, 3) := by decide +kernel
theorem dX5_knot_22 : decode cX5_knot 22 = .ok (.ireturn, 1) := by decide +kernel
end
section
theorem dX5_doCone_0 : decode cX5_doCone 0 = .ok (.aload_n 0, 1) := by decide +kernel
theorem dX5_doCone_1 : decode cX5_doCone 1 = .ok (.getfield 7, 3) := by decide +kernel
theorem dX5_doCone_4 : decode cX5_doCone 4 = .ok (.bipush 30, 2) := by decide +kernel
theorem dX5_doCone_6 : decode cX5_doCone 6 = .ok (.iaload, 1) := by decide +kernel
theorem dX5_doCone_7 : decode cX5_doCone 7 = .ok (.istore_n 2, 1) := by decide +kernel
theorem dX5_doCone_8 : decode cX5_doCone 8 = .ok (.aload_n 0, 1) := by decide +kernel
theorem dX5_doCone_9 : decode cX5_doCone 9 = .ok (.getfield 7, 3) := by decide +kernel
theorem dX5_doCone_12 : decode cX5_doCone 12 = .ok (.bipush 30, 2) := by decide +kernel
theorem dX5_doCone_14 : decode cX5_doCone 14 = .ok (.iload_n 1, 1) := by decide +kernel
theorem dX5_doCone_15 : decode cX5_doCone 15 = .ok (.iastore, 1) := by decide +kernel
theorem dX5_doCone_16 : decode cX5_doCone 16 = .ok (.aload_n 0, 1) := by decide +kernel
theorem dX5_doCone_17 : decode cX5_doCone 17 = .ok (.getfield 7, 3) := by decide +kernel
theorem dX5_doCone_20 : decode cX5_doCone 20 = .ok (.bipush 33, 2) := by decide +kernel
theorem dX5_doCone_22 : decode cX5_doCone 22 = .ok (.aload_n 0, 1) := by decide +kernel
theorem dX5_doCone_23 : decode cX5_doCone 23 = .ok (.getfield 7, 3) := by decide +kernel
theorem dX5_doCone_26 : decode cX5_doCone 26 = .ok (.bipush 34, 2) := by decide +kernel
theorem dX5_doCone_28 : decode cX5_doCone 28 = .ok (.iaload, 1) := by decide +kernel
theorem dX5_doCone_29 : decode cX5_doCone 29 = .ok (.bipush (-5), 2) := by decide +kernel
theorem dX5_doCone_31 : decode cX5_doCone 31 = .ok (.if_icmp .ne 13, 3) := by decide +kernel
theorem dX5_doCone_34 : decode cX5_doCone 34 = .ok (.aload_n 0, 1) := by decide +kernel
theorem dX5_doCone_35 : decode cX5_doCone 35 = .ok (.getfield 7, 3) := by decide +kernel
theorem dX5_doCone_38 : decode cX5_doCone 38 = .ok (.bipush 33, 2) := by decide +kernel
theorem dX5_doCone_40 : decode cX5_doCone 40 = .ok (.iaload, 1) := by decide +kernel
theorem dX5_doCone_41 : decode cX5_doCone 41 = .ok (.goto 4, 3) := by decide +kernel
theorem dX5_doCone_44 : decode cX5_doCone 44 = .ok (.iconst 1, 1) := by decide +kernel
theorem dX5_doCone_45 : decode cX5_doCone 45 = .ok (.iastore, 1) := by decide +kernel
theorem dX5_doCone_46 : decode cX5_doCone 46 = .ok (.iload_n 2, 1) := by decide +kernel
theorem dX5_doCone_47 : decode cX5_doCone 47 = .ok (.ireturn, 1) := by decide +kernel
set_option maxRecDepth 20000 in
theorem ggX5_cone_X5_in : GoodIn wsX5_cone wsX5_in := goodIn_r _ [5] (by decide +kernel) (by decide +kernel)
set_option maxRecDepth 20000 in
theorem gX5_cone_X5_in : GoodIn wsX5_cone (va_wsS RX5 63 yX5_in wsX5_in) := goodIn_app (goodIn_of _ (by decide +kernel)) ggX5_cone_X5_in
set_option maxRecDepth 20000 in
theorem ggX5_cone_X5_remember : GoodIn wsX5_cone wsX5_remember := goodIn_r _ [9, 10, 11, 12, 13, 4, 14, 25, 26, 27, 28, 29, 30, 31, 32, 33, 34, 35, 36] (by decide +kernel) (by decide +kernel)
set_option maxRecDepth 20000 in
theorem gX5_cone_X5_remember : GoodIn wsX5_cone (wsV RX5 83 RX5 yX5_remember wsX5_remember) := goodIn_app (goodIn_of _ (by decide +kernel)) ggX5_cone_X5_remember
set_option maxRecDepth 20000 in
theorem ggX5_cone_X5_doCone : GoodIn wsX5_cone wsX5_doCone := goodIn_r _ [18, 10, 25, 26, 27, 28, 29, 30, 31, 32, 33, 34, 35, 36] (by decide +kernel) (by decide +kernel)
set_option maxRecDepth 20000 in
theorem gX5_cone_X5_doCone : GoodIn wsX5_cone (wsV RX5 109 RX5 yX5_doCone wsX5_doCone) := goodIn_app (goodIn_of _ (by decide +kernel)) ggX5_cone_X5_doCone
set_option maxRecDepth 20000 in
theorem ggX5_cone_X5_acted : GoodIn wsX5_cone wsX5_acted := goodIn_r _ [22, 23, 24, 11, 25, 26, 27, 28, 29, 30, 31, 32, 33, 34, 35, 36] (by decide +kernel) (by decide +kernel)
set_option maxRecDepth 20000 in
theorem gX5_cone_X5_acted : GoodIn wsX5_cone (wsV RX5 90 RX5 yX5_acted wsX5_acted) := goodIn_app (goodIn_of _ (by decide +kernel)) ggX5_cone_X5_acted
theorem dX5_cone_0 : decode cX5_cone 0 = .ok (.iload_n 1, 1) := by decide +kernel
theorem dX5_cone_1 : decode cX5_cone 1 = .ok (.i2l, 1) := by decide +kernel
theorem dX5_cone_2 : decode cX5_cone 2 = .ok (.lconst 1, 1) := by decide +kernel
theorem dX5_cone_3 : decode cX5_cone 3 = .ok (.ldc2_w 107, 3) := by decide +kernel
theorem dX5_cone_6 : decode cX5_cone 6 = .ok (.invokestatic 63, 3) := by decide +kernel
theorem dX5_cone_9 : decode cX5_cone 9 = .ok (.ifCond .ne 6, 3) := by decide +kernel
theorem dX5_cone_12 : decode cX5_cone 12 = .ok (.bipush (-2), 2) := by decide +kernel
theorem dX5_cone_14 : decode cX5_cone 14 = .ok (.ireturn, 1) := by decide +kernel
theorem dX5_cone_15 : decode cX5_cone 15 = .ok (.aload_n 0, 1) := by decide +kernel
theorem dX5_cone_16 : decode cX5_cone 16 = .ok (.invokevirtual 83, 3) := by decide +kernel
theorem dX5_cone_19 : decode cX5_cone 19 = .ok (.aload_n 0, 1) := by decide +kernel
theorem dX5_cone_20 : decode cX5_cone 20 = .ok (.aload_n 0, 1) := by decide +kernel
theorem dX5_cone_21 : decode cX5_cone 21 = .ok (.iload_n 1, 1) := by decide +kernel
theorem dX5_cone_22 : decode cX5_cone 22 = .ok (.invokevirtual 109, 3) := by decide +kernel
theorem dX5_cone_25 : decode cX5_cone 25 = .ok (.invokevirtual 90, 3) := by decide +kernel
theorem dX5_cone_28 : decode cX5_cone 28 = .ok (.ireturn, 1) := by decide +kernel
set_option maxRecDepth 20000 in
theorem ggX5_doff_X5_wraps : GoodIn wsX5_doff wsX5_wraps := goodIn_r _ [7, 1, 22, 23, 24, 25, 26, 27, 28, 29, 30, 31, 32, 33] (by decide +kernel) (by decide +kernel)
set_option maxRecDepth 20000 in
theorem gX5_doff_X5_wraps : GoodIn wsX5_doff (wsV RX5 112 RX5 yX5_wraps wsX5_wraps) := goodIn_app (goodIn_of _ (by decide +kernel)) ggX5_doff_X5_wraps
set_option maxRecDepth 20000 in
theorem ggX5_doff_X5_remember : GoodIn wsX5_doff wsX5_remember := goodIn_r _ [11, 1, 12, 13, 14, 6, 15, 22, 23, 24, 25, 26, 27, 28, 29, 30, 31, 32, 33] (by decide +kernel) (by decide +kernel)
set_option maxRecDepth 20000 in
theorem gX5_doff_X5_remember : GoodIn wsX5_doff (wsV RX5 83 RX5 yX5_remember wsX5_remember) := goodIn_app (goodIn_of _ (by decide +kernel)) ggX5_doff_X5_remember
set_option maxRecDepth 20000 in
theorem ggX5_doff_X5_acted : GoodIn wsX5_doff wsX5_acted := goodIn_r _ [19, 20, 21, 12, 22, 23, 24, 25, 26, 27, 28, 29, 30, 31, 32, 33] (by decide +kernel) (by decide +kernel)
set_option maxRecDepth 20000 in
theorem gX5_doff_X5_acted : GoodIn wsX5_doff (wsV RX5 90 RX5 yX5_acted wsX5_acted) := goodIn_app (goodIn_of _ (by decide +kernel)) ggX5_doff_X5_acted
theorem dX5_doff_0 : decode cX5_doff 0 = .ok (.aload_n 0, 1) := by decide +kernel
theorem dX5_doff_1 : decode cX5_doff 1 = .ok (.invokevirtual 112, 3) := by decide +kernel
theorem dX5_doff_4 : decode cX5_doff 4 = .ok (.istore_n 1, 1) := by decide +kernel
theorem dX5_doff_5 : decode cX5_doff 5 = .ok (.iload_n 1, 1) := by decide +kernel
theorem dX5_doff_6 : decode cX5_doff 6 = .ok (.ifCond .ne 6, 3) := by decide +kernel
theorem dX5_doff_9 : decode cX5_doff 9 = .ok (.bipush (-5), 2) := by decide +kernel
theorem dX5_doff_11 : decode cX5_doff 11 = .ok (.ireturn, 1) := by decide +kernel
theorem dX5_doff_12 : decode cX5_doff 12 = .ok (.aload_n 0, 1) := by decide +kernel
theorem dX5_doff_13 : decode cX5_doff 13 = .ok (.invokevirtual 83, 3) := by decide +kernel
theorem dX5_doff_16 : decode cX5_doff 16 = .ok (.iconst 0, 1) := by decide +kernel
theorem dX5_doff_17 : decode cX5_doff 17 = .ok (.istore_n 2, 1) := by decide +kernel
theorem dX5_doff_18 : decode cX5_doff 18 = .ok (.iload_n 2, 1) := by decide +kernel
theorem dX5_doff_19 : decode cX5_doff 19 = .ok (.bipush 12, 2) := by decide +kernel
theorem dX5_doff_21 : decode cX5_doff 21 = .ok (.if_icmp .ge 28, 3) := by decide +kernel
theorem dX5_doff_24 : decode cX5_doff 24 = .ok (.aload_n 0, 1) := by decide +kernel
theorem dX5_doff_25 : decode cX5_doff 25 = .ok (.getfield 7, 3) := by decide +kernel
theorem dX5_doff_28 : decode cX5_doff 28 = .ok (.iconst 0, 1) := by decide +kernel
theorem dX5_doff_29 : decode cX5_doff 29 = .ok (.iload_n 2, 1) := by decide +kernel
theorem dX5_doff_30 : decode cX5_doff 30 = .ok (.iadd, 1) := by decide +kernel
theorem dX5_doff_31 : decode cX5_doff 31 = .ok (.iconst 0, 1) := by decide +kernel
theorem dX5_doff_32 : decode cX5_doff 32 = .ok (.iastore, 1) := by decide +kernel
theorem dX5_doff_33 : decode cX5_doff 33 = .ok (.aload_n 0, 1) := by decide +kernel
theorem dX5_doff_34 : decode cX5_doff 34 = .ok (.getfield 7, 3) := by decide +kernel
theorem dX5_doff_37 : decode cX5_doff 37 = .ok (.bipush 12, 2) := by decide +kernel
theorem dX5_doff_39 : decode cX5_doff 39 = .ok (.iload_n 2, 1) := by decide +kernel
theorem dX5_doff_40 : decode cX5_doff 40 = .ok (.iadd, 1) := by decide +kernel
theorem dX5_doff_41 : decode cX5_doff 41 = .ok (.iconst 0, 1) := by decide +kernel
theorem dX5_doff_42 : decode cX5_doff 42 = .ok (.iastore, 1) := by decide +kernel
theorem dX5_doff_43 : decode cX5_doff 43 = .ok (.iinc 2 1, 3) := by decide +kernel
theorem dX5_doff_46 : decode cX5_doff 46 = .ok (.goto (-28), 3) := by decide +kernel
theorem dX5_doff_49 : decode cX5_doff 49 = .ok (.aload_n 0, 1) := by decide +kernel
theorem dX5_doff_50 : decode cX5_doff 50 = .ok (.getfield 7, 3) := by decide +kernel
theorem dX5_doff_53 : decode cX5_doff 53 = .ok (.bipush 29, 2) := by decide +kernel
theorem dX5_doff_55 : decode cX5_doff 55 = .ok (.iconst 0, 1) := by decide +kernel
theorem dX5_doff_56 : decode cX5_doff 56 = .ok (.iastore, 1) := by decide +kernel
theorem dX5_doff_57 : decode cX5_doff 57 = .ok (.aload_n 0, 1) := by decide +kernel
theorem dX5_doff_58 : decode cX5_doff 58 = .ok (.getfield 7, 3) := by decide +kernel
theorem dX5_doff_61 : decode cX5_doff 61 = .ok (.bipush 32, 2) := by decide +kernel
theorem dX5_doff_63 : decode cX5_doff 63 = .ok (.iconst 0, 1) := by decide +kernel
theorem dX5_doff_64 : decode cX5_doff 64 = .ok (.iastore, 1) := by decide +kernel
theorem dX5_doff_65 : decode cX5_doff 65 = .ok (.aload_n 0, 1) := by decide +kernel
theorem dX5_doff_66 : decode cX5_doff 66 = .ok (.getfield 7, 3) := by decide +kernel
theorem dX5_doff_69 : decode cX5_doff 69 = .ok (.bipush 33, 2) := by decide +kernel
theorem dX5_doff_71 : decode cX5_doff 71 = .ok (.iconst 0, 1) := by decide +kernel
theorem dX5_doff_72 : decode cX5_doff 72 = .ok (.iastore, 1) := by decide +kernel
theorem dX5_doff_73 : decode cX5_doff 73 = .ok (.aload_n 0, 1) := by decide +kernel
theorem dX5_doff_74 : decode cX5_doff 74 = .ok (.getfield 7, 3) := by decide +kernel
theorem dX5_doff_77 : decode cX5_doff 77 = .ok (.bipush 34, 2) := by decide +kernel
theorem dX5_doff_79 : decode cX5_doff 79 = .ok (.bipush (-5), 2) := by decide +kernel
theorem dX5_doff_81 : decode cX5_doff 81 = .ok (.iastore, 1) := by decide +kernel
theorem dX5_doff_82 : decode cX5_doff 82 = .ok (.aload_n 0, 1) := by decide +kernel
theorem dX5_doff_83 : decode cX5_doff 83 = .ok (.getfield 7, 3) := by decide +kernel
theorem dX5_doff_86 : decode cX5_doff 86 = .ok (.bipush 36, 2) := by decide +kernel
theorem dX5_doff_88 : decode cX5_doff 88 = .ok (.dup2, 1) := by decide +kernel
theorem dX5_doff_89 : decode cX5_doff 89 = .ok (.iaload, 1) := by decide +kernel
theorem dX5_doff_90 : decode cX5_doff 90 = .ok (.ldc 39, 2) := by decide +kernel
theorem dX5_doff_92 : decode cX5_doff 92 = .ok (.iadd, 1) := by decide +kernel
theorem dX5_doff_93 : decode cX5_doff 93 = .ok (.iastore, 1) := by decide +kernel
theorem dX5_doff_94 : decode cX5_doff 94 = .ok (.aload_n 0, 1) := by decide +kernel
theorem dX5_doff_95 : decode cX5_doff 95 = .ok (.iload_n 1, 1) := by decide +kernel
theorem dX5_doff_96 : decode cX5_doff 96 = .ok (.invokevirtual 90, 3) := by decide +kernel
theorem dX5_doff_99 : decode cX5_doff 99 = .ok (.ireturn, 1) := by decide +kernel
theorem dX5_type_0 : decode cX5_type 0 = .ok (.aload_n 0, 1) := by decide +kernel
theorem dX5_type_1 : decode cX5_type 1 = .ok (.getfield 115, 3) := by decide +kernel
theorem dX5_type_4 : decode cX5_type 4 = .ok (.bipush 60, 2) := by decide +kernel
theorem dX5_type_6 : decode cX5_type 6 = .ok (.if_icmp .ne 6, 3) := by decide +kernel
theorem dX5_type_9 : decode cX5_type 9 = .ok (.bipush (-3), 2) := by decide +kernel
theorem dX5_type_11 : decode cX5_type 11 = .ok (.ireturn, 1) := by decide +kernel
theorem dX5_type_12 : decode cX5_type 12 = .ok (.aload_n 0, 1) := by decide +kernel
theorem dX5_type_13 : decode cX5_type 13 = .ok (.getfield 25, 3) := by decide +kernel
theorem dX5_type_16 : decode cX5_type 16 = .ok (.aload_n 0, 1) := by decide +kernel
theorem dX5_type_17 : decode cX5_type 17 = .ok (.getfield 115, 3) := by decide +kernel
theorem dX5_type_20 : decode cX5_type 20 = .ok (.iload_n 1, 1) := by decide +kernel
theorem dX5_type_21 : decode cX5_type 21 = .ok (.iastore, 1) := by decide +kernel
theorem dX5_type_22 : decode cX5_type 22 = .ok (.aload_n 0, 1) := by decide +kernel
theorem dX5_type_23 : decode cX5_type 23 = .ok (.dup, 1) := by decide +kernel
theorem dX5_type_24 : decode cX5_type 24 = .ok (.getfield 115, 3) := by decide +kernel
theorem dX5_type_27 : decode cX5_type 27 = .ok (.iconst 1, 1) := by decide +kernel
theorem dX5_type_28 : decode cX5_type 28 = .ok (.iadd, 1) := by decide +kernel
theorem dX5_type_29 : decode cX5_type 29 = .ok (.putfield 115, 3) := by decide +kernel
theorem dX5_type_32 : decode cX5_type 32 = .ok (.aload_n 0, 1) := by decide +kernel
theorem dX5_type_33 : decode cX5_type 33 = .ok (.getfield 115, 3) := by decide +kernel
theorem dX5_type_36 : decode cX5_type 36 = .ok (.ireturn, 1) := by decide +kernel
theorem dX5_clearText_0 : decode cX5_clearText 0 = .ok (.aload_n 0, 1) := by decide +kernel
theorem dX5_clearText_1 : decode cX5_clearText 1 = .ok (.getfield 115, 3) := by decide +kernel
theorem dX5_clearText_4 : decode cX5_clearText 4 = .ok (.istore_n 1, 1) := by decide +kernel
theorem dX5_clearText_5 : decode cX5_clearText 5 = .ok (.aload_n 0, 1) := by decide +kernel
theorem dX5_clearText_6 : decode cX5_clearText 6 = .ok (.iconst 0, 1) := by decide +kernel
theorem dX5_clearText_7 : decode cX5_clearText 7 = .ok (.putfield 115, 3) := by decide +kernel
theorem dX5_clearText_10 : decode cX5_clearText 10 = .ok (.iload_n 1, 1) := by decide +kernel
theorem dX5_clearText_11 : decode cX5_clearText 11 = .ok (.ireturn, 1) := by decide +kernel
set_option maxRecDepth 20000 in
theorem ggX5_isHere_X5_in : GoodIn wsX5_isHere wsX5_in := goodIn_r _ [7] (by decide +kernel) (by decide +kernel)
set_option maxRecDepth 20000 in
theorem gX5_isHere_X5_in : GoodIn wsX5_isHere (va_wsS RX5 63 yX5_in wsX5_in) := goodIn_app (goodIn_of _ (by decide +kernel)) ggX5_isHere_X5_in
theorem dX5_isHere_0 : decode cX5_isHere 0 = .ok (.aload_n 0, 1) := by decide +kernel
theorem dX5_isHere_1 : decode cX5_isHere 1 = .ok (.getfield 118, 3) := by decide +kernel
theorem dX5_isHere_4 : decode cX5_isHere 4 = .ok (.aload_n 0, 1) := by decide +kernel
theorem dX5_isHere_5 : decode cX5_isHere 5 = .ok (.getfield 115, 3) := by decide +kernel
theorem dX5_isHere_8 : decode cX5_isHere 8 = .ok (.if_icmp .ge 27, 3) := by decide +kernel
theorem dX5_isHere_11 : decode cX5_isHere 11 = .ok (.aload_n 0, 1) := by decide +kernel
theorem dX5_isHere_12 : decode cX5_isHere 12 = .ok (.getfield 25, 3) := by decide +kernel
theorem dX5_isHere_15 : decode cX5_isHere 15 = .ok (.aload_n 0, 1) := by decide +kernel
theorem dX5_isHere_16 : decode cX5_isHere 16 = .ok (.getfield 118, 3) := by decide +kernel
theorem dX5_isHere_19 : decode cX5_isHere 19 = .ok (.iaload, 1) := by decide +kernel
theorem dX5_isHere_20 : decode cX5_isHere 20 = .ok (.i2l, 1) := by decide +kernel
theorem dX5_isHere_21 : decode cX5_isHere 21 = .ok (.iload_n 1, 1) := by decide +kernel
theorem dX5_isHere_22 : decode cX5_isHere 22 = .ok (.i2l, 1) := by decide +kernel
theorem dX5_isHere_23 : decode cX5_isHere 23 = .ok (.iload_n 2, 1) := by decide +kernel
theorem dX5_isHere_24 : decode cX5_isHere 24 = .ok (.i2l, 1) := by decide +kernel
theorem dX5_isHere_25 : decode cX5_isHere 25 = .ok (.invokestatic 63, 3) := by decide +kernel
theorem dX5_isHere_28 : decode cX5_isHere 28 = .ok (.ifCond .eq 7, 3) := by decide +kernel
theorem dX5_isHere_31 : decode cX5_isHere 31 = .ok (.iconst 1, 1) := by decide +kernel
theorem dX5_isHere_32 : decode cX5_isHere 32 = .ok (.goto 4, 3) := by decide +kernel
theorem dX5_isHere_35 : decode cX5_isHere 35 = .ok (.iconst 0, 1) := by decide +kernel
theorem dX5_isHere_36 : decode cX5_isHere 36 = .ok (.ireturn, 1) := by decide +kernel
set_option maxRecDepth 20000 in
theorem ggX5_takes_X5_isHere : GoodIn wsX5_takes wsX5_isHere := goodIn_r _ [6, 1, 7, 8, 9, 10, 5, 11, 12, 13, 14, 15, 16, 17, 18, 19, 20, 21, 22, 23] (by decide +kernel) (by decide +kernel)
set_option maxRecDepth 20000 in
theorem gX5_takes_X5_isHere : GoodIn wsX5_takes (wsV RX5 121 RX5 yX5_isHere wsX5_isHere) := goodIn_app (goodIn_of _ (by decide +kernel)) ggX5_takes_X5_isHere
theorem dX5_takes_0 : decode cX5_takes 0 = .ok (.aload_n 0, 1) := by decide +kernel
theorem dX5_takes_1 : decode cX5_takes 1 = .ok (.iload_n 1, 1) := by decide +kernel
theorem dX5_takes_2 : decode cX5_takes 2 = .ok (.iload_n 1, 1) := by decide +kernel
theorem dX5_takes_3 : decode cX5_takes 3 = .ok (.invokevirtual 121, 3) := by decide +kernel
theorem dX5_takes_6 : decode cX5_takes 6 = .ok (.istore_n 2, 1) := by decide +kernel
theorem dX5_takes_7 : decode cX5_takes 7 = .ok (.aload_n 0, 1) := by decide +kernel
theorem dX5_takes_8 : decode cX5_takes 8 = .ok (.dup, 1) := by decide +kernel
theorem dX5_takes_9 : decode cX5_takes 9 = .ok (.getfield 118, 3) := by decide +kernel
theorem dX5_takes_12 : decode cX5_takes 12 = .ok (.iload_n 2, 1) := by decide +kernel
theorem dX5_takes_13 : decode cX5_takes 13 = .ok (.ifCond .eq 7, 3) := by decide +kernel
theorem dX5_takes_16 : decode cX5_takes 16 = .ok (.iconst 1, 1) := by decide +kernel
theorem dX5_takes_17 : decode cX5_takes 17 = .ok (.goto 4, 3) := by decide +kernel
theorem dX5_takes_20 : decode cX5_takes 20 = .ok (.iconst 0, 1) := by decide +kernel
theorem dX5_takes_21 : decode cX5_takes 21 = .ok (.iadd, 1) := by decide +kernel
theorem dX5_takes_22 : decode cX5_takes 22 = .ok (.putfield 118, 3) := by decide +kernel
theorem dX5_takes_25 : decode cX5_takes 25 = .ok (.iload_n 2, 1) := by decide +kernel
theorem dX5_takes_26 : decode cX5_takes 26 = .ok (.ireturn, 1) := by decide +kernel
set_option maxRecDepth 20000 in
theorem ggX5_readsNumber_X5_isHere : GoodIn wsX5_readsNumber wsX5_isHere := goodIn_r _ [8, 2, 9, 1, 10, 11, 7, 12, 13, 14, 15, 16, 17, 18, 19, 20, 21, 22, 23, 24] (by decide +kernel) (by decide +kernel)
set_option maxRecDepth 20000 in
theorem gX5_readsNumber_X5_isHere : GoodIn wsX5_readsNumber (wsV RX5 121 RX5 yX5_isHere wsX5_isHere) := goodIn_app (goodIn_of _ (by decide +kernel)) ggX5_readsNumber_X5_isHere
theorem dX5_readsNumber_0 : decode cX5_readsNumber 0 = .ok (.aload_n 0, 1) := by decide +kernel
theorem dX5_readsNumber_1 : decode cX5_readsNumber 1 = .ok (.iload_n 1, 1) := by decide +kernel
theorem dX5_readsNumber_2 : decode cX5_readsNumber 2 = .ok (.ifCond .ne 8, 3) := by decide +kernel
theorem dX5_readsNumber_5 : decode cX5_readsNumber 5 = .ok (.bipush 48, 2) := by decide +kernel
theorem dX5_readsNumber_7 : decode cX5_readsNumber 7 = .ok (.goto 5, 3) := by decide +kernel
theorem dX5_readsNumber_10 : decode cX5_readsNumber 10 = .ok (.bipush 49, 2) := by decide +kernel
theorem dX5_readsNumber_12 : decode cX5_readsNumber 12 = .ok (.bipush 57, 2) := by decide +kernel
theorem dX5_readsNumber_14 : decode cX5_readsNumber 14 = .ok (.invokevirtual 121, 3) := by decide +kernel
theorem dX5_readsNumber_17 : decode cX5_readsNumber 17 = .ok (.ifCond .eq 19, 3) := by decide +kernel
theorem dX5_readsNumber_20 : decode cX5_readsNumber 20 = .ok (.aload_n 0, 1) := by decide +kernel
theorem dX5_readsNumber_21 : decode cX5_readsNumber 21 = .ok (.getfield 25, 3) := by decide +kernel
theorem dX5_readsNumber_24 : decode cX5_readsNumber 24 = .ok (.aload_n 0, 1) := by decide +kernel
theorem dX5_readsNumber_25 : decode cX5_readsNumber 25 = .ok (.getfield 118, 3) := by decide +kernel
theorem dX5_readsNumber_28 : decode cX5_readsNumber 28 = .ok (.iaload, 1) := by decide +kernel
theorem dX5_readsNumber_29 : decode cX5_readsNumber 29 = .ok (.bipush 48, 2) := by decide +kernel
theorem dX5_readsNumber_31 : decode cX5_readsNumber 31 = .ok (.isub, 1) := by decide +kernel
theorem dX5_readsNumber_32 : decode cX5_readsNumber 32 = .ok (.iload_n 2, 1) := by decide +kernel
theorem dX5_readsNumber_33 : decode cX5_readsNumber 33 = .ok (.if_icmp .le 5, 3) := by decide +kernel
theorem dX5_readsNumber_36 : decode cX5_readsNumber 36 = .ok (.iconst 0, 1) := by decide +kernel
theorem dX5_readsNumber_37 : decode cX5_readsNumber 37 = .ok (.ireturn, 1) := by decide +kernel
theorem dX5_readsNumber_38 : decode cX5_readsNumber 38 = .ok (.aload_n 0, 1) := by decide +kernel
theorem dX5_readsNumber_39 : decode cX5_readsNumber 39 = .ok (.aload_n 0, 1) := by decide +kernel
theorem dX5_readsNumber_40 : decode cX5_readsNumber 40 = .ok (.getfield 25, 3) := by decide +kernel
theorem dX5_readsNumber_43 : decode cX5_readsNumber 43 = .ok (.aload_n 0, 1) := by decide +kernel
theorem dX5_readsNumber_44 : decode cX5_readsNumber 44 = .ok (.getfield 118, 3) := by decide +kernel
theorem dX5_readsNumber_47 : decode cX5_readsNumber 47 = .ok (.iaload, 1) := by decide +kernel
theorem dX5_readsNumber_48 : decode cX5_readsNumber 48 = .ok (.bipush 48, 2) := by decide +kernel
theorem dX5_readsNumber_50 : decode cX5_readsNumber 50 = .ok (.isub, 1) := by decide +kernel
theorem dX5_readsNumber_51 : decode cX5_readsNumber 51 = .ok (.putfield 124, 3) := by decide +kernel
theorem dX5_readsNumber_54 : decode cX5_readsNumber 54 = .ok (.aload_n 0, 1) := by decide +kernel
theorem dX5_readsNumber_55 : decode cX5_readsNumber 55 = .ok (.dup, 1) := by decide +kernel
theorem dX5_readsNumber_56 : decode cX5_readsNumber 56 = .ok (.getfield 118, 3) := by decide +kernel
theorem dX5_readsNumber_59 : decode cX5_readsNumber 59 = .ok (.iconst 1, 1) := by decide +kernel
theorem dX5_readsNumber_60 : decode cX5_readsNumber 60 = .ok (.iadd, 1) := by decide +kernel
theorem dX5_readsNumber_61 : decode cX5_readsNumber 61 = .ok (.putfield 118, 3) := by decide +kernel
theorem dX5_readsNumber_64 : decode cX5_readsNumber 64 = .ok (.aload_n 0, 1) := by decide +kernel
theorem dX5_readsNumber_65 : decode cX5_readsNumber 65 = .ok (.getfield 124, 3) := by decide +kernel
theorem dX5_readsNumber_68 : decode cX5_readsNumber 68 = .ok (.ifCond .le 75, 3) := by decide +kernel
theorem dX5_readsNumber_71 : decode cX5_readsNumber 71 = .ok (.aload_n 0, 1) := by decide +kernel
theorem dX5_readsNumber_72 : decode cX5_readsNumber 72 = .ok (.bipush 48, 2) := by decide +kernel
theorem dX5_readsNumber_74 : decode cX5_readsNumber 74 = .ok (.bipush 57, 2) := by decide +kernel
theorem dX5_readsNumber_76 : decode cX5_readsNumber 76 = .ok (.invokevirtual 121, 3) := by decide +kernel
theorem dX5_readsNumber_79 : decode cX5_readsNumber 79 = .ok (.ifCond .eq 64, 3) := by decide +kernel
theorem dX5_readsNumber_82 : decode cX5_readsNumber 82 = .ok (.bipush 10, 2) := by decide +kernel
theorem dX5_readsNumber_84 : decode cX5_readsNumber 84 = .ok (.aload_n 0, 1) := by decide +kernel
theorem dX5_readsNumber_85 : decode cX5_readsNumber 85 = .ok (.getfield 124, 3) := by decide +kernel
theorem dX5_readsNumber_88 : decode cX5_readsNumber 88 = .ok (.imul, 1) := by decide +kernel
theorem dX5_readsNumber_89 : decode cX5_readsNumber 89 = .ok (.aload_n 0, 1) := by decide +kernel
theorem dX5_readsNumber_90 : decode cX5_readsNumber 90 = .ok (.getfield 25, 3) := by decide +kernel
theorem dX5_readsNumber_93 : decode cX5_readsNumber 93 = .ok (.aload_n 0, 1) := by decide +kernel
theorem dX5_readsNumber_94 : decode cX5_readsNumber 94 = .ok (.getfield 118, 3) := by decide +kernel
theorem dX5_readsNumber_97 : decode cX5_readsNumber 97 = .ok (.iaload, 1) := by decide +kernel
theorem dX5_readsNumber_98 : decode cX5_readsNumber 98 = .ok (.iadd, 1) := by decide +kernel
theorem dX5_readsNumber_99 : decode cX5_readsNumber 99 = .ok (.bipush 48, 2) := by decide +kernel
theorem dX5_readsNumber_101 : decode cX5_readsNumber 101 = .ok (.isub, 1) := by decide +kernel
theorem dX5_readsNumber_102 : decode cX5_readsNumber 102 = .ok (.iload_n 2, 1) := by decide +kernel
theorem dX5_readsNumber_103 : decode cX5_readsNumber 103 = .ok (.if_icmp .gt 40, 3) := by decide +kernel
theorem dX5_readsNumber_106 : decode cX5_readsNumber 106 = .ok (.aload_n 0, 1) := by decide +kernel
theorem dX5_readsNumber_107 : decode cX5_readsNumber 107 = .ok (.bipush 10, 2) := by decide +kernel
theorem dX5_readsNumber_109 : decode cX5_readsNumber 109 = .ok (.aload_n 0, 1) := by decide +kernel
theorem dX5_readsNumber_110 : decode cX5_readsNumber 110 = .ok (.getfield 124, 3) := by decide +kernel
theorem dX5_readsNumber_113 : decode cX5_readsNumber 113 = .ok (.imul, 1) := by decide +kernel
theorem dX5_readsNumber_114 : decode cX5_readsNumber 114 = .ok (.aload_n 0, 1) := by decide +kernel
theorem dX5_readsNumber_115 : decode cX5_readsNumber 115 = .ok (.getfield 25, 3) := by decide +kernel
theorem dX5_readsNumber_118 : decode cX5_readsNumber 118 = .ok (.aload_n 0, 1) := by decide +kernel
theorem dX5_readsNumber_119 : decode cX5_readsNumber 119 = .ok (.getfield 118, 3) := by decide +kernel
theorem dX5_readsNumber_122 : decode cX5_readsNumber 122 = .ok (.iaload, 1) := by decide +kernel
theorem dX5_readsNumber_123 : decode cX5_readsNumber 123 = .ok (.iadd, 1) := by decide +kernel
theorem dX5_readsNumber_124 : decode cX5_readsNumber 124 = .ok (.bipush 48, 2) := by decide +kernel
theorem dX5_readsNumber_126 : decode cX5_readsNumber 126 = .ok (.isub, 1) := by decide +kernel
theorem dX5_readsNumber_127 : decode cX5_readsNumber 127 = .ok (.putfield 124, 3) := by decide +kernel
theorem dX5_readsNumber_130 : decode cX5_readsNumber 130 = .ok (.aload_n 0, 1) := by decide +kernel
theorem dX5_readsNumber_131 : decode cX5_readsNumber 131 = .ok (.dup, 1) := by decide +kernel
theorem dX5_readsNumber_132 : decode cX5_readsNumber 132 = .ok (.getfield 118, 3) := by decide +kernel
theorem dX5_readsNumber_135 : decode cX5_readsNumber 135 = .ok (.iconst 1, 1) := by decide +kernel
theorem dX5_readsNumber_136 : decode cX5_readsNumber 136 = .ok (.iadd, 1) := by decide +kernel
theorem dX5_readsNumber_137 : decode cX5_readsNumber 137 = .ok (.putfield 118, 3) := by decide +kernel
theorem dX5_readsNumber_140 : decode cX5_readsNumber 140 = .ok (.goto (-76), 3) := by decide +kernel
theorem dX5_readsNumber_143 : decode cX5_readsNumber 143 = .ok (.aload_n 0, 1) := by decide +kernel
theorem dX5_readsNumber_144 : decode cX5_readsNumber 144 = .ok (.getfield 124, 3) := by decide +kernel
theorem dX5_readsNumber_147 : decode cX5_readsNumber 147 = .ok (.iload_n 1, 1) := by decide +kernel
theorem dX5_readsNumber_148 : decode cX5_readsNumber 148 = .ok (.if_icmp .lt 7, 3) := by decide +kernel
theorem dX5_readsNumber_151 : decode cX5_readsNumber 151 = .ok (.iconst 1, 1) := by decide +kernel
theorem dX5_readsNumber_152 : decode cX5_readsNumber 152 = .ok (.goto 4, 3) := by decide +kernel
theorem dX5_readsNumber_155 : decode cX5_readsNumber 155 = .ok (.iconst 0, 1) := by decide +kernel
theorem dX5_readsNumber_156 : decode cX5_readsNumber 156 = .ok (.ireturn, 1) := by decide +kernel
theorem dX5_whichOf_0 : decode cX5_whichOf 0 = .ok (.iload_n 0, 1) := by decide +kernel
theorem dX5_whichOf_1 : decode cX5_whichOf 1 = .ok (.bipush 116, 2) := by decide +kernel
theorem dX5_whichOf_3 : decode cX5_whichOf 3 = .ok (.if_icmp .ne 7, 3) := by decide +kernel
theorem dX5_whichOf_6 : decode cX5_whichOf 6 = .ok (.iconst 0, 1) := by decide +kernel
theorem dX5_whichOf_7 : decode cX5_whichOf 7 = .ok (.goto 45, 3) := by decide +kernel
theorem dX5_whichOf_10 : decode cX5_whichOf 10 = .ok (.iload_n 0, 1) := by decide +kernel
theorem dX5_whichOf_11 : decode cX5_whichOf 11 = .ok (.bipush 100, 2) := by decide +kernel
theorem dX5_whichOf_13 : decode cX5_whichOf 13 = .ok (.if_icmp .ne 7, 3) := by decide +kernel
theorem dX5_whichOf_16 : decode cX5_whichOf 16 = .ok (.iconst 1, 1) := by decide +kernel
theorem dX5_whichOf_17 : decode cX5_whichOf 17 = .ok (.goto 35, 3) := by decide +kernel
theorem dX5_whichOf_20 : decode cX5_whichOf 20 = .ok (.iload_n 0, 1) := by decide +kernel
theorem dX5_whichOf_21 : decode cX5_whichOf 21 = .ok (.bipush 119, 2) := by decide +kernel
theorem dX5_whichOf_23 : decode cX5_whichOf 23 = .ok (.if_icmp .ne 7, 3) := by decide +kernel
theorem dX5_whichOf_26 : decode cX5_whichOf 26 = .ok (.iconst 2, 1) := by decide +kernel
theorem dX5_whichOf_27 : decode cX5_whichOf 27 = .ok (.goto 25, 3) := by decide +kernel
theorem dX5_whichOf_30 : decode cX5_whichOf 30 = .ok (.iload_n 0, 1) := by decide +kernel
theorem dX5_whichOf_31 : decode cX5_whichOf 31 = .ok (.bipush 107, 2) := by decide +kernel
theorem dX5_whichOf_33 : decode cX5_whichOf 33 = .ok (.if_icmp .ne 7, 3) := by decide +kernel
theorem dX5_whichOf_36 : decode cX5_whichOf 36 = .ok (.iconst 3, 1) := by decide +kernel
theorem dX5_whichOf_37 : decode cX5_whichOf 37 = .ok (.goto 15, 3) := by decide +kernel
theorem dX5_whichOf_40 : decode cX5_whichOf 40 = .ok (.iload_n 0, 1) := by decide +kernel
theorem dX5_whichOf_41 : decode cX5_whichOf 41 = .ok (.bipush 115, 2) := by decide +kernel
theorem dX5_whichOf_43 : decode cX5_whichOf 43 = .ok (.if_icmp .ne 7, 3) := by decide +kernel
theorem dX5_whichOf_46 : decode cX5_whichOf 46 = .ok (.iconst 4, 1) := by decide +kernel
theorem dX5_whichOf_47 : decode cX5_whichOf 47 = .ok (.goto 5, 3) := by decide +kernel
theorem dX5_whichOf_50 : decode cX5_whichOf 50 = .ok (.bipush (-5), 2) := by decide +kernel
theorem dX5_whichOf_52 : decode cX5_whichOf 52 = .ok (.ireturn, 1) := by decide +kernel
set_option maxRecDepth 20000 in
theorem ggX5_command_X5_takes : GoodIn wsX5_command wsX5_takes := goodIn_r _ [9, 2, 10, 11, 12, 8, 13, 3, 4, 14, 15, 16, 72, 73, 74, 75, 76, 77, 78, 79, 80, 81, 82, 83] (by decide +kernel) (by decide +kernel)
set_option maxRecDepth 20000 in
theorem gX5_command_X5_takes : GoodIn wsX5_command (wsV RX5 127 RX5 yX5_takes wsX5_takes) := goodIn_app (goodIn_of _ (by decide +kernel)) ggX5_command_X5_takes
set_option maxRecDepth 20000 in
theorem ggX5_command_X5_doKnot : GoodIn wsX5_command wsX5_doKnot := goodIn_r _ [20, 21, 72, 73, 74, 75, 76, 77, 78, 79, 80, 81, 82, 83] (by decide +kernel) (by decide +kernel)
set_option maxRecDepth 20000 in
theorem gX5_command_X5_doKnot : GoodIn wsX5_command (wsV RX5 104 RX5 yX5_doKnot wsX5_doKnot) := goodIn_app (goodIn_of _ (by decide +kernel)) ggX5_command_X5_doKnot
set_option maxRecDepth 20000 in
theorem ggX5_command_X5_readsNumber : GoodIn wsX5_command wsX5_readsNumber := goodIn_r _ [25, 4, 2, 1, 10, 11, 12, 8, 13, 3, 14, 15, 16, 72, 73, 74, 75, 76, 77, 78, 79, 80, 81, 82, 83] (by decide +kernel) (by decide +kernel)
set_option maxRecDepth 20000 in
theorem gX5_command_X5_readsNumber : GoodIn wsX5_command (wsV RX5 131 RX5 yX5_readsNumber wsX5_readsNumber) := goodIn_app (goodIn_of _ (by decide +kernel)) ggX5_command_X5_readsNumber
set_option maxRecDepth 20000 in
theorem ggX5_command_X5_doWind : GoodIn wsX5_command wsX5_doWind := goodIn_r _ [29, 30, 31, 32, 8, 33, 21, 34, 35, 36, 37, 38, 39, 40, 41, 42, 43, 44, 45, 46, 47, 48, 49, 50, 51, 52, 53, 54, 55, 56, 57, 58, 59, 60, 72, 73, 74, 75, 76, 77, 78, 79, 80, 81, 82, 83] (by decide +kernel) (by decide +kernel)
set_option maxRecDepth 20000 in
theorem gX5_command_X5_doWind : GoodIn wsX5_command (wsV RX5 101 RX5 yX5_doWind wsX5_doWind) := goodIn_app (goodIn_of _ (by decide +kernel)) ggX5_command_X5_doWind
set_option maxRecDepth 20000 in
theorem ggX5_command_X5_doCone : GoodIn wsX5_command wsX5_doCone := goodIn_r _ [64, 21, 72, 73, 74, 75, 76, 77, 78, 79, 80, 81, 82, 83] (by decide +kernel) (by decide +kernel)
set_option maxRecDepth 20000 in
theorem gX5_command_X5_doCone : GoodIn wsX5_command (wsV RX5 109 RX5 yX5_doCone wsX5_doCone) := goodIn_app (goodIn_of _ (by decide +kernel)) ggX5_command_X5_doCone
set_option maxRecDepth 20000 in
theorem ggX5_command_X5_whichOf : GoodIn wsX5_command wsX5_whichOf := goodIn_r _ [67] (by decide +kernel) (by decide +kernel)
set_option maxRecDepth 20000 in
theorem gX5_command_X5_whichOf : GoodIn wsX5_command (va_wsS RX5 134 yX5_whichOf wsX5_whichOf) := goodIn_app (goodIn_of _ (by decide +kernel)) ggX5_command_X5_whichOf
set_option maxRecDepth 20000 in
theorem ggX5_command_X5_doSet : GoodIn wsX5_command wsX5_doSet := goodIn_r _ [71, 21, 72, 73, 74, 75, 76, 77, 78, 79, 80, 81, 82, 83] (by decide +kernel) (by decide +kernel)
set_option maxRecDepth 20000 in
theorem gX5_command_X5_doSet : GoodIn wsX5_command (wsV RX5 86 RX5 yX5_doSet wsX5_doSet) := goodIn_app (goodIn_of _ (by decide +kernel)) ggX5_command_X5_doSet
theorem dX5_command_0 : decode cX5_command 0 = .ok (.aload_n 0, 1) := by decide +kernel
theorem dX5_command_1 : decode cX5_command 1 = .ok (.bipush 110, 2) := by decide +kernel
theorem dX5_command_3 : decode cX5_command 3 = .ok (.invokevirtual 127, 3) := by decide +kernel
theorem dX5_command_6 : decode cX5_command 6 = .ok (.ifCond .eq 16, 3) := by decide +kernel
theorem dX5_command_9 : decode cX5_command 9 = .ok (.iload_n 1, 1) := by decide +kernel
theorem dX5_command_10 : decode cX5_command 10 = .ok (.ifCond .eq 10, 3) := by decide +kernel
theorem dX5_command_13 : decode cX5_command 13 = .ok (.aload_n 0, 1) := by decide +kernel
theorem dX5_command_14 : decode cX5_command 14 = .ok (.invokevirtual 104, 3) := by decide +kernel
theorem dX5_command_17 : decode cX5_command 17 = .ok (.goto 4, 3) := by decide +kernel
theorem dX5_command_20 : decode cX5_command 20 = .ok (.iconst 0, 1) := by decide +kernel
theorem dX5_command_21 : decode cX5_command 21 = .ok (.ireturn, 1) := by decide +kernel
theorem dX5_command_22 : decode cX5_command 22 = .ok (.aload_n 0, 1) := by decide +kernel
theorem dX5_command_23 : decode cX5_command 23 = .ok (.bipush 103, 2) := by decide +kernel
theorem dX5_command_25 : decode cX5_command 25 = .ok (.invokevirtual 127, 3) := by decide +kernel
theorem dX5_command_28 : decode cX5_command 28 = .ok (.ifCond .eq 36, 3) := by decide +kernel
theorem dX5_command_31 : decode cX5_command 31 = .ok (.aload_n 0, 1) := by decide +kernel
theorem dX5_command_32 : decode cX5_command 32 = .ok (.iconst 1, 1) := by decide +kernel
theorem dX5_command_33 : decode cX5_command 33 = .ok (.sipush 500, 3) := by decide +kernel
theorem dX5_command_36 : decode cX5_command 36 = .ok (.invokevirtual 131, 3) := by decide +kernel
theorem dX5_command_39 : decode cX5_command 39 = .ok (.ifCond .ne 8, 3) := by decide +kernel
theorem dX5_command_42 : decode cX5_command 42 = .ok (.bipush (-2), 2) := by decide +kernel
theorem dX5_command_44 : decode cX5_command 44 = .ok (.goto 19, 3) := by decide +kernel
theorem dX5_command_47 : decode cX5_command 47 = .ok (.iload_n 1, 1) := by decide +kernel
theorem dX5_command_48 : decode cX5_command 48 = .ok (.ifCond .eq 14, 3) := by decide +kernel
theorem dX5_command_51 : decode cX5_command 51 = .ok (.aload_n 0, 1) := by decide +kernel
theorem dX5_command_52 : decode cX5_command 52 = .ok (.aload_n 0, 1) := by decide +kernel
theorem dX5_command_53 : decode cX5_command 53 = .ok (.getfield 124, 3) := by decide +kernel
theorem dX5_command_56 : decode cX5_command 56 = .ok (.invokevirtual 101, 3) := by decide +kernel
theorem dX5_command_59 : decode cX5_command 59 = .ok (.goto 4, 3) := by decide +kernel
theorem dX5_command_62 : decode cX5_command 62 = .ok (.iconst 0, 1) := by decide +kernel
theorem dX5_command_63 : decode cX5_command 63 = .ok (.ireturn, 1) := by decide +kernel
theorem dX5_command_64 : decode cX5_command 64 = .ok (.aload_n 0, 1) := by decide +kernel
theorem dX5_command_65 : decode cX5_command 65 = .ok (.bipush 99, 2) := by decide +kernel
theorem dX5_command_67 : decode cX5_command 67 = .ok (.invokevirtual 127, 3) := by decide +kernel
theorem dX5_command_70 : decode cX5_command 70 = .ok (.ifCond .eq 36, 3) := by decide +kernel
theorem dX5_command_73 : decode cX5_command 73 = .ok (.aload_n 0, 1) := by decide +kernel
theorem dX5_command_74 : decode cX5_command 74 = .ok (.iconst 1, 1) := by decide +kernel
theorem dX5_command_75 : decode cX5_command 75 = .ok (.sipush 9999, 3) := by decide +kernel
theorem dX5_command_78 : decode cX5_command 78 = .ok (.invokevirtual 131, 3) := by decide +kernel
theorem dX5_command_81 : decode cX5_command 81 = .ok (.ifCond .ne 8, 3) := by decide +kernel
theorem dX5_command_84 : decode cX5_command 84 = .ok (.bipush (-2), 2) := by decide +kernel
theorem dX5_command_86 : decode cX5_command 86 = .ok (.goto 19, 3) := by decide +kernel
theorem dX5_command_89 : decode cX5_command 89 = .ok (.iload_n 1, 1) := by decide +kernel
theorem dX5_command_90 : decode cX5_command 90 = .ok (.ifCond .eq 14, 3) := by decide +kernel
theorem dX5_command_93 : decode cX5_command 93 = .ok (.aload_n 0, 1) := by decide +kernel
theorem dX5_command_94 : decode cX5_command 94 = .ok (.aload_n 0, 1) := by decide +kernel
theorem dX5_command_95 : decode cX5_command 95 = .ok (.getfield 124, 3) := by decide +kernel
theorem dX5_command_98 : decode cX5_command 98 = .ok (.invokevirtual 109, 3) := by decide +kernel
theorem dX5_command_101 : decode cX5_command 101 = .ok (.goto 4, 3) := by decide +kernel
theorem dX5_command_104 : decode cX5_command 104 = .ok (.iconst 0, 1) := by decide +kernel
theorem dX5_command_105 : decode cX5_command 105 = .ok (.ireturn, 1) := by decide +kernel
theorem dX5_command_106 : decode cX5_command 106 = .ok (.aload_n 0, 1) := by decide +kernel
theorem dX5_command_107 : decode cX5_command 107 = .ok (.getfield 118, 3) := by decide +kernel
theorem dX5_command_110 : decode cX5_command 110 = .ok (.aload_n 0, 1) := by decide +kernel
theorem dX5_command_111 : decode cX5_command 111 = .ok (.getfield 115, 3) := by decide +kernel
theorem dX5_command_114 : decode cX5_command 114 = .ok (.if_icmp .ge 18, 3) := by decide +kernel
theorem dX5_command_117 : decode cX5_command 117 = .ok (.aload_n 0, 1) := by decide +kernel
theorem dX5_command_118 : decode cX5_command 118 = .ok (.getfield 25, 3) := by decide +kernel
theorem dX5_command_121 : decode cX5_command 121 = .ok (.aload_n 0, 1) := by decide +kernel
theorem dX5_command_122 : decode cX5_command 122 = .ok (.getfield 118, 3) := by decide +kernel
theorem dX5_command_125 : decode cX5_command 125 = .ok (.iaload, 1) := by decide +kernel
theorem dX5_command_126 : decode cX5_command 126 = .ok (.invokestatic 134, 3) := by decide +kernel
theorem dX5_command_129 : decode cX5_command 129 = .ok (.goto 5, 3) := by decide +kernel
theorem dX5_command_132 : decode cX5_command 132 = .ok (.bipush (-5), 2) := by decide +kernel
theorem dX5_command_134 : decode cX5_command 134 = .ok (.istore_n 2, 1) := by decide +kernel
theorem dX5_command_135 : decode cX5_command 135 = .ok (.iload_n 2, 1) := by decide +kernel
theorem dX5_command_136 : decode cX5_command 136 = .ok (.bipush (-5), 2) := by decide +kernel
theorem dX5_command_138 : decode cX5_command 138 = .ok (.if_icmp .ne 6, 3) := by decide +kernel
theorem dX5_command_141 : decode cX5_command 141 = .ok (.bipush (-2), 2) := by decide +kernel
theorem dX5_command_143 : decode cX5_command 143 = .ok (.ireturn, 1) := by decide +kernel
theorem dX5_command_144 : decode cX5_command 144 = .ok (.aload_n 0, 1) := by decide +kernel
theorem dX5_command_145 : decode cX5_command 145 = .ok (.dup, 1) := by decide +kernel
theorem dX5_command_146 : decode cX5_command 146 = .ok (.getfield 118, 3) := by decide +kernel
theorem dX5_command_149 : decode cX5_command 149 = .ok (.iconst 1, 1) := by decide +kernel
theorem dX5_command_150 : decode cX5_command 150 = .ok (.iadd, 1) := by decide +kernel
theorem dX5_command_151 : decode cX5_command 151 = .ok (.putfield 118, 3) := by decide +kernel
theorem dX5_command_154 : decode cX5_command 154 = .ok (.iload_n 2, 1) := by decide +kernel
theorem dX5_command_155 : decode cX5_command 155 = .ok (.ifCond .ne 7, 3) := by decide +kernel
theorem dX5_command_158 : decode cX5_command 158 = .ok (.iconst 1, 1) := by decide +kernel
theorem dX5_command_159 : decode cX5_command 159 = .ok (.goto 23, 3) := by decide +kernel
theorem dX5_command_162 : decode cX5_command 162 = .ok (.iload_n 2, 1) := by decide +kernel
theorem dX5_command_163 : decode cX5_command 163 = .ok (.iconst 3, 1) := by decide +kernel
theorem dX5_command_164 : decode cX5_command 164 = .ok (.if_icmp .ge 7, 3) := by decide +kernel
theorem dX5_command_167 : decode cX5_command 167 = .ok (.iconst 0, 1) := by decide +kernel
theorem dX5_command_168 : decode cX5_command 168 = .ok (.goto 14, 3) := by decide +kernel
theorem dX5_command_171 : decode cX5_command 171 = .ok (.iload_n 2, 1) := by decide +kernel
theorem dX5_command_172 : decode cX5_command 172 = .ok (.iconst 3, 1) := by decide +kernel
theorem dX5_command_173 : decode cX5_command 173 = .ok (.if_icmp .ne 7, 3) := by decide +kernel
theorem dX5_command_176 : decode cX5_command 176 = .ok (.iconst 5, 1) := by decide +kernel
theorem dX5_command_177 : decode cX5_command 177 = .ok (.goto 5, 3) := by decide +kernel
theorem dX5_command_180 : decode cX5_command 180 = .ok (.bipush 10, 2) := by decide +kernel
theorem dX5_command_182 : decode cX5_command 182 = .ok (.istore_n 3, 1) := by decide +kernel
theorem dX5_command_183 : decode cX5_command 183 = .ok (.iload_n 2, 1) := by decide +kernel
theorem dX5_command_184 : decode cX5_command 184 = .ok (.ifCond .ne 8, 3) := by decide +kernel
theorem dX5_command_187 : decode cX5_command 187 = .ok (.bipush 11, 2) := by decide +kernel
theorem dX5_command_189 : decode cX5_command 189 = .ok (.goto 34, 3) := by decide +kernel
theorem dX5_command_192 : decode cX5_command 192 = .ok (.iload_n 2, 1) := by decide +kernel
theorem dX5_command_193 : decode cX5_command 193 = .ok (.iconst 1, 1) := by decide +kernel
theorem dX5_command_194 : decode cX5_command 194 = .ok (.if_icmp .ne 8, 3) := by decide +kernel
theorem dX5_command_197 : decode cX5_command 197 = .ok (.bipush 9, 2) := by decide +kernel
theorem dX5_command_199 : decode cX5_command 199 = .ok (.goto 24, 3) := by decide +kernel
theorem dX5_command_202 : decode cX5_command 202 = .ok (.iload_n 2, 1) := by decide +kernel
theorem dX5_command_203 : decode cX5_command 203 = .ok (.iconst 2, 1) := by decide +kernel
theorem dX5_command_204 : decode cX5_command 204 = .ok (.if_icmp .ne 7, 3) := by decide +kernel
theorem dX5_command_207 : decode cX5_command 207 = .ok (.iconst 5, 1) := by decide +kernel
theorem dX5_command_208 : decode cX5_command 208 = .ok (.goto 15, 3) := by decide +kernel
theorem dX5_command_211 : decode cX5_command 211 = .ok (.iload_n 2, 1) := by decide +kernel
theorem dX5_command_212 : decode cX5_command 212 = .ok (.iconst 3, 1) := by decide +kernel
theorem dX5_command_213 : decode cX5_command 213 = .ok (.if_icmp .ne 8, 3) := by decide +kernel
theorem dX5_command_216 : decode cX5_command 216 = .ok (.bipush 50, 2) := by decide +kernel
theorem dX5_command_218 : decode cX5_command 218 = .ok (.goto 5, 3) := by decide +kernel
theorem dX5_command_221 : decode cX5_command 221 = .ok (.bipush 99, 2) := by decide +kernel
theorem dX5_command_223 : decode cX5_command 223 = .ok (.istore 4, 2) := by decide +kernel
theorem dX5_command_225 : decode cX5_command 225 = .ok (.aload_n 0, 1) := by decide +kernel
theorem dX5_command_226 : decode cX5_command 226 = .ok (.iload_n 3, 1) := by decide +kernel
theorem dX5_command_227 : decode cX5_command 227 = .ok (.iload 4, 2) := by decide +kernel
theorem dX5_command_229 : decode cX5_command 229 = .ok (.invokevirtual 131, 3) := by decide +kernel
theorem dX5_command_232 : decode cX5_command 232 = .ok (.ifCond .ne 8, 3) := by decide +kernel
theorem dX5_command_235 : decode cX5_command 235 = .ok (.bipush (-2), 2) := by decide +kernel
theorem dX5_command_237 : decode cX5_command 237 = .ok (.goto 20, 3) := by decide +kernel
theorem dX5_command_240 : decode cX5_command 240 = .ok (.iload_n 1, 1) := by decide +kernel
theorem dX5_command_241 : decode cX5_command 241 = .ok (.ifCond .eq 15, 3) := by decide +kernel
theorem dX5_command_244 : decode cX5_command 244 = .ok (.aload_n 0, 1) := by decide +kernel
theorem dX5_command_245 : decode cX5_command 245 = .ok (.iload_n 2, 1) := by decide +kernel
theorem dX5_command_246 : decode cX5_command 246 = .ok (.aload_n 0, 1) := by decide +kernel
theorem dX5_command_247 : decode cX5_command 247 = .ok (.getfield 124, 3) := by decide +kernel
theorem dX5_command_250 : decode cX5_command 250 = .ok (.invokevirtual 86, 3) := by decide +kernel
theorem dX5_command_253 : decode cX5_command 253 = .ok (.goto 4, 3) := by decide +kernel
theorem dX5_command_256 : decode cX5_command 256 = .ok (.iconst 0, 1) := by decide +kernel
theorem dX5_command_257 : decode cX5_command 257 = .ok (.ireturn, 1) := by decide +kernel
set_option maxRecDepth 20000 in
theorem ggX5_fault_X5_command : GoodIn wsX5_fault wsX5_command := goodIn_r _ [7, 8, 1, 2, 9, 10, 11, 12, 6, 13, 14, 15, 16, 17, 18, 19, 20, 21, 22, 23, 24, 25, 26, 27, 28, 29, 30, 31, 32, 33, 34, 35, 36, 37, 38, 39, 40, 41, 42, 43, 44, 45, 46, 47, 48, 49, 50, 51, 52, 53, 54, 55, 56, 57, 58, 59, 60, 61, 62, 63, 64, 65, 66, 67, 68, 69, 70, 71, 72, 73, 74, 75, 76, 77, 78, 79, 80, 81, 82, 83, 84, 85, 86, 87] (by decide +kernel) (by decide +kernel)
set_option maxRecDepth 20000 in
theorem gX5_fault_X5_command : GoodIn wsX5_fault (wsV RX5 137 RX5 yX5_command wsX5_command) := goodIn_app (goodIn_of _ (by decide +kernel)) ggX5_fault_X5_command
set_option maxRecDepth 20000 in
theorem ggX5_fault_X5_takes : GoodIn wsX5_fault wsX5_takes := goodIn_r _ [13, 1, 14, 15, 16, 6, 17, 2, 9, 18, 19, 20, 76, 77, 78, 79, 80, 81, 82, 83, 84, 85, 86, 87] (by decide +kernel) (by decide +kernel)
set_option maxRecDepth 20000 in
theorem gX5_fault_X5_takes : GoodIn wsX5_fault (wsV RX5 127 RX5 yX5_takes wsX5_takes) := goodIn_app (goodIn_of _ (by decide +kernel)) ggX5_fault_X5_takes
theorem dX5_fault_0 : decode cX5_fault 0 = .ok (.aload_n 0, 1) := by decide +kernel
theorem dX5_fault_1 : decode cX5_fault 1 = .ok (.iconst 0, 1) := by decide +kernel
theorem dX5_fault_2 : decode cX5_fault 2 = .ok (.putfield 118, 3) := by decide +kernel
theorem dX5_fault_5 : decode cX5_fault 5 = .ok (.iconst 1, 1) := by decide +kernel
theorem dX5_fault_6 : decode cX5_fault 6 = .ok (.istore_n 1, 1) := by decide +kernel
theorem dX5_fault_7 : decode cX5_fault 7 = .ok (.iload_n 1, 1) := by decide +kernel
theorem dX5_fault_8 : decode cX5_fault 8 = .ok (.ifCond .eq 28, 3) := by decide +kernel
theorem dX5_fault_11 : decode cX5_fault 11 = .ok (.aload_n 0, 1) := by decide +kernel
theorem dX5_fault_12 : decode cX5_fault 12 = .ok (.iconst 0, 1) := by decide +kernel
theorem dX5_fault_13 : decode cX5_fault 13 = .ok (.invokevirtual 137, 3) := by decide +kernel
theorem dX5_fault_16 : decode cX5_fault 16 = .ok (.bipush (-2), 2) := by decide +kernel
theorem dX5_fault_18 : decode cX5_fault 18 = .ok (.if_icmp .ne 8, 3) := by decide +kernel
theorem dX5_fault_21 : decode cX5_fault 21 = .ok (.aload_n 0, 1) := by decide +kernel
theorem dX5_fault_22 : decode cX5_fault 22 = .ok (.getfield 118, 3) := by decide +kernel
theorem dX5_fault_25 : decode cX5_fault 25 = .ok (.ireturn, 1) := by decide +kernel
theorem dX5_fault_26 : decode cX5_fault 26 = .ok (.aload_n 0, 1) := by decide +kernel
theorem dX5_fault_27 : decode cX5_fault 27 = .ok (.bipush 44, 2) := by decide +kernel
theorem dX5_fault_29 : decode cX5_fault 29 = .ok (.invokevirtual 127, 3) := by decide +kernel
theorem dX5_fault_32 : decode cX5_fault 32 = .ok (.istore_n 1, 1) := by decide +kernel
theorem dX5_fault_33 : decode cX5_fault 33 = .ok (.goto (-26), 3) := by decide +kernel
theorem dX5_fault_36 : decode cX5_fault 36 = .ok (.aload_n 0, 1) := by decide +kernel
theorem dX5_fault_37 : decode cX5_fault 37 = .ok (.getfield 118, 3) := by decide +kernel
theorem dX5_fault_40 : decode cX5_fault 40 = .ok (.aload_n 0, 1) := by decide +kernel
theorem dX5_fault_41 : decode cX5_fault 41 = .ok (.getfield 115, 3) := by decide +kernel
theorem dX5_fault_44 : decode cX5_fault 44 = .ok (.if_icmp .ne 8, 3) := by decide +kernel
theorem dX5_fault_47 : decode cX5_fault 47 = .ok (.bipush (-5), 2) := by decide +kernel
theorem dX5_fault_49 : decode cX5_fault 49 = .ok (.goto 7, 3) := by decide +kernel
theorem dX5_fault_52 : decode cX5_fault 52 = .ok (.aload_n 0, 1) := by decide +kernel
theorem dX5_fault_53 : decode cX5_fault 53 = .ok (.getfield 118, 3) := by decide +kernel
theorem dX5_fault_56 : decode cX5_fault 56 = .ok (.ireturn, 1) := by decide +kernel
set_option maxRecDepth 20000 in
theorem ggX5_perform_X5_fault : GoodIn wsX5_perform wsX5_fault := goodIn_r _ [9, 1, 10, 11, 12, 13, 8, 14, 15, 16, 17, 18, 19, 20, 21, 22, 23, 24, 25, 26, 27, 28, 29, 30, 31, 3, 32, 33, 34, 35, 36, 37, 38, 39, 40, 41, 42, 43, 44, 45, 46, 47, 48, 49, 50, 51, 52, 53, 54, 55, 56, 57, 58, 59, 60, 61, 62, 63, 64, 65, 66, 67, 68, 69, 70, 71, 72, 73, 74, 75, 76, 77, 78, 79, 80, 81, 95, 96, 97, 98, 99, 100, 101, 102, 103, 104, 105, 106] (by decide +kernel) (by decide +kernel)
set_option maxRecDepth 20000 in
theorem gX5_perform_X5_fault : GoodIn wsX5_perform (wsV RX5 141 RX5 yX5_fault wsX5_fault) := goodIn_app (goodIn_of _ (by decide +kernel)) ggX5_perform_X5_fault
set_option maxRecDepth 20000 in
theorem ggX5_perform_X5_remember : GoodIn wsX5_perform wsX5_remember := goodIn_r _ [85, 3, 2, 86, 87, 8, 88, 95, 96, 97, 98, 99, 100, 101, 102, 103, 104, 105, 106] (by decide +kernel) (by decide +kernel)
set_option maxRecDepth 20000 in
theorem gX5_perform_X5_remember : GoodIn wsX5_perform (wsV RX5 83 RX5 yX5_remember wsX5_remember) := goodIn_app (goodIn_of _ (by decide +kernel)) ggX5_perform_X5_remember
set_option maxRecDepth 20000 in
theorem ggX5_perform_X5_command : GoodIn wsX5_perform wsX5_command := goodIn_r _ [14, 15, 1, 10, 16, 17, 18, 19, 8, 20, 21, 22, 23, 24, 25, 26, 27, 28, 29, 30, 31, 3, 32, 33, 34, 35, 36, 37, 38, 39, 40, 41, 42, 43, 44, 45, 46, 47, 48, 49, 50, 51, 52, 53, 54, 55, 56, 57, 58, 59, 60, 61, 62, 63, 64, 65, 66, 67, 68, 69, 70, 71, 72, 73, 74, 75, 76, 77, 78, 79, 80, 81, 95, 96, 97, 98, 99, 100, 101, 102, 103, 104, 105, 106] (by decide +kernel) (by decide +kernel)
set_option maxRecDepth 20000 in
theorem gX5_perform_X5_command : GoodIn wsX5_perform (wsV RX5 137 RX5 yX5_command wsX5_command) := goodIn_app (goodIn_of _ (by decide +kernel)) ggX5_perform_X5_command
set_option maxRecDepth 20000 in
theorem ggX5_perform_X5_copy : GoodIn wsX5_perform wsX5_copy := goodIn_r _ [88] (by decide +kernel) (by decide +kernel)
set_option maxRecDepth 20000 in
theorem gX5_perform_X5_copy : GoodIn wsX5_perform (va_wsS RX5 32 yX5_copy wsX5_copy) := goodIn_app (goodIn_of _ (by decide +kernel)) ggX5_perform_X5_copy
set_option maxRecDepth 20000 in
theorem ggX5_perform_X5_takes : GoodIn wsX5_perform wsX5_takes := goodIn_r _ [20, 1, 21, 22, 23, 8, 24, 10, 16, 25, 26, 27, 95, 96, 97, 98, 99, 100, 101, 102, 103, 104, 105, 106] (by decide +kernel) (by decide +kernel)
set_option maxRecDepth 20000 in
theorem gX5_perform_X5_takes : GoodIn wsX5_perform (wsV RX5 127 RX5 yX5_takes wsX5_takes) := goodIn_app (goodIn_of _ (by decide +kernel)) ggX5_perform_X5_takes
set_option maxRecDepth 20000 in
theorem ggX5_perform_X5_acted : GoodIn wsX5_perform wsX5_acted := goodIn_r _ [92, 93, 94, 2, 95, 96, 97, 98, 99, 100, 101, 102, 103, 104, 105, 106] (by decide +kernel) (by decide +kernel)
set_option maxRecDepth 20000 in
theorem gX5_perform_X5_acted : GoodIn wsX5_perform (wsV RX5 90 RX5 yX5_acted wsX5_acted) := goodIn_app (goodIn_of _ (by decide +kernel)) ggX5_perform_X5_acted
theorem dX5_perform_0 : decode cX5_perform 0 = .ok (.aload_n 0, 1) := by decide +kernel
theorem dX5_perform_1 : decode cX5_perform 1 = .ok (.invokevirtual 141, 3) := by decide +kernel
theorem dX5_perform_4 : decode cX5_perform 4 = .ok (.istore_n 1, 1) := by decide +kernel
theorem dX5_perform_5 : decode cX5_perform 5 = .ok (.iload_n 1, 1) := by decide +kernel
theorem dX5_perform_6 : decode cX5_perform 6 = .ok (.bipush (-5), 2) := by decide +kernel
theorem dX5_perform_8 : decode cX5_perform 8 = .ok (.if_icmp .eq 8, 3) := by decide +kernel
theorem dX5_perform_11 : decode cX5_perform 11 = .ok (.bipush (-100), 2) := by decide +kernel
theorem dX5_perform_13 : decode cX5_perform 13 = .ok (.iload_n 1, 1) := by decide +kernel
theorem dX5_perform_14 : decode cX5_perform 14 = .ok (.isub, 1) := by decide +kernel
theorem dX5_perform_15 : decode cX5_perform 15 = .ok (.ireturn, 1) := by decide +kernel
theorem dX5_perform_16 : decode cX5_perform 16 = .ok (.aload_n 0, 1) := by decide +kernel
theorem dX5_perform_17 : decode cX5_perform 17 = .ok (.invokevirtual 83, 3) := by decide +kernel
theorem dX5_perform_20 : decode cX5_perform 20 = .ok (.aload_n 0, 1) := by decide +kernel
theorem dX5_perform_21 : decode cX5_perform 21 = .ok (.iconst 0, 1) := by decide +kernel
theorem dX5_perform_22 : decode cX5_perform 22 = .ok (.putfield 118, 3) := by decide +kernel
theorem dX5_perform_25 : decode cX5_perform 25 = .ok (.iconst 0, 1) := by decide +kernel
theorem dX5_perform_26 : decode cX5_perform 26 = .ok (.istore_n 2, 1) := by decide +kernel
theorem dX5_perform_27 : decode cX5_perform 27 = .ok (.iconst 1, 1) := by decide +kernel
theorem dX5_perform_28 : decode cX5_perform 28 = .ok (.istore_n 3, 1) := by decide +kernel
theorem dX5_perform_29 : decode cX5_perform 29 = .ok (.iload_n 3, 1) := by decide +kernel
theorem dX5_perform_30 : decode cX5_perform 30 = .ok (.ifCond .eq 45, 3) := by decide +kernel
theorem dX5_perform_33 : decode cX5_perform 33 = .ok (.aload_n 0, 1) := by decide +kernel
theorem dX5_perform_34 : decode cX5_perform 34 = .ok (.iconst 1, 1) := by decide +kernel
theorem dX5_perform_35 : decode cX5_perform 35 = .ok (.invokevirtual 137, 3) := by decide +kernel
theorem dX5_perform_38 : decode cX5_perform 38 = .ok (.bipush (-4), 2) := by decide +kernel
theorem dX5_perform_40 : decode cX5_perform 40 = .ok (.if_icmp .ne 22, 3) := by decide +kernel
theorem dX5_perform_43 : decode cX5_perform 43 = .ok (.aload_n 0, 1) := by decide +kernel
theorem dX5_perform_44 : decode cX5_perform 44 = .ok (.getfield 13, 3) := by decide +kernel
theorem dX5_perform_47 : decode cX5_perform 47 = .ok (.aload_n 0, 1) := by decide +kernel
theorem dX5_perform_48 : decode cX5_perform 48 = .ok (.getfield 7, 3) := by decide +kernel
theorem dX5_perform_51 : decode cX5_perform 51 = .ok (.invokestatic 32, 3) := by decide +kernel
theorem dX5_perform_54 : decode cX5_perform 54 = .ok (.aload_n 0, 1) := by decide +kernel
theorem dX5_perform_55 : decode cX5_perform 55 = .ok (.iload_n 2, 1) := by decide +kernel
theorem dX5_perform_56 : decode cX5_perform 56 = .ok (.putfield 28, 3) := by decide +kernel
theorem dX5_perform_59 : decode cX5_perform 59 = .ok (.bipush (-4), 2) := by decide +kernel
theorem dX5_perform_61 : decode cX5_perform 61 = .ok (.ireturn, 1) := by decide +kernel
theorem dX5_perform_62 : decode cX5_perform 62 = .ok (.iinc 2 1, 3) := by decide +kernel
theorem dX5_perform_65 : decode cX5_perform 65 = .ok (.aload_n 0, 1) := by decide +kernel
theorem dX5_perform_66 : decode cX5_perform 66 = .ok (.bipush 44, 2) := by decide +kernel
theorem dX5_perform_68 : decode cX5_perform 68 = .ok (.invokevirtual 127, 3) := by decide +kernel
theorem dX5_perform_71 : decode cX5_perform 71 = .ok (.istore_n 3, 1) := by decide +kernel
theorem dX5_perform_72 : decode cX5_perform 72 = .ok (.goto (-43), 3) := by decide +kernel
theorem dX5_perform_75 : decode cX5_perform 75 = .ok (.aload_n 0, 1) := by decide +kernel
theorem dX5_perform_76 : decode cX5_perform 76 = .ok (.iload_n 2, 1) := by decide +kernel
theorem dX5_perform_77 : decode cX5_perform 77 = .ok (.invokevirtual 90, 3) := by decide +kernel
theorem dX5_perform_80 : decode cX5_perform 80 = .ok (.ireturn, 1) := by decide +kernel
theorem dX5_stopped_0 : decode cX5_stopped 0 = .ok (.aload_n 0, 1) := by decide +kernel
theorem dX5_stopped_1 : decode cX5_stopped 1 = .ok (.getfield 28, 3) := by decide +kernel
theorem dX5_stopped_4 : decode cX5_stopped 4 = .ok (.ireturn, 1) := by decide +kernel
theorem dX5_undo_0 : decode cX5_undo 0 = .ok (.aload_n 0, 1) := by decide +kernel
theorem dX5_undo_1 : decode cX5_undo 1 = .ok (.getfield 36, 3) := by decide +kernel
theorem dX5_undo_4 : decode cX5_undo 4 = .ok (.ifCond .ne 6, 3) := by decide +kernel
theorem dX5_undo_7 : decode cX5_undo 7 = .ok (.bipush (-5), 2) := by decide +kernel
theorem dX5_undo_9 : decode cX5_undo 9 = .ok (.ireturn, 1) := by decide +kernel
theorem dX5_undo_10 : decode cX5_undo 10 = .ok (.aload_n 0, 1) := by decide +kernel
theorem dX5_undo_11 : decode cX5_undo 11 = .ok (.dup, 1) := by decide +kernel
theorem dX5_undo_12 : decode cX5_undo 12 = .ok (.getfield 36, 3) := by decide +kernel
theorem dX5_undo_15 : decode cX5_undo 15 = .ok (.iconst 1, 1) := by decide +kernel
theorem dX5_undo_16 : decode cX5_undo 16 = .ok (.isub, 1) := by decide +kernel
theorem dX5_undo_17 : decode cX5_undo 17 = .ok (.putfield 36, 3) := by decide +kernel
theorem dX5_undo_20 : decode cX5_undo 20 = .ok (.iconst 0, 1) := by decide +kernel
theorem dX5_undo_21 : decode cX5_undo 21 = .ok (.istore_n 1, 1) := by decide +kernel
theorem dX5_undo_22 : decode cX5_undo 22 = .ok (.iload_n 1, 1) := by decide +kernel
theorem dX5_undo_23 : decode cX5_undo 23 = .ok (.bipush 37, 2) := by decide +kernel
theorem dX5_undo_25 : decode cX5_undo 25 = .ok (.if_icmp .ge 29, 3) := by decide +kernel
theorem dX5_undo_28 : decode cX5_undo 28 = .ok (.aload_n 0, 1) := by decide +kernel
theorem dX5_undo_29 : decode cX5_undo 29 = .ok (.getfield 7, 3) := by decide +kernel
theorem dX5_undo_32 : decode cX5_undo 32 = .ok (.iload_n 1, 1) := by decide +kernel
theorem dX5_undo_33 : decode cX5_undo 33 = .ok (.aload_n 0, 1) := by decide +kernel
theorem dX5_undo_34 : decode cX5_undo 34 = .ok (.getfield 19, 3) := by decide +kernel
theorem dX5_undo_37 : decode cX5_undo 37 = .ok (.bipush 37, 2) := by decide +kernel
theorem dX5_undo_39 : decode cX5_undo 39 = .ok (.aload_n 0, 1) := by decide +kernel
theorem dX5_undo_40 : decode cX5_undo 40 = .ok (.getfield 36, 3) := by decide +kernel
theorem dX5_undo_43 : decode cX5_undo 43 = .ok (.imul, 1) := by decide +kernel
theorem dX5_undo_44 : decode cX5_undo 44 = .ok (.iload_n 1, 1) := by decide +kernel
theorem dX5_undo_45 : decode cX5_undo 45 = .ok (.iadd, 1) := by decide +kernel
theorem dX5_undo_46 : decode cX5_undo 46 = .ok (.iaload, 1) := by decide +kernel
theorem dX5_undo_47 : decode cX5_undo 47 = .ok (.iastore, 1) := by decide +kernel
theorem dX5_undo_48 : decode cX5_undo 48 = .ok (.iinc 1 1, 3) := by decide +kernel
theorem dX5_undo_51 : decode cX5_undo 51 = .ok (.goto (-29), 3) := by decide +kernel
theorem dX5_undo_54 : decode cX5_undo 54 = .ok (.aload_n 0, 1) := by decide +kernel
theorem dX5_undo_55 : decode cX5_undo 55 = .ok (.getfield 36, 3) := by decide +kernel
theorem dX5_undo_58 : decode cX5_undo 58 = .ok (.ireturn, 1) := by decide +kernel
set_option maxRecDepth 20000 in
theorem ggX5_keep_X5_copy : GoodIn wsX5_keep wsX5_copy := goodIn_r _ [7] (by decide +kernel) (by decide +kernel)
set_option maxRecDepth 20000 in
theorem gX5_keep_X5_copy : GoodIn wsX5_keep (va_wsS RX5 32 yX5_copy wsX5_copy) := goodIn_app (goodIn_of _ (by decide +kernel)) ggX5_keep_X5_copy
set_option maxRecDepth 20000 in
theorem ggX5_keep_X5_wraps : GoodIn wsX5_keep wsX5_wraps := goodIn_r _ [11, 1, 12, 13, 14, 15, 16, 17, 18, 19, 20, 21, 22, 23] (by decide +kernel) (by decide +kernel)
set_option maxRecDepth 20000 in
theorem gX5_keep_X5_wraps : GoodIn wsX5_keep (wsV RX5 112 RX5 yX5_wraps wsX5_wraps) := goodIn_app (goodIn_of _ (by decide +kernel)) ggX5_keep_X5_wraps
theorem dX5_keep_0 : decode cX5_keep 0 = .ok (.aload_n 0, 1) := by decide +kernel
theorem dX5_keep_1 : decode cX5_keep 1 = .ok (.getfield 7, 3) := by decide +kernel
theorem dX5_keep_4 : decode cX5_keep 4 = .ok (.aload_n 0, 1) := by decide +kernel
theorem dX5_keep_5 : decode cX5_keep 5 = .ok (.getfield 22, 3) := by decide +kernel
theorem dX5_keep_8 : decode cX5_keep 8 = .ok (.invokestatic 32, 3) := by decide +kernel
theorem dX5_keep_11 : decode cX5_keep 11 = .ok (.aload_n 0, 1) := by decide +kernel
theorem dX5_keep_12 : decode cX5_keep 12 = .ok (.iconst 1, 1) := by decide +kernel
theorem dX5_keep_13 : decode cX5_keep 13 = .ok (.putfield 144, 3) := by decide +kernel
theorem dX5_keep_16 : decode cX5_keep 16 = .ok (.aload_n 0, 1) := by decide +kernel
theorem dX5_keep_17 : decode cX5_keep 17 = .ok (.invokevirtual 112, 3) := by decide +kernel
theorem dX5_keep_20 : decode cX5_keep 20 = .ok (.ireturn, 1) := by decide +kernel
set_option maxRecDepth 20000 in
theorem ggX5_restore_X5_remember : GoodIn wsX5_restore wsX5_remember := goodIn_r _ [8, 3, 9, 10, 11, 7, 12, 23, 24, 25, 26, 27, 28, 29, 30, 31, 32, 33, 34] (by decide +kernel) (by decide +kernel)
set_option maxRecDepth 20000 in
theorem gX5_restore_X5_remember : GoodIn wsX5_restore (wsV RX5 83 RX5 yX5_remember wsX5_remember) := goodIn_app (goodIn_of _ (by decide +kernel)) ggX5_restore_X5_remember
set_option maxRecDepth 20000 in
theorem ggX5_restore_X5_copy : GoodIn wsX5_restore wsX5_copy := goodIn_r _ [12] (by decide +kernel) (by decide +kernel)
set_option maxRecDepth 20000 in
theorem gX5_restore_X5_copy : GoodIn wsX5_restore (va_wsS RX5 32 yX5_copy wsX5_copy) := goodIn_app (goodIn_of _ (by decide +kernel)) ggX5_restore_X5_copy
set_option maxRecDepth 20000 in
theorem ggX5_restore_X5_wraps : GoodIn wsX5_restore wsX5_wraps := goodIn_r _ [16, 3, 23, 24, 25, 26, 27, 28, 29, 30, 31, 32, 33, 34] (by decide +kernel) (by decide +kernel)
set_option maxRecDepth 20000 in
theorem gX5_restore_X5_wraps : GoodIn wsX5_restore (wsV RX5 112 RX5 yX5_wraps wsX5_wraps) := goodIn_app (goodIn_of _ (by decide +kernel)) ggX5_restore_X5_wraps
set_option maxRecDepth 20000 in
theorem ggX5_restore_X5_acted : GoodIn wsX5_restore wsX5_acted := goodIn_r _ [20, 21, 22, 9, 23, 24, 25, 26, 27, 28, 29, 30, 31, 32, 33, 34] (by decide +kernel) (by decide +kernel)
set_option maxRecDepth 20000 in
theorem gX5_restore_X5_acted : GoodIn wsX5_restore (wsV RX5 90 RX5 yX5_acted wsX5_acted) := goodIn_app (goodIn_of _ (by decide +kernel)) ggX5_restore_X5_acted
theorem dX5_restore_0 : decode cX5_restore 0 = .ok (.aload_n 0, 1) := by decide +kernel
theorem dX5_restore_1 : decode cX5_restore 1 = .ok (.getfield 144, 3) := by decide +kernel
theorem dX5_restore_4 : decode cX5_restore 4 = .ok (.ifCond .ne 6, 3) := by decide +kernel
theorem dX5_restore_7 : decode cX5_restore 7 = .ok (.bipush (-5), 2) := by decide +kernel
theorem dX5_restore_9 : decode cX5_restore 9 = .ok (.ireturn, 1) := by decide +kernel
theorem dX5_restore_10 : decode cX5_restore 10 = .ok (.aload_n 0, 1) := by decide +kernel
theorem dX5_restore_11 : decode cX5_restore 11 = .ok (.invokevirtual 83, 3) := by decide +kernel
theorem dX5_restore_14 : decode cX5_restore 14 = .ok (.aload_n 0, 1) := by decide +kernel
theorem dX5_restore_15 : decode cX5_restore 15 = .ok (.getfield 22, 3) := by decide +kernel
theorem dX5_restore_18 : decode cX5_restore 18 = .ok (.aload_n 0, 1) := by decide +kernel
theorem dX5_restore_19 : decode cX5_restore 19 = .ok (.getfield 7, 3) := by decide +kernel
theorem dX5_restore_22 : decode cX5_restore 22 = .ok (.invokestatic 32, 3) := by decide +kernel
theorem dX5_restore_25 : decode cX5_restore 25 = .ok (.aload_n 0, 1) := by decide +kernel
theorem dX5_restore_26 : decode cX5_restore 26 = .ok (.aload_n 0, 1) := by decide +kernel
theorem dX5_restore_27 : decode cX5_restore 27 = .ok (.invokevirtual 112, 3) := by decide +kernel
theorem dX5_restore_30 : decode cX5_restore 30 = .ok (.invokevirtual 90, 3) := by decide +kernel
theorem dX5_restore_33 : decode cX5_restore 33 = .ok (.ireturn, 1) := by decide +kernel
set_option maxRecDepth 20000 in
theorem ggX5_isAbove_X5_in : GoodIn wsX5_isAbove wsX5_in := goodIn_r _ [6] (by decide +kernel) (by decide +kernel)
set_option maxRecDepth 20000 in
theorem gX5_isAbove_X5_in : GoodIn wsX5_isAbove (va_wsS RX5 63 yX5_in wsX5_in) := goodIn_app (goodIn_of _ (by decide +kernel)) ggX5_isAbove_X5_in
theorem dX5_isAbove_0 : decode cX5_isAbove 0 = .ok (.iload_n 2, 1) := by decide +kernel
theorem dX5_isAbove_1 : decode cX5_isAbove 1 = .ok (.i2l, 1) := by decide +kernel
theorem dX5_isAbove_2 : decode cX5_isAbove 2 = .ok (.lconst 0, 1) := by decide +kernel
theorem dX5_isAbove_3 : decode cX5_isAbove 3 = .ok (.ldc2_w 61, 3) := by decide +kernel
theorem dX5_isAbove_6 : decode cX5_isAbove 6 = .ok (.invokestatic 63, 3) := by decide +kernel
theorem dX5_isAbove_9 : decode cX5_isAbove 9 = .ok (.ifCond .eq 25, 3) := by decide +kernel
theorem dX5_isAbove_12 : decode cX5_isAbove 12 = .ok (.aload_n 0, 1) := by decide +kernel
theorem dX5_isAbove_13 : decode cX5_isAbove 13 = .ok (.getfield 7, 3) := by decide +kernel
theorem dX5_isAbove_16 : decode cX5_isAbove 16 = .ok (.iconst 0, 1) := by decide +kernel
theorem dX5_isAbove_17 : decode cX5_isAbove 17 = .ok (.iload_n 1, 1) := by decide +kernel
theorem dX5_isAbove_18 : decode cX5_isAbove 18 = .ok (.iadd, 1) := by decide +kernel
theorem dX5_isAbove_19 : decode cX5_isAbove 19 = .ok (.iaload, 1) := by decide +kernel
theorem dX5_isAbove_20 : decode cX5_isAbove 20 = .ok (.aload_n 0, 1) := by decide +kernel
theorem dX5_isAbove_21 : decode cX5_isAbove 21 = .ok (.getfield 7, 3) := by decide +kernel
theorem dX5_isAbove_24 : decode cX5_isAbove 24 = .ok (.iconst 0, 1) := by decide +kernel
theorem dX5_isAbove_25 : decode cX5_isAbove 25 = .ok (.iload_n 2, 1) := by decide +kernel
theorem dX5_isAbove_26 : decode cX5_isAbove 26 = .ok (.iadd, 1) := by decide +kernel
theorem dX5_isAbove_27 : decode cX5_isAbove 27 = .ok (.iaload, 1) := by decide +kernel
theorem dX5_isAbove_28 : decode cX5_isAbove 28 = .ok (.isub, 1) := by decide +kernel
theorem dX5_isAbove_29 : decode cX5_isAbove 29 = .ok (.bipush 6, 2) := by decide +kernel
theorem dX5_isAbove_31 : decode cX5_isAbove 31 = .ok (.if_icmp .lt 7, 3) := by decide +kernel
theorem dX5_isAbove_34 : decode cX5_isAbove 34 = .ok (.iconst 1, 1) := by decide +kernel
theorem dX5_isAbove_35 : decode cX5_isAbove 35 = .ok (.goto 4, 3) := by decide +kernel
theorem dX5_isAbove_38 : decode cX5_isAbove 38 = .ok (.iconst 0, 1) := by decide +kernel
theorem dX5_isAbove_39 : decode cX5_isAbove 39 = .ok (.ireturn, 1) := by decide +kernel
set_option maxRecDepth 20000 in
theorem ggX5_isRibbon_X5_isAbove : GoodIn wsX5_isRibbon wsX5_isAbove := goodIn_r _ [5, 6, 7, 8, 9, 4, 10, 11, 12, 13, 14, 15, 16, 17, 18, 19, 20, 21, 22] (by decide +kernel) (by decide +kernel)
set_option maxRecDepth 20000 in
theorem gX5_isRibbon_X5_isAbove : GoodIn wsX5_isRibbon (wsV RX5 147 RX5 yX5_isAbove wsX5_isAbove) := goodIn_app (goodIn_of _ (by decide +kernel)) ggX5_isRibbon_X5_isAbove
theorem dX5_isRibbon_0 : decode cX5_isRibbon 0 = .ok (.aload_n 0, 1) := by decide +kernel
theorem dX5_isRibbon_1 : decode cX5_isRibbon 1 = .ok (.iload_n 1, 1) := by decide +kernel
theorem dX5_isRibbon_2 : decode cX5_isRibbon 2 = .ok (.iload_n 1, 1) := by decide +kernel
theorem dX5_isRibbon_3 : decode cX5_isRibbon 3 = .ok (.iconst 1, 1) := by decide +kernel
theorem dX5_isRibbon_4 : decode cX5_isRibbon 4 = .ok (.isub, 1) := by decide +kernel
theorem dX5_isRibbon_5 : decode cX5_isRibbon 5 = .ok (.invokevirtual 147, 3) := by decide +kernel
theorem dX5_isRibbon_8 : decode cX5_isRibbon 8 = .ok (.ifCond .eq 18, 3) := by decide +kernel
theorem dX5_isRibbon_11 : decode cX5_isRibbon 11 = .ok (.aload_n 0, 1) := by decide +kernel
theorem dX5_isRibbon_12 : decode cX5_isRibbon 12 = .ok (.iload_n 1, 1) := by decide +kernel
theorem dX5_isRibbon_13 : decode cX5_isRibbon 13 = .ok (.iload_n 1, 1) := by decide +kernel
theorem dX5_isRibbon_14 : decode cX5_isRibbon 14 = .ok (.iconst 1, 1) := by decide +kernel
theorem dX5_isRibbon_15 : decode cX5_isRibbon 15 = .ok (.iadd, 1) := by decide +kernel
theorem dX5_isRibbon_16 : decode cX5_isRibbon 16 = .ok (.invokevirtual 147, 3) := by decide +kernel
theorem dX5_isRibbon_19 : decode cX5_isRibbon 19 = .ok (.ifCond .eq 7, 3) := by decide +kernel
theorem dX5_isRibbon_22 : decode cX5_isRibbon 22 = .ok (.iconst 1, 1) := by decide +kernel
theorem dX5_isRibbon_23 : decode cX5_isRibbon 23 = .ok (.goto 4, 3) := by decide +kernel
theorem dX5_isRibbon_26 : decode cX5_isRibbon 26 = .ok (.iconst 0, 1) := by decide +kernel
theorem dX5_isRibbon_27 : decode cX5_isRibbon 27 = .ok (.ireturn, 1) := by decide +kernel
theorem dX5_isBad_0 : decode cX5_isBad 0 = .ok (.aload_n 0, 1) := by decide +kernel
theorem dX5_isBad_1 : decode cX5_isBad 1 = .ok (.getfield 7, 3) := by decide +kernel
theorem dX5_isBad_4 : decode cX5_isBad 4 = .ok (.bipush 12, 2) := by decide +kernel
theorem dX5_isBad_6 : decode cX5_isBad 6 = .ok (.iload_n 1, 1) := by decide +kernel
theorem dX5_isBad_7 : decode cX5_isBad 7 = .ok (.iadd, 1) := by decide +kernel
theorem dX5_isBad_8 : decode cX5_isBad 8 = .ok (.iaload, 1) := by decide +kernel
theorem dX5_isBad_9 : decode cX5_isBad 9 = .ok (.iconst 2, 1) := by decide +kernel
theorem dX5_isBad_10 : decode cX5_isBad 10 = .ok (.if_icmp .le 7, 3) := by decide +kernel
theorem dX5_isBad_13 : decode cX5_isBad 13 = .ok (.iconst 1, 1) := by decide +kernel
theorem dX5_isBad_14 : decode cX5_isBad 14 = .ok (.goto 4, 3) := by decide +kernel
theorem dX5_isBad_17 : decode cX5_isBad 17 = .ok (.iconst 0, 1) := by decide +kernel
theorem dX5_isBad_18 : decode cX5_isBad 18 = .ok (.ireturn, 1) := by decide +kernel
set_option maxRecDepth 20000 in
theorem ggX5_place__X5_in : GoodIn wsX5_place_ wsX5_in := goodIn_r _ [6] (by decide +kernel) (by decide +kernel)
set_option maxRecDepth 20000 in
theorem gX5_place__X5_in : GoodIn wsX5_place_ (va_wsS RX5 63 yX5_in wsX5_in) := goodIn_app (goodIn_of _ (by decide +kernel)) ggX5_place__X5_in
set_option maxRecDepth 20000 in
theorem ggX5_place__X5_isRibbon : GoodIn wsX5_place_ wsX5_isRibbon := goodIn_r _ [10, 11, 12, 13, 5, 14, 1, 2, 3, 4, 6, 19, 20, 21, 22, 23, 24, 25, 26, 27, 28, 29, 30] (by decide +kernel) (by decide +kernel)
set_option maxRecDepth 20000 in
theorem gX5_place__X5_isRibbon : GoodIn wsX5_place_ (wsV RX5 150 RX5 yX5_isRibbon wsX5_isRibbon) := goodIn_app (goodIn_of _ (by decide +kernel)) ggX5_place__X5_isRibbon
set_option maxRecDepth 20000 in
theorem ggX5_place__X5_isBad : GoodIn wsX5_place_ wsX5_isBad := goodIn_r _ [18, 2, 19, 20, 21, 22, 23, 24, 25, 26, 27, 28, 29, 30] (by decide +kernel) (by decide +kernel)
set_option maxRecDepth 20000 in
theorem gX5_place__X5_isBad : GoodIn wsX5_place_ (wsV RX5 153 RX5 yX5_isBad wsX5_isBad) := goodIn_app (goodIn_of _ (by decide +kernel)) ggX5_place__X5_isBad
theorem dX5_place__0 : decode cX5_place_ 0 = .ok (.iload_n 1, 1) := by decide +kernel
theorem dX5_place__1 : decode cX5_place_ 1 = .ok (.i2l, 1) := by decide +kernel
theorem dX5_place__2 : decode cX5_place_ 2 = .ok (.lconst 0, 1) := by decide +kernel
theorem dX5_place__3 : decode cX5_place_ 3 = .ok (.ldc2_w 61, 3) := by decide +kernel
theorem dX5_place__6 : decode cX5_place_ 6 = .ok (.invokestatic 63, 3) := by decide +kernel
theorem dX5_place__9 : decode cX5_place_ 9 = .ok (.ifCond .ne 5, 3) := by decide +kernel
theorem dX5_place__12 : decode cX5_place_ 12 = .ok (.iconst (-1), 1) := by decide +kernel
theorem dX5_place__13 : decode cX5_place_ 13 = .ok (.ireturn, 1) := by decide +kernel
theorem dX5_place__14 : decode cX5_place_ 14 = .ok (.iload_n 2, 1) := by decide +kernel
theorem dX5_place__15 : decode cX5_place_ 15 = .ok (.tableswitch 76 0 3 #[29, 38, 48, 62], 29) := by decide +kernel
theorem dX5_place__44 : decode cX5_place_ 44 = .ok (.aload_n 0, 1) := by decide +kernel
theorem dX5_place__45 : decode cX5_place_ 45 = .ok (.getfield 7, 3) := by decide +kernel
theorem dX5_place__48 : decode cX5_place_ 48 = .ok (.iconst 0, 1) := by decide +kernel
theorem dX5_place__49 : decode cX5_place_ 49 = .ok (.iload_n 1, 1) := by decide +kernel
theorem dX5_place__50 : decode cX5_place_ 50 = .ok (.iadd, 1) := by decide +kernel
theorem dX5_place__51 : decode cX5_place_ 51 = .ok (.iaload, 1) := by decide +kernel
theorem dX5_place__52 : decode cX5_place_ 52 = .ok (.ireturn, 1) := by decide +kernel
theorem dX5_place__53 : decode cX5_place_ 53 = .ok (.aload_n 0, 1) := by decide +kernel
theorem dX5_place__54 : decode cX5_place_ 54 = .ok (.getfield 7, 3) := by decide +kernel
theorem dX5_place__57 : decode cX5_place_ 57 = .ok (.bipush 12, 2) := by decide +kernel
theorem dX5_place__59 : decode cX5_place_ 59 = .ok (.iload_n 1, 1) := by decide +kernel
theorem dX5_place__60 : decode cX5_place_ 60 = .ok (.iadd, 1) := by decide +kernel
theorem dX5_place__61 : decode cX5_place_ 61 = .ok (.iaload, 1) := by decide +kernel
theorem dX5_place__62 : decode cX5_place_ 62 = .ok (.ireturn, 1) := by decide +kernel
theorem dX5_place__63 : decode cX5_place_ 63 = .ok (.aload_n 0, 1) := by decide +kernel
theorem dX5_place__64 : decode cX5_place_ 64 = .ok (.iload_n 1, 1) := by decide +kernel
theorem dX5_place__65 : decode cX5_place_ 65 = .ok (.invokevirtual 150, 3) := by decide +kernel
theorem dX5_place__68 : decode cX5_place_ 68 = .ok (.ifCond .eq 7, 3) := by decide +kernel
theorem dX5_place__71 : decode cX5_place_ 71 = .ok (.iconst 1, 1) := by decide +kernel
theorem dX5_place__72 : decode cX5_place_ 72 = .ok (.goto 4, 3) := by decide +kernel
theorem dX5_place__75 : decode cX5_place_ 75 = .ok (.iconst 0, 1) := by decide +kernel
theorem dX5_place__76 : decode cX5_place_ 76 = .ok (.ireturn, 1) := by decide +kernel
theorem dX5_place__77 : decode cX5_place_ 77 = .ok (.aload_n 0, 1) := by decide +kernel
theorem dX5_place__78 : decode cX5_place_ 78 = .ok (.iload_n 1, 1) := by decide +kernel
theorem dX5_place__79 : decode cX5_place_ 79 = .ok (.invokevirtual 153, 3) := by decide +kernel
theorem dX5_place__82 : decode cX5_place_ 82 = .ok (.ifCond .eq 7, 3) := by decide +kernel
theorem dX5_place__85 : decode cX5_place_ 85 = .ok (.iconst 1, 1) := by decide +kernel
theorem dX5_place__86 : decode cX5_place_ 86 = .ok (.goto 4, 3) := by decide +kernel
theorem dX5_place__89 : decode cX5_place_ 89 = .ok (.iconst 0, 1) := by decide +kernel
theorem dX5_place__90 : decode cX5_place_ 90 = .ok (.ireturn, 1) := by decide +kernel
theorem dX5_place__91 : decode cX5_place_ 91 = .ok (.bipush (-2), 2) := by decide +kernel
theorem dX5_place__93 : decode cX5_place_ 93 = .ok (.ireturn, 1) := by decide +kernel
set_option maxRecDepth 20000 in
theorem ggX5_ribbons_X5_isRibbon : GoodIn wsX5_ribbons wsX5_isRibbon := goodIn_r _ [5, 6, 7, 8, 4, 9, 10, 11, 12, 13, 14, 15, 16, 17, 18, 19, 20, 21, 22, 23, 24, 25, 26] (by decide +kernel) (by decide +kernel)
set_option maxRecDepth 20000 in
theorem gX5_ribbons_X5_isRibbon : GoodIn wsX5_ribbons (wsV RX5 150 RX5 yX5_isRibbon wsX5_isRibbon) := goodIn_app (goodIn_of _ (by decide +kernel)) ggX5_ribbons_X5_isRibbon
theorem dX5_ribbons_0 : decode cX5_ribbons 0 = .ok (.iconst 0, 1) := by decide +kernel
theorem dX5_ribbons_1 : decode cX5_ribbons 1 = .ok (.istore_n 1, 1) := by decide +kernel
theorem dX5_ribbons_2 : decode cX5_ribbons 2 = .ok (.iconst 0, 1) := by decide +kernel
theorem dX5_ribbons_3 : decode cX5_ribbons 3 = .ok (.istore_n 2, 1) := by decide +kernel
theorem dX5_ribbons_4 : decode cX5_ribbons 4 = .ok (.iload_n 2, 1) := by decide +kernel
theorem dX5_ribbons_5 : decode cX5_ribbons 5 = .ok (.bipush 12, 2) := by decide +kernel
theorem dX5_ribbons_7 : decode cX5_ribbons 7 = .ok (.if_icmp .ge 25, 3) := by decide +kernel
theorem dX5_ribbons_10 : decode cX5_ribbons 10 = .ok (.iload_n 1, 1) := by decide +kernel
theorem dX5_ribbons_11 : decode cX5_ribbons 11 = .ok (.aload_n 0, 1) := by decide +kernel
end
section
theorem dX5_ribbons_12 : decode cX5_ribbons 12 = .ok (.iload_n 2, 1) := by decide +kernel
theorem dX5_ribbons_13 : decode cX5_ribbons 13 = .ok (.invokevirtual 150, 3) := by decide +kernel
theorem dX5_ribbons_16 : decode cX5_ribbons 16 = .ok (.ifCond .eq 7, 3) := by decide +kernel
theorem dX5_ribbons_19 : decode cX5_ribbons 19 = .ok (.iconst 1, 1) := by decide +kernel
theorem dX5_ribbons_20 : decode cX5_ribbons 20 = .ok (.goto 4, 3) := by decide +kernel
theorem dX5_ribbons_23 : decode cX5_ribbons 23 = .ok (.iconst 0, 1) := by decide +kernel
theorem dX5_ribbons_24 : decode cX5_ribbons 24 = .ok (.iadd, 1) := by decide +kernel
theorem dX5_ribbons_25 : decode cX5_ribbons 25 = .ok (.istore_n 1, 1) := by decide +kernel
theorem dX5_ribbons_26 : decode cX5_ribbons 26 = .ok (.iinc 2 1, 3) := by decide +kernel
theorem dX5_ribbons_29 : decode cX5_ribbons 29 = .ok (.goto (-25), 3) := by decide +kernel
theorem dX5_ribbons_32 : decode cX5_ribbons 32 = .ok (.iload_n 1, 1) := by decide +kernel
theorem dX5_ribbons_33 : decode cX5_ribbons 33 = .ok (.ireturn, 1) := by decide +kernel
set_option maxRecDepth 20000 in
theorem ggX5_isAnyBad_X5_isBad : GoodIn wsX5_isAnyBad wsX5_isBad := goodIn_r _ [5, 6, 7, 8, 9, 10, 11, 12, 13, 14, 15, 16, 17, 18] (by decide +kernel) (by decide +kernel)
set_option maxRecDepth 20000 in
theorem gX5_isAnyBad_X5_isBad : GoodIn wsX5_isAnyBad (wsV RX5 153 RX5 yX5_isBad wsX5_isBad) := goodIn_app (goodIn_of _ (by decide +kernel)) ggX5_isAnyBad_X5_isBad
theorem dX5_isAnyBad_0 : decode cX5_isAnyBad 0 = .ok (.iconst 0, 1) := by decide +kernel
theorem dX5_isAnyBad_1 : decode cX5_isAnyBad 1 = .ok (.istore_n 1, 1) := by decide +kernel
theorem dX5_isAnyBad_2 : decode cX5_isAnyBad 2 = .ok (.iconst 0, 1) := by decide +kernel
theorem dX5_isAnyBad_3 : decode cX5_isAnyBad 3 = .ok (.istore_n 2, 1) := by decide +kernel
theorem dX5_isAnyBad_4 : decode cX5_isAnyBad 4 = .ok (.iload_n 2, 1) := by decide +kernel
theorem dX5_isAnyBad_5 : decode cX5_isAnyBad 5 = .ok (.bipush 12, 2) := by decide +kernel
theorem dX5_isAnyBad_7 : decode cX5_isAnyBad 7 = .ok (.if_icmp .ge 27, 3) := by decide +kernel
theorem dX5_isAnyBad_10 : decode cX5_isAnyBad 10 = .ok (.iload_n 1, 1) := by decide +kernel
theorem dX5_isAnyBad_11 : decode cX5_isAnyBad 11 = .ok (.ifCond .ne 11, 3) := by decide +kernel
theorem dX5_isAnyBad_14 : decode cX5_isAnyBad 14 = .ok (.aload_n 0, 1) := by decide +kernel
theorem dX5_isAnyBad_15 : decode cX5_isAnyBad 15 = .ok (.iload_n 2, 1) := by decide +kernel
theorem dX5_isAnyBad_16 : decode cX5_isAnyBad 16 = .ok (.invokevirtual 153, 3) := by decide +kernel
theorem dX5_isAnyBad_19 : decode cX5_isAnyBad 19 = .ok (.ifCond .eq 7, 3) := by decide +kernel
theorem dX5_isAnyBad_22 : decode cX5_isAnyBad 22 = .ok (.iconst 1, 1) := by decide +kernel
theorem dX5_isAnyBad_23 : decode cX5_isAnyBad 23 = .ok (.goto 4, 3) := by decide +kernel
theorem dX5_isAnyBad_26 : decode cX5_isAnyBad 26 = .ok (.iconst 0, 1) := by decide +kernel
theorem dX5_isAnyBad_27 : decode cX5_isAnyBad 27 = .ok (.istore_n 1, 1) := by decide +kernel
theorem dX5_isAnyBad_28 : decode cX5_isAnyBad 28 = .ok (.iinc 2 1, 3) := by decide +kernel
theorem dX5_isAnyBad_31 : decode cX5_isAnyBad 31 = .ok (.goto (-27), 3) := by decide +kernel
theorem dX5_isAnyBad_34 : decode cX5_isAnyBad 34 = .ok (.iload_n 1, 1) := by decide +kernel
theorem dX5_isAnyBad_35 : decode cX5_isAnyBad 35 = .ok (.ireturn, 1) := by decide +kernel
set_option maxRecDepth 20000 in
theorem ggX5_wrong_X5_isAnyBad : GoodIn wsX5_wrong wsX5_isAnyBad := goodIn_r _ [6, 7, 8, 9, 5, 10, 1, 35, 36, 37, 38, 39, 40, 41, 42, 43, 44, 45, 46] (by decide +kernel) (by decide +kernel)
set_option maxRecDepth 20000 in
theorem gX5_wrong_X5_isAnyBad : GoodIn wsX5_wrong (wsV RX5 156 RX5 yX5_isAnyBad wsX5_isAnyBad) := goodIn_app (goodIn_of _ (by decide +kernel)) ggX5_wrong_X5_isAnyBad
set_option maxRecDepth 20000 in
theorem ggX5_wrong_X5_ribbons : GoodIn wsX5_wrong wsX5_ribbons := goodIn_r _ [14, 15, 16, 17, 5, 18, 19, 20, 21, 22, 23, 1, 24, 25, 26, 35, 36, 37, 38, 39, 40, 41, 42, 43, 44, 45, 46] (by decide +kernel) (by decide +kernel)
set_option maxRecDepth 20000 in
theorem gX5_wrong_X5_ribbons : GoodIn wsX5_wrong (wsV RX5 159 RX5 yX5_ribbons wsX5_ribbons) := goodIn_app (goodIn_of _ (by decide +kernel)) ggX5_wrong_X5_ribbons
set_option maxRecDepth 20000 in
theorem ggX5_wrong_X5_evenness : GoodIn wsX5_wrong wsX5_evenness := goodIn_r _ [30, 1, 31, 32, 33, 5, 34, 35, 36, 37, 38, 39, 40, 41, 42, 43, 44, 45, 46] (by decide +kernel) (by decide +kernel)
set_option maxRecDepth 20000 in
theorem gX5_wrong_X5_evenness : GoodIn wsX5_wrong (wsV RX5 162 RX5 yX5_evenness wsX5_evenness) := goodIn_app (goodIn_of _ (by decide +kernel)) ggX5_wrong_X5_evenness
theorem dX5_wrong_0 : decode cX5_wrong 0 = .ok (.aload_n 0, 1) := by decide +kernel
theorem dX5_wrong_1 : decode cX5_wrong 1 = .ok (.getfield 7, 3) := by decide +kernel
theorem dX5_wrong_4 : decode cX5_wrong 4 = .ok (.bipush 33, 2) := by decide +kernel
theorem dX5_wrong_6 : decode cX5_wrong 6 = .ok (.iaload, 1) := by decide +kernel
theorem dX5_wrong_7 : decode cX5_wrong 7 = .ok (.iconst 1, 1) := by decide +kernel
theorem dX5_wrong_8 : decode cX5_wrong 8 = .ok (.if_icmp .ne 7, 3) := by decide +kernel
theorem dX5_wrong_11 : decode cX5_wrong 11 = .ok (.iconst 1, 1) := by decide +kernel
theorem dX5_wrong_12 : decode cX5_wrong 12 = .ok (.goto 53, 3) := by decide +kernel
theorem dX5_wrong_15 : decode cX5_wrong 15 = .ok (.aload_n 0, 1) := by decide +kernel
theorem dX5_wrong_16 : decode cX5_wrong 16 = .ok (.getfield 7, 3) := by decide +kernel
theorem dX5_wrong_19 : decode cX5_wrong 19 = .ok (.bipush 30, 2) := by decide +kernel
theorem dX5_wrong_21 : decode cX5_wrong 21 = .ok (.iaload, 1) := by decide +kernel
theorem dX5_wrong_22 : decode cX5_wrong 22 = .ok (.ifCond .ne 7, 3) := by decide +kernel
theorem dX5_wrong_25 : decode cX5_wrong 25 = .ok (.iconst 2, 1) := by decide +kernel
theorem dX5_wrong_26 : decode cX5_wrong 26 = .ok (.goto 39, 3) := by decide +kernel
theorem dX5_wrong_29 : decode cX5_wrong 29 = .ok (.aload_n 0, 1) := by decide +kernel
theorem dX5_wrong_30 : decode cX5_wrong 30 = .ok (.invokevirtual 156, 3) := by decide +kernel
theorem dX5_wrong_33 : decode cX5_wrong 33 = .ok (.ifCond .eq 7, 3) := by decide +kernel
theorem dX5_wrong_36 : decode cX5_wrong 36 = .ok (.iconst 3, 1) := by decide +kernel
theorem dX5_wrong_37 : decode cX5_wrong 37 = .ok (.goto 28, 3) := by decide +kernel
theorem dX5_wrong_40 : decode cX5_wrong 40 = .ok (.aload_n 0, 1) := by decide +kernel
theorem dX5_wrong_41 : decode cX5_wrong 41 = .ok (.invokevirtual 159, 3) := by decide +kernel
theorem dX5_wrong_44 : decode cX5_wrong 44 = .ok (.ifCond .le 7, 3) := by decide +kernel
theorem dX5_wrong_47 : decode cX5_wrong 47 = .ok (.iconst 4, 1) := by decide +kernel
theorem dX5_wrong_48 : decode cX5_wrong 48 = .ok (.goto 17, 3) := by decide +kernel
theorem dX5_wrong_51 : decode cX5_wrong 51 = .ok (.aload_n 0, 1) := by decide +kernel
theorem dX5_wrong_52 : decode cX5_wrong 52 = .ok (.invokevirtual 162, 3) := by decide +kernel
theorem dX5_wrong_55 : decode cX5_wrong 55 = .ok (.bipush 10, 2) := by decide +kernel
theorem dX5_wrong_57 : decode cX5_wrong 57 = .ok (.if_icmp .lt 7, 3) := by decide +kernel
theorem dX5_wrong_60 : decode cX5_wrong 60 = .ok (.iconst 5, 1) := by decide +kernel
theorem dX5_wrong_61 : decode cX5_wrong 61 = .ok (.goto 4, 3) := by decide +kernel
theorem dX5_wrong_64 : decode cX5_wrong 64 = .ok (.iconst 0, 1) := by decide +kernel
theorem dX5_wrong_65 : decode cX5_wrong 65 = .ok (.ireturn, 1) := by decide +kernel
set_option maxRecDepth 20000 in
theorem ggX5_breaksIn_X5_copy : GoodIn wsX5_breaksIn wsX5_copy := goodIn_r _ [6] (by decide +kernel) (by decide +kernel)
set_option maxRecDepth 20000 in
theorem gX5_breaksIn_X5_copy : GoodIn wsX5_breaksIn (va_wsS RX5 32 yX5_copy wsX5_copy) := goodIn_app (goodIn_of _ (by decide +kernel)) ggX5_breaksIn_X5_copy
set_option maxRecDepth 20000 in
theorem ggX5_breaksIn_X5_isIdle : GoodIn wsX5_breaksIn wsX5_isIdle := goodIn_r _ [10, 1, 11, 12, 13, 5, 14, 15, 16, 17, 18, 38, 39, 40, 41, 42, 43, 44, 45, 46, 47, 48, 49] (by decide +kernel) (by decide +kernel)
set_option maxRecDepth 20000 in
theorem gX5_breaksIn_X5_isIdle : GoodIn wsX5_breaksIn (wsV RX5 93 RX5 yX5_isIdle wsX5_isIdle) := goodIn_app (goodIn_of _ (by decide +kernel)) ggX5_breaksIn_X5_isIdle
set_option maxRecDepth 20000 in
theorem ggX5_breaksIn_X5_turns : GoodIn wsX5_breaksIn wsX5_turns := goodIn_r _ [22, 1, 23, 24, 25, 5, 26, 27, 28, 29, 30, 31, 32, 33, 34, 35, 36, 37, 38, 39, 40, 41, 42, 43, 44, 45, 46, 47, 48, 49] (by decide +kernel) (by decide +kernel)
set_option maxRecDepth 20000 in
theorem gX5_breaksIn_X5_turns : GoodIn wsX5_breaksIn (wsV RX5 96 RX5 yX5_turns wsX5_turns) := goodIn_app (goodIn_of _ (by decide +kernel)) ggX5_breaksIn_X5_turns
theorem dX5_breaksIn_0 : decode cX5_breaksIn 0 = .ok (.aload_n 0, 1) := by decide +kernel
theorem dX5_breaksIn_1 : decode cX5_breaksIn 1 = .ok (.getfield 7, 3) := by decide +kernel
theorem dX5_breaksIn_4 : decode cX5_breaksIn 4 = .ok (.bipush 33, 2) := by decide +kernel
theorem dX5_breaksIn_6 : decode cX5_breaksIn 6 = .ok (.iaload, 1) := by decide +kernel
theorem dX5_breaksIn_7 : decode cX5_breaksIn 7 = .ok (.iconst 1, 1) := by decide +kernel
theorem dX5_breaksIn_8 : decode cX5_breaksIn 8 = .ok (.if_icmp .eq 13, 3) := by decide +kernel
theorem dX5_breaksIn_11 : decode cX5_breaksIn 11 = .ok (.aload_n 0, 1) := by decide +kernel
theorem dX5_breaksIn_12 : decode cX5_breaksIn 12 = .ok (.getfield 7, 3) := by decide +kernel
theorem dX5_breaksIn_15 : decode cX5_breaksIn 15 = .ok (.bipush 30, 2) := by decide +kernel
theorem dX5_breaksIn_17 : decode cX5_breaksIn 17 = .ok (.iaload, 1) := by decide +kernel
theorem dX5_breaksIn_18 : decode cX5_breaksIn 18 = .ok (.ifCond .ne 6, 3) := by decide +kernel
theorem dX5_breaksIn_21 : decode cX5_breaksIn 21 = .ok (.bipush (-4), 2) := by decide +kernel
theorem dX5_breaksIn_23 : decode cX5_breaksIn 23 = .ok (.ireturn, 1) := by decide +kernel
theorem dX5_breaksIn_24 : decode cX5_breaksIn 24 = .ok (.aload_n 0, 1) := by decide +kernel
theorem dX5_breaksIn_25 : decode cX5_breaksIn 25 = .ok (.getfield 7, 3) := by decide +kernel
theorem dX5_breaksIn_28 : decode cX5_breaksIn 28 = .ok (.aload_n 0, 1) := by decide +kernel
theorem dX5_breaksIn_29 : decode cX5_breaksIn 29 = .ok (.getfield 16, 3) := by decide +kernel
theorem dX5_breaksIn_32 : decode cX5_breaksIn 32 = .ok (.invokestatic 32, 3) := by decide +kernel
theorem dX5_breaksIn_35 : decode cX5_breaksIn 35 = .ok (.iconst 0, 1) := by decide +kernel
theorem dX5_breaksIn_36 : decode cX5_breaksIn 36 = .ok (.istore_n 1, 1) := by decide +kernel
theorem dX5_breaksIn_37 : decode cX5_breaksIn 37 = .ok (.iload_n 1, 1) := by decide +kernel
theorem dX5_breaksIn_38 : decode cX5_breaksIn 38 = .ok (.sipush 1000, 3) := by decide +kernel
theorem dX5_breaksIn_41 : decode cX5_breaksIn 41 = .ok (.if_icmp .ge 21, 3) := by decide +kernel
theorem dX5_breaksIn_44 : decode cX5_breaksIn 44 = .ok (.aload_n 0, 1) := by decide +kernel
theorem dX5_breaksIn_45 : decode cX5_breaksIn 45 = .ok (.invokevirtual 93, 3) := by decide +kernel
theorem dX5_breaksIn_48 : decode cX5_breaksIn 48 = .ok (.ifCond .ne 14, 3) := by decide +kernel
theorem dX5_breaksIn_51 : decode cX5_breaksIn 51 = .ok (.aload_n 0, 1) := by decide +kernel
theorem dX5_breaksIn_52 : decode cX5_breaksIn 52 = .ok (.invokevirtual 96, 3) := by decide +kernel
theorem dX5_breaksIn_55 : decode cX5_breaksIn 55 = .ok (.istore_n 2, 1) := by decide +kernel
theorem dX5_breaksIn_56 : decode cX5_breaksIn 56 = .ok (.iinc 1 1, 3) := by decide +kernel
theorem dX5_breaksIn_59 : decode cX5_breaksIn 59 = .ok (.goto (-22), 3) := by decide +kernel
theorem dX5_breaksIn_62 : decode cX5_breaksIn 62 = .ok (.aload_n 0, 1) := by decide +kernel
theorem dX5_breaksIn_63 : decode cX5_breaksIn 63 = .ok (.getfield 7, 3) := by decide +kernel
theorem dX5_breaksIn_66 : decode cX5_breaksIn 66 = .ok (.bipush 33, 2) := by decide +kernel
theorem dX5_breaksIn_68 : decode cX5_breaksIn 68 = .ok (.iaload, 1) := by decide +kernel
theorem dX5_breaksIn_69 : decode cX5_breaksIn 69 = .ok (.iconst 1, 1) := by decide +kernel
theorem dX5_breaksIn_70 : decode cX5_breaksIn 70 = .ok (.if_icmp .ne 7, 3) := by decide +kernel
theorem dX5_breaksIn_73 : decode cX5_breaksIn 73 = .ok (.iload_n 1, 1) := by decide +kernel
theorem dX5_breaksIn_74 : decode cX5_breaksIn 74 = .ok (.goto 5, 3) := by decide +kernel
theorem dX5_breaksIn_77 : decode cX5_breaksIn 77 = .ok (.bipush (-5), 2) := by decide +kernel
theorem dX5_breaksIn_79 : decode cX5_breaksIn 79 = .ok (.istore_n 2, 1) := by decide +kernel
theorem dX5_breaksIn_80 : decode cX5_breaksIn 80 = .ok (.aload_n 0, 1) := by decide +kernel
theorem dX5_breaksIn_81 : decode cX5_breaksIn 81 = .ok (.getfield 16, 3) := by decide +kernel
theorem dX5_breaksIn_84 : decode cX5_breaksIn 84 = .ok (.aload_n 0, 1) := by decide +kernel
theorem dX5_breaksIn_85 : decode cX5_breaksIn 85 = .ok (.getfield 7, 3) := by decide +kernel
theorem dX5_breaksIn_88 : decode cX5_breaksIn 88 = .ok (.invokestatic 32, 3) := by decide +kernel
theorem dX5_breaksIn_91 : decode cX5_breaksIn 91 = .ok (.iload_n 2, 1) := by decide +kernel
theorem dX5_breaksIn_92 : decode cX5_breaksIn 92 = .ok (.ireturn, 1) := by decide +kernel
set_option maxRecDepth 20000 in
theorem ggX5_windsWith_X5_copy : GoodIn wsX5_windsWith wsX5_copy := goodIn_r _ [6] (by decide +kernel) (by decide +kernel)
set_option maxRecDepth 20000 in
theorem gX5_windsWith_X5_copy : GoodIn wsX5_windsWith (va_wsS RX5 32 yX5_copy wsX5_copy) := goodIn_app (goodIn_of _ (by decide +kernel)) ggX5_windsWith_X5_copy
set_option maxRecDepth 20000 in
theorem ggX5_windsWith_X5_isFull : GoodIn wsX5_windsWith wsX5_isFull := goodIn_r _ [10, 11, 12, 13, 5, 14, 1, 50, 51, 52, 53, 54, 55, 56, 57, 58, 59, 60, 61] (by decide +kernel) (by decide +kernel)
set_option maxRecDepth 20000 in
theorem gX5_windsWith_X5_isFull : GoodIn wsX5_windsWith (wsV RX5 48 RX5 yX5_isFull wsX5_isFull) := goodIn_app (goodIn_of _ (by decide +kernel)) ggX5_windsWith_X5_isFull
set_option maxRecDepth 20000 in
theorem ggX5_windsWith_X5_place : GoodIn wsX5_windsWith wsX5_place := goodIn_r _ [18, 1, 19, 20, 5, 21, 50, 51, 52, 53, 54, 55, 56, 57, 58, 59, 60, 61] (by decide +kernel) (by decide +kernel)
set_option maxRecDepth 20000 in
theorem gX5_windsWith_X5_place : GoodIn wsX5_windsWith (wsV RX5 52 RX5 yX5_place wsX5_place) := goodIn_app (goodIn_of _ (by decide +kernel)) ggX5_windsWith_X5_place
set_option maxRecDepth 20000 in
theorem ggX5_windsWith_X5_guideGoes : GoodIn wsX5_windsWith wsX5_guideGoes := goodIn_r _ [25, 1, 50, 51, 52, 53, 54, 55, 56, 57, 58, 59, 60, 61] (by decide +kernel) (by decide +kernel)
set_option maxRecDepth 20000 in
theorem gX5_windsWith_X5_guideGoes : GoodIn wsX5_windsWith (wsV RX5 58 RX5 yX5_guideGoes wsX5_guideGoes) := goodIn_app (goodIn_of _ (by decide +kernel)) ggX5_windsWith_X5_guideGoes
set_option maxRecDepth 20000 in
theorem ggX5_windsWith_X5_evenness : GoodIn wsX5_windsWith wsX5_evenness := goodIn_r _ [29, 1, 11, 12, 13, 5, 14, 50, 51, 52, 53, 54, 55, 56, 57, 58, 59, 60, 61] (by decide +kernel) (by decide +kernel)
set_option maxRecDepth 20000 in
theorem gX5_windsWith_X5_evenness : GoodIn wsX5_windsWith (wsV RX5 162 RX5 yX5_evenness wsX5_evenness) := goodIn_app (goodIn_of _ (by decide +kernel)) ggX5_windsWith_X5_evenness
set_option maxRecDepth 20000 in
theorem ggX5_windsWith_X5_ribbons : GoodIn wsX5_windsWith wsX5_ribbons := goodIn_r _ [33, 34, 35, 36, 5, 37, 38, 39, 40, 41, 42, 1, 43, 44, 45, 50, 51, 52, 53, 54, 55, 56, 57, 58, 59, 60, 61] (by decide +kernel) (by decide +kernel)
set_option maxRecDepth 20000 in
theorem gX5_windsWith_X5_ribbons : GoodIn wsX5_windsWith (wsV RX5 159 RX5 yX5_ribbons wsX5_ribbons) := goodIn_app (goodIn_of _ (by decide +kernel)) ggX5_windsWith_X5_ribbons
set_option maxRecDepth 20000 in
theorem ggX5_windsWith_X5_bare : GoodIn wsX5_windsWith wsX5_bare := goodIn_r _ [49, 1, 50, 51, 52, 53, 54, 55, 56, 57, 58, 59, 60, 61] (by decide +kernel) (by decide +kernel)
set_option maxRecDepth 20000 in
theorem gX5_windsWith_X5_bare : GoodIn wsX5_windsWith (wsV RX5 165 RX5 yX5_bare wsX5_bare) := goodIn_app (goodIn_of _ (by decide +kernel)) ggX5_windsWith_X5_bare
theorem dX5_windsWith_0 : decode cX5_windsWith 0 = .ok (.aload_n 0, 1) := by decide +kernel
theorem dX5_windsWith_1 : decode cX5_windsWith 1 = .ok (.getfield 7, 3) := by decide +kernel
theorem dX5_windsWith_4 : decode cX5_windsWith 4 = .ok (.aload_n 0, 1) := by decide +kernel
theorem dX5_windsWith_5 : decode cX5_windsWith 5 = .ok (.getfield 16, 3) := by decide +kernel
theorem dX5_windsWith_8 : decode cX5_windsWith 8 = .ok (.invokestatic 32, 3) := by decide +kernel
theorem dX5_windsWith_11 : decode cX5_windsWith 11 = .ok (.iconst 0, 1) := by decide +kernel
theorem dX5_windsWith_12 : decode cX5_windsWith 12 = .ok (.istore 4, 2) := by decide +kernel
theorem dX5_windsWith_14 : decode cX5_windsWith 14 = .ok (.iload 4, 2) := by decide +kernel
theorem dX5_windsWith_16 : decode cX5_windsWith 16 = .ok (.bipush 12, 2) := by decide +kernel
theorem dX5_windsWith_18 : decode cX5_windsWith 18 = .ok (.if_icmp .ge 19, 3) := by decide +kernel
theorem dX5_windsWith_21 : decode cX5_windsWith 21 = .ok (.aload_n 0, 1) := by decide +kernel
theorem dX5_windsWith_22 : decode cX5_windsWith 22 = .ok (.getfield 7, 3) := by decide +kernel
theorem dX5_windsWith_25 : decode cX5_windsWith 25 = .ok (.iconst 0, 1) := by decide +kernel
theorem dX5_windsWith_26 : decode cX5_windsWith 26 = .ok (.iload 4, 2) := by decide +kernel
theorem dX5_windsWith_28 : decode cX5_windsWith 28 = .ok (.iadd, 1) := by decide +kernel
theorem dX5_windsWith_29 : decode cX5_windsWith 29 = .ok (.iconst 0, 1) := by decide +kernel
theorem dX5_windsWith_30 : decode cX5_windsWith 30 = .ok (.iastore, 1) := by decide +kernel
theorem dX5_windsWith_31 : decode cX5_windsWith 31 = .ok (.iinc 4 1, 3) := by decide +kernel
theorem dX5_windsWith_34 : decode cX5_windsWith 34 = .ok (.goto (-20), 3) := by decide +kernel
theorem dX5_windsWith_37 : decode cX5_windsWith 37 = .ok (.aload_n 0, 1) := by decide +kernel
theorem dX5_windsWith_38 : decode cX5_windsWith 38 = .ok (.getfield 7, 3) := by decide +kernel
theorem dX5_windsWith_41 : decode cX5_windsWith 41 = .ok (.bipush 29, 2) := by decide +kernel
theorem dX5_windsWith_43 : decode cX5_windsWith 43 = .ok (.iconst 0, 1) := by decide +kernel
theorem dX5_windsWith_44 : decode cX5_windsWith 44 = .ok (.iastore, 1) := by decide +kernel
theorem dX5_windsWith_45 : decode cX5_windsWith 45 = .ok (.aload_n 0, 1) := by decide +kernel
theorem dX5_windsWith_46 : decode cX5_windsWith 46 = .ok (.getfield 7, 3) := by decide +kernel
theorem dX5_windsWith_49 : decode cX5_windsWith 49 = .ok (.bipush 35, 2) := by decide +kernel
theorem dX5_windsWith_51 : decode cX5_windsWith 51 = .ok (.iconst 0, 1) := by decide +kernel
theorem dX5_windsWith_52 : decode cX5_windsWith 52 = .ok (.iastore, 1) := by decide +kernel
theorem dX5_windsWith_53 : decode cX5_windsWith 53 = .ok (.aload_n 0, 1) := by decide +kernel
theorem dX5_windsWith_54 : decode cX5_windsWith 54 = .ok (.getfield 7, 3) := by decide +kernel
theorem dX5_windsWith_57 : decode cX5_windsWith 57 = .ok (.bipush 24, 2) := by decide +kernel
theorem dX5_windsWith_59 : decode cX5_windsWith 59 = .ok (.iload_n 1, 1) := by decide +kernel
theorem dX5_windsWith_60 : decode cX5_windsWith 60 = .ok (.iastore, 1) := by decide +kernel
theorem dX5_windsWith_61 : decode cX5_windsWith 61 = .ok (.iconst 0, 1) := by decide +kernel
theorem dX5_windsWith_62 : decode cX5_windsWith 62 = .ok (.istore 4, 2) := by decide +kernel
theorem dX5_windsWith_64 : decode cX5_windsWith 64 = .ok (.iload 4, 2) := by decide +kernel
theorem dX5_windsWith_66 : decode cX5_windsWith 66 = .ok (.iload_n 2, 1) := by decide +kernel
theorem dX5_windsWith_67 : decode cX5_windsWith 67 = .ok (.if_icmp .ge 46, 3) := by decide +kernel
theorem dX5_windsWith_70 : decode cX5_windsWith 70 = .ok (.aload_n 0, 1) := by decide +kernel
theorem dX5_windsWith_71 : decode cX5_windsWith 71 = .ok (.invokevirtual 48, 3) := by decide +kernel
theorem dX5_windsWith_74 : decode cX5_windsWith 74 = .ok (.ifCond .ne 39, 3) := by decide +kernel
theorem dX5_windsWith_77 : decode cX5_windsWith 77 = .ok (.aload_n 0, 1) := by decide +kernel
theorem dX5_windsWith_78 : decode cX5_windsWith 78 = .ok (.getfield 7, 3) := by decide +kernel
theorem dX5_windsWith_81 : decode cX5_windsWith 81 = .ok (.iconst 0, 1) := by decide +kernel
theorem dX5_windsWith_82 : decode cX5_windsWith 82 = .ok (.aload_n 0, 1) := by decide +kernel
theorem dX5_windsWith_83 : decode cX5_windsWith 83 = .ok (.invokevirtual 52, 3) := by decide +kernel
theorem dX5_windsWith_86 : decode cX5_windsWith 86 = .ok (.iadd, 1) := by decide +kernel
theorem dX5_windsWith_87 : decode cX5_windsWith 87 = .ok (.dup2, 1) := by decide +kernel
theorem dX5_windsWith_88 : decode cX5_windsWith 88 = .ok (.iaload, 1) := by decide +kernel
theorem dX5_windsWith_89 : decode cX5_windsWith 89 = .ok (.iconst 1, 1) := by decide +kernel
theorem dX5_windsWith_90 : decode cX5_windsWith 90 = .ok (.iadd, 1) := by decide +kernel
theorem dX5_windsWith_91 : decode cX5_windsWith 91 = .ok (.iastore, 1) := by decide +kernel
theorem dX5_windsWith_92 : decode cX5_windsWith 92 = .ok (.aload_n 0, 1) := by decide +kernel
theorem dX5_windsWith_93 : decode cX5_windsWith 93 = .ok (.getfield 7, 3) := by decide +kernel
theorem dX5_windsWith_96 : decode cX5_windsWith 96 = .ok (.bipush 35, 2) := by decide +kernel
theorem dX5_windsWith_98 : decode cX5_windsWith 98 = .ok (.dup2, 1) := by decide +kernel
theorem dX5_windsWith_99 : decode cX5_windsWith 99 = .ok (.iaload, 1) := by decide +kernel
theorem dX5_windsWith_100 : decode cX5_windsWith 100 = .ok (.iconst 1, 1) := by decide +kernel
theorem dX5_windsWith_101 : decode cX5_windsWith 101 = .ok (.iadd, 1) := by decide +kernel
theorem dX5_windsWith_102 : decode cX5_windsWith 102 = .ok (.iastore, 1) := by decide +kernel
theorem dX5_windsWith_103 : decode cX5_windsWith 103 = .ok (.aload_n 0, 1) := by decide +kernel
theorem dX5_windsWith_104 : decode cX5_windsWith 104 = .ok (.invokevirtual 58, 3) := by decide +kernel
theorem dX5_windsWith_107 : decode cX5_windsWith 107 = .ok (.iinc 4 1, 3) := by decide +kernel
theorem dX5_windsWith_110 : decode cX5_windsWith 110 = .ok (.goto (-46), 3) := by decide +kernel
theorem dX5_windsWith_113 : decode cX5_windsWith 113 = .ok (.iload_n 3, 1) := by decide +kernel
theorem dX5_windsWith_114 : decode cX5_windsWith 114 = .ok (.ifCond .ne 10, 3) := by decide +kernel
theorem dX5_windsWith_117 : decode cX5_windsWith 117 = .ok (.aload_n 0, 1) := by decide +kernel
theorem dX5_windsWith_118 : decode cX5_windsWith 118 = .ok (.invokevirtual 162, 3) := by decide +kernel
theorem dX5_windsWith_121 : decode cX5_windsWith 121 = .ok (.goto 19, 3) := by decide +kernel
theorem dX5_windsWith_124 : decode cX5_windsWith 124 = .ok (.iload_n 3, 1) := by decide +kernel
theorem dX5_windsWith_125 : decode cX5_windsWith 125 = .ok (.iconst 1, 1) := by decide +kernel
theorem dX5_windsWith_126 : decode cX5_windsWith 126 = .ok (.if_icmp .ne 10, 3) := by decide +kernel
theorem dX5_windsWith_129 : decode cX5_windsWith 129 = .ok (.aload_n 0, 1) := by decide +kernel
theorem dX5_windsWith_130 : decode cX5_windsWith 130 = .ok (.invokevirtual 159, 3) := by decide +kernel
theorem dX5_windsWith_133 : decode cX5_windsWith 133 = .ok (.goto 7, 3) := by decide +kernel
theorem dX5_windsWith_136 : decode cX5_windsWith 136 = .ok (.aload_n 0, 1) := by decide +kernel
theorem dX5_windsWith_137 : decode cX5_windsWith 137 = .ok (.invokevirtual 165, 3) := by decide +kernel
theorem dX5_windsWith_140 : decode cX5_windsWith 140 = .ok (.istore 4, 2) := by decide +kernel
theorem dX5_windsWith_142 : decode cX5_windsWith 142 = .ok (.aload_n 0, 1) := by decide +kernel
theorem dX5_windsWith_143 : decode cX5_windsWith 143 = .ok (.getfield 16, 3) := by decide +kernel
theorem dX5_windsWith_146 : decode cX5_windsWith 146 = .ok (.aload_n 0, 1) := by decide +kernel
theorem dX5_windsWith_147 : decode cX5_windsWith 147 = .ok (.getfield 7, 3) := by decide +kernel
theorem dX5_windsWith_150 : decode cX5_windsWith 150 = .ok (.invokestatic 32, 3) := by decide +kernel
theorem dX5_windsWith_153 : decode cX5_windsWith 153 = .ok (.iload 4, 2) := by decide +kernel
theorem dX5_windsWith_155 : decode cX5_windsWith 155 = .ok (.ireturn, 1) := by decide +kernel
theorem dX5_bare_0 : decode cX5_bare 0 = .ok (.iconst 0, 1) := by decide +kernel
theorem dX5_bare_1 : decode cX5_bare 1 = .ok (.istore_n 1, 1) := by decide +kernel
theorem dX5_bare_2 : decode cX5_bare 2 = .ok (.iconst 0, 1) := by decide +kernel
theorem dX5_bare_3 : decode cX5_bare 3 = .ok (.istore_n 2, 1) := by decide +kernel
theorem dX5_bare_4 : decode cX5_bare 4 = .ok (.iload_n 2, 1) := by decide +kernel
theorem dX5_bare_5 : decode cX5_bare 5 = .ok (.bipush 12, 2) := by decide +kernel
theorem dX5_bare_7 : decode cX5_bare 7 = .ok (.if_icmp .ge 28, 3) := by decide +kernel
theorem dX5_bare_10 : decode cX5_bare 10 = .ok (.iload_n 1, 1) := by decide +kernel
theorem dX5_bare_11 : decode cX5_bare 11 = .ok (.aload_n 0, 1) := by decide +kernel
theorem dX5_bare_12 : decode cX5_bare 12 = .ok (.getfield 7, 3) := by decide +kernel
theorem dX5_bare_15 : decode cX5_bare 15 = .ok (.iconst 0, 1) := by decide +kernel
theorem dX5_bare_16 : decode cX5_bare 16 = .ok (.iload_n 2, 1) := by decide +kernel
theorem dX5_bare_17 : decode cX5_bare 17 = .ok (.iadd, 1) := by decide +kernel
theorem dX5_bare_18 : decode cX5_bare 18 = .ok (.iaload, 1) := by decide +kernel
theorem dX5_bare_19 : decode cX5_bare 19 = .ok (.ifCond .ne 7, 3) := by decide +kernel
theorem dX5_bare_22 : decode cX5_bare 22 = .ok (.iconst 1, 1) := by decide +kernel
theorem dX5_bare_23 : decode cX5_bare 23 = .ok (.goto 4, 3) := by decide +kernel
theorem dX5_bare_26 : decode cX5_bare 26 = .ok (.iconst 0, 1) := by decide +kernel
theorem dX5_bare_27 : decode cX5_bare 27 = .ok (.iadd, 1) := by decide +kernel
theorem dX5_bare_28 : decode cX5_bare 28 = .ok (.istore_n 1, 1) := by decide +kernel
theorem dX5_bare_29 : decode cX5_bare 29 = .ok (.iinc 2 1, 3) := by decide +kernel
theorem dX5_bare_32 : decode cX5_bare 32 = .ok (.goto (-28), 3) := by decide +kernel
theorem dX5_bare_35 : decode cX5_bare 35 = .ok (.iload_n 1, 1) := by decide +kernel
theorem dX5_bare_36 : decode cX5_bare 36 = .ok (.ireturn, 1) := by decide +kernel
set_option maxRecDepth 20000 in
theorem ggX5_ifTraverse_X5_in : GoodIn wsX5_ifTraverse wsX5_in := goodIn_r _ [7] (by decide +kernel) (by decide +kernel)
set_option maxRecDepth 20000 in
theorem gX5_ifTraverse_X5_in : GoodIn wsX5_ifTraverse (va_wsS RX5 63 yX5_in wsX5_in) := goodIn_app (goodIn_of _ (by decide +kernel)) ggX5_ifTraverse_X5_in
set_option maxRecDepth 20000 in
theorem ggX5_ifTraverse_X5_windsWith : GoodIn wsX5_ifTraverse wsX5_windsWith := goodIn_r _ [11, 12, 13, 14, 15, 6, 16, 17, 18, 19, 20, 21, 22, 23, 24, 25, 26, 27, 28, 29, 30, 31, 32, 33, 34, 35, 36, 37, 38, 39, 40, 41, 42, 43, 44, 45, 46, 47, 48, 49, 50, 51, 1, 4, 5, 7, 52, 53, 54, 55, 56, 57, 58, 59, 60, 61, 62, 63, 64, 65, 66, 67] (by decide +kernel) (by decide +kernel)
set_option maxRecDepth 20000 in
theorem gX5_ifTraverse_X5_windsWith : GoodIn wsX5_ifTraverse (wsV RX5 170 RX5 yX5_windsWith wsX5_windsWith) := goodIn_app (goodIn_of _ (by decide +kernel)) ggX5_ifTraverse_X5_windsWith
theorem dX5_ifTraverse_0 : decode cX5_ifTraverse 0 = .ok (.iload_n 1, 1) := by decide +kernel
theorem dX5_ifTraverse_1 : decode cX5_ifTraverse 1 = .ok (.i2l, 1) := by decide +kernel
theorem dX5_ifTraverse_2 : decode cX5_ifTraverse 2 = .ok (.lconst 1, 1) := by decide +kernel
theorem dX5_ifTraverse_3 : decode cX5_ifTraverse 3 = .ok (.ldc2_w 61, 3) := by decide +kernel
theorem dX5_ifTraverse_6 : decode cX5_ifTraverse 6 = .ok (.invokestatic 63, 3) := by decide +kernel
theorem dX5_ifTraverse_9 : decode cX5_ifTraverse 9 = .ok (.ifCond .eq 27, 3) := by decide +kernel
theorem dX5_ifTraverse_12 : decode cX5_ifTraverse 12 = .ok (.iload_n 2, 1) := by decide +kernel
theorem dX5_ifTraverse_13 : decode cX5_ifTraverse 13 = .ok (.i2l, 1) := by decide +kernel
theorem dX5_ifTraverse_14 : decode cX5_ifTraverse 14 = .ok (.lconst 1, 1) := by decide +kernel
theorem dX5_ifTraverse_15 : decode cX5_ifTraverse 15 = .ok (.ldc2_w 99, 3) := by decide +kernel
theorem dX5_ifTraverse_18 : decode cX5_ifTraverse 18 = .ok (.invokestatic 63, 3) := by decide +kernel
theorem dX5_ifTraverse_21 : decode cX5_ifTraverse 21 = .ok (.ifCond .eq 15, 3) := by decide +kernel
theorem dX5_ifTraverse_24 : decode cX5_ifTraverse 24 = .ok (.iload_n 3, 1) := by decide +kernel
theorem dX5_ifTraverse_25 : decode cX5_ifTraverse 25 = .ok (.i2l, 1) := by decide +kernel
theorem dX5_ifTraverse_26 : decode cX5_ifTraverse 26 = .ok (.lconst 0, 1) := by decide +kernel
theorem dX5_ifTraverse_27 : decode cX5_ifTraverse 27 = .ok (.ldc2_w 168, 3) := by decide +kernel
theorem dX5_ifTraverse_30 : decode cX5_ifTraverse 30 = .ok (.invokestatic 63, 3) := by decide +kernel
theorem dX5_ifTraverse_33 : decode cX5_ifTraverse 33 = .ok (.ifCond .ne 6, 3) := by decide +kernel
theorem dX5_ifTraverse_36 : decode cX5_ifTraverse 36 = .ok (.bipush (-2), 2) := by decide +kernel
theorem dX5_ifTraverse_38 : decode cX5_ifTraverse 38 = .ok (.ireturn, 1) := by decide +kernel
theorem dX5_ifTraverse_39 : decode cX5_ifTraverse 39 = .ok (.aload_n 0, 1) := by decide +kernel
theorem dX5_ifTraverse_40 : decode cX5_ifTraverse 40 = .ok (.iload_n 1, 1) := by decide +kernel
theorem dX5_ifTraverse_41 : decode cX5_ifTraverse 41 = .ok (.iload_n 2, 1) := by decide +kernel
theorem dX5_ifTraverse_42 : decode cX5_ifTraverse 42 = .ok (.iload_n 3, 1) := by decide +kernel
theorem dX5_ifTraverse_43 : decode cX5_ifTraverse 43 = .ok (.invokevirtual 170, 3) := by decide +kernel
theorem dX5_ifTraverse_46 : decode cX5_ifTraverse 46 = .ok (.ireturn, 1) := by decide +kernel
set_option maxRecDepth 20000 in
theorem ggX5_bestTraverse_X5_in : GoodIn wsX5_bestTraverse wsX5_in := goodIn_r _ [5] (by decide +kernel) (by decide +kernel)
set_option maxRecDepth 20000 in
theorem gX5_bestTraverse_X5_in : GoodIn wsX5_bestTraverse (va_wsS RX5 63 yX5_in wsX5_in) := goodIn_app (goodIn_of _ (by decide +kernel)) ggX5_bestTraverse_X5_in
set_option maxRecDepth 20000 in
theorem ggX5_bestTraverse_X5_windsWith : GoodIn wsX5_bestTraverse wsX5_windsWith := goodIn_r _ [9, 10, 11, 12, 13, 4, 14, 15, 16, 17, 18, 19, 20, 21, 22, 23, 24, 25, 26, 27, 28, 29, 30, 31, 32, 33, 34, 35, 36, 37, 38, 39, 40, 41, 42, 43, 44, 45, 46, 47, 48, 49, 50, 2, 3, 5, 51, 52, 53, 54, 55, 56, 57, 58, 59, 60, 61, 62, 63, 64, 65, 66] (by decide +kernel) (by decide +kernel)
set_option maxRecDepth 20000 in
theorem gX5_bestTraverse_X5_windsWith : GoodIn wsX5_bestTraverse (wsV RX5 170 RX5 yX5_windsWith wsX5_windsWith) := goodIn_app (goodIn_of _ (by decide +kernel)) ggX5_bestTraverse_X5_windsWith
theorem dX5_bestTraverse_0 : decode cX5_bestTraverse 0 = .ok (.iload_n 1, 1) := by decide +kernel
theorem dX5_bestTraverse_1 : decode cX5_bestTraverse 1 = .ok (.i2l, 1) := by decide +kernel
theorem dX5_bestTraverse_2 : decode cX5_bestTraverse 2 = .ok (.lconst 1, 1) := by decide +kernel
theorem dX5_bestTraverse_3 : decode cX5_bestTraverse 3 = .ok (.ldc2_w 99, 3) := by decide +kernel
theorem dX5_bestTraverse_6 : decode cX5_bestTraverse 6 = .ok (.invokestatic 63, 3) := by decide +kernel
theorem dX5_bestTraverse_9 : decode cX5_bestTraverse 9 = .ok (.ifCond .ne 6, 3) := by decide +kernel
theorem dX5_bestTraverse_12 : decode cX5_bestTraverse 12 = .ok (.bipush (-2), 2) := by decide +kernel
theorem dX5_bestTraverse_14 : decode cX5_bestTraverse 14 = .ok (.ireturn, 1) := by decide +kernel
theorem dX5_bestTraverse_15 : decode cX5_bestTraverse 15 = .ok (.iconst 1, 1) := by decide +kernel
theorem dX5_bestTraverse_16 : decode cX5_bestTraverse 16 = .ok (.istore_n 2, 1) := by decide +kernel
theorem dX5_bestTraverse_17 : decode cX5_bestTraverse 17 = .ok (.iconst 2, 1) := by decide +kernel
theorem dX5_bestTraverse_18 : decode cX5_bestTraverse 18 = .ok (.istore_n 3, 1) := by decide +kernel
theorem dX5_bestTraverse_19 : decode cX5_bestTraverse 19 = .ok (.iload_n 3, 1) := by decide +kernel
theorem dX5_bestTraverse_20 : decode cX5_bestTraverse 20 = .ok (.bipush 12, 2) := by decide +kernel
theorem dX5_bestTraverse_22 : decode cX5_bestTraverse 22 = .ok (.if_icmp .ge 32, 3) := by decide +kernel
theorem dX5_bestTraverse_25 : decode cX5_bestTraverse 25 = .ok (.aload_n 0, 1) := by decide +kernel
theorem dX5_bestTraverse_26 : decode cX5_bestTraverse 26 = .ok (.iload_n 3, 1) := by decide +kernel
theorem dX5_bestTraverse_27 : decode cX5_bestTraverse 27 = .ok (.iload_n 1, 1) := by decide +kernel
theorem dX5_bestTraverse_28 : decode cX5_bestTraverse 28 = .ok (.iconst 0, 1) := by decide +kernel
theorem dX5_bestTraverse_29 : decode cX5_bestTraverse 29 = .ok (.invokevirtual 170, 3) := by decide +kernel
theorem dX5_bestTraverse_32 : decode cX5_bestTraverse 32 = .ok (.aload_n 0, 1) := by decide +kernel
theorem dX5_bestTraverse_33 : decode cX5_bestTraverse 33 = .ok (.iload_n 2, 1) := by decide +kernel
theorem dX5_bestTraverse_34 : decode cX5_bestTraverse 34 = .ok (.iload_n 1, 1) := by decide +kernel
theorem dX5_bestTraverse_35 : decode cX5_bestTraverse 35 = .ok (.iconst 0, 1) := by decide +kernel
theorem dX5_bestTraverse_36 : decode cX5_bestTraverse 36 = .ok (.invokevirtual 170, 3) := by decide +kernel
theorem dX5_bestTraverse_39 : decode cX5_bestTraverse 39 = .ok (.if_icmp .ge 7, 3) := by decide +kernel
theorem dX5_bestTraverse_42 : decode cX5_bestTraverse 42 = .ok (.iload_n 3, 1) := by decide +kernel
theorem dX5_bestTraverse_43 : decode cX5_bestTraverse 43 = .ok (.goto 4, 3) := by decide +kernel
theorem dX5_bestTraverse_46 : decode cX5_bestTraverse 46 = .ok (.iload_n 2, 1) := by decide +kernel
theorem dX5_bestTraverse_47 : decode cX5_bestTraverse 47 = .ok (.istore_n 2, 1) := by decide +kernel
theorem dX5_bestTraverse_48 : decode cX5_bestTraverse 48 = .ok (.iinc 3 1, 3) := by decide +kernel
theorem dX5_bestTraverse_51 : decode cX5_bestTraverse 51 = .ok (.goto (-32), 3) := by decide +kernel
theorem dX5_bestTraverse_54 : decode cX5_bestTraverse 54 = .ok (.iload_n 2, 1) := by decide +kernel
theorem dX5_bestTraverse_55 : decode cX5_bestTraverse 55 = .ok (.ireturn, 1) := by decide +kernel
set_option maxRecDepth 20000 in
theorem ggX5_period_X5_in : GoodIn wsX5_period wsX5_in := goodIn_r _ [5] (by decide +kernel) (by decide +kernel)
set_option maxRecDepth 20000 in
theorem gX5_period_X5_in : GoodIn wsX5_period (va_wsS RX5 63 yX5_in wsX5_in) := goodIn_app (goodIn_of _ (by decide +kernel)) ggX5_period_X5_in
theorem dX5_period_0 : decode cX5_period 0 = .ok (.iload_n 1, 1) := by decide +kernel
theorem dX5_period_1 : decode cX5_period 1 = .ok (.i2l, 1) := by decide +kernel
theorem dX5_period_2 : decode cX5_period 2 = .ok (.lconst 1, 1) := by decide +kernel
theorem dX5_period_3 : decode cX5_period 3 = .ok (.ldc2_w 61, 3) := by decide +kernel
theorem dX5_period_6 : decode cX5_period 6 = .ok (.invokestatic 63, 3) := by decide +kernel
theorem dX5_period_9 : decode cX5_period 9 = .ok (.ifCond .ne 6, 3) := by decide +kernel
theorem dX5_period_12 : decode cX5_period 12 = .ok (.bipush (-2), 2) := by decide +kernel
theorem dX5_period_14 : decode cX5_period 14 = .ok (.ireturn, 1) := by decide +kernel
theorem dX5_period_15 : decode cX5_period 15 = .ok (.iconst 1, 1) := by decide +kernel
theorem dX5_period_16 : decode cX5_period 16 = .ok (.istore_n 2, 1) := by decide +kernel
theorem dX5_period_17 : decode cX5_period 17 = .ok (.iload_n 2, 1) := by decide +kernel
theorem dX5_period_18 : decode cX5_period 18 = .ok (.iload_n 1, 1) := by decide +kernel
theorem dX5_period_19 : decode cX5_period 19 = .ok (.imul, 1) := by decide +kernel
theorem dX5_period_20 : decode cX5_period 20 = .ok (.bipush 22, 2) := by decide +kernel
theorem dX5_period_22 : decode cX5_period 22 = .ok (.irem, 1) := by decide +kernel
theorem dX5_period_23 : decode cX5_period 23 = .ok (.ifCond .eq 9, 3) := by decide +kernel
theorem dX5_period_26 : decode cX5_period 26 = .ok (.iinc 2 1, 3) := by decide +kernel
theorem dX5_period_29 : decode cX5_period 29 = .ok (.goto (-12), 3) := by decide +kernel
theorem dX5_period_32 : decode cX5_period 32 = .ok (.iload_n 2, 1) := by decide +kernel
theorem dX5_period_33 : decode cX5_period 33 = .ok (.ireturn, 1) := by decide +kernel
theorem dX5_allKnots_0 : decode cX5_allKnots 0 = .ok (.iconst 0, 1) := by decide +kernel
theorem dX5_allKnots_1 : decode cX5_allKnots 1 = .ok (.istore_n 1, 1) := by decide +kernel
theorem dX5_allKnots_2 : decode cX5_allKnots 2 = .ok (.iconst 0, 1) := by decide +kernel
theorem dX5_allKnots_3 : decode cX5_allKnots 3 = .ok (.istore_n 2, 1) := by decide +kernel
theorem dX5_allKnots_4 : decode cX5_allKnots 4 = .ok (.iload_n 2, 1) := by decide +kernel
theorem dX5_allKnots_5 : decode cX5_allKnots 5 = .ok (.bipush 12, 2) := by decide +kernel
theorem dX5_allKnots_7 : decode cX5_allKnots 7 = .ok (.if_icmp .ge 21, 3) := by decide +kernel
theorem dX5_allKnots_10 : decode cX5_allKnots 10 = .ok (.iload_n 1, 1) := by decide +kernel
theorem dX5_allKnots_11 : decode cX5_allKnots 11 = .ok (.aload_n 0, 1) := by decide +kernel
theorem dX5_allKnots_12 : decode cX5_allKnots 12 = .ok (.getfield 7, 3) := by decide +kernel
theorem dX5_allKnots_15 : decode cX5_allKnots 15 = .ok (.bipush 12, 2) := by decide +kernel
theorem dX5_allKnots_17 : decode cX5_allKnots 17 = .ok (.iload_n 2, 1) := by decide +kernel
theorem dX5_allKnots_18 : decode cX5_allKnots 18 = .ok (.iadd, 1) := by decide +kernel
theorem dX5_allKnots_19 : decode cX5_allKnots 19 = .ok (.iaload, 1) := by decide +kernel
theorem dX5_allKnots_20 : decode cX5_allKnots 20 = .ok (.iadd, 1) := by decide +kernel
theorem dX5_allKnots_21 : decode cX5_allKnots 21 = .ok (.istore_n 1, 1) := by decide +kernel
theorem dX5_allKnots_22 : decode cX5_allKnots 22 = .ok (.iinc 2 1, 3) := by decide +kernel
theorem dX5_allKnots_25 : decode cX5_allKnots 25 = .ok (.goto (-21), 3) := by decide +kernel
theorem dX5_allKnots_28 : decode cX5_allKnots 28 = .ok (.iload_n 1, 1) := by decide +kernel
theorem dX5_allKnots_29 : decode cX5_allKnots 29 = .ok (.ireturn, 1) := by decide +kernel
set_option maxRecDepth 20000 in
theorem ggX5_count_X5_wraps : GoodIn wsX5_count wsX5_wraps := goodIn_r _ [8, 1, 57, 58, 59, 60, 61, 62, 63, 64, 65, 66, 67, 68] (by decide +kernel) (by decide +kernel)
set_option maxRecDepth 20000 in
theorem gX5_count_X5_wraps : GoodIn wsX5_count (wsV RX5 112 RX5 yX5_wraps wsX5_wraps) := goodIn_app (goodIn_of _ (by decide +kernel)) ggX5_count_X5_wraps
set_option maxRecDepth 20000 in
theorem ggX5_count_X5_place : GoodIn wsX5_count wsX5_place := goodIn_r _ [12, 1, 13, 14, 7, 15, 57, 58, 59, 60, 61, 62, 63, 64, 65, 66, 67, 68] (by decide +kernel) (by decide +kernel)
set_option maxRecDepth 20000 in
theorem gX5_count_X5_place : GoodIn wsX5_count (wsV RX5 52 RX5 yX5_place wsX5_place) := goodIn_app (goodIn_of _ (by decide +kernel)) ggX5_count_X5_place
set_option maxRecDepth 20000 in
theorem ggX5_count_X5_isFull : GoodIn wsX5_count wsX5_isFull := goodIn_r _ [19, 20, 21, 22, 7, 23, 1, 57, 58, 59, 60, 61, 62, 63, 64, 65, 66, 67, 68] (by decide +kernel) (by decide +kernel)
set_option maxRecDepth 20000 in
theorem gX5_count_X5_isFull : GoodIn wsX5_count (wsV RX5 48 RX5 yX5_isFull wsX5_isFull) := goodIn_app (goodIn_of _ (by decide +kernel)) ggX5_count_X5_isFull
set_option maxRecDepth 20000 in
theorem ggX5_count_X5_evenness : GoodIn wsX5_count wsX5_evenness := goodIn_r _ [27, 1, 20, 21, 22, 7, 23, 57, 58, 59, 60, 61, 62, 63, 64, 65, 66, 67, 68] (by decide +kernel) (by decide +kernel)
set_option maxRecDepth 20000 in
theorem gX5_count_X5_evenness : GoodIn wsX5_count (wsV RX5 162 RX5 yX5_evenness wsX5_evenness) := goodIn_app (goodIn_of _ (by decide +kernel)) ggX5_count_X5_evenness
set_option maxRecDepth 20000 in
theorem ggX5_count_X5_ribbons : GoodIn wsX5_count wsX5_ribbons := goodIn_r _ [31, 32, 33, 34, 7, 35, 36, 37, 38, 39, 40, 1, 41, 42, 43, 57, 58, 59, 60, 61, 62, 63, 64, 65, 66, 67, 68] (by decide +kernel) (by decide +kernel)
set_option maxRecDepth 20000 in
theorem gX5_count_X5_ribbons : GoodIn wsX5_count (wsV RX5 159 RX5 yX5_ribbons wsX5_ribbons) := goodIn_app (goodIn_of _ (by decide +kernel)) ggX5_count_X5_ribbons
set_option maxRecDepth 20000 in
theorem ggX5_count_X5_allKnots : GoodIn wsX5_count wsX5_allKnots := goodIn_r _ [47, 1, 57, 58, 59, 60, 61, 62, 63, 64, 65, 66, 67, 68] (by decide +kernel) (by decide +kernel)
set_option maxRecDepth 20000 in
theorem gX5_count_X5_allKnots : GoodIn wsX5_count (wsV RX5 174 RX5 yX5_allKnots wsX5_allKnots) := goodIn_app (goodIn_of _ (by decide +kernel)) ggX5_count_X5_allKnots
set_option maxRecDepth 20000 in
theorem ggX5_count_X5_breaks : GoodIn wsX5_count wsX5_breaks := goodIn_r _ [51, 1, 52, 57, 58, 59, 60, 61, 62, 63, 64, 65, 66, 67, 68] (by decide +kernel) (by decide +kernel)
set_option maxRecDepth 20000 in
theorem gX5_count_X5_breaks : GoodIn wsX5_count (wsV RX5 177 RX5 yX5_breaks wsX5_breaks) := goodIn_app (goodIn_of _ (by decide +kernel)) ggX5_count_X5_breaks
set_option maxRecDepth 20000 in
theorem ggX5_count_X5_doffs : GoodIn wsX5_count wsX5_doffs := goodIn_r _ [56, 1, 52, 57, 58, 59, 60, 61, 62, 63, 64, 65, 66, 67, 68] (by decide +kernel) (by decide +kernel)
set_option maxRecDepth 20000 in
theorem gX5_count_X5_doffs : GoodIn wsX5_count (wsV RX5 180 RX5 yX5_doffs wsX5_doffs) := goodIn_app (goodIn_of _ (by decide +kernel)) ggX5_count_X5_doffs
theorem dX5_count_0 : decode cX5_count 0 = .ok (.iload_n 1, 1) := by decide +kernel
theorem dX5_count_1 : decode cX5_count 1 = .ok (.tableswitch 260 0 24 #[115, 120, 128, 133, 151, 159, 167, 175, 191, 204, 209, 214, 219, 227, 232, 237, 242, 260, 260, 260, 247, 247, 247, 247, 247], 115) := by decide +kernel
theorem dX5_count_116 : decode cX5_count 116 = .ok (.aload_n 0, 1) := by decide +kernel
theorem dX5_count_117 : decode cX5_count 117 = .ok (.invokevirtual 112, 3) := by decide +kernel
theorem dX5_count_120 : decode cX5_count 120 = .ok (.ireturn, 1) := by decide +kernel
theorem dX5_count_121 : decode cX5_count 121 = .ok (.aload_n 0, 1) := by decide +kernel
theorem dX5_count_122 : decode cX5_count 122 = .ok (.getfield 7, 3) := by decide +kernel
theorem dX5_count_125 : decode cX5_count 125 = .ok (.bipush 30, 2) := by decide +kernel
theorem dX5_count_127 : decode cX5_count 127 = .ok (.iaload, 1) := by decide +kernel
theorem dX5_count_128 : decode cX5_count 128 = .ok (.ireturn, 1) := by decide +kernel
theorem dX5_count_129 : decode cX5_count 129 = .ok (.aload_n 0, 1) := by decide +kernel
theorem dX5_count_130 : decode cX5_count 130 = .ok (.invokevirtual 52, 3) := by decide +kernel
theorem dX5_count_133 : decode cX5_count 133 = .ok (.ireturn, 1) := by decide +kernel
theorem dX5_count_134 : decode cX5_count 134 = .ok (.aload_n 0, 1) := by decide +kernel
theorem dX5_count_135 : decode cX5_count 135 = .ok (.getfield 7, 3) := by decide +kernel
theorem dX5_count_138 : decode cX5_count 138 = .ok (.bipush 29, 2) := by decide +kernel
theorem dX5_count_140 : decode cX5_count 140 = .ok (.iaload, 1) := by decide +kernel
theorem dX5_count_141 : decode cX5_count 141 = .ok (.bipush 11, 2) := by decide +kernel
theorem dX5_count_143 : decode cX5_count 143 = .ok (.if_icmp .lt 7, 3) := by decide +kernel
theorem dX5_count_146 : decode cX5_count 146 = .ok (.iconst 1, 1) := by decide +kernel
theorem dX5_count_147 : decode cX5_count 147 = .ok (.goto 4, 3) := by decide +kernel
theorem dX5_count_150 : decode cX5_count 150 = .ok (.iconst 0, 1) := by decide +kernel
theorem dX5_count_151 : decode cX5_count 151 = .ok (.ireturn, 1) := by decide +kernel
theorem dX5_count_152 : decode cX5_count 152 = .ok (.aload_n 0, 1) := by decide +kernel
theorem dX5_count_153 : decode cX5_count 153 = .ok (.getfield 7, 3) := by decide +kernel
theorem dX5_count_156 : decode cX5_count 156 = .ok (.bipush 31, 2) := by decide +kernel
theorem dX5_count_158 : decode cX5_count 158 = .ok (.iaload, 1) := by decide +kernel
theorem dX5_count_159 : decode cX5_count 159 = .ok (.ireturn, 1) := by decide +kernel
theorem dX5_count_160 : decode cX5_count 160 = .ok (.aload_n 0, 1) := by decide +kernel
theorem dX5_count_161 : decode cX5_count 161 = .ok (.getfield 7, 3) := by decide +kernel
theorem dX5_count_164 : decode cX5_count 164 = .ok (.bipush 32, 2) := by decide +kernel
theorem dX5_count_166 : decode cX5_count 166 = .ok (.iaload, 1) := by decide +kernel
theorem dX5_count_167 : decode cX5_count 167 = .ok (.ireturn, 1) := by decide +kernel
theorem dX5_count_168 : decode cX5_count 168 = .ok (.aload_n 0, 1) := by decide +kernel
theorem dX5_count_169 : decode cX5_count 169 = .ok (.getfield 7, 3) := by decide +kernel
theorem dX5_count_172 : decode cX5_count 172 = .ok (.bipush 33, 2) := by decide +kernel
theorem dX5_count_174 : decode cX5_count 174 = .ok (.iaload, 1) := by decide +kernel
theorem dX5_count_175 : decode cX5_count 175 = .ok (.ireturn, 1) := by decide +kernel
theorem dX5_count_176 : decode cX5_count 176 = .ok (.aload_n 0, 1) := by decide +kernel
theorem dX5_count_177 : decode cX5_count 177 = .ok (.getfield 7, 3) := by decide +kernel
theorem dX5_count_180 : decode cX5_count 180 = .ok (.bipush 30, 2) := by decide +kernel
theorem dX5_count_182 : decode cX5_count 182 = .ok (.iaload, 1) := by decide +kernel
theorem dX5_count_183 : decode cX5_count 183 = .ok (.ifCond .ne 7, 3) := by decide +kernel
theorem dX5_count_186 : decode cX5_count 186 = .ok (.iconst 1, 1) := by decide +kernel
theorem dX5_count_187 : decode cX5_count 187 = .ok (.goto 4, 3) := by decide +kernel
theorem dX5_count_190 : decode cX5_count 190 = .ok (.iconst 0, 1) := by decide +kernel
theorem dX5_count_191 : decode cX5_count 191 = .ok (.ireturn, 1) := by decide +kernel
theorem dX5_count_192 : decode cX5_count 192 = .ok (.aload_n 0, 1) := by decide +kernel
theorem dX5_count_193 : decode cX5_count 193 = .ok (.invokevirtual 48, 3) := by decide +kernel
theorem dX5_count_196 : decode cX5_count 196 = .ok (.ifCond .eq 7, 3) := by decide +kernel
theorem dX5_count_199 : decode cX5_count 199 = .ok (.iconst 1, 1) := by decide +kernel
theorem dX5_count_200 : decode cX5_count 200 = .ok (.goto 4, 3) := by decide +kernel
theorem dX5_count_203 : decode cX5_count 203 = .ok (.iconst 0, 1) := by decide +kernel
theorem dX5_count_204 : decode cX5_count 204 = .ok (.ireturn, 1) := by decide +kernel
theorem dX5_count_205 : decode cX5_count 205 = .ok (.aload_n 0, 1) := by decide +kernel
theorem dX5_count_206 : decode cX5_count 206 = .ok (.invokevirtual 162, 3) := by decide +kernel
theorem dX5_count_209 : decode cX5_count 209 = .ok (.ireturn, 1) := by decide +kernel
theorem dX5_count_210 : decode cX5_count 210 = .ok (.aload_n 0, 1) := by decide +kernel
theorem dX5_count_211 : decode cX5_count 211 = .ok (.invokevirtual 159, 3) := by decide +kernel
theorem dX5_count_214 : decode cX5_count 214 = .ok (.ireturn, 1) := by decide +kernel
theorem dX5_count_215 : decode cX5_count 215 = .ok (.aload_n 0, 1) := by decide +kernel
theorem dX5_count_216 : decode cX5_count 216 = .ok (.invokevirtual 174, 3) := by decide +kernel
theorem dX5_count_219 : decode cX5_count 219 = .ok (.ireturn, 1) := by decide +kernel
theorem dX5_count_220 : decode cX5_count 220 = .ok (.aload_n 0, 1) := by decide +kernel
theorem dX5_count_221 : decode cX5_count 221 = .ok (.getfield 7, 3) := by decide +kernel
theorem dX5_count_224 : decode cX5_count 224 = .ok (.bipush 35, 2) := by decide +kernel
theorem dX5_count_226 : decode cX5_count 226 = .ok (.iaload, 1) := by decide +kernel
theorem dX5_count_227 : decode cX5_count 227 = .ok (.ireturn, 1) := by decide +kernel
theorem dX5_count_228 : decode cX5_count 228 = .ok (.aload_n 0, 1) := by decide +kernel
theorem dX5_count_229 : decode cX5_count 229 = .ok (.invokevirtual 177, 3) := by decide +kernel
theorem dX5_count_232 : decode cX5_count 232 = .ok (.ireturn, 1) := by decide +kernel
theorem dX5_count_233 : decode cX5_count 233 = .ok (.aload_n 0, 1) := by decide +kernel
theorem dX5_count_234 : decode cX5_count 234 = .ok (.invokevirtual 180, 3) := by decide +kernel
theorem dX5_count_237 : decode cX5_count 237 = .ok (.ireturn, 1) := by decide +kernel
theorem dX5_count_238 : decode cX5_count 238 = .ok (.aload_n 0, 1) := by decide +kernel
theorem dX5_count_239 : decode cX5_count 239 = .ok (.getfield 36, 3) := by decide +kernel
theorem dX5_count_242 : decode cX5_count 242 = .ok (.ireturn, 1) := by decide +kernel
theorem dX5_count_243 : decode cX5_count 243 = .ok (.aload_n 0, 1) := by decide +kernel
theorem dX5_count_244 : decode cX5_count 244 = .ok (.getfield 115, 3) := by decide +kernel
theorem dX5_count_247 : decode cX5_count 247 = .ok (.ireturn, 1) := by decide +kernel
theorem dX5_count_248 : decode cX5_count 248 = .ok (.aload_n 0, 1) := by decide +kernel
theorem dX5_count_249 : decode cX5_count 249 = .ok (.getfield 7, 3) := by decide +kernel
theorem dX5_count_252 : decode cX5_count 252 = .ok (.bipush 24, 2) := by decide +kernel
theorem dX5_count_254 : decode cX5_count 254 = .ok (.iload_n 1, 1) := by decide +kernel
theorem dX5_count_255 : decode cX5_count 255 = .ok (.iadd, 1) := by decide +kernel
theorem dX5_count_256 : decode cX5_count 256 = .ok (.bipush 20, 2) := by decide +kernel
theorem dX5_count_258 : decode cX5_count 258 = .ok (.isub, 1) := by decide +kernel
theorem dX5_count_259 : decode cX5_count 259 = .ok (.iaload, 1) := by decide +kernel
theorem dX5_count_260 : decode cX5_count 260 = .ok (.ireturn, 1) := by decide +kernel
theorem dX5_count_261 : decode cX5_count 261 = .ok (.bipush (-2), 2) := by decide +kernel
theorem dX5_count_263 : decode cX5_count 263 = .ok (.ireturn, 1) := by decide +kernel
theorem dJ9_abs_0f7a4_0 : decode cJ9_abs_0f7a4 0 = .ok (.iload_n 0, 1) := by decide +kernel
theorem dJ9_abs_0f7a4_1 : decode cJ9_abs_0f7a4 1 = .ok (.ifCond .ge 8, 3) := by decide +kernel
theorem dJ9_abs_0f7a4_4 : decode cJ9_abs_0f7a4 4 = .ok (.iload_n 0, 1) := by decide +kernel
theorem dJ9_abs_0f7a4_5 : decode cJ9_abs_0f7a4 5 = .ok (.ineg, 1) := by decide +kernel
theorem dJ9_abs_0f7a4_6 : decode cJ9_abs_0f7a4 6 = .ok (.goto 4, 3) := by decide +kernel
theorem dJ9_abs_0f7a4_9 : decode cJ9_abs_0f7a4 9 = .ok (.iload_n 0, 1) := by decide +kernel
theorem dJ9_abs_0f7a4_10 : decode cJ9_abs_0f7a4 10 = .ok (.ireturn, 1) := by decide +kernel
theorem dJ9_max_7cf53_0 : decode cJ9_max_7cf53 0 = .ok (.iload_n 0, 1) := by decide +kernel
theorem dJ9_max_7cf53_1 : decode cJ9_max_7cf53 1 = .ok (.iload_n 1, 1) := by decide +kernel
theorem dJ9_max_7cf53_2 : decode cJ9_max_7cf53 2 = .ok (.if_icmp .lt 7, 3) := by decide +kernel
theorem dJ9_max_7cf53_5 : decode cJ9_max_7cf53 5 = .ok (.iload_n 0, 1) := by decide +kernel
theorem dJ9_max_7cf53_6 : decode cJ9_max_7cf53 6 = .ok (.goto 4, 3) := by decide +kernel
theorem dJ9_max_7cf53_9 : decode cJ9_max_7cf53 9 = .ok (.iload_n 1, 1) := by decide +kernel
theorem dJ9_max_7cf53_10 : decode cJ9_max_7cf53 10 = .ok (.ireturn, 1) := by decide +kernel
theorem dJ9_min_7cf53_0 : decode cJ9_min_7cf53 0 = .ok (.iload_n 0, 1) := by decide +kernel
theorem dJ9_min_7cf53_1 : decode cJ9_min_7cf53 1 = .ok (.iload_n 1, 1) := by decide +kernel
theorem dJ9_min_7cf53_2 : decode cJ9_min_7cf53 2 = .ok (.if_icmp .gt 7, 3) := by decide +kernel
theorem dJ9_min_7cf53_5 : decode cJ9_min_7cf53 5 = .ok (.iload_n 0, 1) := by decide +kernel
theorem dJ9_min_7cf53_6 : decode cJ9_min_7cf53 6 = .ok (.goto 4, 3) := by decide +kernel
theorem dJ9_min_7cf53_9 : decode cJ9_min_7cf53 9 = .ok (.iload_n 1, 1) := by decide +kernel
theorem dJ9_min_7cf53_10 : decode cJ9_min_7cf53 10 = .ok (.ireturn, 1) := by decide +kernel
theorem dJ7_fill_53178_0 : decode cJ7_fill_53178 0 = .ok (.iconst 0, 1) := by decide +kernel
theorem dJ7_fill_53178_1 : decode cJ7_fill_53178 1 = .ok (.istore_n 2, 1) := by decide +kernel
theorem dJ7_fill_53178_2 : decode cJ7_fill_53178 2 = .ok (.aload_n 0, 1) := by decide +kernel
theorem dJ7_fill_53178_3 : decode cJ7_fill_53178 3 = .ok (.arraylength, 1) := by decide +kernel
theorem dJ7_fill_53178_4 : decode cJ7_fill_53178 4 = .ok (.istore_n 3, 1) := by decide +kernel
theorem dJ7_fill_53178_5 : decode cJ7_fill_53178 5 = .ok (.iload_n 2, 1) := by decide +kernel
theorem dJ7_fill_53178_6 : decode cJ7_fill_53178 6 = .ok (.iload_n 3, 1) := by decide +kernel
theorem dJ7_fill_53178_7 : decode cJ7_fill_53178 7 = .ok (.if_icmp .ge 13, 3) := by decide +kernel
theorem dJ7_fill_53178_10 : decode cJ7_fill_53178 10 = .ok (.aload_n 0, 1) := by decide +kernel
theorem dJ7_fill_53178_11 : decode cJ7_fill_53178 11 = .ok (.iload_n 2, 1) := by decide +kernel
theorem dJ7_fill_53178_12 : decode cJ7_fill_53178 12 = .ok (.iload_n 1, 1) := by decide +kernel
theorem dJ7_fill_53178_13 : decode cJ7_fill_53178 13 = .ok (.iastore, 1) := by decide +kernel
theorem dJ7_fill_53178_14 : decode cJ7_fill_53178 14 = .ok (.iinc 2 1, 3) := by decide +kernel
theorem dJ7_fill_53178_17 : decode cJ7_fill_53178 17 = .ok (.goto (-12), 3) := by decide +kernel
theorem dJ7_fill_53178_20 : decode cJ7_fill_53178 20 = .ok (.return_, 1) := by decide +kernel
end
section
/-! My own layer over the kit: a method's walk as a symbolic state (world, locals, pc, stack). -/
abbrev TT : Type := va_G × ClassId × ClassId × ClassId
abbrev tys (T : TT) : List (ClassId × FieldType) := [(T.2.1, .int), (T.2.2.1, .char), (T.2.2.2, .object RX2)]
abbrev CX : Type := (Program × Launch × Env × Room × State) × (MethodId × Array Value × List Frame × Method × Code) × ((Nat → Prop) × Nat)
abbrev xP (X : CX) : Program := X.1.1
abbrev xL (X : CX) : Launch := X.1.2.1
abbrev xE (X : CX) : Env := X.1.2.2.1
abbrev xR (X : CX) : Room := X.1.2.2.2.1
abbrev xS (X : CX) : State := X.1.2.2.2.2
abbrev xM (X : CX) : MethodId := X.2.1.1
abbrev xAr (X : CX) : Array Value := X.2.1.2.1
abbrev xBl (X : CX) : List Frame := X.2.1.2.2.1
abbrev xMe (X : CX) : Method := X.2.1.2.2.2.1
abbrev xC (X : CX) : Code := X.2.1.2.2.2.2
abbrev xA (X : CX) : Nat → Prop := X.2.2.1
abbrev xB (X : CX) : Nat := X.2.2.2
/-- links between nest mates -/
def nws : List Cond := [.fieldLinkNest RX2 92 "ThreadWinder$Wraps" "laid" "I" "ThreadWinder", .fieldLinkNest RX4 105 "ThreadWinder$Wraps" "laid" "I" "ThreadWinder", .fieldLinkNest RX2 22 "ThreadWinder" "FIRST_NUMBERS" "[I" "ThreadWinder", .fieldLinkNest RX4 102 "ThreadWinder$State" "wraps" "LThreadWinder$Wraps;" "ThreadWinder", .fieldLinkNest RX4 164 "ThreadWinder$State" "coneLeft" "I" "ThreadWinder", .fieldLinkNest RX4 173 "ThreadWinder$State" "warmth" "I" "ThreadWinder", .fieldLinkNest RX4 125 "ThreadWinder$State" "broken" "Z" "ThreadWinder", .fieldLinkNest RX4 176 "ThreadWinder$State" "lastTension" "I" "ThreadWinder", .fieldLinkNest RX4 185 "ThreadWinder$State" "turnsDone" "I" "ThreadWinder", .fieldLinkNest RX4 188 "ThreadWinder$State" "breaks" "I" "ThreadWinder", .fieldLinkNest RX4 191 "ThreadWinder$State" "packagesOff" "I" "ThreadWinder", .fieldLinkNest RX4 194 "ThreadWinder$History" "kept" "I" "ThreadWinder", .fieldLinkNest RX4 197 "ThreadWinder$CommandText" "length" "I" "ThreadWinder", .fieldLinkNest RX4 86 "ThreadWinder$CommandText" "commands" "I" "ThreadWinder", .methodLinkNest RX4 11 yX2_init "ThreadWinder", .methodLinkNest RX2 11 yX3_init "ThreadWinder", .methodLinkNest RX4 24 yX3_init "ThreadWinder", .methodLinkNest RX4 31 yX1_init "ThreadWinder", .methodLinkNest RX1 24 yX2_init "ThreadWinder", .methodLinkNest RX4 38 yX0_init "ThreadWinder", .methodLinkNest RX4 51 yX2_copyFrom "ThreadWinder", .methodLinkNest RX2 59 yX3_copyFrom "ThreadWinder", .methodLinkNest RX4 55 yX2_changeNumber "ThreadWinder", .methodLinkNest RX2 84 yX4_inRange "ThreadWinder", .methodLinkNest RX4 203 yX1_remember "ThreadWinder", .methodLinkNest RX1 29 yX2_copyFrom "ThreadWinder", .methodLinkNest RX4 63 yX2_turnOften "ThreadWinder", .methodLinkNest RX2 143 yX3_isFull "ThreadWinder", .methodLinkNest RX2 98 yX3_guidePlace "ThreadWinder", .methodLinkNest RX2 101 yX3_heightAt "ThreadWinder", .methodLinkNest RX2 104 yX3_layWrap "ThreadWinder", .methodLinkNest RX2 116 yX3_moveGuide "ThreadWinder", .methodLinkNest RX3 37 yX4_oneIf "ThreadWinder", .methodLinkNest RX4 66 yX2_tieKnot "ThreadWinder", .methodLinkNest RX4 70 yX2_changeCone "ThreadWinder", .methodLinkNest RX4 73 yX2_takePackageOff "ThreadWinder", .methodLinkNest RX2 131 yX3_clear "ThreadWinder", .methodLinkNest RX4 76 yX0_append "ThreadWinder", .methodLinkNest RX4 80 yX0_empty "ThreadWinder", .methodLinkNest RX4 83 yX0_read "ThreadWinder", .methodLinkNest RX0 54 yX4_lowest "ThreadWinder", .methodLinkNest RX0 58 yX4_highest "ThreadWinder", .methodLinkNest RX4 89 yX0_commandAt "ThreadWinder", .methodLinkNest RX4 92 yX0_valueAt "ThreadWinder", .methodLinkNest RX4 95 yX2_obey "ThreadWinder", .methodLinkNest RX4 98 yX1_takeLatest "ThreadWinder", .methodLinkNest RX4 108 yX3_heightAt "ThreadWinder", .methodLinkNest RX4 111 yX2_knotsAt "ThreadWinder", .methodLinkNest RX4 114 yX3_isRibbon "ThreadWinder", .methodLinkNest RX4 122 yX2_isBad "ThreadWinder", .methodLinkNest RX4 128 yX2_isConeEmpty "ThreadWinder", .methodLinkNest RX4 132 yX2_hasBadPlace "ThreadWinder", .methodLinkNest RX4 135 yX3_ribbons "ThreadWinder", .methodLinkNest RX4 138 yX3_evenness "ThreadWinder", .methodLinkNest RX4 141 yX2_isIdle "ThreadWinder", .methodLinkNest RX4 144 yX2_turnOnce "ThreadWinder", .methodLinkNest RX4 206 yX3_clear "ThreadWinder", .methodLinkNest RX4 179 yX3_isFull "ThreadWinder", .methodLinkNest RX4 209 yX3_layWrap "ThreadWinder", .methodLinkNest RX4 200 yX2_number "ThreadWinder", .methodLinkNest RX4 212 yX3_moveGuide "ThreadWinder", .methodLinkNest RX4 155 yX3_barePlaces "ThreadWinder", .methodLinkNest RX4 167 yX3_guidePlace "ThreadWinder", .methodLinkNest RX4 170 yX3_guideGoesBack "ThreadWinder", .methodLinkNest RX4 182 yX2_allKnots "ThreadWinder"]
def nK (w : Cond) : Bool := match w with
  | .fieldLinkNest .. => true
  | .methodLinkNest .. => true
  | _ => false
theorem nws_all : nws.all nK = true := by decide +kernel
theorem nK_warm {w : Cond} {s U : State} (hW : s.WarmedH U.vm) (hk : nK w = true) (h : va_Nw w s) : va_Nw w U := by
  cases w <;> first
    | exact va_Nw.warmF hW h
    | exact va_Nw.warmM hW h
    | (exact absurd hk (by decide))
    | (simp [nK] at hk)
def fLowI : Nat → Int32 := fun j => match j with | 0 => 1 | 1 => 0 | 2 => 0 | 3 => 5 | 4 => 10 | 5 => 1 | _ => 1
def fLow : Nat → Value := fun j => .int (fLowI j)
def fHighI : Nat → Int32 := fun j => match j with | 0 => 11 | 1 => 9 | 2 => 5 | 3 => 50 | 4 => 99 | 5 => 500 | _ => 9999
def fHigh : Nat → Value := fun j => .int (fHighI j)
def fFirst : Nat → Int32 := fun j => match j with | 0 => 5 | 1 => 3 | 2 => 0 | 3 => 10 | 4 => 60 | _ => 0
def sTab (n : String) (N : Nat) (f : Nat → Value) (b0 : Nat) (U : State) : Prop := ∃ t : Nat, va_Z RX4 n "[I" (.ref t) (fun q => b0 ≤ q) U U.heap ∧ va_T .int t N f (fun q => b0 ≤ q) U U.heap
theorem sTab_moved {n : String} {N : Nat} {f : Nat → Value} {b0 : Nat} {A : Nat → Prop} {s U : State} {H : Heap} {locs : List Loc} (h : sTab n N f b0 s) (hS : va_S A s.heap H locs) (hA : ∀ q, A q → b0 ≤ q) (hW : s.WarmedH U.vm) (hU : U.heap = H) : sTab n N f b0 U := by
  obtain ⟨t, h1, h2⟩ := h
  have hq : ∀ a : Nat, a < s.heap.size → ¬ (fun q => b0 ≤ q) a → H[a]? = s.heap[a]? := fun a ha hna => hS.2.1 a ha (fun z => hna (hA a z))
  exact ⟨t, by rw [hU]; exact (h1.moved hW.alike).kept hq, by rw [hU]; exact (h2.moved hW.alike).kept hq⟩
def sFirst (T : TT) (b0 : Nat) (U : State) : Prop := ∃ t : Nat, va_Z RX4 "FIRST_NUMBERS" "[I" (.ref t) (fun q => b0 ≤ q) U U.heap ∧ U.heap[t]? = some (vp_cell T.2.1 (5, .inl fFirst)) ∧ t < b0
def EnvOk (T : TT) (b0 : Nat) (U : State) : Prop := (∀ w ∈ nws, va_Nw w U) ∧ sTab "LOWEST" 7 fLow b0 U ∧ sTab "HIGHEST" 7 fHigh b0 U ∧ sFirst T b0 U
theorem EnvOk.moved {T : TT} {b0 : Nat} {A : Nat → Prop} {s U : State} {H : Heap} {locs : List Loc} (h : EnvOk T b0 s) (hS : va_S A s.heap H locs) (hA : ∀ q, A q → b0 ≤ q) (hW : s.WarmedH U.vm) (hU : U.heap = H) : EnvOk T b0 U := by
  obtain ⟨h1, h2, h3, t, h4, h5, h6⟩ := h
  have hq : ∀ a : Nat, a < s.heap.size → ¬ (fun q => b0 ≤ q) a → H[a]? = s.heap[a]? := fun a ha hna => hS.2.1 a ha (fun z => hna (hA a z))
  refine ⟨fun w hw => nK_warm hW (List.all_eq_true.mp nws_all w hw) (h1 w hw), sTab_moved h2 hS hA hW hU, sTab_moved h3 hS hA hW hU, t, by rw [hU]; exact (h4.moved hW.alike).kept hq, ?_, h6⟩
  rw [hU, hq t (Array.getElem?_eq_some_iff.mp h5).1 (by show ¬ b0 ≤ t; omega)]
  exact h5
/-- what a method's body stands on -/
def Fit (T : TT) (X : CX) (own : String) (nL : Nat) (Ts : List Cond) (cc : ByteArray) (ret : Option FieldType) (R : Room) : Prop :=
  (xP X).tables.exec = Jvm.exec ∧ (xC X).code = cc ∧ (xC X).maxLocals = nL ∧ (xS X).vm.findClass own = some (xM X).cls ∧ (∀ w ∈ Ts, w.before (xAr X) (xS X) = true) ∧ va_K T.1 vwCl (tys T) (xS X) ∧ (∀ q, (xS X).heap.size ≤ q → xA X q) ∧ (xMe X).locks = false ∧ EnvOk T (xB X) (xS X) ∧ (∀ q, xA X q → xB X ≤ q) ∧ (xMe X).sig.returnType = ret ∧ xR X = R
/-- the symbolic state: from it the machine comes to Q -/
def G (T : TT) (X : CX) (Q : State → Prop) (cells slots : Nat) (ws : va_W) (lv : List (Nat × Value)) (pc : Nat) (st : List Value) : Prop :=
  ∀ (H : Heap) (locs : List Loc) (ls : Array Slot), va_P T.1 vwCl ws H → va_D (xA X) ws → va_S (xA X) (xS X).heap H locs → lv_has ls (xC X).maxLocals lv → W (xP X) (xL X) (xE X) (xR X) (xS X) (xM X) (xAr X) (xBl X) (xMe X) (xC X) H locs cells slots Q (F0 (xM X) pc ls st)
/-- ends: an int (or nothing) and a world -/
def QI (T : TT) (X : CX) (mc ms : Nat) (rv : Int32) (w1 : va_W) : State → Prop := MQ (xBl X) (va_Qi (fun (r : Int32) (w : va_W) => r = rv ∧ w = w1) (fun w t => va_P T.1 vwCl w t.heap ∧ va_D (xA X) w) (xA X)) (xAr X) (xS X) mc ms (xA X)
def QV (T : TT) (X : CX) (mc ms : Nat) (w1 : va_W) : State → Prop := MQ (xBl X) (va_Qv (fun (w : va_W) => w = w1) (fun w t => va_P T.1 vwCl w t.heap ∧ va_D (xA X) w) (xA X)) (xAr X) (xS X) mc ms (xA X)
def PreC (T : TT) (b0 : Nat) (av : List Value) (w0 : va_W) (sz : Nat) : Array Value → State → Prop := va_Pc av (fun U => U.heap.size = sz ∧ va_P T.1 vwCl w0 U.heap ∧ va_K T.1 vwCl (tys T) U ∧ va_D (fun q => b0 ≤ q) w0 ∧ EnvOk T b0 U)
/-- a method's contract: from the world w0 to the answer rv and the world w1 -/
def ConI (l : Launch) (T : TT) (b0 : Nat) (y : MethodName) (wds : List Cond) (rm : Room) (av : List Value) (w0 : va_W) (rv : Int32) (w1 : va_W) : Prop := ∀ sz : Nat, b0 ≤ sz → Met l y wds rm (PreC T b0 av w0 sz) (va_Qi (fun (r : Int32) (w : va_W) => r = rv ∧ w = w1) (fun w t => va_P T.1 vwCl w t.heap ∧ va_D (va_A w0 sz) w) (va_A w0 sz)) 0 0 (va_A w0 sz)
def ConV (l : Launch) (T : TT) (b0 : Nat) (y : MethodName) (wds : List Cond) (rm : Room) (av : List Value) (w0 : va_W) (w1 : va_W) : Prop := ∀ sz : Nat, b0 ≤ sz → Met l y wds rm (PreC T b0 av w0 sz) (va_Qv (fun (w : va_W) => w = w1) (fun w t => va_P T.1 vwCl w t.heap ∧ va_D (va_A w0 sz) w) (va_A w0 sz)) 0 0 (va_A w0 sz)
/-- a constructor's contract: nc cells of ns slots come; where they lie is not said but by the world -/
def ConC (l : Launch) (T : TT) (b0 : Nat) (y : MethodName) (wds : List Cond) (rm : Room) (av : List Value) (w0 : va_W) (S : Type) (post : S → va_W → Prop) (nc ns : Nat) : Prop := ∀ sz : Nat, b0 ≤ sz → Met l y wds rm (PreC T b0 av w0 sz) (va_Qv (fun (u : S × va_W) => post u.1 u.2) (fun u t => va_P T.1 vwCl u.2 t.heap ∧ va_D (va_A w0 sz) u.2) (va_A w0 sz)) nc ns (va_A w0 sz)
theorem va_D_congr {A : Nat → Prop} {ws ws' : va_W} (h : ws'.map (fun q => q.1) = ws.map (fun q => q.1)) (hD : va_D A ws) : va_D A ws' := by
  have key : ∀ (k : Nat) (q : Nat × va_E), ws'[k]? = some q → ∃ q0, ws[k]? = some q0 ∧ q0.1 = q.1 := by
    intro k q hq
    have h1 : (ws'.map (fun q => q.1))[k]? = some q.1 := by rw [List.getElem?_map, hq]; rfl
    rw [h, List.getElem?_map] at h1
    cases hk : ws[k]? with
    | none => rw [hk] at h1; cases h1
    | some q0 => rw [hk] at h1; exact ⟨q0, rfl, Option.some.inj h1⟩
  refine ⟨fun i j x y hi hj hxy => ?_, fun k q hk => ?_⟩
  · obtain ⟨x0, h1, h2⟩ := key i x hi
    obtain ⟨y0, h3, h4⟩ := key j y hj
    exact hD.1 i j x0 y0 h1 h3 (h2.trans (hxy.trans h4.symm))
  · obtain ⟨q0, h1, h2⟩ := key k q hk
    rw [← h2]
    exact hD.2 k q0 h1
/-- the cells at the places is, replaced by w1 -/
def wput : va_W → List Nat → va_W → va_W
  | ws, i :: is, c :: cs => wput (ws.set i c) is cs
  | ws, _, _ => ws
theorem wput_P {D : va_G} {cl : List vw_C} {H1 : Heap} : ∀ (is : List Nat) (w1 ws : va_W), is.length = w1.length → (∀ (k : Nat) (q : Nat × va_E), ws[k]? = some q → k ∉ is → va_at D cl q H1) → va_P D cl w1 H1 → va_P D cl (wput ws is w1) H1
  | [], [], ws, _, h, _ => fun k q hk => h k q hk (by simp)
  | [], _ :: _, _, hl, _, _ => by simp at hl
  | _ :: _, [], _, hl, _, _ => by simp at hl
  | i :: is, c :: cs, ws, hl, h, hP => by
    refine wput_P is cs (ws.set i c) (by simpa using hl) (fun k q hk hn => ?_) (fun k q hk => hP (k + 1) q (by simpa using hk))
    by_cases hki : k = i
    · subst hki
      by_cases hlt : k < ws.length
      · rw [List.getElem?_set_self hlt] at hk
        cases hk
        exact hP 0 _ rfl
      · rw [List.getElem?_eq_none (by simpa using Nat.not_lt.mp hlt)] at hk
        cases hk
    · rw [List.getElem?_set_ne (Ne.symm hki)] at hk
      exact h k q hk (by simp [hki, hn])
theorem wput_D : ∀ (is : List Nat) (wc w1 ws : va_W), is.map (fun i => ws[i]?) = wc.map some → w1.map (fun q => q.1) = wc.map (fun q => q.1) → va_nd is = true → (wput ws is w1).map (fun q => q.1) = ws.map (fun q => q.1)
  | [], _, [], _, _, _, _ => rfl
  | [], wc, _ :: _, ws, h1, h2, _ => by
    cases wc with
    | nil => simp at h2
    | cons => simp at h1
  | _ :: _, _, [], _, _, _, _ => rfl
  | i :: is, [], c :: cs, ws, h1, h2, _ => by simp at h1
  | i :: is, d :: ds, c :: cs, ws, h1, h2, hn => by
    simp only [List.map_cons, List.cons.injEq] at h1 h2
    simp only [va_nd, Bool.and_eq_true, decide_eq_true_eq] at hn
    have e : (ws.set i c).map (fun q => q.1) = ws.map (fun q => q.1) := by
      apply List.ext_getElem?
      intro j
      by_cases hj : j = i
      · subst hj
        have hl := (List.getElem?_eq_some_iff.mp h1.1).1
        rw [List.getElem?_map, List.getElem?_map, List.getElem?_set_self hl, h1.1]
        simp [h2.1]
      · rw [List.getElem?_map, List.getElem?_map, List.getElem?_set_ne (Ne.symm hj)]
    rw [← e]
    refine wput_D is ds cs (ws.set i c) ?_ h2.2 hn.2
    rw [← h1.2]
    apply List.map_congr_left
    intro j hj
    have hne : i ≠ j := fun z => hn.1 (by rw [z]; exact hj)
    exact List.getElem?_set_ne hne
/-- behind a call, place by place -/
theorem va_back {A0 : Nat → Prop} {D : va_G} {cl : List vw_C} {ws wc w1 : va_W} {H H1 : Heap} (hP : va_P D cl ws H) (hD : va_D A0 ws) (is : List Nat) (hC : is.map (fun i => ws[i]?) = wc.map some) (hA : w1.map (fun q => q.1) = wc.map (fun q => q.1)) (hn : va_nd is = true)
    (hk : ∀ q : Nat, q < H.size → ¬ va_A wc H.size q → H1[q]? = H[q]?) (hP1 : va_P D cl w1 H1) : va_P D cl (wput ws is w1) H1 ∧ va_D A0 (wput ws is w1) := by
  have hlen : is.length = w1.length := by
    have e1 := congrArg List.length hC
    have e2 := congrArg List.length hA
    simp at e1 e2
    omega
  refine ⟨wput_P is w1 ws hlen (fun k q hq hni => ?_) hP1, va_D_congr (wput_D is wc w1 ws hC hA hn) hD⟩
  have hlt := (hP k q hq).lt
  refine (hP k q hq).kept (hk q.1 hlt (fun h => ?_))
  rcases h with ⟨j, e, h⟩ | h
  · have h1 : (is.map (fun i => ws[i]?))[j]? = some (some (q.1, e)) := by rw [hC, List.getElem?_map, h]; rfl
    rw [List.getElem?_map] at h1
    cases hi : is[j]? with
    | none => rw [hi] at h1; cases h1
    | some i =>
      rw [hi] at h1
      have h2 : ws[i]? = some (q.1, e) := Option.some.inj h1
      have := hD.1 k i q (q.1, e) hq h2 rfl
      subst this
      exact hni (List.mem_of_getElem? hi)
  · omega
theorem va_sub {D : va_G} {cl : List vw_C} {ws wc : va_W} {H : Heap} (hP : va_P D cl ws H) (is : List Nat) (hC : is.map (fun i => ws[i]?) = wc.map some) : va_P D cl wc H := by
  intro k q hk
  have h1 : (is.map (fun i => ws[i]?))[k]? = some (some q) := by rw [hC, List.getElem?_map, hk]; rfl
  rw [List.getElem?_map] at h1
  cases hi : is[k]? with
  | none => rw [hi] at h1; cases h1
  | some i => rw [hi] at h1; exact hP i q (Option.some.inj h1)
end
section
section GR
variable {T : TT} {X : CX} {own : String} {nL : Nat} {Ts : List Cond} {cc : ByteArray} {ret : Option FieldType} {R : Room} {Q : State → Prop} {cells slots : Nat} {ws : va_W} {lv : List (Nat × Value)} {pc : Nat} {st : List Value}
theorem g_cast {ws' : va_W} (h : ws = ws') (k : G T X Q cells slots ws' lv pc st) : G T X Q cells slots ws lv pc st := by rw [h]; exact k
theorem g_lv {lv' : List (Nat × Value)} (ks : List Nat) (h : lv_pick lv ks = lv') (k : G T X Q cells slots ws lv' pc st) : G T X Q cells slots ws lv pc st :=
  fun H locs ls hP hD hS hl => k H locs ls hP hD hS (lv_sub hl ks h)
theorem g_topi {x : Int32} (k : ∀ y : Int32, y = x → G T X Q cells slots ws lv pc (.int y :: st)) : G T X Q cells slots ws lv pc (.int x :: st) := k x rfl
theorem g_pc {pc' : Nat} (h : pc = pc') (k : G T X Q cells slots ws lv pc' st) : G T X Q cells slots ws lv pc st := by rw [h]; exact k
theorem g_iconst (hX : Fit T X own nL Ts cc ret R) {n : Int} {v : Int32} (hdg : decode cc pc = .ok (.iconst n, 1)) (hv : Int32.ofInt n = v) (k : G T X Q cells slots ws lv (pc + 1) (.int v :: st)) : G T X Q cells slots ws lv pc (st) := fun H locs ls hP hD hS hl => lv_iconst hX.1 hX.2.1 hdg hv (k H locs ls hP hD hS hl)
theorem g_bipush (hX : Fit T X own nL Ts cc ret R) {n : Int} {v : Int32} (hdg : decode cc pc = .ok (.bipush n, 2)) (hv : (Int8.ofInt n).toInt32 = v) (k : G T X Q cells slots ws lv (pc + 2) (.int v :: st)) : G T X Q cells slots ws lv pc (st) := fun H locs ls hP hD hS hl => lv_bipush hX.1 hX.2.1 hdg hv (k H locs ls hP hD hS hl)
theorem g_sipush (hX : Fit T X own nL Ts cc ret R) {n : Int} {v : Int32} (hdg : decode cc pc = .ok (.sipush n, 3)) (hv : (Int16.ofInt n).toInt32 = v) (k : G T X Q cells slots ws lv (pc + 3) (.int v :: st)) : G T X Q cells slots ws lv pc (st) := fun H locs ls hP hD hS hl => lv_sipush hX.1 hX.2.1 hdg hv (k H locs ls hP hD hS hl)
theorem g_lconst (hX : Fit T X own nL Ts cc ret R) {n : Fin 2} {v : Int64} (hdg : decode cc pc = .ok (.lconst n, 1)) (hv : Int64.ofNat (n : Nat) = v) (k : G T X Q cells slots ws lv (pc + 1) (.long v :: st)) : G T X Q cells slots ws lv pc (st) := fun H locs ls hP hD hS hl => lv_lconst hX.1 hX.2.1 hdg hv (k H locs ls hP hD hS hl)
theorem g_iload_n (hX : Fit T X own nL Ts cc ret R) {n : Fin 4} {i : Nat} {x : Int32} (hdg : decode cc pc = .ok (.iload_n n, 1)) (hi : (n : Nat) = i) (j : Nat) (hj : lv[j]? = some (i, .int x)) (k : G T X Q cells slots ws lv (pc + 1) (.int x :: st)) : G T X Q cells slots ws lv pc (st) := fun H locs ls hP hD hS hl => lv_iload_n hX.1 hX.2.1 hdg hi (lv_at hl j hj) (k H locs ls hP hD hS hl)
theorem g_iload (hX : Fit T X own nL Ts cc ret R) {i : Nat} {x : Int32} (hdg : decode cc pc = .ok (.iload i, 2)) (j : Nat) (hj : lv[j]? = some (i, .int x)) (k : G T X Q cells slots ws lv (pc + 2) (.int x :: st)) : G T X Q cells slots ws lv pc (st) := fun H locs ls hP hD hS hl => lv_iload hX.1 hX.2.1 hdg (lv_at hl j hj) (k H locs ls hP hD hS hl)
theorem g_lload_n (hX : Fit T X own nL Ts cc ret R) {n : Fin 4} {i : Nat} {x : Int64} (hdg : decode cc pc = .ok (.lload_n n, 1)) (hi : (n : Nat) = i) (j : Nat) (hj : lv[j]? = some (i, .long x)) (k : G T X Q cells slots ws lv (pc + 1) (.long x :: st)) : G T X Q cells slots ws lv pc (st) := fun H locs ls hP hD hS hl => lv_lload_n hX.1 hX.2.1 hdg hi (lv_at hl j hj) (k H locs ls hP hD hS hl)
theorem g_lload (hX : Fit T X own nL Ts cc ret R) {i : Nat} {x : Int64} (hdg : decode cc pc = .ok (.lload i, 2)) (j : Nat) (hj : lv[j]? = some (i, .long x)) (k : G T X Q cells slots ws lv (pc + 2) (.long x :: st)) : G T X Q cells slots ws lv pc (st) := fun H locs ls hP hD hS hl => lv_lload hX.1 hX.2.1 hdg (lv_at hl j hj) (k H locs ls hP hD hS hl)
theorem g_aload_n (hX : Fit T X own nL Ts cc ret R) {n : Fin 4} {i : Nat} {x : Nat} (hdg : decode cc pc = .ok (.aload_n n, 1)) (hi : (n : Nat) = i) (j : Nat) (hj : lv[j]? = some (i, .ref x)) (k : G T X Q cells slots ws lv (pc + 1) (.ref x :: st)) : G T X Q cells slots ws lv pc (st) := fun H locs ls hP hD hS hl => lv_aload_n hX.1 hX.2.1 hdg hi (lv_at hl j hj) (k H locs ls hP hD hS hl)
theorem g_iadd (hX : Fit T X own nL Ts cc ret R) {x y : Int32} (hdg : decode cc pc = .ok (.iadd, 1))  (k : G T X Q cells slots ws lv (pc + 1) (.int (x + y) :: st)) : G T X Q cells slots ws lv pc (.int y :: .int x :: st) := fun H locs ls hP hD hS hl => lv_iadd hX.1 hX.2.1 hdg (k H locs ls hP hD hS hl)
theorem g_isub (hX : Fit T X own nL Ts cc ret R) {x y : Int32} (hdg : decode cc pc = .ok (.isub, 1))  (k : G T X Q cells slots ws lv (pc + 1) (.int (x - y) :: st)) : G T X Q cells slots ws lv pc (.int y :: .int x :: st) := fun H locs ls hP hD hS hl => lv_isub hX.1 hX.2.1 hdg (k H locs ls hP hD hS hl)
theorem g_imul (hX : Fit T X own nL Ts cc ret R) {x y : Int32} (hdg : decode cc pc = .ok (.imul, 1))  (k : G T X Q cells slots ws lv (pc + 1) (.int (x * y) :: st)) : G T X Q cells slots ws lv pc (.int y :: .int x :: st) := fun H locs ls hP hD hS hl => lv_imul hX.1 hX.2.1 hdg (k H locs ls hP hD hS hl)
theorem g_iand (hX : Fit T X own nL Ts cc ret R) {x y : Int32} (hdg : decode cc pc = .ok (.iand, 1))  (k : G T X Q cells slots ws lv (pc + 1) (.int (x &&& y) :: st)) : G T X Q cells slots ws lv pc (.int y :: .int x :: st) := fun H locs ls hP hD hS hl => lv_iand hX.1 hX.2.1 hdg (k H locs ls hP hD hS hl)
theorem g_idiv (hX : Fit T X own nL Ts cc ret R) {x y : Int32} (hdg : decode cc pc = .ok (.idiv, 1)) (hne : ¬ y = 0) (k : G T X Q cells slots ws lv (pc + 1) (.int (x / y) :: st)) : G T X Q cells slots ws lv pc (.int y :: .int x :: st) := fun H locs ls hP hD hS hl => lv_idiv hX.1 hX.2.1 hdg hne (k H locs ls hP hD hS hl)
theorem g_irem (hX : Fit T X own nL Ts cc ret R) {x y : Int32} (hdg : decode cc pc = .ok (.irem, 1)) (hne : ¬ y = 0) (k : G T X Q cells slots ws lv (pc + 1) (.int (x - x / y * y) :: st)) : G T X Q cells slots ws lv pc (.int y :: .int x :: st) := fun H locs ls hP hD hS hl => lv_irem hX.1 hX.2.1 hdg hne (k H locs ls hP hD hS hl)
theorem g_ineg (hX : Fit T X own nL Ts cc ret R) {x : Int32} (hdg : decode cc pc = .ok (.ineg, 1))  (k : G T X Q cells slots ws lv (pc + 1) (.int (0 - x) :: st)) : G T X Q cells slots ws lv pc (.int x :: st) := fun H locs ls hP hD hS hl => lv_ineg hX.1 hX.2.1 hdg (k H locs ls hP hD hS hl)
theorem g_i2l (hX : Fit T X own nL Ts cc ret R) {x : Int32} {v : Int64} (hdg : decode cc pc = .ok (.i2l, 1)) (hv : x.toInt64 = v) (k : G T X Q cells slots ws lv (pc + 1) (.long v :: st)) : G T X Q cells slots ws lv pc (.int x :: st) := fun H locs ls hP hD hS hl => lv_i2l hX.1 hX.2.1 hdg hv (k H locs ls hP hD hS hl)
theorem g_i2c (hX : Fit T X own nL Ts cc ret R) {x v : Int32} (hdg : decode cc pc = .ok (.i2c, 1)) (hv : (x.toUInt32 % 65536).toInt32 = v) (k : G T X Q cells slots ws lv (pc + 1) (.int v :: st)) : G T X Q cells slots ws lv pc (.int x :: st) := fun H locs ls hP hD hS hl => lv_i2c hX.1 hX.2.1 hdg hv (k H locs ls hP hD hS hl)
theorem g_lcmp (hX : Fit T X own nL Ts cc ret R) {x y : Int64} (hdg : decode cc pc = .ok (.lcmp, 1))  (k : G T X Q cells slots ws lv (pc + 1) (.int (lg_cmp x y) :: st)) : G T X Q cells slots ws lv pc (.long y :: .long x :: st) := fun H locs ls hP hD hS hl => W.lcmp hX.1 hX.2.1 hdg (k H locs ls hP hD hS hl)
theorem g_dup (hX : Fit T X own nL Ts cc ret R) {va : Value} (hdg : decode cc pc = .ok (.dup, 1)) (hva : va.category = 1) (k : G T X Q cells slots ws lv (pc + 1) (va :: va :: st)) : G T X Q cells slots ws lv pc (va :: st) := fun H locs ls hP hD hS hl => lv_dup hX.1 hX.2.1 hdg hva (k H locs ls hP hD hS hl)
theorem g_dup2 (hX : Fit T X own nL Ts cc ret R) {va vb : Value} (hdg : decode cc pc = .ok (.dup2, 1)) (hva : va.category = 1) (hvb : vb.category = 1) (k : G T X Q cells slots ws lv (pc + 1) (va :: vb :: va :: vb :: st)) : G T X Q cells slots ws lv pc (va :: vb :: st) := fun H locs ls hP hD hS hl => lv_dup2_11 hX.1 hX.2.1 hdg hva hvb (k H locs ls hP hD hS hl)
theorem g_null (hX : Fit T X own nL Ts cc ret R)  (hdg : decode cc pc = .ok (.aconst_null, 1))  (k : G T X Q cells slots ws lv (pc + 1) (.null :: st)) : G T X Q cells slots ws lv pc (st) := fun H locs ls hP hD hS hl => lv_null hX.1 hX.2.1 hdg (k H locs ls hP hD hS hl)
theorem g_ldc (hX : Fit T X own nL Ts cc ret R) {index : Nat} {v : Int32} (hc : Cond.constant own index v ∈ Ts) (hdg : decode cc pc = .ok (.ldc index, 2)) (k : G T X Q cells slots ws lv (pc + 2) (.int v :: st)) : G T X Q cells slots ws lv pc st := fun H locs ls hP hD hS hl => lv_ldc hX.1 hX.2.1 hX.2.2.2.1 (hX.2.2.2.2.1 _ hc) hdg (k H locs ls hP hD hS hl)
theorem g_ldc2 (hX : Fit T X own nL Ts cc ret R) {index : Nat} {v : Int64} (hc : Cond.constantLong own index v ∈ Ts) (hdg : decode cc pc = .ok (.ldc2_w index, 3)) (k : G T X Q cells slots ws lv (pc + 3) (.long v :: st)) : G T X Q cells slots ws lv pc st := fun H locs ls hP hD hS hl => lv_ldc2 hX.1 hX.2.1 hX.2.2.2.1 (hX.2.2.2.2.1 _ hc) hdg (k H locs ls hP hD hS hl)
theorem g_if_eq (hX : Fit T X own nL Ts cc ret R) {x : Int32} {off : Int} (tgt : Nat) (hdg : decode cc pc = .ok (.ifCond .eq off, 3)) (ht : (pc : Int) + off = (tgt : Int)) (kt : x = 0 → G T X Q cells slots ws lv tgt st) (kf : ¬ x = 0 → G T X Q cells slots ws lv (pc + 3) st) : G T X Q cells slots ws lv pc (.int x :: st) := fun H locs ls hP hD hS hl => lv_if_eq hX.1 hX.2.1 hdg ht (fun q => kt q H locs ls hP hD hS hl) (fun q => kf q H locs ls hP hD hS hl)
theorem g_if_ne (hX : Fit T X own nL Ts cc ret R) {x : Int32} {off : Int} (tgt : Nat) (hdg : decode cc pc = .ok (.ifCond .ne off, 3)) (ht : (pc : Int) + off = (tgt : Int)) (kt : ¬ x = 0 → G T X Q cells slots ws lv tgt st) (kf : x = 0 → G T X Q cells slots ws lv (pc + 3) st) : G T X Q cells slots ws lv pc (.int x :: st) := fun H locs ls hP hD hS hl => lv_if_ne hX.1 hX.2.1 hdg ht (fun q => kt q H locs ls hP hD hS hl) (fun q => kf q H locs ls hP hD hS hl)
theorem g_if_lt (hX : Fit T X own nL Ts cc ret R) {x : Int32} {off : Int} (tgt : Nat) (hdg : decode cc pc = .ok (.ifCond .lt off, 3)) (ht : (pc : Int) + off = (tgt : Int)) (kt : x < 0 → G T X Q cells slots ws lv tgt st) (kf : ¬ x < 0 → G T X Q cells slots ws lv (pc + 3) st) : G T X Q cells slots ws lv pc (.int x :: st) := fun H locs ls hP hD hS hl => lv_if_lt hX.1 hX.2.1 hdg ht (fun q => kt q H locs ls hP hD hS hl) (fun q => kf q H locs ls hP hD hS hl)
theorem g_if_ge (hX : Fit T X own nL Ts cc ret R) {x : Int32} {off : Int} (tgt : Nat) (hdg : decode cc pc = .ok (.ifCond .ge off, 3)) (ht : (pc : Int) + off = (tgt : Int)) (kt : 0 ≤ x → G T X Q cells slots ws lv tgt st) (kf : ¬ 0 ≤ x → G T X Q cells slots ws lv (pc + 3) st) : G T X Q cells slots ws lv pc (.int x :: st) := fun H locs ls hP hD hS hl => lv_if_ge hX.1 hX.2.1 hdg ht (fun q => kt q H locs ls hP hD hS hl) (fun q => kf q H locs ls hP hD hS hl)
theorem g_if_gt (hX : Fit T X own nL Ts cc ret R) {x : Int32} {off : Int} (tgt : Nat) (hdg : decode cc pc = .ok (.ifCond .gt off, 3)) (ht : (pc : Int) + off = (tgt : Int)) (kt : 0 < x → G T X Q cells slots ws lv tgt st) (kf : ¬ 0 < x → G T X Q cells slots ws lv (pc + 3) st) : G T X Q cells slots ws lv pc (.int x :: st) := fun H locs ls hP hD hS hl => lv_if_gt hX.1 hX.2.1 hdg ht (fun q => kt q H locs ls hP hD hS hl) (fun q => kf q H locs ls hP hD hS hl)
theorem g_if_le (hX : Fit T X own nL Ts cc ret R) {x : Int32} {off : Int} (tgt : Nat) (hdg : decode cc pc = .ok (.ifCond .le off, 3)) (ht : (pc : Int) + off = (tgt : Int)) (kt : x ≤ 0 → G T X Q cells slots ws lv tgt st) (kf : ¬ x ≤ 0 → G T X Q cells slots ws lv (pc + 3) st) : G T X Q cells slots ws lv pc (.int x :: st) := fun H locs ls hP hD hS hl => lv_if_le hX.1 hX.2.1 hdg ht (fun q => kt q H locs ls hP hD hS hl) (fun q => kf q H locs ls hP hD hS hl)
theorem g_icmp_eq (hX : Fit T X own nL Ts cc ret R) {x y : Int32} {off : Int} (tgt : Nat) (hdg : decode cc pc = .ok (.if_icmp .eq off, 3)) (ht : (pc : Int) + off = (tgt : Int)) (kt : x = y → G T X Q cells slots ws lv tgt st) (kf : ¬ x = y → G T X Q cells slots ws lv (pc + 3) st) : G T X Q cells slots ws lv pc (.int y :: .int x :: st) := fun H locs ls hP hD hS hl => lv_icmp_eq hX.1 hX.2.1 hdg ht (fun q => kt q H locs ls hP hD hS hl) (fun q => kf q H locs ls hP hD hS hl)
theorem g_icmp_ne (hX : Fit T X own nL Ts cc ret R) {x y : Int32} {off : Int} (tgt : Nat) (hdg : decode cc pc = .ok (.if_icmp .ne off, 3)) (ht : (pc : Int) + off = (tgt : Int)) (kt : ¬ x = y → G T X Q cells slots ws lv tgt st) (kf : x = y → G T X Q cells slots ws lv (pc + 3) st) : G T X Q cells slots ws lv pc (.int y :: .int x :: st) := fun H locs ls hP hD hS hl => lv_icmp_ne hX.1 hX.2.1 hdg ht (fun q => kt q H locs ls hP hD hS hl) (fun q => kf q H locs ls hP hD hS hl)
theorem g_icmp_lt (hX : Fit T X own nL Ts cc ret R) {x y : Int32} {off : Int} (tgt : Nat) (hdg : decode cc pc = .ok (.if_icmp .lt off, 3)) (ht : (pc : Int) + off = (tgt : Int)) (kt : x < y → G T X Q cells slots ws lv tgt st) (kf : ¬ x < y → G T X Q cells slots ws lv (pc + 3) st) : G T X Q cells slots ws lv pc (.int y :: .int x :: st) := fun H locs ls hP hD hS hl => lv_icmp_lt hX.1 hX.2.1 hdg ht (fun q => kt q H locs ls hP hD hS hl) (fun q => kf q H locs ls hP hD hS hl)
theorem g_icmp_ge (hX : Fit T X own nL Ts cc ret R) {x y : Int32} {off : Int} (tgt : Nat) (hdg : decode cc pc = .ok (.if_icmp .ge off, 3)) (ht : (pc : Int) + off = (tgt : Int)) (kt : y ≤ x → G T X Q cells slots ws lv tgt st) (kf : ¬ y ≤ x → G T X Q cells slots ws lv (pc + 3) st) : G T X Q cells slots ws lv pc (.int y :: .int x :: st) := fun H locs ls hP hD hS hl => lv_icmp_ge hX.1 hX.2.1 hdg ht (fun q => kt q H locs ls hP hD hS hl) (fun q => kf q H locs ls hP hD hS hl)
theorem g_icmp_gt (hX : Fit T X own nL Ts cc ret R) {x y : Int32} {off : Int} (tgt : Nat) (hdg : decode cc pc = .ok (.if_icmp .gt off, 3)) (ht : (pc : Int) + off = (tgt : Int)) (kt : y < x → G T X Q cells slots ws lv tgt st) (kf : ¬ y < x → G T X Q cells slots ws lv (pc + 3) st) : G T X Q cells slots ws lv pc (.int y :: .int x :: st) := fun H locs ls hP hD hS hl => lv_icmp_gt hX.1 hX.2.1 hdg ht (fun q => kt q H locs ls hP hD hS hl) (fun q => kf q H locs ls hP hD hS hl)
theorem g_icmp_le (hX : Fit T X own nL Ts cc ret R) {x y : Int32} {off : Int} (tgt : Nat) (hdg : decode cc pc = .ok (.if_icmp .le off, 3)) (ht : (pc : Int) + off = (tgt : Int)) (kt : x ≤ y → G T X Q cells slots ws lv tgt st) (kf : ¬ x ≤ y → G T X Q cells slots ws lv (pc + 3) st) : G T X Q cells slots ws lv pc (.int y :: .int x :: st) := fun H locs ls hP hD hS hl => lv_icmp_le hX.1 hX.2.1 hdg ht (fun q => kt q H locs ls hP hD hS hl) (fun q => kf q H locs ls hP hD hS hl)
theorem g_goto (hX : Fit T X own nL Ts cc ret R) {off : Int} (tgt : Nat) (hdg : decode cc pc = .ok (.goto off, 3)) (ht : (pc : Int) + off = (tgt : Int)) (k : G T X Q cells slots ws lv tgt st) : G T X Q cells slots ws lv pc st := fun H locs ls hP hD hS hl => lv_goto hX.1 hX.2.1 hdg ht (k H locs ls hP hD hS hl)
theorem g_ifnonnull (hX : Fit T X own nL Ts cc ret R) {x : Nat} {off : Int} (tgt : Nat) (hdg : decode cc pc = .ok (.ifnonnull off, 3)) (ht : (pc : Int) + off = (tgt : Int)) (k : G T X Q cells slots ws lv tgt st) : G T X Q cells slots ws lv pc (.ref x :: st) := fun H locs ls hP hD hS hl => lv_ifnonnull hX.1 hX.2.1 hdg ht (k H locs ls hP hD hS hl)
theorem g_ifnull (hX : Fit T X own nL Ts cc ret R) {x : Nat} {off : Int} (hdg : decode cc pc = .ok (.ifnull off, 3)) (k : G T X Q cells slots ws lv (pc + 3) st) : G T X Q cells slots ws lv pc (.ref x :: st) := fun H locs ls hP hD hS hl => lv_ifnull hX.1 hX.2.1 hdg (k H locs ls hP hD hS hl)
theorem g_tabOut (hX : Fit T X own nL Ts cc ret R) {dflt lo hi : Int} {offs : Array Int} {len : Nat} {x : Int32} (tgt : Nat) (hdg : decode cc pc = .ok (.tableswitch dflt lo hi offs, len)) (h : x.toInt < lo ∨ hi < x.toInt) (ht : (pc : Int) + dflt = (tgt : Int)) (k : G T X Q cells slots ws lv tgt st) : G T X Q cells slots ws lv pc (.int x :: st) := fun H locs ls hP hD hS hl => lv_tableOut hX.1 hX.2.1 hdg h ht (k H locs ls hP hD hS hl)
theorem g_tabIn (hX : Fit T X own nL Ts cc ret R) {dflt lo hi : Int} {offs : Array Int} {len : Nat} {x : Int32} {off : Int} (tgt : Nat) (hdg : decode cc pc = .ok (.tableswitch dflt lo hi offs, len)) (h1 : ¬ x.toInt < lo) (h2 : ¬ hi < x.toInt) (ho : offs[(x.toInt - lo).toNat]? = some off) (ht : (pc : Int) + off = (tgt : Int)) (k : G T X Q cells slots ws lv tgt st) : G T X Q cells slots ws lv pc (.int x :: st) := fun H locs ls hP hD hS hl => lv_tableIn hX.1 hX.2.1 hdg h1 h2 ho ht (k H locs ls hP hD hS hl)
theorem g_tabDef (hX : Fit T X own nL Ts cc ret R) {dflt lo hi : Int} {offs : Array Int} {len : Nat} {x : Int32} (tgt : Nat) (hdg : decode cc pc = .ok (.tableswitch dflt lo hi offs, len)) (h : x.toInt < lo ∨ hi < x.toInt ∨ offs[(x.toInt - lo).toNat]? = some dflt) (ht : (pc : Int) + dflt = (tgt : Int)) (k : G T X Q cells slots ws lv tgt st) : G T X Q cells slots ws lv pc (.int x :: st) := by
  by_cases h1 : x.toInt < lo
  · exact g_tabOut hX tgt hdg (Or.inl h1) ht k
  · by_cases h2 : hi < x.toInt
    · exact g_tabOut hX tgt hdg (Or.inr h2) ht k
    · exact g_tabIn hX tgt hdg h1 h2 (h.elim (fun z => absurd z h1) (fun z => z.elim (fun z => absurd z h2) (fun z => z))) ht k
theorem g_istore_n (hX : Fit T X own nL Ts cc ret R) {n : Fin 4} {i : Nat} {x : Int32} {lv' : List (Nat × Value)} (hdg : decode cc pc = .ok (.istore_n n, 1)) (hi : (n : Nat) = i) (hn : i < nL) (hl' : (i, Value.int x) :: lv.filter (fun q => !(q.1 == i) && !(q.1 + 1 == i && q.2.category == 2)) = lv') (k : G T X Q cells slots ws lv' (pc + 1) st) : G T X Q cells slots ws lv pc (.int x :: st) := fun H locs ls hP hD hS hl => lv_istore_n hX.1 hX.2.1 hdg hi hl (by rw [hX.2.2.1]; exact hn) hl' (fun ls2 hl2 => k H locs ls2 hP hD hS hl2)
theorem g_astore_n (hX : Fit T X own nL Ts cc ret R) {n : Fin 4} {i : Nat} {x : Nat} {lv' : List (Nat × Value)} (hdg : decode cc pc = .ok (.astore_n n, 1)) (hi : (n : Nat) = i) (hn : i < nL) (hl' : (i, Value.ref x) :: lv.filter (fun q => !(q.1 == i) && !(q.1 + 1 == i && q.2.category == 2)) = lv') (k : G T X Q cells slots ws lv' (pc + 1) st) : G T X Q cells slots ws lv pc (.ref x :: st) := fun H locs ls hP hD hS hl => lv_astore_n hX.1 hX.2.1 hdg hi hl (by rw [hX.2.2.1]; exact hn) hl' (fun ls2 hl2 => k H locs ls2 hP hD hS hl2)
theorem g_istore (hX : Fit T X own nL Ts cc ret R) {i : Nat} {x : Int32} {lv' : List (Nat × Value)} (hdg : decode cc pc = .ok (.istore i, 2)) (hn : i < nL) (hl' : (i, Value.int x) :: lv.filter (fun q => !(q.1 == i) && !(q.1 + 1 == i && q.2.category == 2)) = lv') (k : G T X Q cells slots ws lv' (pc + 2) st) : G T X Q cells slots ws lv pc (.int x :: st) := fun H locs ls hP hD hS hl => lv_istore hX.1 hX.2.1 hdg hl (by rw [hX.2.2.1]; exact hn) hl' (fun ls2 hl2 => k H locs ls2 hP hD hS hl2)
theorem g_iinc (hX : Fit T X own nL Ts cc ret R) {i : Nat} (j : Nat) {n : Int} {x v : Int32} {lv' : List (Nat × Value)} (hdg : decode cc pc = .ok (.iinc i n, 3)) (hj : lv[j]? = some (i, .int x)) (hv : x + Int32.ofInt n = v) (hn : i < nL) (hl' : (i, Value.int v) :: lv.filter (fun q => !(q.1 == i) && !(q.1 + 1 == i && q.2.category == 2)) = lv') (k : G T X Q cells slots ws lv' (pc + 3) st) : G T X Q cells slots ws lv pc st := fun H locs ls hP hD hS hl => lv_iinc hX.1 hX.2.1 hdg hl hj hv (by rw [hX.2.2.1]; exact hn) hl' (fun ls2 hl2 => k H locs ls2 hP hD hS hl2)
theorem g_get (hX : Fit T X own nL Ts cc ret R) {C : String} {U : u_T} {N : Nat} (ci : Nat) {index a : Nat} (hin : ∀ w ∈ u_ws C U N, w ∈ Ts) (q0 : Nat) {fs : List Value} (he : ws[q0]? = some (a, .inr (ci, fs))) (hc : vwCl[ci]? = some (C, U, N)) (f : Nat) (hf : f < N) (hlink : Cond.fieldLink own index C (U f).2.1 (U f).2.2.1 ∈ Ts) (hown : (U f).1 = C) {v : Value} (hv : fs[f]? = some v) (hdg : decode cc pc = .ok (.getfield index, 3)) (k : G T X Q cells slots ws lv (pc + 3) (v :: st)) : G T X Q cells slots ws lv pc (.ref a :: st) := fun H locs ls hP hD hS hl => va_get (D := T.1) hX.1 hX.2.1 hX.2.2.2.2.1 hin hX.2.2.2.1 hX.2.2.2.2.2.1 hP q0 he hc f hf (hX.2.2.2.2.1 _ hlink) (fun _ h9 => by rw [hown] at h9; exact h9) hv hdg (k H locs ls hP hD hS hl)
theorem g_getN (hX : Fit T X own nL Ts cc ret R) {C : String} {U : u_T} {N : Nat} (ci : Nat) {index a : Nat} (hin : ∀ w ∈ u_ws C U N, w ∈ Ts) (q0 : Nat) {fs : List Value} (he : ws[q0]? = some (a, .inr (ci, fs))) (hc : vwCl[ci]? = some (C, U, N)) (f : Nat) (hf : f < N) (nk : Nat) {host : String} (hlink : nws[nk]? = some (Cond.fieldLinkNest own index C (U f).2.1 (U f).2.2.1 host)) (hown : (U f).1 = C) {v : Value} (hv : fs[f]? = some v) (hdg : decode cc pc = .ok (.getfield index, 3)) (k : G T X Q cells slots ws lv (pc + 3) (v :: st)) : G T X Q cells slots ws lv pc (.ref a :: st) := fun H locs ls hP hD hS hl => va_getN (D := T.1) hX.1 hX.2.1 hX.2.2.2.2.1 hin hX.2.2.2.1 hX.2.2.2.2.2.1 hP q0 he hc f hf (va_Nw.use rfl (hX.2.2.2.2.2.2.2.2.1.1 _ (List.mem_of_getElem? hlink))) (fun _ h9 => by rw [hown] at h9; exact h9) hv hdg (k H locs ls hP hD hS hl)
theorem g_put (hX : Fit T X own nL Ts cc ret R) {C : String} {U : u_T} {N : Nat} (ci : Nat) {index a : Nat} (hin : ∀ w ∈ u_ws C U N, w ∈ Ts) (q0 : Nat) {fs : List Value} (he : ws[q0]? = some (a, .inr (ci, fs))) (hc : vwCl[ci]? = some (C, U, N)) (f : Nat) (hf : f < N) (ty0 : Nat → FieldType) (hty : ∀ k, k < N → parseFieldDescriptor (U k).2.2.1 = some (ty0 k)) (hnm : ∀ a, a < N → ∀ b, b < N → a ≠ b → (U a).2.1 ≠ (U b).2.1) (hlink : Cond.fieldLink own index C (U f).2.1 (U f).2.2.1 ∈ Ts) (hown : (U f).1 = C) (hfin : (U f).2.2.2 = false) {ty : FieldType} {v : Value} (hd : ty0 f = ty) (hn : narrow ty v = v) (hfit : fits ty v = true) (hlen : f < fs.length) (hdg : decode cc pc = .ok (.putfield index, 3)) {ws' : va_W} (hw : ws.set q0 (a, .inr (ci, fs.set f v)) = ws') (k : G T X Q cells slots ws' lv (pc + 3) st) : G T X Q cells slots ws lv pc (v :: .ref a :: st) := by
  subst hw
  exact fun H locs ls hP hD hS hl => va_put (D := T.1) hX.1 hX.2.1 hX.2.2.2.2.1 hin ty0 hty hnm hX.2.2.2.1 hX.2.2.2.2.2.1 hP hD hS q0 he hc f hf (hX.2.2.2.2.1 _ hlink) (fun _ h9 => by rw [hown] at h9; exact h9) hfin (by rw [hty f hf, hd]) hn hfit hlen hdg (fun H1 locs1 hP1 hD1 hS1 => k H1 locs1 ls hP1 hD1 hS1 hl)
theorem g_putF (hX : Fit T X own nL Ts cc ret R) {C : String} {U : u_T} {N : Nat} (ci : Nat) {index a : Nat} (hin : ∀ w ∈ u_ws C U N, w ∈ Ts) (q0 : Nat) {fs : List Value} (he : ws[q0]? = some (a, .inr (ci, fs))) (hc : vwCl[ci]? = some (C, U, N)) (f : Nat) (hf : f < N) (ty0 : Nat → FieldType) (hty : ∀ k, k < N → parseFieldDescriptor (U k).2.2.1 = some (ty0 k)) (hnm : ∀ a, a < N → ∀ b, b < N → a ≠ b → (U a).2.1 ≠ (U b).2.1) (hlink : Cond.fieldLink own index C (U f).2.1 (U f).2.2.1 ∈ Ts) (hown : (U f).1 = C) (hfin : (U f).2.2.2 = true) (hinit : (xMe X).name = "<init>") (hdecl : C = own) {ty : FieldType} {v : Value} (hd : ty0 f = ty) (hn : narrow ty v = v) (hfit : fits ty v = true) (hlen : f < fs.length) (hdg : decode cc pc = .ok (.putfield index, 3)) {ws' : va_W} (hw : ws.set q0 (a, .inr (ci, fs.set f v)) = ws') (k : G T X Q cells slots ws' lv (pc + 3) st) : G T X Q cells slots ws lv pc (v :: .ref a :: st) := by
  subst hw
  exact fun H locs ls hP hD hS hl => va_putF (D := T.1) hX.1 hX.2.1 hX.2.2.2.2.1 hin ty0 hty hnm hX.2.2.2.1 hX.2.2.2.2.2.1 hP hD hS q0 he hc f hf (hX.2.2.2.2.1 _ hlink) (fun _ h9 => by rw [hown] at h9; exact h9) hfin hinit (by rw [hown]; exact hdecl) (by rw [hty f hf, hd]) hn hfit hlen hdg (fun H1 locs1 hP1 hD1 hS1 => k H1 locs1 ls hP1 hD1 hS1 hl)
theorem g_iald (hX : Fit T X own nL Ts cc ret R) (q0 : Nat) {a n : Nat} {f : Nat → Int32} (ha : ws[q0]? = some (a, .inl (T.2.1, n, .inl f))) {i : Int32} (hin : vp_in i n) {v : Int32} (hv : f i.toNatClampNeg = v) (hdg : decode cc pc = .ok (.iaload, 1)) (k : G T X Q cells slots ws lv (pc + 1) (.int v :: st)) : G T X Q cells slots ws lv pc (.int i :: .ref a :: st) := fun H locs ls hP hD hS hl => va_iald (D := T.1) hX.1 hX.2.1 hX.2.2.2.2.2.1 hP q0 0 ha rfl hin hdg (by rw [hv]; exact k H locs ls hP hD hS hl)
theorem g_cald (hX : Fit T X own nL Ts cc ret R) (q0 : Nat) {a n : Nat} {f : Nat → Int32} (ha : ws[q0]? = some (a, .inl (T.2.2.1, n, .inl f))) {i : Int32} (hin : vp_in i n) {v : Int32} (hv : f i.toNatClampNeg = v) (hdg : decode cc pc = .ok (.caload, 1)) (k : G T X Q cells slots ws lv (pc + 1) (.int v :: st)) : G T X Q cells slots ws lv pc (.int i :: .ref a :: st) := fun H locs ls hP hD hS hl => va_cald (D := T.1) hX.1 hX.2.1 hX.2.2.2.2.2.1 hP q0 1 ha rfl hin hdg (by rw [hv]; exact k H locs ls hP hD hS hl)
theorem g_iast (hX : Fit T X own nL Ts cc ret R) (q0 : Nat) {a n : Nat} {f : Nat → Int32} (ha : ws[q0]? = some (a, .inl (T.2.1, n, .inl f))) {i x : Int32} (hin : vp_in i n) (hdg : decode cc pc = .ok (.iastore, 1)) {ws' : va_W} (hw : ws.set q0 (a, .inl (T.2.1, n, .inl (upd f i.toNatClampNeg x))) = ws') (k : G T X Q cells slots ws' lv (pc + 1) st) : G T X Q cells slots ws lv pc (.int x :: .int i :: .ref a :: st) := by
  subst hw
  exact fun H locs ls hP hD hS hl => va_iast (D := T.1) hX.1 hX.2.1 hX.2.2.2.2.2.1 hP hD hS q0 0 ha rfl hin hdg (fun H1 locs1 hP1 hD1 hS1 => k H1 locs1 ls hP1 hD1 hS1 hl)
theorem g_cast_ (hX : Fit T X own nL Ts cc ret R) (q0 : Nat) {a n : Nat} {f : Nat → Int32} (ha : ws[q0]? = some (a, .inl (T.2.2.1, n, .inl f))) {i x : Int32} (hin : vp_in i n) (hdg : decode cc pc = .ok (.castore, 1)) {ws' : va_W} (hw : ws.set q0 (a, .inl (T.2.2.1, n, .inl (upd f i.toNatClampNeg (vp_nar .char x)))) = ws') (k : G T X Q cells slots ws' lv (pc + 1) st) : G T X Q cells slots ws lv pc (.int x :: .int i :: .ref a :: st) := by
  subst hw
  exact fun H locs ls hP hD hS hl => va_cast (D := T.1) hX.1 hX.2.1 hX.2.2.2.2.2.1 hP hD hS q0 1 ha rfl hin hdg (fun H1 locs1 hP1 hD1 hS1 => k H1 locs1 ls hP1 hD1 hS1 hl)
theorem g_alen (hX : Fit T X own nL Ts cc ret R) (q0 t0 : Nat) {a : Nat} {cA : ClassId} {x : vp_A} (ha : ws[q0]? = some (a, .inl (cA, x))) {ty : FieldType} (ht : (tys T)[t0]? = some (cA, ty)) {v : Int32} (hv : Int32.ofNat x.1 = v) (hdg : decode cc pc = .ok (.arraylength, 1)) (k : G T X Q cells slots ws lv (pc + 1) (.int v :: st)) : G T X Q cells slots ws lv pc (.ref a :: st) := fun H locs ls hP hD hS hl => va_alen (D := T.1) hX.1 hX.2.1 hX.2.2.2.2.2.1 hP q0 t0 ha ht hv hdg (k H locs ls hP hD hS hl)
theorem g_aald (hX : Fit T X own nL Ts cc ret R) (q0 : Nat) {a n : Nat} {f : Nat → Option Nat} (ha : ws[q0]? = some (a, .inl (T.2.2.2, n, .inr (.inr (.inr (.inr f)))))) {i : Int32} (hin : vp_in i n) {v : Nat} (hv : f i.toNatClampNeg = some v) (hdg : decode cc pc = .ok (.aaload, 1)) (k : G T X Q cells slots ws lv (pc + 1) (.ref v :: st)) : G T X Q cells slots ws lv pc (.int i :: .ref a :: st) := fun H locs ls hP hD hS hl => va_aldq (D := T.1) hX.1 hX.2.1 hX.2.2.2.2.2.1 hP q0 2 ha rfl hin hdg (by rw [hv]; exact k H locs ls hP hD hS hl)
theorem vp_cell_congr {cA : ClassId} {n : Nat} {f g : Nat → Int32} (h : ∀ j, j < n → f j = g j) : vp_cell cA (n, .inl f) = vp_cell cA (n, .inl g) := by
  show arrV cA n (fun j => .int (f j)) = arrV cA n (fun j => .int (g j))
  unfold arrV
  congr 1
  congr 1
  funext j
  show Value.int (f j.val) = Value.int (g j.val)
  rw [h j.val j.isLt]
theorem g_same (q0 : Nat) {a n : Nat} {cA : ClassId} {f : Nat → Int32} (g : Nat → Int32) (ha : ws[q0]? = some (a, .inl (cA, n, .inl f))) (h : ∀ j, j < n → f j = g j) {ws' : va_W} (hw : ws.set q0 (a, .inl (cA, n, .inl g)) = ws') (k : G T X Q cells slots ws' lv pc st) : G T X Q cells slots ws lv pc st := by
  subst hw
  intro H locs ls hP hD hS hl
  refine k H locs ls ?_ (hD.set ha) hS hl
  exact hP.set hD ha (show H[a]? = some (vp_cell cA (n, .inl g)) from by rw [← vp_cell_congr h]; exact hP q0 _ ha) (fun q _ => rfl)
theorem g_tab (hX : Fit T X own nL Ts cc ret R) {index N : Nat} {n : String} {f : Nat → Value} (hT : sTab n N f (xB X) (xS X)) (hlink : Cond.fieldLink own index RX4 n "[I" ∈ Ts) (hdg : decode cc pc = .ok (.getstatic index, 3)) (k : ∀ t : Nat, va_T .int t N f (xA X) (xS X) (xS X).heap → G T X Q cells slots ws lv (pc + 3) (.ref t :: st)) : G T X Q cells slots ws lv pc st := by
  obtain ⟨t, h1, h2⟩ := hT
  intro H locs ls hP hD hS hl
  have hAB := hX.2.2.2.2.2.2.2.2.2.1
  exact va_gets hX.1 hX.2.1 (h1.narrow hAB) hS hX.2.2.2.1 (hX.2.2.2.2.1 _ hlink) (fun _ h9 => h9) hdg (k t (h2.narrow hAB) H locs ls hP hD hS hl)
theorem g_tlen (hX : Fit T X own nL Ts cc ret R) {t N : Nat} {f : Nat → Value} (hT : va_T .int t N f (xA X) (xS X) (xS X).heap) {v : Int32} (hv : Int32.ofNat N = v) (hdg : decode cc pc = .ok (.arraylength, 1)) (k : G T X Q cells slots ws lv (pc + 1) (.int v :: st)) : G T X Q cells slots ws lv pc (.ref t :: st) := fun H locs ls hP hD hS hl => va_tlen hX.1 hX.2.1 hT hS hv hdg (k H locs ls hP hD hS hl)
theorem g_tld (hX : Fit T X own nL Ts cc ret R) {t N : Nat} {f : Nat → Value} (hT : va_T .int t N f (xA X) (xS X) (xS X).heap) {i : Int32} (hin : vp_in i N) {v : Value} (hv : f i.toNatClampNeg = v) (hdg : decode cc pc = .ok (.iaload, 1)) (k : G T X Q cells slots ws lv (pc + 1) (v :: st)) : G T X Q cells slots ws lv pc (.int i :: .ref t :: st) := fun H locs ls hP hD hS hl => va_ti hX.1 hX.2.1 hT hS hin hv hdg (k H locs ls hP hD hS hl)
theorem g_mmax (hX : Fit T X own nL Ts cc ret R) {index : Nat} {x y : Int32} (hlink : Cond.methodLink own index Lib.Math.max.name ∈ Ts) (hstat : Cond.static Lib.Math.max.name ∈ Ts) (hini : Cond.initialized "java/lang/Math" ∈ Ts) (hcode : Cond.code Lib.Math.max.name Lib.Math.max.code 2 (some .int) ∈ Ts) (hfr : 1 ≤ R.frames) (hlo : (st.map fun v => v.category).sum + 13 ≤ R.locals) (hc : cells ≤ R.cells) (hs : slots ≤ R.slots) (hdg : decode cc pc = .ok (.invokestatic index, 3)) (k : G T X Q cells slots ws lv (pc + 3) (.int (if x < y then y else x) :: st)) : G T X Q cells slots ws lv pc (.int y :: .int x :: st) := fun H locs ls hP hD hS hl => va_mmax hX.1 hX.2.1 (by rw [hl.1]) hX.2.2.2.1 (hX.2.2.2.2.1 _ hlink) (hX.2.2.2.2.1 _ hstat) (hX.2.2.2.2.1 _ hini) (hX.2.2.2.2.1 _ hcode) (by rw [hX.2.2.2.2.2.2.2.2.2.2.2]; exact hfr) (by rw [hX.2.2.2.2.2.2.2.2.2.2.2]; exact hlo) (by rw [hX.2.2.2.2.2.2.2.2.2.2.2]; exact hc) (by rw [hX.2.2.2.2.2.2.2.2.2.2.2]; exact hs) hdg (k H locs ls hP hD hS hl)
theorem g_mmin (hX : Fit T X own nL Ts cc ret R) {index : Nat} {x y : Int32} (hlink : Cond.methodLink own index Lib.Math.min.name ∈ Ts) (hstat : Cond.static Lib.Math.min.name ∈ Ts) (hini : Cond.initialized "java/lang/Math" ∈ Ts) (hcode : Cond.code Lib.Math.min.name Lib.Math.min.code 2 (some .int) ∈ Ts) (hfr : 1 ≤ R.frames) (hlo : (st.map fun v => v.category).sum + 13 ≤ R.locals) (hc : cells ≤ R.cells) (hs : slots ≤ R.slots) (hdg : decode cc pc = .ok (.invokestatic index, 3)) (k : G T X Q cells slots ws lv (pc + 3) (.int (if y < x then y else x) :: st)) : G T X Q cells slots ws lv pc (.int y :: .int x :: st) := fun H locs ls hP hD hS hl => va_mmin hX.1 hX.2.1 (by rw [hl.1]) hX.2.2.2.1 (hX.2.2.2.2.1 _ hlink) (hX.2.2.2.2.1 _ hstat) (hX.2.2.2.2.1 _ hini) (hX.2.2.2.2.1 _ hcode) (by rw [hX.2.2.2.2.2.2.2.2.2.2.2]; exact hfr) (by rw [hX.2.2.2.2.2.2.2.2.2.2.2]; exact hlo) (by rw [hX.2.2.2.2.2.2.2.2.2.2.2]; exact hc) (by rw [hX.2.2.2.2.2.2.2.2.2.2.2]; exact hs) hdg (k H locs ls hP hD hS hl)
theorem g_mabs (hX : Fit T X own nL Ts cc ret R) {index : Nat} {x : Int32} (hlink : Cond.methodLink own index Lib.Math.abs.name ∈ Ts) (hstat : Cond.static Lib.Math.abs.name ∈ Ts) (hini : Cond.initialized "java/lang/Math" ∈ Ts) (hcode : Cond.code Lib.Math.abs.name Lib.Math.abs.code 1 (some .int) ∈ Ts) (hfr : 1 ≤ R.frames) (hlo : (st.map fun v => v.category).sum + 13 ≤ R.locals) (hc : cells ≤ R.cells) (hs : slots ≤ R.slots) (hdg : decode cc pc = .ok (.invokestatic index, 3)) (k : G T X Q cells slots ws lv (pc + 3) (.int (if 0 ≤ x then x else 0 - x) :: st)) : G T X Q cells slots ws lv pc (.int x :: st) := fun H locs ls hP hD hS hl => va_mabs hX.1 hX.2.1 (by rw [hl.1]) hX.2.2.2.1 (hX.2.2.2.2.1 _ hlink) (hX.2.2.2.2.1 _ hstat) (hX.2.2.2.2.1 _ hini) (hX.2.2.2.2.1 _ hcode) (by rw [hX.2.2.2.2.2.2.2.2.2.2.2]; exact hfr) (by rw [hX.2.2.2.2.2.2.2.2.2.2.2]; exact hlo) (by rw [hX.2.2.2.2.2.2.2.2.2.2.2]; exact hc) (by rw [hX.2.2.2.2.2.2.2.2.2.2.2]; exact hs) hdg (k H locs ls hP hD hS hl)
theorem g_copyi (hX : Fit T X own nL Ts cc ret R) {index : Nat} (hlink : Cond.methodLink own index arraycopyName ∈ Ts) (hnat : Cond.native arraycopyName ∈ Ts) (hstat : Cond.static arraycopyName ∈ Ts) (hini : Cond.initialized "java/lang/System" ∈ Ts) (q0 q1 : Nat) {a0 a1 n0 : Nat} {f g : Nat → Int32} (ha0 : ws[q0]? = some (a0, .inl (T.2.1, n0, .inl f))) (ha1 : ws[q1]? = some (a1, .inl (T.2.1, n0, .inl g))) {n : Int32} (hn : ¬ n < 0) (hn0 : n.toNatClampNeg = n0) (hfr : 1 ≤ R.frames) (hlo : (st.map fun v => v.category).sum + (nativeFrameWords "java/lang/System" "arraycopy" 5 + 11) ≤ R.locals) (hdg : decode cc pc = .ok (.invokestatic index, 3)) {ws' : va_W} (hw : ws.set q1 (a1, .inl (T.2.1, n0, .inl f)) = ws') (k : G T X Q cells slots ws' lv (pc + 3) st) : G T X Q cells slots ws lv pc (.int n :: .int 0 :: .ref a1 :: .int 0 :: .ref a0 :: st) := by
  subst hw
  intro H locs ls hP hD hS hl
  refine va_copyi (D := T.1) hX.1 hX.2.1 (by rw [hl.1]) hX.2.2.2.1 (hX.2.2.2.2.1 _ hlink) (hX.2.2.2.2.1 _ hnat) (hX.2.2.2.2.1 _ hstat) (hX.2.2.2.2.1 _ hini) hX.2.2.2.2.2.1 hP hD hS q0 q1 0 0 ha0 ha1 rfl rfl rfl (by decide) (by decide) hn (by rw [hn0]; exact Nat.le_of_eq (Nat.zero_add _)) (by rw [hn0]; exact Nat.le_of_eq (Nat.zero_add _)) (fun _ _ => rfl) (by rw [hX.2.2.2.2.2.2.2.2.2.2.2]; exact hfr) (by rw [hX.2.2.2.2.2.2.2.2.2.2.2]; exact hlo) hdg (fun H1 locs1 hP1 hD1 hS1 => ?_)
  refine k H1 locs1 ls ?_ (hD.set ha1) hS1 hl
  have e : vp_cell T.2.1 (n0, .inl (va_cpy f g (Int32.toNatClampNeg 0) (Int32.toNatClampNeg 0) n.toNatClampNeg)) = vp_cell T.2.1 (n0, .inl f) := vp_cell_congr (fun j hj => by
    show (if _ then _ else _) = _
    rw [hn0, if_pos (by simpa using hj)]
    simp)
  have hl1 := (List.getElem?_eq_some_iff.mp ha1).1
  intro j q hq
  by_cases hj : j = q1
  · subst hj
    rw [List.getElem?_set_self hl1] at hq
    cases hq
    have := hP1 j _ (List.getElem?_set_self hl1)
    show H1[a1]? = some (vp_cell T.2.1 (n0, .inl f))
    rw [← e]
    exact this
  · refine hP1 j q ?_
    rw [List.getElem?_set_ne (Ne.symm hj)] at hq ⊢
    exact hq
end GR
end
section
theorem EnvOk.calling {T : TT} {b0 : Nat} {U : State} (g : JFrame) (mk : MethodId) (a : Array Value) (h : EnvOk T b0 U) : EnvOk T b0 (U.calling g mk a) := by
  obtain ⟨h1, ⟨t2, a2, b2⟩, ⟨t3, a3, b3⟩, t4, a4, b4, c4⟩ := h
  have hk : ∀ w ∈ nws, w.onTables = true := fun w hw => by
    have h0 := List.all_eq_true.mp nws_all w hw
    cases w <;> first | rfl | (exact absurd h0 (by decide)) | (simp [nK] at h0)
  have ha : U.vm.Alike (U.calling g mk a).vm := Vm.Alike.refl U.vm
  exact ⟨fun w hw => va_Nw.same (u := U) (U := U.calling g mk a) (hk w hw) rfl (h1 w hw), ⟨t2, a2.moved ha, b2.moved ha⟩, ⟨t3, a3.moved ha, b3.moved ha⟩, t4, a4.moved ha, b4, c4⟩
theorem PreC_blind {T : TT} {b0 : Nat} {av : List Value} {w0 : va_W} {sz : Nat} : FrameBlind (PreC T b0 av w0 sz) := fun a U g mk q => by
  obtain ⟨q0, q1, q2, q3, q4, q5⟩ := q
  exact ⟨q0, q1, q2, va_K.moved (u := U) (U := U.calling g mk a) (Vm.Alike.refl U.vm) q3, q4, q5.calling g mk a⟩
theorem fit_body {l : Launch} {T : TT} {b0 : Nat} {y : MethodName} {wds wds' : List Cond} {rm : Room} {av : List Value} {w0 : va_W} {cc : ByteArray} {maxL : Nat} {ret : Option FieldType} {lv0 : List (Nat × Value)} {Qc : Array Value → State → Outcome → State → Prop} {mc ms sz : Nat} (hy : plainName y.cls = true) (hw : wds = .code y cc maxL ret :: wds') (hav : (lg_sl av).length ≤ maxL) (hlv : lv_args 0 av = lv0) (hsz : b0 ≤ sz)
    (body : ∀ X : CX, Fit T X y.cls maxL wds cc ret rm → xL X = l → xB X = b0 → (xMe X).name = y.name → xA X = va_A w0 sz → (xS X).heap.size = sz → G T X (MQ (xBl X) Qc (xAr X) (xS X) mc ms (xA X)) 0 0 w0 lv0 0 []) : Met l y wds rm (PreC T b0 av w0 sz) Qc mc ms (va_A w0 sz) := by
  refine Met.ofW (cc := cc) (maxL := maxL) (ret := ret) hy hw ?_
  intro p e s m args below meth c s₁ B hml hv
  obtain ⟨rfl, hs, hP, hK, hD, hE⟩ := hv
  have hts := atoms_spec (ws := wds) B.pre
  have hown : s.vm.findClass y.cls = some m.cls := findClass_of_methodNamed B.named
  subst hs
  have hD1 : va_D (va_A w0 s.heap.size) w0 := hD.self
  have hAB : ∀ q, va_A w0 s.heap.size q → b0 ≤ q := fun q h => by
    rcases h with ⟨k, e, h⟩ | h
    · exact hD.2 k _ h
    · omega
  have hX : Fit T ((p, l, e, rm, s), (m, av.toArray, below, meth, c), (va_A w0 s.heap.size, b0)) y.cls maxL wds cc ret rm := ⟨B.exec, B.bytes, hml, hown, hts, hK, fun q h => Or.inr h, B.notSynchronized, hE, hAB, B.returns, rfl⟩
  have hl := lv_entry av (n := maxL) hav
  have k := body _ hX rfl rfl (name_of_methodNamed B.named B.method).1 rfl rfl s.heap [] _ hP hD1 va_S.rf (by show lv_has _ c.maxLocals lv0; rw [hml, ← hlv]; exact hl)
  rw [lg_entry_eq]
  exact k
theorem conI_of {l : Launch} {T : TT} {b0 : Nat} {y : MethodName} {wds wds' : List Cond} {rm : Room} {av : List Value} {w0 w1 : va_W} {rv : Int32} {cc : ByteArray} {maxL : Nat} {ret : Option FieldType} {lv0 : List (Nat × Value)} (hy : plainName y.cls = true) (hw : wds = .code y cc maxL ret :: wds') (hav : (lg_sl av).length ≤ maxL) (hlv : lv_args 0 av = lv0)
    (body : ∀ X : CX, Fit T X y.cls maxL wds cc ret rm → G T X (QI T X 0 0 rv w1) 0 0 w0 lv0 0 []) : ConI l T b0 y wds rm av w0 rv w1 := fun sz hsz =>
  fit_body hy hw hav hlv hsz (fun X hX hl hB hn hA hs => by
    have k := body X hX
    unfold QI at k
    rw [hA] at k ⊢
    exact k)
theorem conV_of {l : Launch} {T : TT} {b0 : Nat} {y : MethodName} {wds wds' : List Cond} {rm : Room} {av : List Value} {w0 w1 : va_W} {cc : ByteArray} {maxL : Nat} {ret : Option FieldType} {lv0 : List (Nat × Value)} (hy : plainName y.cls = true) (hw : wds = .code y cc maxL ret :: wds') (hav : (lg_sl av).length ≤ maxL) (hlv : lv_args 0 av = lv0)
    (body : ∀ X : CX, Fit T X y.cls maxL wds cc ret rm → G T X (QV T X 0 0 w1) 0 0 w0 lv0 0 []) : ConV l T b0 y wds rm av w0 w1 := fun sz hsz =>
  fit_body hy hw hav hlv hsz (fun X hX hl hB hn hA hs => by
    have k := body X hX
    unfold QV at k
    rw [hA] at k ⊢
    exact k)
section GC
variable {T : TT} {X : CX} {own : String} {nL : Nat} {Ts : List Cond} {cc : ByteArray} {ret : Option FieldType} {R : Room} {Q : State → Prop} {cells slots : Nat} {ws w1 : va_W} {lv : List (Nat × Value)} {pc : Nat} {st : List Value} {x rv : Int32}
theorem g_iret (hX : Fit T X own nL Ts cc (some .int) R) (hdg : decode cc pc = .ok (.ireturn, 1)) (hr : x = rv) (hw : ws = w1) : G T X (QI T X cells slots rv w1) cells slots ws lv pc [.int x] := by
  subst hw
  subst hr
  intro H locs ls hP hD hS hl
  exact W.iret hX.1 hX.2.1 hX.2.2.2.2.2.2.2.2.2.2.1 (fun t ht hW => ⟨⟨x, ws, rfl, ⟨rfl, rfl⟩, by rw [ht]; exact hP, hD⟩, hS.F ht⟩) hS.2.2 hdg (hlocks := hX.2.2.2.2.2.2.2.1)
theorem g_zret (hX : Fit T X own nL Ts cc (some .boolean) R) (hdg : decode cc pc = .ok (.ireturn, 1)) (hn : narrow .boolean (.int x) = .int x) (hr : x = rv) (hw : ws = w1) : G T X (QI T X cells slots rv w1) cells slots ws lv pc [.int x] := by
  subst hw
  subst hr
  intro H locs ls hP hD hS hl
  exact W.zret hX.1 hX.2.1 hX.2.2.2.2.2.2.2.2.2.2.1 hn (fun t ht hW => ⟨⟨x, ws, rfl, ⟨rfl, rfl⟩, by rw [ht]; exact hP, hD⟩, hS.F ht⟩) hS.2.2 hdg (hlocks := hX.2.2.2.2.2.2.2.1)
theorem g_vret (hX : Fit T X own nL Ts cc none R) (hdg : decode cc pc = .ok (.return_, 1)) (hw : ws = w1) : G T X (QV T X cells slots w1) cells slots ws lv pc [] := by
  subst hw
  intro H locs ls hP hD hS hl
  exact W.vret hX.1 hX.2.1 hX.2.2.2.2.2.2.2.2.2.2.1 (fun t ht hW => ⟨⟨ws, rfl, rfl, by rw [ht]; exact hP, hD⟩, hS.F ht⟩) hS.2.2 hdg (hlocks := hX.2.2.2.2.2.2.2.1)
theorem fit_low (hX : Fit T X own nL Ts cc ret R) {H : Heap} {locs : List Loc} (hS : va_S (xA X) (xS X).heap H locs) : xB X ≤ H.size := hX.2.2.2.2.2.2.2.2.2.1 _ (hX.2.2.2.2.2.2.1 _ hS.1)
theorem g_cV_I (hX : Fit T X own nL Ts cc ret R) {y : MethodName} {bytes : ByteArray} {maxL n index : Nat} {ret' : Option FieldType} {wds wds' : List Cond} {rm : Room} {As : List Value} {wc ws' : va_W} {stk : List Value} {b ci : Nat} {fs : List Value} {U : u_T} {N : Nat} (q0 : Nat) (hrec : ws[q0]? = some (b, .inr (ci, fs))) (hc : vwCl[ci]? = some (y.cls, U, N)) (hM : ConI (xL X) T (xB X) y wds rm (.ref b :: As) wc rv w1) (hG : GoodIn Ts (wsV own index y.cls y wds)) (hw : wds = Cond.code y bytes maxL ret' :: wds') (hrc : rm.cells = 0) (hrs : rm.slots = 0) (hR : rm.frames + 1 ≤ R.frames ∧ 8 + (maxL + 11) + rm.locals ≤ R.locals) (hcs : cells ≤ R.cells ∧ slots ≤ R.slots) (hd : y.cls ≠ "java/lang/invoke/MethodHandle" ∧ y.cls ≠ "java/lang/invoke/VarHandle" ∧ (parseMethodDescriptor y.desc).map (fun d => d.parameters.length) = some n) (hlen : As.length = n) (is : List Nat) (hC : is.map (fun i => ws[i]?) = wc.map some) (hA : w1.map (fun q => q.1) = wc.map (fun q => q.1)) (hn : va_nd is = true) (hstk : stk = As.reverse ++ .ref b :: st) (hcat : (st.map fun v => v.category).sum ≤ 8) (hdg : decode cc pc = .ok (.invokevirtual index, 3)) (hws : wput ws is w1 = ws') (k : G T X Q cells slots ws' lv (pc + 3) (.int rv :: st)) : G T X Q cells slots ws lv pc stk := by
  subst hws
  intro H locs ls hP hD hS hl
  have hPc := va_sub hP is hC
  have hDc : va_D (xA X) wc := hD.sub is hn hC
  have hFc := va_free (wc := wc) hD hS hX.2.2.2.2.2.2.1 is hC
  have hR' : rm.frames + 1 ≤ (xR X).frames ∧ 8 + (maxL + 11) + rm.locals ≤ (xR X).locals := by rw [hX.2.2.2.2.2.2.2.2.2.2.2]; exact hR
  have hcs' : cells + 0 ≤ (xR X).cells ∧ slots + 0 ≤ (xR X).slots := by rw [hX.2.2.2.2.2.2.2.2.2.2.2]; exact hcs
  refine va_calli (va_runV (As := As) (rest := st) ⟨hX.1, hX.2.1, rfl, hX.2.2.2.1, hX.2.2.2.2.1⟩ (hM H.size (fit_low hX hS)) (cwV n hX.2.2.2.2.1 hG hw hrc hrs ⟨rfl, hd⟩ hR') ⟨PreC_blind, va_recv hX.2.2.2.2.2.1 hP hc hrec, fun U hU hW => ⟨rfl, by rw [hU], by rw [hU]; exact hPc, va_K.moved hW.alike hX.2.2.2.2.2.1, hDc.weaken (fun _ q _ h => hX.2.2.2.2.2.2.2.2.2.1 _ h), hX.2.2.2.2.2.2.2.2.1.moved hS hX.2.2.2.2.2.2.2.2.2.1 hW hU⟩⟩ rfl hlen hl.1 hstk (lv_room hcat) hdg hcs') hS (fun q _ h => hFc q h) hFc (fun r u t H1 locs1 ht hvm hw2 hB hz1 hk1 hS1 => ?_)
  obtain ⟨rfl, rfl⟩ := hw2
  obtain ⟨hP1, hD1⟩ := hB
  rw [ht] at hP1
  obtain ⟨hP2, hD2⟩ := va_back hP hD is hC hA hn hk1 hP1
  exact k H1 locs1 ls hP2 hD2 hS1 hl
theorem g_cV_V (hX : Fit T X own nL Ts cc ret R) {y : MethodName} {bytes : ByteArray} {maxL n index : Nat} {ret' : Option FieldType} {wds wds' : List Cond} {rm : Room} {As : List Value} {wc ws' : va_W} {stk : List Value} {b ci : Nat} {fs : List Value} {U : u_T} {N : Nat} (q0 : Nat) (hrec : ws[q0]? = some (b, .inr (ci, fs))) (hc : vwCl[ci]? = some (y.cls, U, N)) (hM : ConV (xL X) T (xB X) y wds rm (.ref b :: As) wc w1) (hG : GoodIn Ts (wsV own index y.cls y wds)) (hw : wds = Cond.code y bytes maxL ret' :: wds') (hrc : rm.cells = 0) (hrs : rm.slots = 0) (hR : rm.frames + 1 ≤ R.frames ∧ 8 + (maxL + 11) + rm.locals ≤ R.locals) (hcs : cells ≤ R.cells ∧ slots ≤ R.slots) (hd : y.cls ≠ "java/lang/invoke/MethodHandle" ∧ y.cls ≠ "java/lang/invoke/VarHandle" ∧ (parseMethodDescriptor y.desc).map (fun d => d.parameters.length) = some n) (hlen : As.length = n) (is : List Nat) (hC : is.map (fun i => ws[i]?) = wc.map some) (hA : w1.map (fun q => q.1) = wc.map (fun q => q.1)) (hn : va_nd is = true) (hstk : stk = As.reverse ++ .ref b :: st) (hcat : (st.map fun v => v.category).sum ≤ 8) (hdg : decode cc pc = .ok (.invokevirtual index, 3)) (hws : wput ws is w1 = ws') (k : G T X Q cells slots ws' lv (pc + 3) st) : G T X Q cells slots ws lv pc stk := by
  subst hws
  intro H locs ls hP hD hS hl
  have hPc := va_sub hP is hC
  have hDc : va_D (xA X) wc := hD.sub is hn hC
  have hFc := va_free (wc := wc) hD hS hX.2.2.2.2.2.2.1 is hC
  have hR' : rm.frames + 1 ≤ (xR X).frames ∧ 8 + (maxL + 11) + rm.locals ≤ (xR X).locals := by rw [hX.2.2.2.2.2.2.2.2.2.2.2]; exact hR
  have hcs' : cells + 0 ≤ (xR X).cells ∧ slots + 0 ≤ (xR X).slots := by rw [hX.2.2.2.2.2.2.2.2.2.2.2]; exact hcs
  refine va_callv (va_runV (As := As) (rest := st) ⟨hX.1, hX.2.1, rfl, hX.2.2.2.1, hX.2.2.2.2.1⟩ (hM H.size (fit_low hX hS)) (cwV n hX.2.2.2.2.1 hG hw hrc hrs ⟨rfl, hd⟩ hR') ⟨PreC_blind, va_recv hX.2.2.2.2.2.1 hP hc hrec, fun U hU hW => ⟨rfl, by rw [hU], by rw [hU]; exact hPc, va_K.moved hW.alike hX.2.2.2.2.2.1, hDc.weaken (fun _ q _ h => hX.2.2.2.2.2.2.2.2.2.1 _ h), hX.2.2.2.2.2.2.2.2.1.moved hS hX.2.2.2.2.2.2.2.2.2.1 hW hU⟩⟩ rfl hlen hl.1 hstk (lv_room hcat) hdg hcs') hS (fun q _ h => hFc q h) hFc (fun u t H1 locs1 ht hvm hw2 hB hz1 hk1 hS1 => ?_)
  subst hw2
  obtain ⟨hP1, hD1⟩ := hB
  rw [ht] at hP1
  obtain ⟨hP2, hD2⟩ := va_back hP hD is hC hA hn hk1 hP1
  exact k H1 locs1 ls hP2 hD2 hS1 hl
theorem g_cVN_I (hX : Fit T X own nL Ts cc ret R) {y : MethodName} {bytes : ByteArray} {maxL n index : Nat} {ret' : Option FieldType} {wds wds' : List Cond} {rm : Room} {As : List Value} {wc ws' : va_W} {stk : List Value} {b ci : Nat} {fs : List Value} {U : u_T} {N : Nat} (q0 : Nat) (hrec : ws[q0]? = some (b, .inr (ci, fs))) (hc : vwCl[ci]? = some (y.cls, U, N)) (hM : ConI (xL X) T (xB X) y wds rm (.ref b :: As) wc rv w1) (hG : GoodIn Ts wds) (nk : Nat) {host : String} (hlink : nws[nk]? = some (Cond.methodLinkNest own index y host)) (hini : Cond.initialized y.cls ∈ Ts) (hinst : Cond.instanceMethod y ∈ Ts) (hsel : Cond.selects y.cls y y ∈ Ts) (hw : wds = Cond.code y bytes maxL ret' :: wds') (hrc : rm.cells = 0) (hrs : rm.slots = 0) (hR : rm.frames + 1 ≤ R.frames ∧ 8 + (maxL + 11) + rm.locals ≤ R.locals) (hcs : cells ≤ R.cells ∧ slots ≤ R.slots) (hd : y.cls ≠ "java/lang/invoke/MethodHandle" ∧ y.cls ≠ "java/lang/invoke/VarHandle" ∧ (parseMethodDescriptor y.desc).map (fun d => d.parameters.length) = some n) (hlen : As.length = n) (is : List Nat) (hC : is.map (fun i => ws[i]?) = wc.map some) (hA : w1.map (fun q => q.1) = wc.map (fun q => q.1)) (hn : va_nd is = true) (hstk : stk = As.reverse ++ .ref b :: st) (hcat : (st.map fun v => v.category).sum ≤ 8) (hdg : decode cc pc = .ok (.invokevirtual index, 3)) (hws : wput ws is w1 = ws') (k : G T X Q cells slots ws' lv (pc + 3) (.int rv :: st)) : G T X Q cells slots ws lv pc stk := by
  subst hws
  intro H locs ls hP hD hS hl
  have hPc := va_sub hP is hC
  have hDc : va_D (xA X) wc := hD.sub is hn hC
  have hFc := va_free (wc := wc) hD hS hX.2.2.2.2.2.2.1 is hC
  have hR' : rm.frames + 1 ≤ (xR X).frames ∧ 8 + (maxL + 11) + rm.locals ≤ (xR X).locals := by rw [hX.2.2.2.2.2.2.2.2.2.2.2]; exact hR
  have hcs' : cells + 0 ≤ (xR X).cells ∧ slots + 0 ≤ (xR X).slots := by rw [hX.2.2.2.2.2.2.2.2.2.2.2]; exact hcs
  refine va_calli (va_runVN (As := As) (rest := st) ⟨hX.1, hX.2.1, rfl, hX.2.2.2.1, hX.2.2.2.2.1⟩ (hM H.size (fit_low hX hS)) ⟨va_cnB n hX.2.2.2.2.1 hG hw hrc hrs (hX.2.2.2.2.2.2.2.2.1.1 _ (List.mem_of_getElem? hlink)) (hX.2.2.2.2.1 _ hini) hd hR', hX.2.2.2.2.1 _ hinst, hX.2.2.2.2.1 _ hsel⟩ ⟨PreC_blind, va_recv hX.2.2.2.2.2.1 hP hc hrec, fun U hU hW => ⟨rfl, by rw [hU], by rw [hU]; exact hPc, va_K.moved hW.alike hX.2.2.2.2.2.1, hDc.weaken (fun _ q _ h => hX.2.2.2.2.2.2.2.2.2.1 _ h), hX.2.2.2.2.2.2.2.2.1.moved hS hX.2.2.2.2.2.2.2.2.2.1 hW hU⟩⟩ rfl hlen hl.1 hstk (lv_room hcat) hdg hcs') hS (fun q _ h => hFc q h) hFc (fun r u t H1 locs1 ht hvm hw2 hB hz1 hk1 hS1 => ?_)
  obtain ⟨rfl, rfl⟩ := hw2
  obtain ⟨hP1, hD1⟩ := hB
  rw [ht] at hP1
  obtain ⟨hP2, hD2⟩ := va_back hP hD is hC hA hn hk1 hP1
  exact k H1 locs1 ls hP2 hD2 hS1 hl
theorem g_cVN_V (hX : Fit T X own nL Ts cc ret R) {y : MethodName} {bytes : ByteArray} {maxL n index : Nat} {ret' : Option FieldType} {wds wds' : List Cond} {rm : Room} {As : List Value} {wc ws' : va_W} {stk : List Value} {b ci : Nat} {fs : List Value} {U : u_T} {N : Nat} (q0 : Nat) (hrec : ws[q0]? = some (b, .inr (ci, fs))) (hc : vwCl[ci]? = some (y.cls, U, N)) (hM : ConV (xL X) T (xB X) y wds rm (.ref b :: As) wc w1) (hG : GoodIn Ts wds) (nk : Nat) {host : String} (hlink : nws[nk]? = some (Cond.methodLinkNest own index y host)) (hini : Cond.initialized y.cls ∈ Ts) (hinst : Cond.instanceMethod y ∈ Ts) (hsel : Cond.selects y.cls y y ∈ Ts) (hw : wds = Cond.code y bytes maxL ret' :: wds') (hrc : rm.cells = 0) (hrs : rm.slots = 0) (hR : rm.frames + 1 ≤ R.frames ∧ 8 + (maxL + 11) + rm.locals ≤ R.locals) (hcs : cells ≤ R.cells ∧ slots ≤ R.slots) (hd : y.cls ≠ "java/lang/invoke/MethodHandle" ∧ y.cls ≠ "java/lang/invoke/VarHandle" ∧ (parseMethodDescriptor y.desc).map (fun d => d.parameters.length) = some n) (hlen : As.length = n) (is : List Nat) (hC : is.map (fun i => ws[i]?) = wc.map some) (hA : w1.map (fun q => q.1) = wc.map (fun q => q.1)) (hn : va_nd is = true) (hstk : stk = As.reverse ++ .ref b :: st) (hcat : (st.map fun v => v.category).sum ≤ 8) (hdg : decode cc pc = .ok (.invokevirtual index, 3)) (hws : wput ws is w1 = ws') (k : G T X Q cells slots ws' lv (pc + 3) st) : G T X Q cells slots ws lv pc stk := by
  subst hws
  intro H locs ls hP hD hS hl
  have hPc := va_sub hP is hC
  have hDc : va_D (xA X) wc := hD.sub is hn hC
  have hFc := va_free (wc := wc) hD hS hX.2.2.2.2.2.2.1 is hC
  have hR' : rm.frames + 1 ≤ (xR X).frames ∧ 8 + (maxL + 11) + rm.locals ≤ (xR X).locals := by rw [hX.2.2.2.2.2.2.2.2.2.2.2]; exact hR
  have hcs' : cells + 0 ≤ (xR X).cells ∧ slots + 0 ≤ (xR X).slots := by rw [hX.2.2.2.2.2.2.2.2.2.2.2]; exact hcs
  refine va_callv (va_runVN (As := As) (rest := st) ⟨hX.1, hX.2.1, rfl, hX.2.2.2.1, hX.2.2.2.2.1⟩ (hM H.size (fit_low hX hS)) ⟨va_cnB n hX.2.2.2.2.1 hG hw hrc hrs (hX.2.2.2.2.2.2.2.2.1.1 _ (List.mem_of_getElem? hlink)) (hX.2.2.2.2.1 _ hini) hd hR', hX.2.2.2.2.1 _ hinst, hX.2.2.2.2.1 _ hsel⟩ ⟨PreC_blind, va_recv hX.2.2.2.2.2.1 hP hc hrec, fun U hU hW => ⟨rfl, by rw [hU], by rw [hU]; exact hPc, va_K.moved hW.alike hX.2.2.2.2.2.1, hDc.weaken (fun _ q _ h => hX.2.2.2.2.2.2.2.2.2.1 _ h), hX.2.2.2.2.2.2.2.2.1.moved hS hX.2.2.2.2.2.2.2.2.2.1 hW hU⟩⟩ rfl hlen hl.1 hstk (lv_room hcat) hdg hcs') hS (fun q _ h => hFc q h) hFc (fun u t H1 locs1 ht hvm hw2 hB hz1 hk1 hS1 => ?_)
  subst hw2
  obtain ⟨hP1, hD1⟩ := hB
  rw [ht] at hP1
  obtain ⟨hP2, hD2⟩ := va_back hP hD is hC hA hn hk1 hP1
  exact k H1 locs1 ls hP2 hD2 hS1 hl
theorem g_cS_I (hX : Fit T X own nL Ts cc ret R) {y : MethodName} {bytes : ByteArray} {maxL n index : Nat} {ret' : Option FieldType} {wds wds' : List Cond} {rm : Room} {As : List Value} {wc ws' : va_W} {stk : List Value}  (hM : ConI (xL X) T (xB X) y wds rm As wc rv w1) (hG : GoodIn Ts (va_wsS own index y wds)) (hw : wds = Cond.code y bytes maxL ret' :: wds') (hrc : rm.cells = 0) (hrs : rm.slots = 0) (hR : rm.frames + 1 ≤ R.frames ∧ 8 + (maxL + 11) + rm.locals ≤ R.locals) (hcs : cells ≤ R.cells ∧ slots ≤ R.slots) (hd : y.cls ≠ "java/lang/invoke/MethodHandle" ∧ y.cls ≠ "java/lang/invoke/VarHandle" ∧ (parseMethodDescriptor y.desc).map (fun d => d.parameters.length) = some n) (hlen : As.length = n) (is : List Nat) (hC : is.map (fun i => ws[i]?) = wc.map some) (hA : w1.map (fun q => q.1) = wc.map (fun q => q.1)) (hn : va_nd is = true) (hstk : stk = As.reverse ++ st) (hcat : (st.map fun v => v.category).sum ≤ 8) (hdg : decode cc pc = .ok (.invokestatic index, 3)) (hws : wput ws is w1 = ws') (k : G T X Q cells slots ws' lv (pc + 3) (.int rv :: st)) : G T X Q cells slots ws lv pc stk := by
  subst hws
  intro H locs ls hP hD hS hl
  have hPc := va_sub hP is hC
  have hDc : va_D (xA X) wc := hD.sub is hn hC
  have hFc := va_free (wc := wc) hD hS hX.2.2.2.2.2.2.1 is hC
  have hR' : rm.frames + 1 ≤ (xR X).frames ∧ 8 + (maxL + 11) + rm.locals ≤ (xR X).locals := by rw [hX.2.2.2.2.2.2.2.2.2.2.2]; exact hR
  have hcs' : cells + 0 ≤ (xR X).cells ∧ slots + 0 ≤ (xR X).slots := by rw [hX.2.2.2.2.2.2.2.2.2.2.2]; exact hcs
  refine va_calli (va_runS (As := As) (rest := st) ⟨hX.1, hX.2.1, rfl, hX.2.2.2.1, hX.2.2.2.2.1⟩ (hM H.size (fit_low hX hS)) (va_cwS n hX.2.2.2.2.1 hG hw hrc hrs hd hR') ⟨PreC_blind, fun U hU hW => ⟨rfl, by rw [hU], by rw [hU]; exact hPc, va_K.moved hW.alike hX.2.2.2.2.2.1, hDc.weaken (fun _ q _ h => hX.2.2.2.2.2.2.2.2.2.1 _ h), hX.2.2.2.2.2.2.2.2.1.moved hS hX.2.2.2.2.2.2.2.2.2.1 hW hU⟩⟩ rfl hlen hl.1 hstk (lv_room hcat) hdg hcs') hS (fun q _ h => hFc q h) hFc (fun r u t H1 locs1 ht hvm hw2 hB hz1 hk1 hS1 => ?_)
  obtain ⟨rfl, rfl⟩ := hw2
  obtain ⟨hP1, hD1⟩ := hB
  rw [ht] at hP1
  obtain ⟨hP2, hD2⟩ := va_back hP hD is hC hA hn hk1 hP1
  exact k H1 locs1 ls hP2 hD2 hS1 hl
theorem g_cS_V (hX : Fit T X own nL Ts cc ret R) {y : MethodName} {bytes : ByteArray} {maxL n index : Nat} {ret' : Option FieldType} {wds wds' : List Cond} {rm : Room} {As : List Value} {wc ws' : va_W} {stk : List Value}  (hM : ConV (xL X) T (xB X) y wds rm As wc w1) (hG : GoodIn Ts (va_wsS own index y wds)) (hw : wds = Cond.code y bytes maxL ret' :: wds') (hrc : rm.cells = 0) (hrs : rm.slots = 0) (hR : rm.frames + 1 ≤ R.frames ∧ 8 + (maxL + 11) + rm.locals ≤ R.locals) (hcs : cells ≤ R.cells ∧ slots ≤ R.slots) (hd : y.cls ≠ "java/lang/invoke/MethodHandle" ∧ y.cls ≠ "java/lang/invoke/VarHandle" ∧ (parseMethodDescriptor y.desc).map (fun d => d.parameters.length) = some n) (hlen : As.length = n) (is : List Nat) (hC : is.map (fun i => ws[i]?) = wc.map some) (hA : w1.map (fun q => q.1) = wc.map (fun q => q.1)) (hn : va_nd is = true) (hstk : stk = As.reverse ++ st) (hcat : (st.map fun v => v.category).sum ≤ 8) (hdg : decode cc pc = .ok (.invokestatic index, 3)) (hws : wput ws is w1 = ws') (k : G T X Q cells slots ws' lv (pc + 3) st) : G T X Q cells slots ws lv pc stk := by
  subst hws
  intro H locs ls hP hD hS hl
  have hPc := va_sub hP is hC
  have hDc : va_D (xA X) wc := hD.sub is hn hC
  have hFc := va_free (wc := wc) hD hS hX.2.2.2.2.2.2.1 is hC
  have hR' : rm.frames + 1 ≤ (xR X).frames ∧ 8 + (maxL + 11) + rm.locals ≤ (xR X).locals := by rw [hX.2.2.2.2.2.2.2.2.2.2.2]; exact hR
  have hcs' : cells + 0 ≤ (xR X).cells ∧ slots + 0 ≤ (xR X).slots := by rw [hX.2.2.2.2.2.2.2.2.2.2.2]; exact hcs
  refine va_callv (va_runS (As := As) (rest := st) ⟨hX.1, hX.2.1, rfl, hX.2.2.2.1, hX.2.2.2.2.1⟩ (hM H.size (fit_low hX hS)) (va_cwS n hX.2.2.2.2.1 hG hw hrc hrs hd hR') ⟨PreC_blind, fun U hU hW => ⟨rfl, by rw [hU], by rw [hU]; exact hPc, va_K.moved hW.alike hX.2.2.2.2.2.1, hDc.weaken (fun _ q _ h => hX.2.2.2.2.2.2.2.2.2.1 _ h), hX.2.2.2.2.2.2.2.2.1.moved hS hX.2.2.2.2.2.2.2.2.2.1 hW hU⟩⟩ rfl hlen hl.1 hstk (lv_room hcat) hdg hcs') hS (fun q _ h => hFc q h) hFc (fun u t H1 locs1 ht hvm hw2 hB hz1 hk1 hS1 => ?_)
  subst hw2
  obtain ⟨hP1, hD1⟩ := hB
  rw [ht] at hP1
  obtain ⟨hP2, hD2⟩ := va_back hP hD is hC hA hn hk1 hP1
  exact k H1 locs1 ls hP2 hD2 hS1 hl
theorem g_cSN_I (hX : Fit T X own nL Ts cc ret R) {y : MethodName} {bytes : ByteArray} {maxL n index : Nat} {ret' : Option FieldType} {wds wds' : List Cond} {rm : Room} {As : List Value} {wc ws' : va_W} {stk : List Value}  (hM : ConI (xL X) T (xB X) y wds rm As wc rv w1) (hG : GoodIn Ts wds) (nk : Nat) {host : String} (hlink : nws[nk]? = some (Cond.methodLinkNest own index y host)) (hini : Cond.initialized y.cls ∈ Ts) (hstt : Cond.static y ∈ Ts) (hw : wds = Cond.code y bytes maxL ret' :: wds') (hrc : rm.cells = 0) (hrs : rm.slots = 0) (hR : rm.frames + 1 ≤ R.frames ∧ 8 + (maxL + 11) + rm.locals ≤ R.locals) (hcs : cells ≤ R.cells ∧ slots ≤ R.slots) (hd : y.cls ≠ "java/lang/invoke/MethodHandle" ∧ y.cls ≠ "java/lang/invoke/VarHandle" ∧ (parseMethodDescriptor y.desc).map (fun d => d.parameters.length) = some n) (hlen : As.length = n) (is : List Nat) (hC : is.map (fun i => ws[i]?) = wc.map some) (hA : w1.map (fun q => q.1) = wc.map (fun q => q.1)) (hn : va_nd is = true) (hstk : stk = As.reverse ++ st) (hcat : (st.map fun v => v.category).sum ≤ 8) (hdg : decode cc pc = .ok (.invokestatic index, 3)) (hws : wput ws is w1 = ws') (k : G T X Q cells slots ws' lv (pc + 3) (.int rv :: st)) : G T X Q cells slots ws lv pc stk := by
  subst hws
  intro H locs ls hP hD hS hl
  have hPc := va_sub hP is hC
  have hDc : va_D (xA X) wc := hD.sub is hn hC
  have hFc := va_free (wc := wc) hD hS hX.2.2.2.2.2.2.1 is hC
  have hR' : rm.frames + 1 ≤ (xR X).frames ∧ 8 + (maxL + 11) + rm.locals ≤ (xR X).locals := by rw [hX.2.2.2.2.2.2.2.2.2.2.2]; exact hR
  have hcs' : cells + 0 ≤ (xR X).cells ∧ slots + 0 ≤ (xR X).slots := by rw [hX.2.2.2.2.2.2.2.2.2.2.2]; exact hcs
  refine va_calli (va_runSN (As := As) (rest := st) ⟨hX.1, hX.2.1, rfl, hX.2.2.2.1, hX.2.2.2.2.1⟩ (hM H.size (fit_low hX hS)) ⟨va_cnB n hX.2.2.2.2.1 hG hw hrc hrs (hX.2.2.2.2.2.2.2.2.1.1 _ (List.mem_of_getElem? hlink)) (hX.2.2.2.2.1 _ hini) hd hR', hX.2.2.2.2.1 _ hstt, trivial⟩ ⟨PreC_blind, fun U hU hW => ⟨rfl, by rw [hU], by rw [hU]; exact hPc, va_K.moved hW.alike hX.2.2.2.2.2.1, hDc.weaken (fun _ q _ h => hX.2.2.2.2.2.2.2.2.2.1 _ h), hX.2.2.2.2.2.2.2.2.1.moved hS hX.2.2.2.2.2.2.2.2.2.1 hW hU⟩⟩ rfl hlen hl.1 hstk (lv_room hcat) hdg hcs') hS (fun q _ h => hFc q h) hFc (fun r u t H1 locs1 ht hvm hw2 hB hz1 hk1 hS1 => ?_)
  obtain ⟨rfl, rfl⟩ := hw2
  obtain ⟨hP1, hD1⟩ := hB
  rw [ht] at hP1
  obtain ⟨hP2, hD2⟩ := va_back hP hD is hC hA hn hk1 hP1
  exact k H1 locs1 ls hP2 hD2 hS1 hl
theorem g_cSN_V (hX : Fit T X own nL Ts cc ret R) {y : MethodName} {bytes : ByteArray} {maxL n index : Nat} {ret' : Option FieldType} {wds wds' : List Cond} {rm : Room} {As : List Value} {wc ws' : va_W} {stk : List Value}  (hM : ConV (xL X) T (xB X) y wds rm As wc w1) (hG : GoodIn Ts wds) (nk : Nat) {host : String} (hlink : nws[nk]? = some (Cond.methodLinkNest own index y host)) (hini : Cond.initialized y.cls ∈ Ts) (hstt : Cond.static y ∈ Ts) (hw : wds = Cond.code y bytes maxL ret' :: wds') (hrc : rm.cells = 0) (hrs : rm.slots = 0) (hR : rm.frames + 1 ≤ R.frames ∧ 8 + (maxL + 11) + rm.locals ≤ R.locals) (hcs : cells ≤ R.cells ∧ slots ≤ R.slots) (hd : y.cls ≠ "java/lang/invoke/MethodHandle" ∧ y.cls ≠ "java/lang/invoke/VarHandle" ∧ (parseMethodDescriptor y.desc).map (fun d => d.parameters.length) = some n) (hlen : As.length = n) (is : List Nat) (hC : is.map (fun i => ws[i]?) = wc.map some) (hA : w1.map (fun q => q.1) = wc.map (fun q => q.1)) (hn : va_nd is = true) (hstk : stk = As.reverse ++ st) (hcat : (st.map fun v => v.category).sum ≤ 8) (hdg : decode cc pc = .ok (.invokestatic index, 3)) (hws : wput ws is w1 = ws') (k : G T X Q cells slots ws' lv (pc + 3) st) : G T X Q cells slots ws lv pc stk := by
  subst hws
  intro H locs ls hP hD hS hl
  have hPc := va_sub hP is hC
  have hDc : va_D (xA X) wc := hD.sub is hn hC
  have hFc := va_free (wc := wc) hD hS hX.2.2.2.2.2.2.1 is hC
  have hR' : rm.frames + 1 ≤ (xR X).frames ∧ 8 + (maxL + 11) + rm.locals ≤ (xR X).locals := by rw [hX.2.2.2.2.2.2.2.2.2.2.2]; exact hR
  have hcs' : cells + 0 ≤ (xR X).cells ∧ slots + 0 ≤ (xR X).slots := by rw [hX.2.2.2.2.2.2.2.2.2.2.2]; exact hcs
  refine va_callv (va_runSN (As := As) (rest := st) ⟨hX.1, hX.2.1, rfl, hX.2.2.2.1, hX.2.2.2.2.1⟩ (hM H.size (fit_low hX hS)) ⟨va_cnB n hX.2.2.2.2.1 hG hw hrc hrs (hX.2.2.2.2.2.2.2.2.1.1 _ (List.mem_of_getElem? hlink)) (hX.2.2.2.2.1 _ hini) hd hR', hX.2.2.2.2.1 _ hstt, trivial⟩ ⟨PreC_blind, fun U hU hW => ⟨rfl, by rw [hU], by rw [hU]; exact hPc, va_K.moved hW.alike hX.2.2.2.2.2.1, hDc.weaken (fun _ q _ h => hX.2.2.2.2.2.2.2.2.2.1 _ h), hX.2.2.2.2.2.2.2.2.1.moved hS hX.2.2.2.2.2.2.2.2.2.1 hW hU⟩⟩ rfl hlen hl.1 hstk (lv_room hcat) hdg hcs') hS (fun q _ h => hFc q h) hFc (fun u t H1 locs1 ht hvm hw2 hB hz1 hk1 hS1 => ?_)
  subst hw2
  obtain ⟨hP1, hD1⟩ := hB
  rw [ht] at hP1
  obtain ⟨hP2, hD2⟩ := va_back hP hD is hC hA hn hk1 hP1
  exact k H1 locs1 ls hP2 hD2 hS1 hl
theorem g_objInit (hX : Fit T X own nL Ts cc ret R) {a index : Nat} (hlink : Cond.methodLink own index objectInit ∈ Ts) (hinst : Cond.instanceMethod objectInit ∈ Ts) (hcode : Cond.code objectInit ⟨#[0xb1]⟩ 1 none ∈ Ts) (hfr : 1 ≤ R.frames) (hlo : 12 + (st.map fun v => v.category).sum ≤ R.locals) (hdg : decode cc pc = .ok (.invokespecial index, 3)) (k : G T X Q cells slots ws lv (pc + 3) st) : G T X Q cells slots ws lv pc (.ref a :: st) := by
  intro H locs ls hP hD hS hl
  have e : xR X = R := hX.2.2.2.2.2.2.2.2.2.2.2
  exact W.objInit hX.1 hX.2.1 hX.2.2.2.1 (hX.2.2.2.2.1 _ hlink) (hX.2.2.2.2.1 _ hinst) (hX.2.2.2.2.1 _ hcode) rfl hl.1 rfl hdg (by rw [e]; exact hfr) (by rw [e]; show 2 * 0 + _ + 12 ≤ _; omega) (k H locs ls hP hD hS hl)
end GC
end
section
/-! What a state of each class is: cells at addresses, and a value of functions on places -/
abbrev WV : Type := (Nat → Int32) × (Nat → Int32)
abbrev SV : Type := (Nat → Int32) × WV × (Nat → Int32) × (Nat → Int32)
abbrev TV : Type := (Nat → Int32) × (Nat → Int32) × (Nat → Int32) × (Nat → Int32)
abbrev QV2 : Type := (Nat → Int32) × (Nat → Int32)
abbrev MV : Type := (Nat → Int32) × (Nat → Int32) × (Nat → Int32) × (Nat → Int32) × (Nat → Int32) × (Nat → Int32) × (Nat → Int32)
abbrev wAr (T : TT) (a : Nat) (N : Nat) (f : Nat → Int32) : va_W := [(a, .inl (T.2.1, N, .inl f))]
abbrev wWr (T : TT) (w h : Nat) (v : WV) : va_W := [(w, .inr (3, [.ref h, .int (v.1 0), .int (v.1 1), .int (v.1 2)])), (h, .inl (T.2.1, 12, .inl v.2))]
abbrev wSt (T : TT) (a w h k n : Nat) (u : SV) : va_W := [(a, .inr (2, [.ref w, .ref k, .ref n, .int (u.1 0), .int (u.1 1), .int (u.1 2), .int (u.1 3), .int (u.1 4), .int (u.1 5), .int (u.1 6), .int (u.1 7)])), (w, .inr (3, [.ref h, .int (u.2.1.1 0), .int (u.2.1.1 1), .int (u.2.1.1 2)])), (h, .inl (T.2.1, 12, .inl u.2.1.2)), (k, .inl (T.2.1, 12, .inl u.2.2.1)), (n, .inl (T.2.1, 5, .inl u.2.2.2))]
abbrev wTx (T : TT) (t c k v : Nat) (u : TV) : va_W := [(t, .inr (0, [.ref c, .ref k, .ref v, .int (u.1 0), .int (u.1 1), .int (u.1 2), .int (u.1 3)])), (c, .inl (T.2.2.1, 60, .inl u.2.1)), (k, .inl (T.2.1, 60, .inl u.2.2.1)), (v, .inl (T.2.1, 60, .inl u.2.2.2))]
abbrev wMa (T : TT) (x al : Nat) (rs : List Value) (a : Nat → Int32) : va_W := [(x, .inr (5, .ref al :: rs)), (al, .inl (T.2.1, 37, .inl a))]
abbrev wMt (T : TT) (x te : Nat) (o0 o1 o2 o3 o4 o5 o6 o11 : Value) (q : QV2) : va_W := [(x, .inr (5, [o0, o1, o2, o3, o4, o5, o6, .ref te, .int (q.1 0), .int (q.1 1), .int (q.1 2), o11])), (te, .inl (T.2.1, 60, .inl q.2))]
abbrev wMo (T : TT) (x al ke tr hi sn te : Nat) (u : MV) : va_W := [(x, .inr (5, [.ref al, .ref ke, .ref tr, .ref hi, .int (u.1 0), .ref sn, .int (u.1 1), .ref te, .int (u.1 2), .int (u.1 3), .int (u.1 4), .int (u.1 5)])), (al, .inl (T.2.1, 37, .inl u.2.1)), (ke, .inl (T.2.1, 37, .inl u.2.2.1)), (tr, .inl (T.2.1, 37, .inl u.2.2.2.1)), (hi, .inl (T.2.1, 148, .inl u.2.2.2.2.1)), (sn, .inl (T.2.1, 37, .inl u.2.2.2.2.2.1)), (te, .inl (T.2.1, 60, .inl u.2.2.2.2.2.2))]
theorem vin_of {i N : Int32} {n : Nat} (h1 : ¬ i < 0) (h2 : ¬ N ≤ i) (hN : N.toInt = (n : Int)) : vp_in i n := by
  rw [vp_in_iff]
  rw [Int32.lt_iff_toInt_lt] at h1
  rw [Int32.le_iff_toInt_le, hN] at h2
  have h0 : (0 : Int32).toInt = 0 := by decide
  rw [h0] at h1
  omega
theorem vin_c {i : Int32} {n : Nat} (h : decide (¬ (i < 0 ∨ n ≤ i.toNatClampNeg)) = true) : vp_in i n := (show ¬ (i < 0 ∨ n ≤ i.toNatClampNeg) from of_decide_eq_true h)
theorem fit_low_tab {T : TT} {X : CX} {own : String} {nL : Nat} {Ts : List Cond} {cc : ByteArray} {ret : Option FieldType} {R : Room} (hX : Fit T X own nL Ts cc ret R) : sTab "LOWEST" 7 fLow (xB X) (xS X) := hX.2.2.2.2.2.2.2.2.1.2.1
theorem fit_high_tab {T : TT} {X : CX} {own : String} {nL : Nat} {Ts : List Cond} {cc : ByteArray} {ret : Option FieldType} {R : Room} (hX : Fit T X own nL Ts cc ret R) : sTab "HIGHEST" 7 fHigh (xB X) (xS X) := hX.2.2.2.2.2.2.2.2.1.2.2.1
theorem nlt_of {j c : Nat} {C : Int32} (h : ¬ C ≤ nI j) (hC : C.toInt = (c : Int)) (hj : j < 2 ^ 31) : j < c := by
  rw [Int32.le_iff_toInt_le, hC, nI_toInt hj] at h
  omega
theorem ixc (c j : Nat) (h : c + j < 2 ^ 31) : (nI c + nI j).toNatClampNeg = c + j := by rw [nI_add]; exact nI_clamp h
theorem vinc (c j n : Nat) (h : c + j < n) (hn : n < 2 ^ 31) : vp_in (nI c + nI j) n := by rw [nI_add]; exact vp_in_nI h hn
theorem lt_of_n {j c : Nat} {C : Int32} (h : nI j < C) (hC : C.toInt = (c : Int)) (hj : j < 2 ^ 31) : j < c := by
  rw [Int32.lt_iff_toInt_lt, hC, nI_toInt hj] at h
  omega
theorem le_of_n {j c : Nat} {C : Int32} (h : nI j ≤ C) (hC : C.toInt = (c : Int)) (hj : j < 2 ^ 31) : j ≤ c := by
  rw [Int32.le_iff_toInt_le, hC, nI_toInt hj] at h
  omega
theorem nle_of {j c : Nat} {C : Int32} (h : ¬ C < nI j) (hC : C.toInt = (c : Int)) (hj : j < 2 ^ 31) : j ≤ c := by
  rw [Int32.lt_iff_toInt_lt, hC, nI_toInt hj] at h
  omega
theorem nlt_p {j c : Nat} {p : Int32} (h : ¬ p ≤ nI j) (hp : p.toInt ≤ (c : Int)) (hj : j < 2 ^ 31) : j < c := by
  rw [Int32.le_iff_toInt_le, nI_toInt hj] at h
  omega
theorem nle_p {j c : Nat} {p : Int32} (h : ¬ p < nI j) (hp : p.toInt ≤ (c : Int)) (hj : j < 2 ^ 31) : j ≤ c := by
  rw [Int32.lt_iff_toInt_lt, nI_toInt hj] at h
  omega
theorem narrow_b {x : Int32} (h : x = 0 ∨ x = 1) : narrow .boolean (.int x) = .int x := by
  rcases h with h | h <;> rw [h] <;> rfl
theorem vin_lt {i N : Int32} {n : Nat} (h1 : ¬ i < 0) (h2 : i < N) (hN : N.toInt = (n : Int)) : vp_in i n := by
  rw [vp_in_iff]
  rw [Int32.lt_iff_toInt_lt] at h1 h2
  have h0 : (0 : Int32).toInt = 0 := by decide
  rw [h0] at h1
  rw [hN] at h2
  omega
section GF
variable {T : TT} {X : CX} {own : String} {nL : Nat} {Ts : List Cond} {cc : ByteArray} {ret : Option FieldType} {R : Room} {Q : State → Prop} {cells slots : Nat} {ws : va_W} {lv : List (Nat × Value)} {pc : Nat} {st : List Value}
def fHas (T : TT) (X : CX) (t : Nat) : Prop := (xS X).heap[t]? = some (vp_cell T.2.1 (5, .inl fFirst)) ∧ t < xB X
theorem fHas_P (hX : Fit T X own nL Ts cc ret R) {t : Nat} (hF : fHas T X t) {H : Heap} {locs : List Loc} (hS : va_S (xA X) (xS X).heap H locs) : va_P T.1 vwCl [(t, .inl (T.2.1, 5, .inl fFirst))] H := by
  have hn : ¬ xA X t := fun z => by
    have := hX.2.2.2.2.2.2.2.2.2.1 t z
    have := hF.2
    omega
  have h1 : H[t]? = some (vp_cell T.2.1 (5, .inl fFirst)) := by rw [hS.2.1 t (Array.getElem?_eq_some_iff.mp hF.1).1 hn]; exact hF.1
  intro k q hq
  cases k with
  | zero => cases hq; exact h1
  | succ k => simp at hq
theorem g_first (hX : Fit T X own nL Ts cc ret R) {index : Nat} (nk : Nat) {host : String} (hlink : nws[nk]? = some (Cond.fieldLinkNest own index RX4 "FIRST_NUMBERS" "[I" host)) (hdg : decode cc pc = .ok (.getstatic index, 3)) (k : ∀ t : Nat, fHas T X t → G T X Q cells slots ws lv (pc + 3) (.ref t :: st)) : G T X Q cells slots ws lv pc st := by
  obtain ⟨t, h1, h2, h3⟩ := hX.2.2.2.2.2.2.2.2.1.2.2.2
  intro H locs ls hP hD hS hl
  exact va_getsN hX.1 hX.2.1 (h1.narrow hX.2.2.2.2.2.2.2.2.2.1) hS hX.2.2.2.1 (va_Nw.use rfl (hX.2.2.2.2.2.2.2.2.1.1 _ (List.mem_of_getElem? hlink))) (fun _ h9 => h9) hdg (k t ⟨h2, h3⟩ H locs ls hP hD hS hl)
theorem g_flen (hX : Fit T X own nL Ts cc ret R) {t : Nat} (hF : fHas T X t) (hdg : decode cc pc = .ok (.arraylength, 1)) (k : G T X Q cells slots ws lv (pc + 1) (.int 5 :: st)) : G T X Q cells slots ws lv pc (.ref t :: st) := fun H locs ls hP hD hS hl => va_alen (D := T.1) hX.1 hX.2.1 hX.2.2.2.2.2.1 (fHas_P hX hF hS) 0 0 rfl rfl rfl hdg (k H locs ls hP hD hS hl)
end GF
theorem fits_b {x : Int32} (h : x = 0 ∨ x = 1) : fits .boolean (.int x) = true := by
  rcases h with h | h <;> rw [h] <;> rfl
end
section
/-! X4_oneIf -/
def rmX4_oneIf : Room := { frames := 0, cells := 0, slots := 0, locals := 0 }
def F_X4_oneIf (p1 : Int32) : Int32 :=
  (if p1 = 0 then 0 else 1)
set_option maxHeartbeats 4000000 in
set_option maxRecDepth 100000 in
theorem c_X4_oneIf (l : Launch) (T : TT) (b0 : Nat) (p1 : Int32)  : ConI l T b0 yX4_oneIf wsX4_oneIf rmX4_oneIf [.int p1] ([]) (F_X4_oneIf p1) ([]) := by
  refine conI_of (cc := cX4_oneIf) (maxL := 1) (ret := (some .int)) (lv0 := [(0, .int p1)]) (by decide +kernel) rfl (Nat.le_of_ble_eq_true rfl) rfl (fun X hX => ?_)
  refine g_iload_n hX dX4_oneIf_0 rfl 0 rfl ?_
  refine g_if_eq hX 8 dX4_oneIf_1 (by decide) (fun c_1 => ?_) (fun c_1 => ?_)
  · skip
    refine g_iconst hX (v := 0) dX4_oneIf_8 (by decide) ?_
    have e9 : F_X4_oneIf p1 = 0 := by simp only [F_X4_oneIf, eq_true c_1, if_true, if_false]
    rw [e9]
    exact g_iret hX dX4_oneIf_9 rfl rfl
  · skip
    refine g_iconst hX (v := 1) dX4_oneIf_4 (by decide) ?_
    refine g_goto hX 9 dX4_oneIf_5 (by decide) ?_
    have e9 : F_X4_oneIf p1 = 1 := by simp only [F_X4_oneIf, eq_false c_1, if_true, if_false]
    rw [e9]
    exact g_iret hX dX4_oneIf_9 rfl rfl
/-! X4_lowest -/
def rmX4_lowest : Room := { frames := 0, cells := 0, slots := 0, locals := 0 }
theorem k_X4_lowest_0 : Cond.fieldLink RX4 216 RX4 "LOWEST" "[I" ∈ wsX4_lowest := List.mem_of_getElem? (i := 1) rfl
def F_X4_lowest (p1 : Int32) : Int32 :=
  (if p1 < 0 then 0 else (if 7 ≤ p1 then 0 else (fLowI (Int32.toNatClampNeg p1))))
set_option maxHeartbeats 4000000 in
set_option maxRecDepth 100000 in
theorem c_X4_lowest (l : Launch) (T : TT) (b0 : Nat) (p1 : Int32)  : ConI l T b0 yX4_lowest wsX4_lowest rmX4_lowest [.int p1] ([]) (F_X4_lowest p1) ([]) := by
  refine conI_of (cc := cX4_lowest) (maxL := 1) (ret := (some .int)) (lv0 := [(0, .int p1)]) (by decide +kernel) rfl (Nat.le_of_ble_eq_true rfl) rfl (fun X hX => ?_)
  refine g_iload_n hX dX4_lowest_0 rfl 0 rfl ?_
  refine g_if_lt hX 20 dX4_lowest_1 (by decide) (fun c_1 => ?_) (fun c_1 => ?_)
  · skip
    refine g_iconst hX (v := 0) dX4_lowest_20 (by decide) ?_
    have e9 : F_X4_lowest p1 = 0 := by simp only [F_X4_lowest, eq_true c_1, if_true, if_false]
    rw [e9]
    exact g_iret hX dX4_lowest_21 rfl rfl
  · skip
    refine g_iload_n hX dX4_lowest_4 rfl 0 rfl ?_
    refine g_tab hX (fit_low_tab hX) k_X4_lowest_0 dX4_lowest_5 (fun t_5 hT_5 => ?_)
    refine g_tlen hX hT_5 (v := 7) (by decide) dX4_lowest_8 ?_
    refine g_icmp_ge hX 20 dX4_lowest_9 (by decide) (fun c_9 => ?_) (fun c_9 => ?_)
    · skip
      refine g_iconst hX (v := 0) dX4_lowest_20 (by decide) ?_
      have e9 : F_X4_lowest p1 = 0 := by simp only [F_X4_lowest, eq_false c_1, eq_true c_9, if_true, if_false]
      rw [e9]
      exact g_iret hX dX4_lowest_21 rfl rfl
    · skip
      refine g_tab hX (fit_low_tab hX) k_X4_lowest_0 dX4_lowest_12 (fun t_12 hT_12 => ?_)
      refine g_iload_n hX dX4_lowest_15 rfl 0 rfl ?_
      refine g_tld hX hT_12 (vin_of c_1 c_9 (by decide)) (v := .int (fLowI (Int32.toNatClampNeg p1))) rfl dX4_lowest_16 ?_
      refine g_goto hX 21 dX4_lowest_17 (by decide) ?_
      have e9 : F_X4_lowest p1 = (fLowI (Int32.toNatClampNeg p1)) := by simp only [F_X4_lowest, eq_false c_1, eq_false c_9, if_true, if_false]
      rw [e9]
      exact g_iret hX dX4_lowest_21 rfl rfl
/-! X4_highest -/
def rmX4_highest : Room := { frames := 0, cells := 0, slots := 0, locals := 0 }
theorem k_X4_highest_0 : Cond.fieldLink RX4 220 RX4 "HIGHEST" "[I" ∈ wsX4_highest := List.mem_of_getElem? (i := 1) rfl
def F_X4_highest (p1 : Int32) : Int32 :=
  (if p1 < 0 then (-1) else (if 7 ≤ p1 then (-1) else (fHighI (Int32.toNatClampNeg p1))))
set_option maxHeartbeats 4000000 in
set_option maxRecDepth 100000 in
theorem c_X4_highest (l : Launch) (T : TT) (b0 : Nat) (p1 : Int32)  : ConI l T b0 yX4_highest wsX4_highest rmX4_highest [.int p1] ([]) (F_X4_highest p1) ([]) := by
  refine conI_of (cc := cX4_highest) (maxL := 1) (ret := (some .int)) (lv0 := [(0, .int p1)]) (by decide +kernel) rfl (Nat.le_of_ble_eq_true rfl) rfl (fun X hX => ?_)
  refine g_iload_n hX dX4_highest_0 rfl 0 rfl ?_
  refine g_if_lt hX 20 dX4_highest_1 (by decide) (fun c_1 => ?_) (fun c_1 => ?_)
  · skip
    refine g_iconst hX (v := (-1)) dX4_highest_20 (by decide) ?_
    have e9 : F_X4_highest p1 = (-1) := by simp only [F_X4_highest, eq_true c_1, if_true, if_false]
    rw [e9]
    exact g_iret hX dX4_highest_21 rfl rfl
  · skip
    refine g_iload_n hX dX4_highest_4 rfl 0 rfl ?_
    refine g_tab hX (fit_high_tab hX) k_X4_highest_0 dX4_highest_5 (fun t_5 hT_5 => ?_)
    refine g_tlen hX hT_5 (v := 7) (by decide) dX4_highest_8 ?_
    refine g_icmp_ge hX 20 dX4_highest_9 (by decide) (fun c_9 => ?_) (fun c_9 => ?_)
    · skip
      refine g_iconst hX (v := (-1)) dX4_highest_20 (by decide) ?_
      have e9 : F_X4_highest p1 = (-1) := by simp only [F_X4_highest, eq_false c_1, eq_true c_9, if_true, if_false]
      rw [e9]
      exact g_iret hX dX4_highest_21 rfl rfl
    · skip
      refine g_tab hX (fit_high_tab hX) k_X4_highest_0 dX4_highest_12 (fun t_12 hT_12 => ?_)
      refine g_iload_n hX dX4_highest_15 rfl 0 rfl ?_
      refine g_tld hX hT_12 (vin_of c_1 c_9 (by decide)) (v := .int (fHighI (Int32.toNatClampNeg p1))) rfl dX4_highest_16 ?_
      refine g_goto hX 21 dX4_highest_17 (by decide) ?_
      have e9 : F_X4_highest p1 = (fHighI (Int32.toNatClampNeg p1)) := by simp only [F_X4_highest, eq_false c_1, eq_false c_9, if_true, if_false]
      rw [e9]
      exact g_iret hX dX4_highest_21 rfl rfl
/-! X4_inRange -/
def rmX4_inRange : Room := { frames := 1, cells := 0, slots := 0, locals := 20 }
def F_X4_inRange (p1 : Int32) (p2 : Int32) : Int32 :=
  (if p2 < (F_X4_lowest p1) then 0 else (if (F_X4_highest p1) < p2 then 0 else 1))
set_option maxHeartbeats 4000000 in
set_option maxRecDepth 100000 in
theorem c_X4_inRange (l : Launch) (T : TT) (b0 : Nat) (p1 : Int32) (p2 : Int32)  : ConI l T b0 yX4_inRange wsX4_inRange rmX4_inRange [.int p1, .int p2] ([]) (F_X4_inRange p1 p2) ([]) := by
  refine conI_of (cc := cX4_inRange) (maxL := 2) (ret := (some .boolean)) (lv0 := [(0, .int p1), (1, .int p2)]) (by decide +kernel) rfl (Nat.le_of_ble_eq_true rfl) rfl (fun X hX => ?_)
  refine g_iload_n hX dX4_inRange_0 rfl 1 rfl ?_
  refine g_iload_n hX dX4_inRange_1 rfl 0 rfl ?_
  refine g_cS_I hX (n := 1) (As := [.int p1]) (wc := []) (w1 := []) (rv := (F_X4_lowest p1)) (st := [.int p2]) (c_X4_lowest (xL X) T (xB X) p1) gX4_inRange_X4_lowest rfl rfl rfl ⟨Nat.le_of_ble_eq_true rfl, Nat.le_of_ble_eq_true rfl⟩ ⟨Nat.zero_le _, Nat.zero_le _⟩ ⟨by decide +kernel, by decide +kernel, by decide +kernel⟩ rfl [] rfl rfl (by decide) rfl (Nat.le_of_ble_eq_true rfl) dX4_inRange_2 (ws' := []) rfl ?_
  refine g_icmp_lt hX 20 dX4_inRange_5 (by decide) (fun c_5 => ?_) (fun c_5 => ?_)
  · skip
    refine g_iconst hX (v := 0) dX4_inRange_20 (by decide) ?_
    have e9 : F_X4_inRange p1 p2 = 0 := by simp only [F_X4_inRange, eq_true c_5, if_true, if_false]
    rw [e9]
    exact g_zret hX dX4_inRange_21 rfl rfl rfl
  · skip
    refine g_iload_n hX dX4_inRange_8 rfl 1 rfl ?_
    refine g_iload_n hX dX4_inRange_9 rfl 0 rfl ?_
    refine g_cS_I hX (n := 1) (As := [.int p1]) (wc := []) (w1 := []) (rv := (F_X4_highest p1)) (st := [.int p2]) (c_X4_highest (xL X) T (xB X) p1) gX4_inRange_X4_highest rfl rfl rfl ⟨Nat.le_of_ble_eq_true rfl, Nat.le_of_ble_eq_true rfl⟩ ⟨Nat.zero_le _, Nat.zero_le _⟩ ⟨by decide +kernel, by decide +kernel, by decide +kernel⟩ rfl [] rfl rfl (by decide) rfl (Nat.le_of_ble_eq_true rfl) dX4_inRange_10 (ws' := []) rfl ?_
    refine g_icmp_gt hX 20 dX4_inRange_13 (by decide) (fun c_13 => ?_) (fun c_13 => ?_)
    · skip
      refine g_iconst hX (v := 0) dX4_inRange_20 (by decide) ?_
      have e9 : F_X4_inRange p1 p2 = 0 := by simp only [F_X4_inRange, eq_false c_5, eq_true c_13, if_true, if_false]
      rw [e9]
      exact g_zret hX dX4_inRange_21 rfl rfl rfl
    · skip
      refine g_iconst hX (v := 1) dX4_inRange_16 (by decide) ?_
      refine g_goto hX 21 dX4_inRange_17 (by decide) ?_
      have e9 : F_X4_inRange p1 p2 = 1 := by simp only [F_X4_inRange, eq_false c_5, eq_false c_13, if_true, if_false]
      rw [e9]
      exact g_zret hX dX4_inRange_21 rfl rfl rfl
/-! X3_guidePlace -/
def rmX3_guidePlace : Room := { frames := 0, cells := 0, slots := 0, locals := 0 }
theorem k_X3_guidePlace_0 : Cond.fieldLink RX3 22 RX3 (TX3 3).2.1 (TX3 3).2.2.1 ∈ wsX3_guidePlace := List.mem_of_getElem? (i := 1) rfl
theorem h_X3_guidePlace_X3 : ∀ w ∈ u_ws RX3 TX3 4, w ∈ wsX3_guidePlace := fun w h => List.mem_cons_of_mem _ (List.mem_append_right _ h)
def F_X3_guidePlace (u : WV) : Int32 :=
  (if 11 < (u.1 2) then (22 - (u.1 2)) else (u.1 2))
set_option maxHeartbeats 4000000 in
set_option maxRecDepth 100000 in
theorem c_X3_guidePlace (l : Launch) (T : TT) (b0 : Nat) (w h : Nat) (u : WV)  : ConI l T b0 yX3_guidePlace wsX3_guidePlace rmX3_guidePlace [.ref w] (wWr T w h u) (F_X3_guidePlace u) (wWr T w h u) := by
  refine conI_of (cc := cX3_guidePlace) (maxL := 1) (ret := (some .int)) (lv0 := [(0, .ref w)]) (by decide +kernel) rfl (Nat.le_of_ble_eq_true rfl) rfl (fun X hX => ?_)
  refine g_aload_n hX dX3_guidePlace_0 rfl 0 rfl ?_
  refine g_get hX 3 h_X3_guidePlace_X3 0 rfl rfl 3 (by decide) k_X3_guidePlace_0 rfl (v := .int (u.1 2)) rfl dX3_guidePlace_1 ?_
  refine g_bipush hX (v := 11) dX3_guidePlace_4 (by decide) ?_
  refine g_icmp_gt hX 16 dX3_guidePlace_6 (by decide) (fun c_6 => ?_) (fun c_6 => ?_)
  · skip
    refine g_bipush hX (v := 22) dX3_guidePlace_16 (by decide) ?_
    refine g_aload_n hX dX3_guidePlace_18 rfl 0 rfl ?_
    refine g_get hX 3 h_X3_guidePlace_X3 0 rfl rfl 3 (by decide) k_X3_guidePlace_0 rfl (v := .int (u.1 2)) rfl dX3_guidePlace_19 ?_
    refine g_isub hX dX3_guidePlace_22 ?_
    have e9 : F_X3_guidePlace u = (22 - (u.1 2)) := by simp only [F_X3_guidePlace, eq_true c_6, if_true, if_false]
    rw [e9]
    exact g_iret hX dX3_guidePlace_23 rfl rfl
  · skip
    refine g_aload_n hX dX3_guidePlace_9 rfl 0 rfl ?_
    refine g_get hX 3 h_X3_guidePlace_X3 0 rfl rfl 3 (by decide) k_X3_guidePlace_0 rfl (v := .int (u.1 2)) rfl dX3_guidePlace_10 ?_
    refine g_goto hX 23 dX3_guidePlace_13 (by decide) ?_
    have e9 : F_X3_guidePlace u = (u.1 2) := by simp only [F_X3_guidePlace, eq_false c_6, if_true, if_false]
    rw [e9]
    exact g_iret hX dX3_guidePlace_23 rfl rfl
/-! X3_guideGoesBack -/
def rmX3_guideGoesBack : Room := { frames := 0, cells := 0, slots := 0, locals := 0 }
theorem k_X3_guideGoesBack_0 : Cond.fieldLink RX3 22 RX3 (TX3 3).2.1 (TX3 3).2.2.1 ∈ wsX3_guideGoesBack := List.mem_of_getElem? (i := 1) rfl
theorem h_X3_guideGoesBack_X3 : ∀ w ∈ u_ws RX3 TX3 4, w ∈ wsX3_guideGoesBack := fun w h => List.mem_cons_of_mem _ (List.mem_append_right _ h)
def F_X3_guideGoesBack (u : WV) : Int32 :=
  (if (u.1 2) < 11 then 0 else 1)
set_option maxHeartbeats 4000000 in
set_option maxRecDepth 100000 in
theorem c_X3_guideGoesBack (l : Launch) (T : TT) (b0 : Nat) (w h : Nat) (u : WV)  : ConI l T b0 yX3_guideGoesBack wsX3_guideGoesBack rmX3_guideGoesBack [.ref w] (wWr T w h u) (F_X3_guideGoesBack u) (wWr T w h u) := by
  refine conI_of (cc := cX3_guideGoesBack) (maxL := 1) (ret := (some .boolean)) (lv0 := [(0, .ref w)]) (by decide +kernel) rfl (Nat.le_of_ble_eq_true rfl) rfl (fun X hX => ?_)
  refine g_aload_n hX dX3_guideGoesBack_0 rfl 0 rfl ?_
  refine g_get hX 3 h_X3_guideGoesBack_X3 0 rfl rfl 3 (by decide) k_X3_guideGoesBack_0 rfl (v := .int (u.1 2)) rfl dX3_guideGoesBack_1 ?_
  refine g_bipush hX (v := 11) dX3_guideGoesBack_4 (by decide) ?_
  refine g_icmp_lt hX 13 dX3_guideGoesBack_6 (by decide) (fun c_6 => ?_) (fun c_6 => ?_)
  · skip
    refine g_iconst hX (v := 0) dX3_guideGoesBack_13 (by decide) ?_
    have e9 : F_X3_guideGoesBack u = 0 := by simp only [F_X3_guideGoesBack, eq_true c_6, if_true, if_false]
    rw [e9]
    exact g_zret hX dX3_guideGoesBack_14 rfl rfl rfl
  · skip
    refine g_iconst hX (v := 1) dX3_guideGoesBack_9 (by decide) ?_
    refine g_goto hX 14 dX3_guideGoesBack_10 (by decide) ?_
    have e9 : F_X3_guideGoesBack u = 1 := by simp only [F_X3_guideGoesBack, eq_false c_6, if_true, if_false]
    rw [e9]
    exact g_zret hX dX3_guideGoesBack_14 rfl rfl rfl
/-! X3_heightAt -/
def rmX3_heightAt : Room := { frames := 0, cells := 0, slots := 0, locals := 0 }
theorem k_X3_heightAt_0 : Cond.fieldLink RX3 9 RX3 (TX3 0).2.1 (TX3 0).2.2.1 ∈ wsX3_heightAt := List.mem_of_getElem? (i := 1) rfl
theorem h_X3_heightAt_X3 : ∀ w ∈ u_ws RX3 TX3 4, w ∈ wsX3_heightAt := fun w h => List.mem_cons_of_mem _ (List.mem_append_right _ h)
def F_X3_heightAt (u : WV) (p1 : Int32) : Int32 :=
  (if p1 < 0 then 0 else (if 12 ≤ p1 then 0 else (u.2 (Int32.toNatClampNeg p1))))
set_option maxHeartbeats 4000000 in
set_option maxRecDepth 100000 in
theorem c_X3_heightAt (l : Launch) (T : TT) (b0 : Nat) (w h : Nat) (u : WV) (p1 : Int32)  : ConI l T b0 yX3_heightAt wsX3_heightAt rmX3_heightAt [.ref w, .int p1] (wWr T w h u) (F_X3_heightAt u p1) (wWr T w h u) := by
  refine conI_of (cc := cX3_heightAt) (maxL := 2) (ret := (some .int)) (lv0 := [(0, .ref w), (1, .int p1)]) (by decide +kernel) rfl (Nat.le_of_ble_eq_true rfl) rfl (fun X hX => ?_)
  refine g_iload_n hX dX3_heightAt_0 rfl 1 rfl ?_
  refine g_if_lt hX 22 dX3_heightAt_1 (by decide) (fun c_1 => ?_) (fun c_1 => ?_)
  · skip
    refine g_iconst hX (v := 0) dX3_heightAt_22 (by decide) ?_
    have e9 : F_X3_heightAt u p1 = 0 := by simp only [F_X3_heightAt, eq_true c_1, if_true, if_false]
    rw [e9]
    exact g_iret hX dX3_heightAt_23 rfl rfl
  · skip
    refine g_iload_n hX dX3_heightAt_4 rfl 1 rfl ?_
    refine g_aload_n hX dX3_heightAt_5 rfl 0 rfl ?_
    refine g_get hX 3 h_X3_heightAt_X3 0 rfl rfl 0 (by decide) k_X3_heightAt_0 rfl (v := .ref h) rfl dX3_heightAt_6 ?_
    refine g_alen hX 1 0 rfl rfl (v := 12) rfl dX3_heightAt_9 ?_
    refine g_icmp_ge hX 22 dX3_heightAt_10 (by decide) (fun c_10 => ?_) (fun c_10 => ?_)
    · skip
      refine g_iconst hX (v := 0) dX3_heightAt_22 (by decide) ?_
      have e9 : F_X3_heightAt u p1 = 0 := by simp only [F_X3_heightAt, eq_false c_1, eq_true c_10, if_true, if_false]
      rw [e9]
      exact g_iret hX dX3_heightAt_23 rfl rfl
    · skip
      refine g_aload_n hX dX3_heightAt_13 rfl 0 rfl ?_
      refine g_get hX 3 h_X3_heightAt_X3 0 rfl rfl 0 (by decide) k_X3_heightAt_0 rfl (v := .ref h) rfl dX3_heightAt_14 ?_
      refine g_iload_n hX dX3_heightAt_17 rfl 1 rfl ?_
      refine g_iald hX 1 rfl (vin_of c_1 c_10 (by decide)) (v := (u.2 (Int32.toNatClampNeg p1))) (congrArg _ rfl) dX3_heightAt_18 ?_
      refine g_goto hX 23 dX3_heightAt_19 (by decide) ?_
      have e9 : F_X3_heightAt u p1 = (u.2 (Int32.toNatClampNeg p1)) := by simp only [F_X3_heightAt, eq_false c_1, eq_false c_10, if_true, if_false]
      rw [e9]
      exact g_iret hX dX3_heightAt_23 rfl rfl
/-! X3_isFull -/
def rmX3_isFull : Room := { frames := 0, cells := 0, slots := 0, locals := 0 }
theorem k_X3_isFull_0 : Cond.fieldLink RX3 19 RX3 (TX3 2).2.1 (TX3 2).2.2.1 ∈ wsX3_isFull := List.mem_of_getElem? (i := 1) rfl
theorem h_X3_isFull_X3 : ∀ w ∈ u_ws RX3 TX3 4, w ∈ wsX3_isFull := fun w h => List.mem_cons_of_mem _ (List.mem_append_right _ h)
def F_X3_isFull (u : WV) : Int32 :=
  (if (u.1 1) < 200 then 0 else 1)
set_option maxHeartbeats 4000000 in
set_option maxRecDepth 100000 in
theorem c_X3_isFull (l : Launch) (T : TT) (b0 : Nat) (w h : Nat) (u : WV)  : ConI l T b0 yX3_isFull wsX3_isFull rmX3_isFull [.ref w] (wWr T w h u) (F_X3_isFull u) (wWr T w h u) := by
  refine conI_of (cc := cX3_isFull) (maxL := 1) (ret := (some .boolean)) (lv0 := [(0, .ref w)]) (by decide +kernel) rfl (Nat.le_of_ble_eq_true rfl) rfl (fun X hX => ?_)
  refine g_aload_n hX dX3_isFull_0 rfl 0 rfl ?_
  refine g_get hX 3 h_X3_isFull_X3 0 rfl rfl 2 (by decide) k_X3_isFull_0 rfl (v := .int (u.1 1)) rfl dX3_isFull_1 ?_
  refine g_sipush hX (v := 200) dX3_isFull_4 (by decide) ?_
  refine g_icmp_lt hX 14 dX3_isFull_7 (by decide) (fun c_7 => ?_) (fun c_7 => ?_)
  · skip
    refine g_iconst hX (v := 0) dX3_isFull_14 (by decide) ?_
    have e9 : F_X3_isFull u = 0 := by simp only [F_X3_isFull, eq_true c_7, if_true, if_false]
    rw [e9]
    exact g_zret hX dX3_isFull_15 rfl rfl rfl
  · skip
    refine g_iconst hX (v := 1) dX3_isFull_10 (by decide) ?_
    refine g_goto hX 15 dX3_isFull_11 (by decide) ?_
    have e9 : F_X3_isFull u = 1 := by simp only [F_X3_isFull, eq_false c_7, if_true, if_false]
    rw [e9]
    exact g_zret hX dX3_isFull_15 rfl rfl rfl
/-! X3_isRibbonOver -/
def rmX3_isRibbonOver : Room := { frames := 1, cells := 0, slots := 0, locals := 21 }
def F_X3_isRibbonOver (u : WV) (p1 : Int32) (p2 : Int32) : Int32 :=
  (if ((F_X3_heightAt u p1) - (F_X3_heightAt u p2)) < 6 then 0 else 1)
set_option maxHeartbeats 4000000 in
set_option maxRecDepth 100000 in
theorem c_X3_isRibbonOver (l : Launch) (T : TT) (b0 : Nat) (w h : Nat) (u : WV) (p1 : Int32) (p2 : Int32)  : ConI l T b0 yX3_isRibbonOver wsX3_isRibbonOver rmX3_isRibbonOver [.ref w, .int p1, .int p2] (wWr T w h u) (F_X3_isRibbonOver u p1 p2) (wWr T w h u) := by
  refine conI_of (cc := cX3_isRibbonOver) (maxL := 3) (ret := (some .boolean)) (lv0 := [(0, .ref w), (1, .int p1), (2, .int p2)]) (by decide +kernel) rfl (Nat.le_of_ble_eq_true rfl) rfl (fun X hX => ?_)
  refine g_aload_n hX dX3_isRibbonOver_0 rfl 0 rfl ?_
  refine g_iload_n hX dX3_isRibbonOver_1 rfl 1 rfl ?_
  refine g_cV_I hX (n := 1) (As := [.int p1]) (wc := wWr T w h u) (w1 := wWr T w h u) (rv := (F_X3_heightAt u p1)) (st := []) 0 rfl rfl (c_X3_heightAt (xL X) T (xB X) w h u p1) gX3_isRibbonOver_X3_heightAt rfl rfl rfl ⟨Nat.le_of_ble_eq_true rfl, Nat.le_of_ble_eq_true rfl⟩ ⟨Nat.zero_le _, Nat.zero_le _⟩ ⟨by decide +kernel, by decide +kernel, by decide +kernel⟩ rfl [0, 1] rfl rfl (by decide) rfl (Nat.le_of_ble_eq_true rfl) dX3_isRibbonOver_2 (ws' := wWr T w h u) rfl ?_
  refine g_aload_n hX dX3_isRibbonOver_5 rfl 0 rfl ?_
  refine g_iload_n hX dX3_isRibbonOver_6 rfl 2 rfl ?_
  refine g_cV_I hX (n := 1) (As := [.int p2]) (wc := wWr T w h u) (w1 := wWr T w h u) (rv := (F_X3_heightAt u p2)) (st := [.int (F_X3_heightAt u p1)]) 0 rfl rfl (c_X3_heightAt (xL X) T (xB X) w h u p2) gX3_isRibbonOver_X3_heightAt rfl rfl rfl ⟨Nat.le_of_ble_eq_true rfl, Nat.le_of_ble_eq_true rfl⟩ ⟨Nat.zero_le _, Nat.zero_le _⟩ ⟨by decide +kernel, by decide +kernel, by decide +kernel⟩ rfl [0, 1] rfl rfl (by decide) rfl (Nat.le_of_ble_eq_true rfl) dX3_isRibbonOver_7 (ws' := wWr T w h u) rfl ?_
  refine g_isub hX dX3_isRibbonOver_10 ?_
  refine g_bipush hX (v := 6) dX3_isRibbonOver_11 (by decide) ?_
  refine g_icmp_lt hX 20 dX3_isRibbonOver_13 (by decide) (fun c_13 => ?_) (fun c_13 => ?_)
  · skip
    refine g_iconst hX (v := 0) dX3_isRibbonOver_20 (by decide) ?_
    have e9 : F_X3_isRibbonOver u p1 p2 = 0 := by simp only [F_X3_isRibbonOver, eq_true c_13, if_true, if_false]
    rw [e9]
    exact g_zret hX dX3_isRibbonOver_21 rfl rfl rfl
  · skip
    refine g_iconst hX (v := 1) dX3_isRibbonOver_16 (by decide) ?_
    refine g_goto hX 21 dX3_isRibbonOver_17 (by decide) ?_
    have e9 : F_X3_isRibbonOver u p1 p2 = 1 := by simp only [F_X3_isRibbonOver, eq_false c_13, if_true, if_false]
    rw [e9]
    exact g_zret hX dX3_isRibbonOver_21 rfl rfl rfl
/-! X3_isRibbon -/
def rmX3_isRibbon : Room := { frames := 2, cells := 0, slots := 0, locals := 43 }
def F_X3_isRibbon (u : WV) (p1 : Int32) : Int32 :=
  (if p1 = 0 then (if p1 = 11 then 1 else (if (F_X3_isRibbonOver u p1 (p1 + 1)) = 0 then 0 else 1)) else (if (F_X3_isRibbonOver u p1 (p1 - 1)) = 0 then (if p1 = 11 then 0 else (if (F_X3_isRibbonOver u p1 (p1 + 1)) = 0 then 0 else 0)) else (if p1 = 11 then 1 else (if (F_X3_isRibbonOver u p1 (p1 + 1)) = 0 then 0 else 1))))
set_option maxHeartbeats 4000000 in
set_option maxRecDepth 100000 in
theorem c_X3_isRibbon (l : Launch) (T : TT) (b0 : Nat) (w h : Nat) (u : WV) (p1 : Int32)  : ConI l T b0 yX3_isRibbon wsX3_isRibbon rmX3_isRibbon [.ref w, .int p1] (wWr T w h u) (F_X3_isRibbon u p1) (wWr T w h u) := by
  refine conI_of (cc := cX3_isRibbon) (maxL := 4) (ret := (some .boolean)) (lv0 := [(0, .ref w), (1, .int p1)]) (by decide +kernel) rfl (Nat.le_of_ble_eq_true rfl) rfl (fun X hX => ?_)
  refine g_iload_n hX dX3_isRibbon_0 rfl 1 rfl ?_
  refine g_if_eq hX 15 dX3_isRibbon_1 (by decide) (fun c_1 => ?_) (fun c_1 => ?_)
  · skip
    refine g_iconst hX (v := 1) dX3_isRibbon_15 (by decide) ?_
    refine g_goto hX 20 dX3_isRibbon_16 (by decide) ?_
    refine g_istore_n hX (lv' := [(2, .int 1), (0, .ref w), (1, .int p1)]) dX3_isRibbon_20 rfl (by decide) rfl ?_
    refine g_iload_n hX dX3_isRibbon_21 rfl 2 rfl ?_
    refine g_bipush hX (v := 11) dX3_isRibbon_22 (by decide) ?_
    refine g_icmp_eq hX 38 dX3_isRibbon_24 (by decide) (fun c_24 => ?_) (fun c_24 => ?_)
    · skip
      refine g_iconst hX (v := 1) dX3_isRibbon_38 (by decide) ?_
      refine g_goto hX 43 dX3_isRibbon_39 (by decide) ?_
      refine g_istore_n hX (lv' := [(3, .int 1), (2, .int 1), (0, .ref w), (1, .int p1)]) dX3_isRibbon_43 rfl (by decide) rfl ?_
      refine g_iload_n hX dX3_isRibbon_44 rfl 1 rfl ?_
      refine g_if_eq hX 56 dX3_isRibbon_45 (by decide) (fun c0 => absurd c0 (by decide)) (fun _ => ?_)
      refine g_iload_n hX dX3_isRibbon_48 rfl 0 rfl ?_
      refine g_if_eq hX 56 dX3_isRibbon_49 (by decide) (fun c0 => absurd c0 (by decide)) (fun _ => ?_)
      refine g_iconst hX (v := 1) dX3_isRibbon_52 (by decide) ?_
      refine g_goto hX 57 dX3_isRibbon_53 (by decide) ?_
      have e9 : F_X3_isRibbon u p1 = 1 := by simp only [F_X3_isRibbon, eq_true c_1, eq_true c_24, if_true, if_false]
      rw [e9]
      exact g_zret hX dX3_isRibbon_57 rfl rfl rfl
    · skip
      refine g_aload_n hX dX3_isRibbon_27 rfl 1 rfl ?_
      refine g_iload_n hX dX3_isRibbon_28 rfl 2 rfl ?_
      refine g_iload_n hX dX3_isRibbon_29 rfl 2 rfl ?_
      refine g_iconst hX (v := 1) dX3_isRibbon_30 (by decide) ?_
      refine g_iadd hX dX3_isRibbon_31 ?_
      refine g_cV_I hX (n := 2) (As := [.int p1, .int (p1 + 1)]) (wc := wWr T w h u) (w1 := wWr T w h u) (rv := (F_X3_isRibbonOver u p1 (p1 + 1))) (st := []) 0 rfl rfl (c_X3_isRibbonOver (xL X) T (xB X) w h u p1 (p1 + 1)) gX3_isRibbon_X3_isRibbonOver rfl rfl rfl ⟨Nat.le_of_ble_eq_true rfl, Nat.le_of_ble_eq_true rfl⟩ ⟨Nat.zero_le _, Nat.zero_le _⟩ ⟨by decide +kernel, by decide +kernel, by decide +kernel⟩ rfl [0, 1] rfl rfl (by decide) rfl (Nat.le_of_ble_eq_true rfl) dX3_isRibbon_32 (ws' := wWr T w h u) rfl ?_
      refine g_if_eq hX 42 dX3_isRibbon_35 (by decide) (fun c_35 => ?_) (fun c_35 => ?_)
      · skip
        refine g_iconst hX (v := 0) dX3_isRibbon_42 (by decide) ?_
        refine g_istore_n hX (lv' := [(3, .int 0), (2, .int 1), (0, .ref w), (1, .int p1)]) dX3_isRibbon_43 rfl (by decide) rfl ?_
        refine g_iload_n hX dX3_isRibbon_44 rfl 1 rfl ?_
        refine g_if_eq hX 56 dX3_isRibbon_45 (by decide) (fun c0 => absurd c0 (by decide)) (fun _ => ?_)
        refine g_iload_n hX dX3_isRibbon_48 rfl 0 rfl ?_
        refine g_if_eq hX 56 dX3_isRibbon_49 (by decide) (fun _ => ?_) (fun c0 => absurd c0 (by decide))
        refine g_iconst hX (v := 0) dX3_isRibbon_56 (by decide) ?_
        have e9 : F_X3_isRibbon u p1 = 0 := by simp only [F_X3_isRibbon, eq_true c_1, eq_false c_24, eq_true c_35, if_true, if_false]
        rw [e9]
        exact g_zret hX dX3_isRibbon_57 rfl rfl rfl
      · skip
        refine g_iconst hX (v := 1) dX3_isRibbon_38 (by decide) ?_
        refine g_goto hX 43 dX3_isRibbon_39 (by decide) ?_
        refine g_istore_n hX (lv' := [(3, .int 1), (2, .int 1), (0, .ref w), (1, .int p1)]) dX3_isRibbon_43 rfl (by decide) rfl ?_
        refine g_iload_n hX dX3_isRibbon_44 rfl 1 rfl ?_
        refine g_if_eq hX 56 dX3_isRibbon_45 (by decide) (fun c0 => absurd c0 (by decide)) (fun _ => ?_)
        refine g_iload_n hX dX3_isRibbon_48 rfl 0 rfl ?_
        refine g_if_eq hX 56 dX3_isRibbon_49 (by decide) (fun c0 => absurd c0 (by decide)) (fun _ => ?_)
        refine g_iconst hX (v := 1) dX3_isRibbon_52 (by decide) ?_
        refine g_goto hX 57 dX3_isRibbon_53 (by decide) ?_
        have e9 : F_X3_isRibbon u p1 = 1 := by simp only [F_X3_isRibbon, eq_true c_1, eq_false c_24, eq_false c_35, if_true, if_false]
        rw [e9]
        exact g_zret hX dX3_isRibbon_57 rfl rfl rfl
  · skip
    refine g_aload_n hX dX3_isRibbon_4 rfl 0 rfl ?_
    refine g_iload_n hX dX3_isRibbon_5 rfl 1 rfl ?_
    refine g_iload_n hX dX3_isRibbon_6 rfl 1 rfl ?_
    refine g_iconst hX (v := 1) dX3_isRibbon_7 (by decide) ?_
    refine g_isub hX dX3_isRibbon_8 ?_
    refine g_cV_I hX (n := 2) (As := [.int p1, .int (p1 - 1)]) (wc := wWr T w h u) (w1 := wWr T w h u) (rv := (F_X3_isRibbonOver u p1 (p1 - 1))) (st := []) 0 rfl rfl (c_X3_isRibbonOver (xL X) T (xB X) w h u p1 (p1 - 1)) gX3_isRibbon_X3_isRibbonOver rfl rfl rfl ⟨Nat.le_of_ble_eq_true rfl, Nat.le_of_ble_eq_true rfl⟩ ⟨Nat.zero_le _, Nat.zero_le _⟩ ⟨by decide +kernel, by decide +kernel, by decide +kernel⟩ rfl [0, 1] rfl rfl (by decide) rfl (Nat.le_of_ble_eq_true rfl) dX3_isRibbon_9 (ws' := wWr T w h u) rfl ?_
    refine g_if_eq hX 19 dX3_isRibbon_12 (by decide) (fun c_12 => ?_) (fun c_12 => ?_)
    · skip
      refine g_iconst hX (v := 0) dX3_isRibbon_19 (by decide) ?_
      refine g_istore_n hX (lv' := [(2, .int 0), (0, .ref w), (1, .int p1)]) dX3_isRibbon_20 rfl (by decide) rfl ?_
      refine g_iload_n hX dX3_isRibbon_21 rfl 2 rfl ?_
      refine g_bipush hX (v := 11) dX3_isRibbon_22 (by decide) ?_
      refine g_icmp_eq hX 38 dX3_isRibbon_24 (by decide) (fun c_24 => ?_) (fun c_24 => ?_)
      · skip
        refine g_iconst hX (v := 1) dX3_isRibbon_38 (by decide) ?_
        refine g_goto hX 43 dX3_isRibbon_39 (by decide) ?_
        refine g_istore_n hX (lv' := [(3, .int 1), (2, .int 0), (0, .ref w), (1, .int p1)]) dX3_isRibbon_43 rfl (by decide) rfl ?_
        refine g_iload_n hX dX3_isRibbon_44 rfl 1 rfl ?_
        refine g_if_eq hX 56 dX3_isRibbon_45 (by decide) (fun _ => ?_) (fun c0 => absurd c0 (by decide))
        refine g_iconst hX (v := 0) dX3_isRibbon_56 (by decide) ?_
        have e9 : F_X3_isRibbon u p1 = 0 := by simp only [F_X3_isRibbon, eq_false c_1, eq_true c_12, eq_true c_24, if_true, if_false]
        rw [e9]
        exact g_zret hX dX3_isRibbon_57 rfl rfl rfl
      · skip
        refine g_aload_n hX dX3_isRibbon_27 rfl 1 rfl ?_
        refine g_iload_n hX dX3_isRibbon_28 rfl 2 rfl ?_
        refine g_iload_n hX dX3_isRibbon_29 rfl 2 rfl ?_
        refine g_iconst hX (v := 1) dX3_isRibbon_30 (by decide) ?_
        refine g_iadd hX dX3_isRibbon_31 ?_
        refine g_cV_I hX (n := 2) (As := [.int p1, .int (p1 + 1)]) (wc := wWr T w h u) (w1 := wWr T w h u) (rv := (F_X3_isRibbonOver u p1 (p1 + 1))) (st := []) 0 rfl rfl (c_X3_isRibbonOver (xL X) T (xB X) w h u p1 (p1 + 1)) gX3_isRibbon_X3_isRibbonOver rfl rfl rfl ⟨Nat.le_of_ble_eq_true rfl, Nat.le_of_ble_eq_true rfl⟩ ⟨Nat.zero_le _, Nat.zero_le _⟩ ⟨by decide +kernel, by decide +kernel, by decide +kernel⟩ rfl [0, 1] rfl rfl (by decide) rfl (Nat.le_of_ble_eq_true rfl) dX3_isRibbon_32 (ws' := wWr T w h u) rfl ?_
        refine g_if_eq hX 42 dX3_isRibbon_35 (by decide) (fun c_35 => ?_) (fun c_35 => ?_)
        · skip
          refine g_iconst hX (v := 0) dX3_isRibbon_42 (by decide) ?_
          refine g_istore_n hX (lv' := [(3, .int 0), (2, .int 0), (0, .ref w), (1, .int p1)]) dX3_isRibbon_43 rfl (by decide) rfl ?_
          refine g_iload_n hX dX3_isRibbon_44 rfl 1 rfl ?_
          refine g_if_eq hX 56 dX3_isRibbon_45 (by decide) (fun _ => ?_) (fun c0 => absurd c0 (by decide))
          refine g_iconst hX (v := 0) dX3_isRibbon_56 (by decide) ?_
          have e9 : F_X3_isRibbon u p1 = 0 := by simp only [F_X3_isRibbon, eq_false c_1, eq_true c_12, eq_false c_24, eq_true c_35, if_true, if_false]
          rw [e9]
          exact g_zret hX dX3_isRibbon_57 rfl rfl rfl
        · skip
          refine g_iconst hX (v := 1) dX3_isRibbon_38 (by decide) ?_
          refine g_goto hX 43 dX3_isRibbon_39 (by decide) ?_
          refine g_istore_n hX (lv' := [(3, .int 1), (2, .int 0), (0, .ref w), (1, .int p1)]) dX3_isRibbon_43 rfl (by decide) rfl ?_
          refine g_iload_n hX dX3_isRibbon_44 rfl 1 rfl ?_
          refine g_if_eq hX 56 dX3_isRibbon_45 (by decide) (fun _ => ?_) (fun c0 => absurd c0 (by decide))
          refine g_iconst hX (v := 0) dX3_isRibbon_56 (by decide) ?_
          have e9 : F_X3_isRibbon u p1 = 0 := by simp only [F_X3_isRibbon, eq_false c_1, eq_true c_12, eq_false c_24, eq_false c_35, if_true, if_false]
          rw [e9]
          exact g_zret hX dX3_isRibbon_57 rfl rfl rfl
    · skip
      refine g_iconst hX (v := 1) dX3_isRibbon_15 (by decide) ?_
      refine g_goto hX 20 dX3_isRibbon_16 (by decide) ?_
      refine g_istore_n hX (lv' := [(2, .int 1), (0, .ref w), (1, .int p1)]) dX3_isRibbon_20 rfl (by decide) rfl ?_
      refine g_iload_n hX dX3_isRibbon_21 rfl 2 rfl ?_
      refine g_bipush hX (v := 11) dX3_isRibbon_22 (by decide) ?_
      refine g_icmp_eq hX 38 dX3_isRibbon_24 (by decide) (fun c_24 => ?_) (fun c_24 => ?_)
      · skip
        refine g_iconst hX (v := 1) dX3_isRibbon_38 (by decide) ?_
        refine g_goto hX 43 dX3_isRibbon_39 (by decide) ?_
        refine g_istore_n hX (lv' := [(3, .int 1), (2, .int 1), (0, .ref w), (1, .int p1)]) dX3_isRibbon_43 rfl (by decide) rfl ?_
        refine g_iload_n hX dX3_isRibbon_44 rfl 1 rfl ?_
        refine g_if_eq hX 56 dX3_isRibbon_45 (by decide) (fun c0 => absurd c0 (by decide)) (fun _ => ?_)
        refine g_iload_n hX dX3_isRibbon_48 rfl 0 rfl ?_
        refine g_if_eq hX 56 dX3_isRibbon_49 (by decide) (fun c0 => absurd c0 (by decide)) (fun _ => ?_)
        refine g_iconst hX (v := 1) dX3_isRibbon_52 (by decide) ?_
        refine g_goto hX 57 dX3_isRibbon_53 (by decide) ?_
        have e9 : F_X3_isRibbon u p1 = 1 := by simp only [F_X3_isRibbon, eq_false c_1, eq_false c_12, eq_true c_24, if_true, if_false]
        rw [e9]
        exact g_zret hX dX3_isRibbon_57 rfl rfl rfl
      · skip
        refine g_aload_n hX dX3_isRibbon_27 rfl 1 rfl ?_
        refine g_iload_n hX dX3_isRibbon_28 rfl 2 rfl ?_
        refine g_iload_n hX dX3_isRibbon_29 rfl 2 rfl ?_
        refine g_iconst hX (v := 1) dX3_isRibbon_30 (by decide) ?_
        refine g_iadd hX dX3_isRibbon_31 ?_
        refine g_cV_I hX (n := 2) (As := [.int p1, .int (p1 + 1)]) (wc := wWr T w h u) (w1 := wWr T w h u) (rv := (F_X3_isRibbonOver u p1 (p1 + 1))) (st := []) 0 rfl rfl (c_X3_isRibbonOver (xL X) T (xB X) w h u p1 (p1 + 1)) gX3_isRibbon_X3_isRibbonOver rfl rfl rfl ⟨Nat.le_of_ble_eq_true rfl, Nat.le_of_ble_eq_true rfl⟩ ⟨Nat.zero_le _, Nat.zero_le _⟩ ⟨by decide +kernel, by decide +kernel, by decide +kernel⟩ rfl [0, 1] rfl rfl (by decide) rfl (Nat.le_of_ble_eq_true rfl) dX3_isRibbon_32 (ws' := wWr T w h u) rfl ?_
        refine g_if_eq hX 42 dX3_isRibbon_35 (by decide) (fun c_35 => ?_) (fun c_35 => ?_)
        · skip
          refine g_iconst hX (v := 0) dX3_isRibbon_42 (by decide) ?_
          refine g_istore_n hX (lv' := [(3, .int 0), (2, .int 1), (0, .ref w), (1, .int p1)]) dX3_isRibbon_43 rfl (by decide) rfl ?_
          refine g_iload_n hX dX3_isRibbon_44 rfl 1 rfl ?_
          refine g_if_eq hX 56 dX3_isRibbon_45 (by decide) (fun c0 => absurd c0 (by decide)) (fun _ => ?_)
          refine g_iload_n hX dX3_isRibbon_48 rfl 0 rfl ?_
          refine g_if_eq hX 56 dX3_isRibbon_49 (by decide) (fun _ => ?_) (fun c0 => absurd c0 (by decide))
          refine g_iconst hX (v := 0) dX3_isRibbon_56 (by decide) ?_
          have e9 : F_X3_isRibbon u p1 = 0 := by simp only [F_X3_isRibbon, eq_false c_1, eq_false c_12, eq_false c_24, eq_true c_35, if_true, if_false]
          rw [e9]
          exact g_zret hX dX3_isRibbon_57 rfl rfl rfl
        · skip
          refine g_iconst hX (v := 1) dX3_isRibbon_38 (by decide) ?_
          refine g_goto hX 43 dX3_isRibbon_39 (by decide) ?_
          refine g_istore_n hX (lv' := [(3, .int 1), (2, .int 1), (0, .ref w), (1, .int p1)]) dX3_isRibbon_43 rfl (by decide) rfl ?_
          refine g_iload_n hX dX3_isRibbon_44 rfl 1 rfl ?_
          refine g_if_eq hX 56 dX3_isRibbon_45 (by decide) (fun c0 => absurd c0 (by decide)) (fun _ => ?_)
          refine g_iload_n hX dX3_isRibbon_48 rfl 0 rfl ?_
          refine g_if_eq hX 56 dX3_isRibbon_49 (by decide) (fun c0 => absurd c0 (by decide)) (fun _ => ?_)
          refine g_iconst hX (v := 1) dX3_isRibbon_52 (by decide) ?_
          refine g_goto hX 57 dX3_isRibbon_53 (by decide) ?_
          have e9 : F_X3_isRibbon u p1 = 1 := by simp only [F_X3_isRibbon, eq_false c_1, eq_false c_12, eq_false c_24, eq_false c_35, if_true, if_false]
          rw [e9]
          exact g_zret hX dX3_isRibbon_57 rfl rfl rfl
/-! X3_layWrap -/
def rmX3_layWrap : Room := { frames := 1, cells := 0, slots := 0, locals := 20 }
theorem k_X3_layWrap_0 : Cond.fieldLink RX3 9 RX3 (TX3 0).2.1 (TX3 0).2.2.1 ∈ wsX3_layWrap := List.mem_of_getElem? (i := 1) rfl
theorem h_X3_layWrap_X3 : ∀ w ∈ u_ws RX3 TX3 4, w ∈ wsX3_layWrap := fun w h => List.mem_cons_of_mem _ (List.mem_append_right _ h)
theorem k_X3_layWrap_1 : Cond.fieldLink RX3 15 RX3 (TX3 1).2.1 (TX3 1).2.2.1 ∈ wsX3_layWrap := List.mem_of_getElem? (i := 2) rfl
theorem k_X3_layWrap_2 : Cond.fieldLink RX3 19 RX3 (TX3 2).2.1 (TX3 2).2.2.1 ∈ wsX3_layWrap := List.mem_of_getElem? (i := 3) rfl
theorem k_X3_layWrap_3 : Cond.methodLink RX3 45 Lib.Math.max.name ∈ wsX3_layWrap := List.mem_of_getElem? (i := 4) rfl
theorem k_X3_layWrap_4 : Cond.static Lib.Math.max.name ∈ wsX3_layWrap := List.mem_of_getElem? (i := 5) rfl
theorem k_X3_layWrap_5 : Cond.initialized "java/lang/Math" ∈ wsX3_layWrap := List.mem_of_getElem? (i := 6) rfl
theorem k_X3_layWrap_6 : Cond.code Lib.Math.max.name Lib.Math.max.code 2 (some .int) ∈ wsX3_layWrap := List.mem_of_getElem? (i := 7) rfl
def F_X3_layWrap (u : WV) : WV :=
  (if (F_X3_guidePlace u) < 0 then u else (if 12 ≤ (F_X3_guidePlace u) then u else (upd (upd u.1 0 ((u.1 0) + 1)) 1 (if (u.1 1) < ((upd u.2 (Int32.toNatClampNeg (F_X3_guidePlace u)) ((u.2 (Int32.toNatClampNeg (F_X3_guidePlace u))) + 1)) (Int32.toNatClampNeg (F_X3_guidePlace u))) then ((upd u.2 (Int32.toNatClampNeg (F_X3_guidePlace u)) ((u.2 (Int32.toNatClampNeg (F_X3_guidePlace u))) + 1)) (Int32.toNatClampNeg (F_X3_guidePlace u))) else (u.1 1)), (upd u.2 (Int32.toNatClampNeg (F_X3_guidePlace u)) ((u.2 (Int32.toNatClampNeg (F_X3_guidePlace u))) + 1)))))
set_option maxHeartbeats 4000000 in
set_option maxRecDepth 100000 in
theorem c_X3_layWrap (l : Launch) (T : TT) (b0 : Nat) (w h : Nat) (u : WV)  : ConV l T b0 yX3_layWrap wsX3_layWrap rmX3_layWrap [.ref w] (wWr T w h u) (wWr T w h (F_X3_layWrap u)) := by
  refine conV_of (cc := cX3_layWrap) (maxL := 2) (ret := none) (lv0 := [(0, .ref w)]) (by decide +kernel) rfl (Nat.le_of_ble_eq_true rfl) rfl (fun X hX => ?_)
  refine g_aload_n hX dX3_layWrap_0 rfl 0 rfl ?_
  refine g_cV_I hX (n := 0) (As := []) (wc := wWr T w h u) (w1 := wWr T w h u) (rv := (F_X3_guidePlace u)) (st := []) 0 rfl rfl (c_X3_guidePlace (xL X) T (xB X) w h u) gX3_layWrap_X3_guidePlace rfl rfl rfl ⟨Nat.le_of_ble_eq_true rfl, Nat.le_of_ble_eq_true rfl⟩ ⟨Nat.zero_le _, Nat.zero_le _⟩ ⟨by decide +kernel, by decide +kernel, by decide +kernel⟩ rfl [0, 1] rfl rfl (by decide) rfl (Nat.le_of_ble_eq_true rfl) dX3_layWrap_1 (ws' := wWr T w h u) rfl ?_
  refine g_istore_n hX (lv' := [(1, .int (F_X3_guidePlace u)), (0, .ref w)]) dX3_layWrap_4 rfl (by decide) rfl ?_
  refine g_iload_n hX dX3_layWrap_5 rfl 0 rfl ?_
  refine g_if_lt hX 55 dX3_layWrap_6 (by decide) (fun c_6 => ?_) (fun c_6 => ?_)
  · skip
    have e9 : F_X3_layWrap u = u := by simp only [F_X3_layWrap, eq_true c_6, if_true, if_false]
    rw [e9]
    exact g_vret hX dX3_layWrap_55 rfl
  · skip
    refine g_iload_n hX dX3_layWrap_9 rfl 0 rfl ?_
    refine g_aload_n hX dX3_layWrap_10 rfl 1 rfl ?_
    refine g_get hX 3 h_X3_layWrap_X3 0 rfl rfl 0 (by decide) k_X3_layWrap_0 rfl (v := .ref h) rfl dX3_layWrap_11 ?_
    refine g_alen hX 1 0 rfl rfl (v := 12) rfl dX3_layWrap_14 ?_
    refine g_icmp_ge hX 55 dX3_layWrap_15 (by decide) (fun c_15 => ?_) (fun c_15 => ?_)
    · skip
      have e9 : F_X3_layWrap u = u := by simp only [F_X3_layWrap, eq_false c_6, eq_true c_15, if_true, if_false]
      rw [e9]
      exact g_vret hX dX3_layWrap_55 rfl
    · skip
      refine g_aload_n hX dX3_layWrap_18 rfl 1 rfl ?_
      refine g_get hX 3 h_X3_layWrap_X3 0 rfl rfl 0 (by decide) k_X3_layWrap_0 rfl (v := .ref h) rfl dX3_layWrap_19 ?_
      refine g_iload_n hX dX3_layWrap_22 rfl 0 rfl ?_
      refine g_dup2 hX dX3_layWrap_23 rfl rfl ?_
      refine g_iald hX 1 rfl (vin_of c_6 c_15 (by decide)) (v := (u.2 (Int32.toNatClampNeg (F_X3_guidePlace u)))) (congrArg _ rfl) dX3_layWrap_24 ?_
      refine g_iconst hX (v := 1) dX3_layWrap_25 (by decide) ?_
      refine g_iadd hX dX3_layWrap_26 ?_
      refine g_iast hX 1 rfl (vin_of c_6 c_15 (by decide)) dX3_layWrap_27 (ws' := wWr T w h (u.1, (upd u.2 (Int32.toNatClampNeg (F_X3_guidePlace u)) ((u.2 (Int32.toNatClampNeg (F_X3_guidePlace u))) + 1)))) rfl ?_
      refine g_aload_n hX dX3_layWrap_28 rfl 1 rfl ?_
      refine g_dup hX dX3_layWrap_29 rfl ?_
      refine g_get hX 3 h_X3_layWrap_X3 0 rfl rfl 1 (by decide) k_X3_layWrap_1 rfl (v := .int (u.1 0)) rfl dX3_layWrap_30 ?_
      refine g_iconst hX (v := 1) dX3_layWrap_33 (by decide) ?_
      refine g_iadd hX dX3_layWrap_34 ?_
      refine g_put hX 3 h_X3_layWrap_X3 0 rfl rfl 1 (by decide) tyX3 tyX3_ok nmX3 k_X3_layWrap_1 rfl rfl rfl rfl rfl (Nat.le_of_ble_eq_true rfl) dX3_layWrap_35 (ws' := wWr T w h (upd u.1 0 ((u.1 0) + 1), (upd u.2 (Int32.toNatClampNeg (F_X3_guidePlace u)) ((u.2 (Int32.toNatClampNeg (F_X3_guidePlace u))) + 1)))) rfl ?_
      refine g_aload_n hX dX3_layWrap_38 rfl 1 rfl ?_
      refine g_aload_n hX dX3_layWrap_39 rfl 1 rfl ?_
      refine g_get hX 3 h_X3_layWrap_X3 0 rfl rfl 2 (by decide) k_X3_layWrap_2 rfl (v := .int (u.1 1)) rfl dX3_layWrap_40 ?_
      refine g_aload_n hX dX3_layWrap_43 rfl 1 rfl ?_
      refine g_get hX 3 h_X3_layWrap_X3 0 rfl rfl 0 (by decide) k_X3_layWrap_0 rfl (v := .ref h) rfl dX3_layWrap_44 ?_
      refine g_iload_n hX dX3_layWrap_47 rfl 0 rfl ?_
      refine g_iald hX 1 rfl (vin_of c_6 c_15 (by decide)) (v := ((upd u.2 (Int32.toNatClampNeg (F_X3_guidePlace u)) ((u.2 (Int32.toNatClampNeg (F_X3_guidePlace u))) + 1)) (Int32.toNatClampNeg (F_X3_guidePlace u)))) (congrArg _ rfl) dX3_layWrap_48 ?_
      refine g_mmax hX k_X3_layWrap_3 k_X3_layWrap_4 k_X3_layWrap_5 k_X3_layWrap_6 (Nat.le_of_ble_eq_true rfl) (Nat.le_of_ble_eq_true rfl) (Nat.zero_le _) (Nat.zero_le _) dX3_layWrap_49 ?_
      refine g_put hX 3 h_X3_layWrap_X3 0 rfl rfl 2 (by decide) tyX3 tyX3_ok nmX3 k_X3_layWrap_2 rfl rfl rfl rfl rfl (Nat.le_of_ble_eq_true rfl) dX3_layWrap_52 (ws' := wWr T w h (upd (upd u.1 0 ((u.1 0) + 1)) 1 (if (u.1 1) < ((upd u.2 (Int32.toNatClampNeg (F_X3_guidePlace u)) ((u.2 (Int32.toNatClampNeg (F_X3_guidePlace u))) + 1)) (Int32.toNatClampNeg (F_X3_guidePlace u))) then ((upd u.2 (Int32.toNatClampNeg (F_X3_guidePlace u)) ((u.2 (Int32.toNatClampNeg (F_X3_guidePlace u))) + 1)) (Int32.toNatClampNeg (F_X3_guidePlace u))) else (u.1 1)), (upd u.2 (Int32.toNatClampNeg (F_X3_guidePlace u)) ((u.2 (Int32.toNatClampNeg (F_X3_guidePlace u))) + 1)))) rfl ?_
      have e9 : F_X3_layWrap u = (upd (upd u.1 0 ((u.1 0) + 1)) 1 (if (u.1 1) < ((upd u.2 (Int32.toNatClampNeg (F_X3_guidePlace u)) ((u.2 (Int32.toNatClampNeg (F_X3_guidePlace u))) + 1)) (Int32.toNatClampNeg (F_X3_guidePlace u))) then ((upd u.2 (Int32.toNatClampNeg (F_X3_guidePlace u)) ((u.2 (Int32.toNatClampNeg (F_X3_guidePlace u))) + 1)) (Int32.toNatClampNeg (F_X3_guidePlace u))) else (u.1 1)), (upd u.2 (Int32.toNatClampNeg (F_X3_guidePlace u)) ((u.2 (Int32.toNatClampNeg (F_X3_guidePlace u))) + 1))) := by simp only [F_X3_layWrap, eq_false c_6, eq_false c_15, if_true, if_false]
      rw [e9]
      exact g_vret hX dX3_layWrap_55 rfl
/-! X3_moveGuide -/
def rmX3_moveGuide : Room := { frames := 1, cells := 0, slots := 0, locals := 20 }
theorem k_X3_moveGuide_0 : Cond.fieldLink RX3 22 RX3 (TX3 3).2.1 (TX3 3).2.2.1 ∈ wsX3_moveGuide := List.mem_of_getElem? (i := 1) rfl
theorem h_X3_moveGuide_X3 : ∀ w ∈ u_ws RX3 TX3 4, w ∈ wsX3_moveGuide := fun w h => List.mem_cons_of_mem _ (List.mem_append_right _ h)
theorem k_X3_moveGuide_2 : Cond.initialized RX4 ∈ wsX3_moveGuide := List.mem_of_getElem? (i := 3) rfl
theorem k_X3_moveGuide_1 : Cond.static yX4_oneIf ∈ wsX3_moveGuide := List.mem_of_getElem? (i := 2) rfl
def F_X3_moveGuide (u : WV) (p1 : Int32) (p2 : Int32) (p3 : Int32) : WV :=
  (if p2 ≤ 0 then (upd u.1 2 ((((u.1 2) + p1) + (F_X4_oneIf 0)) - (((u.1 2) + p1) + (F_X4_oneIf 0)) / 22 * 22), u.2) else (if (8 - p2) ≤ 0 then (upd u.1 2 ((((u.1 2) + p1) + (F_X4_oneIf 0)) - (((u.1 2) + p1) + (F_X4_oneIf 0)) / 22 * 22), u.2) else (if (p3 - p3 / (8 - p2) * (8 - p2)) = 0 then (upd u.1 2 ((((u.1 2) + p1) + (F_X4_oneIf 1)) - (((u.1 2) + p1) + (F_X4_oneIf 1)) / 22 * 22), u.2) else (upd u.1 2 ((((u.1 2) + p1) + (F_X4_oneIf 0)) - (((u.1 2) + p1) + (F_X4_oneIf 0)) / 22 * 22), u.2))))
set_option maxHeartbeats 4000000 in
set_option maxRecDepth 100000 in
theorem c_X3_moveGuide (l : Launch) (T : TT) (b0 : Nat) (w h : Nat) (u : WV) (p1 : Int32) (p2 : Int32) (p3 : Int32)  : ConV l T b0 yX3_moveGuide wsX3_moveGuide rmX3_moveGuide [.ref w, .int p1, .int p2, .int p3] (wWr T w h u) (wWr T w h (F_X3_moveGuide u p1 p2 p3)) := by
  refine conV_of (cc := cX3_moveGuide) (maxL := 6) (ret := none) (lv0 := [(0, .ref w), (1, .int p1), (2, .int p2), (3, .int p3)]) (by decide +kernel) rfl (Nat.le_of_ble_eq_true rfl) rfl (fun X hX => ?_)
  refine g_bipush hX (v := 8) dX3_moveGuide_0 (by decide) ?_
  refine g_iload_n hX dX3_moveGuide_2 rfl 2 rfl ?_
  refine g_isub hX dX3_moveGuide_3 ?_
  refine g_istore hX (lv' := [(4, .int (8 - p2)), (0, .ref w), (1, .int p1), (2, .int p2), (3, .int p3)]) dX3_moveGuide_4 (by decide) rfl ?_
  refine g_iload_n hX dX3_moveGuide_6 rfl 3 rfl ?_
  refine g_if_le hX 26 dX3_moveGuide_7 (by decide) (fun c_7 => ?_) (fun c_7 => ?_)
  · skip
    refine g_iconst hX (v := 0) dX3_moveGuide_26 (by decide) ?_
    refine g_istore hX (lv' := [(5, .int 0), (4, .int (8 - p2)), (0, .ref w), (1, .int p1), (2, .int p2), (3, .int p3)]) dX3_moveGuide_27 (by decide) rfl ?_
    refine g_aload_n hX dX3_moveGuide_29 rfl 2 rfl ?_
    refine g_aload_n hX dX3_moveGuide_30 rfl 2 rfl ?_
    refine g_get hX 3 h_X3_moveGuide_X3 0 rfl rfl 3 (by decide) k_X3_moveGuide_0 rfl (v := .int (u.1 2)) rfl dX3_moveGuide_31 ?_
    refine g_iload_n hX dX3_moveGuide_34 rfl 3 rfl ?_
    refine g_iadd hX dX3_moveGuide_35 ?_
    refine g_iload hX dX3_moveGuide_36 0 rfl ?_
    refine g_cSN_I hX (n := 1) (As := [.int 0]) (wc := []) (w1 := []) (rv := (F_X4_oneIf 0)) (st := [.int ((u.1 2) + p1), .ref w]) (c_X4_oneIf (xL X) T (xB X) 0) ggX3_moveGuide_X4_oneIf 32 rfl k_X3_moveGuide_2 k_X3_moveGuide_1 rfl rfl rfl ⟨Nat.le_of_ble_eq_true rfl, Nat.le_of_ble_eq_true rfl⟩ ⟨Nat.zero_le _, Nat.zero_le _⟩ ⟨by decide +kernel, by decide +kernel, by decide +kernel⟩ rfl [] rfl rfl (by decide) rfl (Nat.le_of_ble_eq_true rfl) dX3_moveGuide_38 (ws' := wWr T w h u) rfl ?_
    refine g_iadd hX dX3_moveGuide_41 ?_
    refine g_bipush hX (v := 22) dX3_moveGuide_42 (by decide) ?_
    refine g_irem hX dX3_moveGuide_44 (by decide) ?_
    refine g_put hX 3 h_X3_moveGuide_X3 0 rfl rfl 3 (by decide) tyX3 tyX3_ok nmX3 k_X3_moveGuide_0 rfl rfl rfl rfl rfl (Nat.le_of_ble_eq_true rfl) dX3_moveGuide_45 (ws' := wWr T w h (upd u.1 2 ((((u.1 2) + p1) + (F_X4_oneIf 0)) - (((u.1 2) + p1) + (F_X4_oneIf 0)) / 22 * 22), u.2)) rfl ?_
    have e9 : F_X3_moveGuide u p1 p2 p3 = (upd u.1 2 ((((u.1 2) + p1) + (F_X4_oneIf 0)) - (((u.1 2) + p1) + (F_X4_oneIf 0)) / 22 * 22), u.2) := by simp only [F_X3_moveGuide, eq_true c_7, if_true, if_false]
    rw [e9]
    exact g_vret hX dX3_moveGuide_48 rfl
  · skip
    refine g_iload hX dX3_moveGuide_10 0 rfl ?_
    refine g_if_le hX 26 dX3_moveGuide_12 (by decide) (fun c_12 => ?_) (fun c_12 => ?_)
    · skip
      refine g_iconst hX (v := 0) dX3_moveGuide_26 (by decide) ?_
      refine g_istore hX (lv' := [(5, .int 0), (4, .int (8 - p2)), (0, .ref w), (1, .int p1), (2, .int p2), (3, .int p3)]) dX3_moveGuide_27 (by decide) rfl ?_
      refine g_aload_n hX dX3_moveGuide_29 rfl 2 rfl ?_
      refine g_aload_n hX dX3_moveGuide_30 rfl 2 rfl ?_
      refine g_get hX 3 h_X3_moveGuide_X3 0 rfl rfl 3 (by decide) k_X3_moveGuide_0 rfl (v := .int (u.1 2)) rfl dX3_moveGuide_31 ?_
      refine g_iload_n hX dX3_moveGuide_34 rfl 3 rfl ?_
      refine g_iadd hX dX3_moveGuide_35 ?_
      refine g_iload hX dX3_moveGuide_36 0 rfl ?_
      refine g_cSN_I hX (n := 1) (As := [.int 0]) (wc := []) (w1 := []) (rv := (F_X4_oneIf 0)) (st := [.int ((u.1 2) + p1), .ref w]) (c_X4_oneIf (xL X) T (xB X) 0) ggX3_moveGuide_X4_oneIf 32 rfl k_X3_moveGuide_2 k_X3_moveGuide_1 rfl rfl rfl ⟨Nat.le_of_ble_eq_true rfl, Nat.le_of_ble_eq_true rfl⟩ ⟨Nat.zero_le _, Nat.zero_le _⟩ ⟨by decide +kernel, by decide +kernel, by decide +kernel⟩ rfl [] rfl rfl (by decide) rfl (Nat.le_of_ble_eq_true rfl) dX3_moveGuide_38 (ws' := wWr T w h u) rfl ?_
      refine g_iadd hX dX3_moveGuide_41 ?_
      refine g_bipush hX (v := 22) dX3_moveGuide_42 (by decide) ?_
      refine g_irem hX dX3_moveGuide_44 (by decide) ?_
      refine g_put hX 3 h_X3_moveGuide_X3 0 rfl rfl 3 (by decide) tyX3 tyX3_ok nmX3 k_X3_moveGuide_0 rfl rfl rfl rfl rfl (Nat.le_of_ble_eq_true rfl) dX3_moveGuide_45 (ws' := wWr T w h (upd u.1 2 ((((u.1 2) + p1) + (F_X4_oneIf 0)) - (((u.1 2) + p1) + (F_X4_oneIf 0)) / 22 * 22), u.2)) rfl ?_
      have e9 : F_X3_moveGuide u p1 p2 p3 = (upd u.1 2 ((((u.1 2) + p1) + (F_X4_oneIf 0)) - (((u.1 2) + p1) + (F_X4_oneIf 0)) / 22 * 22), u.2) := by simp only [F_X3_moveGuide, eq_false c_7, eq_true c_12, if_true, if_false]
      rw [e9]
      exact g_vret hX dX3_moveGuide_48 rfl
    · skip
      refine g_iload_n hX dX3_moveGuide_15 rfl 4 rfl ?_
      refine g_iload hX dX3_moveGuide_16 0 rfl ?_
      refine g_irem hX dX3_moveGuide_18 (fun z9 => c_12 (by rw [z9]; decide)) ?_
      refine g_if_ne hX 26 dX3_moveGuide_19 (by decide) (fun c_19 => ?_) (fun c_19 => ?_)
      · skip
        refine g_iconst hX (v := 0) dX3_moveGuide_26 (by decide) ?_
        refine g_istore hX (lv' := [(5, .int 0), (4, .int (8 - p2)), (0, .ref w), (1, .int p1), (2, .int p2), (3, .int p3)]) dX3_moveGuide_27 (by decide) rfl ?_
        refine g_aload_n hX dX3_moveGuide_29 rfl 2 rfl ?_
        refine g_aload_n hX dX3_moveGuide_30 rfl 2 rfl ?_
        refine g_get hX 3 h_X3_moveGuide_X3 0 rfl rfl 3 (by decide) k_X3_moveGuide_0 rfl (v := .int (u.1 2)) rfl dX3_moveGuide_31 ?_
        refine g_iload_n hX dX3_moveGuide_34 rfl 3 rfl ?_
        refine g_iadd hX dX3_moveGuide_35 ?_
        refine g_iload hX dX3_moveGuide_36 0 rfl ?_
        refine g_cSN_I hX (n := 1) (As := [.int 0]) (wc := []) (w1 := []) (rv := (F_X4_oneIf 0)) (st := [.int ((u.1 2) + p1), .ref w]) (c_X4_oneIf (xL X) T (xB X) 0) ggX3_moveGuide_X4_oneIf 32 rfl k_X3_moveGuide_2 k_X3_moveGuide_1 rfl rfl rfl ⟨Nat.le_of_ble_eq_true rfl, Nat.le_of_ble_eq_true rfl⟩ ⟨Nat.zero_le _, Nat.zero_le _⟩ ⟨by decide +kernel, by decide +kernel, by decide +kernel⟩ rfl [] rfl rfl (by decide) rfl (Nat.le_of_ble_eq_true rfl) dX3_moveGuide_38 (ws' := wWr T w h u) rfl ?_
        refine g_iadd hX dX3_moveGuide_41 ?_
        refine g_bipush hX (v := 22) dX3_moveGuide_42 (by decide) ?_
        refine g_irem hX dX3_moveGuide_44 (by decide) ?_
        refine g_put hX 3 h_X3_moveGuide_X3 0 rfl rfl 3 (by decide) tyX3 tyX3_ok nmX3 k_X3_moveGuide_0 rfl rfl rfl rfl rfl (Nat.le_of_ble_eq_true rfl) dX3_moveGuide_45 (ws' := wWr T w h (upd u.1 2 ((((u.1 2) + p1) + (F_X4_oneIf 0)) - (((u.1 2) + p1) + (F_X4_oneIf 0)) / 22 * 22), u.2)) rfl ?_
        have e9 : F_X3_moveGuide u p1 p2 p3 = (upd u.1 2 ((((u.1 2) + p1) + (F_X4_oneIf 0)) - (((u.1 2) + p1) + (F_X4_oneIf 0)) / 22 * 22), u.2) := by simp only [F_X3_moveGuide, eq_false c_7, eq_false c_12, eq_false c_19, if_true, if_false]
        rw [e9]
        exact g_vret hX dX3_moveGuide_48 rfl
      · skip
        refine g_iconst hX (v := 1) dX3_moveGuide_22 (by decide) ?_
        refine g_goto hX 27 dX3_moveGuide_23 (by decide) ?_
        refine g_istore hX (lv' := [(5, .int 1), (4, .int (8 - p2)), (0, .ref w), (1, .int p1), (2, .int p2), (3, .int p3)]) dX3_moveGuide_27 (by decide) rfl ?_
        refine g_aload_n hX dX3_moveGuide_29 rfl 2 rfl ?_
        refine g_aload_n hX dX3_moveGuide_30 rfl 2 rfl ?_
        refine g_get hX 3 h_X3_moveGuide_X3 0 rfl rfl 3 (by decide) k_X3_moveGuide_0 rfl (v := .int (u.1 2)) rfl dX3_moveGuide_31 ?_
        refine g_iload_n hX dX3_moveGuide_34 rfl 3 rfl ?_
        refine g_iadd hX dX3_moveGuide_35 ?_
        refine g_iload hX dX3_moveGuide_36 0 rfl ?_
        refine g_cSN_I hX (n := 1) (As := [.int 1]) (wc := []) (w1 := []) (rv := (F_X4_oneIf 1)) (st := [.int ((u.1 2) + p1), .ref w]) (c_X4_oneIf (xL X) T (xB X) 1) ggX3_moveGuide_X4_oneIf 32 rfl k_X3_moveGuide_2 k_X3_moveGuide_1 rfl rfl rfl ⟨Nat.le_of_ble_eq_true rfl, Nat.le_of_ble_eq_true rfl⟩ ⟨Nat.zero_le _, Nat.zero_le _⟩ ⟨by decide +kernel, by decide +kernel, by decide +kernel⟩ rfl [] rfl rfl (by decide) rfl (Nat.le_of_ble_eq_true rfl) dX3_moveGuide_38 (ws' := wWr T w h u) rfl ?_
        refine g_iadd hX dX3_moveGuide_41 ?_
        refine g_bipush hX (v := 22) dX3_moveGuide_42 (by decide) ?_
        refine g_irem hX dX3_moveGuide_44 (by decide) ?_
        refine g_put hX 3 h_X3_moveGuide_X3 0 rfl rfl 3 (by decide) tyX3 tyX3_ok nmX3 k_X3_moveGuide_0 rfl rfl rfl rfl rfl (Nat.le_of_ble_eq_true rfl) dX3_moveGuide_45 (ws' := wWr T w h (upd u.1 2 ((((u.1 2) + p1) + (F_X4_oneIf 1)) - (((u.1 2) + p1) + (F_X4_oneIf 1)) / 22 * 22), u.2)) rfl ?_
        have e9 : F_X3_moveGuide u p1 p2 p3 = (upd u.1 2 ((((u.1 2) + p1) + (F_X4_oneIf 1)) - (((u.1 2) + p1) + (F_X4_oneIf 1)) / 22 * 22), u.2) := by simp only [F_X3_moveGuide, eq_false c_7, eq_false c_12, eq_true c_19, if_true, if_false]
        rw [e9]
        exact g_vret hX dX3_moveGuide_48 rfl
/-! X3_copyFrom -/
def rmX3_copyFrom : Room := { frames := 1, cells := 0, slots := 0, locals := 40 }
theorem k_X3_copyFrom_0 : Cond.fieldLink RX3 9 RX3 (TX3 0).2.1 (TX3 0).2.2.1 ∈ wsX3_copyFrom := List.mem_of_getElem? (i := 1) rfl
theorem h_X3_copyFrom_X3 : ∀ w ∈ u_ws RX3 TX3 4, w ∈ wsX3_copyFrom := fun w h => List.mem_cons_of_mem _ (List.mem_append_right _ h)
theorem k_X3_copyFrom_1 : Cond.methodLink RX3 25 arraycopyName ∈ wsX3_copyFrom := List.mem_of_getElem? (i := 2) rfl
theorem k_X3_copyFrom_2 : Cond.native arraycopyName ∈ wsX3_copyFrom := List.mem_of_getElem? (i := 3) rfl
theorem k_X3_copyFrom_3 : Cond.static arraycopyName ∈ wsX3_copyFrom := List.mem_of_getElem? (i := 4) rfl
theorem k_X3_copyFrom_4 : Cond.initialized "java/lang/System" ∈ wsX3_copyFrom := List.mem_of_getElem? (i := 5) rfl
theorem k_X3_copyFrom_5 : Cond.fieldLink RX3 15 RX3 (TX3 1).2.1 (TX3 1).2.2.1 ∈ wsX3_copyFrom := List.mem_of_getElem? (i := 6) rfl
theorem k_X3_copyFrom_6 : Cond.fieldLink RX3 19 RX3 (TX3 2).2.1 (TX3 2).2.2.1 ∈ wsX3_copyFrom := List.mem_of_getElem? (i := 7) rfl
theorem k_X3_copyFrom_7 : Cond.fieldLink RX3 22 RX3 (TX3 3).2.1 (TX3 3).2.2.1 ∈ wsX3_copyFrom := List.mem_of_getElem? (i := 8) rfl
def F_X3_copyFrom (u : WV) (v : WV) : WV :=
  v
set_option maxHeartbeats 4000000 in
set_option maxRecDepth 100000 in
theorem c_X3_copyFrom (l : Launch) (T : TT) (b0 : Nat) (w h w2 h2 : Nat) (u : WV) (v : WV)  : ConV l T b0 yX3_copyFrom wsX3_copyFrom rmX3_copyFrom [.ref w, .ref w2] (wWr T w h u ++ wWr T w2 h2 v) (wWr T w h (F_X3_copyFrom u v) ++ wWr T w2 h2 v) := by
  refine conV_of (cc := cX3_copyFrom) (maxL := 2) (ret := none) (lv0 := [(0, .ref w), (1, .ref w2)]) (by decide +kernel) rfl (Nat.le_of_ble_eq_true rfl) rfl (fun X hX => ?_)
  refine g_aload_n hX dX3_copyFrom_0 rfl 1 rfl ?_
  refine g_get hX 3 h_X3_copyFrom_X3 2 rfl rfl 0 (by decide) k_X3_copyFrom_0 rfl (v := .ref h2) rfl dX3_copyFrom_1 ?_
  refine g_iconst hX (v := 0) dX3_copyFrom_4 (by decide) ?_
  refine g_aload_n hX dX3_copyFrom_5 rfl 0 rfl ?_
  refine g_get hX 3 h_X3_copyFrom_X3 0 rfl rfl 0 (by decide) k_X3_copyFrom_0 rfl (v := .ref h) rfl dX3_copyFrom_6 ?_
  refine g_iconst hX (v := 0) dX3_copyFrom_9 (by decide) ?_
  refine g_bipush hX (v := 12) dX3_copyFrom_10 (by decide) ?_
  refine g_copyi hX k_X3_copyFrom_1 k_X3_copyFrom_2 k_X3_copyFrom_3 k_X3_copyFrom_4 3 1 rfl rfl (by decide) (by decide) (Nat.le_of_ble_eq_true rfl) (by decide +kernel) dX3_copyFrom_12 (ws' := wWr T w h (u.1, v.2) ++ wWr T w2 h2 v) rfl ?_
  refine g_aload_n hX dX3_copyFrom_15 rfl 0 rfl ?_
  refine g_aload_n hX dX3_copyFrom_16 rfl 1 rfl ?_
  refine g_get hX 3 h_X3_copyFrom_X3 2 rfl rfl 1 (by decide) k_X3_copyFrom_5 rfl (v := .int (v.1 0)) rfl dX3_copyFrom_17 ?_
  refine g_put hX 3 h_X3_copyFrom_X3 0 rfl rfl 1 (by decide) tyX3 tyX3_ok nmX3 k_X3_copyFrom_5 rfl rfl rfl rfl rfl (Nat.le_of_ble_eq_true rfl) dX3_copyFrom_20 (ws' := wWr T w h (upd u.1 0 (v.1 0), v.2) ++ wWr T w2 h2 v) rfl ?_
  refine g_aload_n hX dX3_copyFrom_23 rfl 0 rfl ?_
  refine g_aload_n hX dX3_copyFrom_24 rfl 1 rfl ?_
  refine g_get hX 3 h_X3_copyFrom_X3 2 rfl rfl 2 (by decide) k_X3_copyFrom_6 rfl (v := .int (v.1 1)) rfl dX3_copyFrom_25 ?_
  refine g_put hX 3 h_X3_copyFrom_X3 0 rfl rfl 2 (by decide) tyX3 tyX3_ok nmX3 k_X3_copyFrom_6 rfl rfl rfl rfl rfl (Nat.le_of_ble_eq_true rfl) dX3_copyFrom_28 (ws' := wWr T w h (upd (upd u.1 0 (v.1 0)) 1 (v.1 1), v.2) ++ wWr T w2 h2 v) rfl ?_
  refine g_aload_n hX dX3_copyFrom_31 rfl 0 rfl ?_
  refine g_aload_n hX dX3_copyFrom_32 rfl 1 rfl ?_
  refine g_get hX 3 h_X3_copyFrom_X3 2 rfl rfl 3 (by decide) k_X3_copyFrom_7 rfl (v := .int (v.1 2)) rfl dX3_copyFrom_33 ?_
  refine g_put hX 3 h_X3_copyFrom_X3 0 rfl rfl 3 (by decide) tyX3 tyX3_ok nmX3 k_X3_copyFrom_7 rfl rfl rfl rfl rfl (Nat.le_of_ble_eq_true rfl) dX3_copyFrom_36 (ws' := wWr T w h (upd (upd (upd u.1 0 (v.1 0)) 1 (v.1 1)) 2 (v.1 2), v.2) ++ wWr T w2 h2 v) rfl ?_
  have e9 : F_X3_copyFrom u v = v := by simp only [F_X3_copyFrom, if_true, if_false]
  rw [e9]
  exact g_vret hX dX3_copyFrom_39 rfl
end
section
def F_J7_fill_53178 (A : Nat → Int32) (p1 : Int32) : Nat → Int32 := fun _ => p1
def rmJ7_fill_53178 : Room := { frames := 0, cells := 0, slots := 0, locals := 0 }
set_option maxHeartbeats 4000000 in
set_option maxRecDepth 100000 in
theorem k_J7_fill_loop {T : TT} {X : CX} (hX : Fit T X (yJ7_fill_53178).cls 4 wsJ7_fill_53178 cJ7_fill_53178 none rmJ7_fill_53178) (a : Nat) (N : Nat) (hN : N < 2 ^ 31) (p1 : Int32) : ∀ (n : Nat) (A : Nat → Int32) (j : Nat) (hn : j + n = N + 1) (hj : j ≤ N) (hA : ∀ i, i < j → A i = p1), G T X (QV T X 0 0 (wAr T a N (fun _ => p1))) 0 0 (wAr T a N A) [(2, .int (nI j)), (3, .int (nI N)), (0, .ref a), (1, .int p1)] 5 [] := by
  intro n
  induction n with
  | zero =>
    intro A j hn hj hA
    exact absurd hn (by omega)
  | succ n ih =>
    intro A j hn hj hA
    refine g_iload_n hX dJ7_fill_53178_5 rfl 0 rfl ?_
    refine g_iload_n hX dJ7_fill_53178_6 rfl 1 rfl ?_
    refine g_icmp_ge hX 20 dJ7_fill_53178_7 (by decide) (fun c_7 => ?_) (fun c_7 => ?_)
    · have hjN : ¬ j < N := fun q => absurd c_7 (nI_ge q hN)
      refine g_same 0 (fun _ => p1) rfl (fun i hi => hA i (by omega)) (ws' := wAr T a N (fun _ => p1)) rfl ?_
      exact g_vret hX dJ7_fill_53178_20 rfl
    · have hjN : j < N := Nat.lt_of_not_le (fun q => c_7 (nI_le q (by omega)))
      refine g_aload_n hX dJ7_fill_53178_10 rfl 2 rfl ?_
      refine g_iload_n hX dJ7_fill_53178_11 rfl 0 rfl ?_
      refine g_iload_n hX dJ7_fill_53178_12 rfl 3 rfl ?_
      refine g_iast hX 0 rfl (vp_in_nI hjN hN) dJ7_fill_53178_13 (ws' := wAr T a N (upd A j p1)) (by rw [show Int32.toNatClampNeg (nI j) = j from nI_clamp (by omega)] <;> rfl) ?_
      refine g_iinc hX (lv' := [(2, .int (nI (j + 1))), (3, .int (nI N)), (0, .ref a), (1, .int p1)]) (v := (nI (j + 1))) 0 dJ7_fill_53178_14 rfl (nI_1 _) (by decide) rfl ?_
      refine g_goto hX 5 dJ7_fill_53178_17 (by decide) ?_
      refine ih (upd A j p1) (j + 1) (by omega) (by omega) (fun i hi => ?_)
      by_cases hij : i = j
      · simp [upd, hij]
      · simp only [upd, if_neg hij]
        exact hA i (by omega)
set_option maxHeartbeats 4000000 in
set_option maxRecDepth 100000 in
theorem c_J7_fill_53178 (l : Launch) (T : TT) (b0 : Nat) (a : Nat) (N : Nat) (A : Nat → Int32) (p1 : Int32) (hN : N < 2 ^ 31) : ConV l T b0 yJ7_fill_53178 wsJ7_fill_53178 rmJ7_fill_53178 [.ref a, .int p1] (wAr T a N A) (wAr T a N (F_J7_fill_53178 A p1)) := by
  refine conV_of (cc := cJ7_fill_53178) (maxL := 4) (ret := none) (lv0 := [(0, .ref a), (1, .int p1)]) (by decide +kernel) rfl (Nat.le_of_ble_eq_true rfl) rfl (fun X hX => ?_)
  refine g_iconst hX (v := 0) dJ7_fill_53178_0 (by decide) ?_
  refine g_istore_n hX (lv' := [(2, .int 0), (0, .ref a), (1, .int p1)]) dJ7_fill_53178_1 rfl (by decide) rfl ?_
  refine g_aload_n hX dJ7_fill_53178_2 rfl 1 rfl ?_
  refine g_alen hX 0 0 rfl rfl (v := nI N) rfl dJ7_fill_53178_3 ?_
  refine g_istore_n hX (lv' := [(3, .int (nI N)), (2, .int 0), (0, .ref a), (1, .int p1)]) dJ7_fill_53178_4 rfl (by decide) rfl ?_
  refine g_lv (lv' := [(2, .int (nI 0)), (3, .int (nI N)), (0, .ref a), (1, .int p1)]) [1, 0, 2, 3] rfl ?_
  exact k_J7_fill_loop hX a N hN p1 (N + 1) A 0 (by omega) (by omega) (fun i hi => absurd hi (by omega))
theorem lowI_eq (x : Int32) : F_X4_lowest x = if x < 0 then 0 else if 7 ≤ x then 0 else fLowI x.toNatClampNeg := rfl

/-! X3_clear -/
def rmX3_clear : Room := { frames := 1, cells := 0, slots := 0, locals := 23 }
theorem k_X3_clear_0 : Cond.fieldLink RX3 9 RX3 (TX3 0).2.1 (TX3 0).2.2.1 ∈ wsX3_clear := List.mem_of_getElem? (i := 1) rfl
theorem h_X3_clear_X3 : ∀ w ∈ u_ws RX3 TX3 4, w ∈ wsX3_clear := fun w h => List.mem_cons_of_mem _ (List.mem_append_right _ h)
theorem k_X3_clear_1 : Cond.fieldLink RX3 15 RX3 (TX3 1).2.1 (TX3 1).2.2.1 ∈ wsX3_clear := List.mem_of_getElem? (i := 2) rfl
theorem k_X3_clear_2 : Cond.fieldLink RX3 19 RX3 (TX3 2).2.1 (TX3 2).2.2.1 ∈ wsX3_clear := List.mem_of_getElem? (i := 3) rfl
theorem k_X3_clear_3 : Cond.fieldLink RX3 22 RX3 (TX3 3).2.1 (TX3 3).2.2.1 ∈ wsX3_clear := List.mem_of_getElem? (i := 4) rfl
def F_X3_clear (u : WV) : WV :=
  (let z_5 := F_J7_fill_53178 u.2 0
  (upd (upd (upd u.1 0 0) 1 0) 2 0, z_5))
set_option maxHeartbeats 4000000 in
set_option maxRecDepth 100000 in
theorem c_X3_clear (l : Launch) (T : TT) (b0 : Nat) (w h : Nat) (u : WV)  : ConV l T b0 yX3_clear wsX3_clear rmX3_clear [.ref w] (wWr T w h u) (wWr T w h (F_X3_clear u)) := by
  refine conV_of (cc := cX3_clear) (maxL := 1) (ret := none) (lv0 := [(0, .ref w)]) (by decide +kernel) rfl (Nat.le_of_ble_eq_true rfl) rfl (fun X hX => ?_)
  refine g_aload_n hX dX3_clear_0 rfl 0 rfl ?_
  refine g_get hX 3 h_X3_clear_X3 0 rfl rfl 0 (by decide) k_X3_clear_0 rfl (v := .ref h) rfl dX3_clear_1 ?_
  refine g_iconst hX (v := 0) dX3_clear_4 (by decide) ?_
  obtain ⟨z_5, hz_5⟩ : ∃ z : (Nat → Int32), z = F_J7_fill_53178 u.2 0 := ⟨_, rfl⟩
  refine g_cS_V hX (n := 2) (As := [.ref h, .int 0]) (wc := wAr T h 12 u.2) (w1 := wAr T h 12 z_5) (st := []) (by rw [hz_5]; exact (c_J7_fill_53178 (xL X) T (xB X) h 12 u.2 0 (by decide))) gX3_clear_J7_fill_53178 rfl rfl rfl ⟨Nat.le_of_ble_eq_true rfl, Nat.le_of_ble_eq_true rfl⟩ ⟨Nat.zero_le _, Nat.zero_le _⟩ ⟨by decide +kernel, by decide +kernel, by decide +kernel⟩ rfl [1] rfl rfl (by decide) rfl (Nat.le_of_ble_eq_true rfl) dX3_clear_5 (ws' := wWr T w h (u.1, z_5)) rfl ?_
  refine g_aload_n hX dX3_clear_8 rfl 0 rfl ?_
  refine g_iconst hX (v := 0) dX3_clear_9 (by decide) ?_
  refine g_put hX 3 h_X3_clear_X3 0 rfl rfl 1 (by decide) tyX3 tyX3_ok nmX3 k_X3_clear_1 rfl rfl rfl rfl rfl (Nat.le_of_ble_eq_true rfl) dX3_clear_10 (ws' := wWr T w h (upd u.1 0 0, z_5)) rfl ?_
  refine g_aload_n hX dX3_clear_13 rfl 0 rfl ?_
  refine g_iconst hX (v := 0) dX3_clear_14 (by decide) ?_
  refine g_put hX 3 h_X3_clear_X3 0 rfl rfl 2 (by decide) tyX3 tyX3_ok nmX3 k_X3_clear_2 rfl rfl rfl rfl rfl (Nat.le_of_ble_eq_true rfl) dX3_clear_15 (ws' := wWr T w h (upd (upd u.1 0 0) 1 0, z_5)) rfl ?_
  refine g_aload_n hX dX3_clear_18 rfl 0 rfl ?_
  refine g_iconst hX (v := 0) dX3_clear_19 (by decide) ?_
  refine g_put hX 3 h_X3_clear_X3 0 rfl rfl 3 (by decide) tyX3 tyX3_ok nmX3 k_X3_clear_3 rfl rfl rfl rfl rfl (Nat.le_of_ble_eq_true rfl) dX3_clear_20 (ws' := wWr T w h (upd (upd (upd u.1 0 0) 1 0) 2 0, z_5)) rfl ?_
  have e9 : F_X3_clear u = (upd (upd (upd u.1 0 0) 1 0) 2 0, z_5) := by simp only [F_X3_clear, ← hz_5, if_true, if_false]
  rw [e9]
  exact g_vret hX dX3_clear_23 rfl
/-! X3_evenness -/
def rmX3_evenness : Room := { frames := 1, cells := 0, slots := 0, locals := 13 }
theorem k_X3_evenness_0 : Cond.fieldLink RX3 19 RX3 (TX3 2).2.1 (TX3 2).2.2.1 ∈ wsX3_evenness := List.mem_of_getElem? (i := 1) rfl
theorem h_X3_evenness_X3 : ∀ w ∈ u_ws RX3 TX3 4, w ∈ wsX3_evenness := fun w h => List.mem_cons_of_mem _ (List.mem_append_right _ h)
theorem k_X3_evenness_1 : Cond.fieldLink RX3 9 RX3 (TX3 0).2.1 (TX3 0).2.2.1 ∈ wsX3_evenness := List.mem_of_getElem? (i := 2) rfl
theorem k_X3_evenness_2 : Cond.methodLink RX3 51 Lib.Math.min.name ∈ wsX3_evenness := List.mem_of_getElem? (i := 3) rfl
theorem k_X3_evenness_3 : Cond.static Lib.Math.min.name ∈ wsX3_evenness := List.mem_of_getElem? (i := 4) rfl
theorem k_X3_evenness_4 : Cond.initialized "java/lang/Math" ∈ wsX3_evenness := List.mem_of_getElem? (i := 5) rfl
theorem k_X3_evenness_5 : Cond.code Lib.Math.min.name Lib.Math.min.code 2 (some .int) ∈ wsX3_evenness := List.mem_of_getElem? (i := 6) rfl
def K_X3_evenness_16 : Nat → WV → Nat → Int32 → Int32
  | 0, u, j, e => 0
  | n + 1, u, j, e => (if 12 ≤ (nI j) then ((u.1 1) - e) else K_X3_evenness_16 n u (j + 1) (if (u.2 j) < e then (u.2 j) else e))
def F_X3_evenness (u : WV) : Int32 :=
  K_X3_evenness_16 13 u 0 (u.1 1)
set_option maxHeartbeats 4000000 in
set_option maxRecDepth 100000 in
theorem k_X3_evenness_16 {T : TT} {X : CX} (hX : Fit T X (yX3_evenness).cls 6 wsX3_evenness cX3_evenness (some .int) rmX3_evenness) (w h : Nat) : ∀ (n : Nat) (u : WV) (j : Nat) (e : Int32) (hn : j + n = 13) (hj : j ≤ 12), G T X (QI T X 0 0 (K_X3_evenness_16 n u j e) (wWr T w h u)) 0 0 (wWr T w h u) [(4, .int (nI j)), (1, .int e), (2, .ref h), (3, .int 12), (0, .ref w)] 16 [] := by
  intro n
  induction n with
  | zero =>
    intro u j e hn hj
    exact absurd hn (by omega)
  | succ n ih =>
    intro u j e hn hj
    refine g_iload hX dX3_evenness_16 0 rfl ?_
    refine g_iload_n hX dX3_evenness_18 rfl 3 rfl ?_
    refine g_icmp_ge hX 41 dX3_evenness_19 (by decide) (fun c_19 => ?_) (fun c_19 => ?_)
    · skip
      refine g_aload_n hX dX3_evenness_41 rfl 4 rfl ?_
      refine g_get hX 3 h_X3_evenness_X3 0 rfl rfl 2 (by decide) k_X3_evenness_0 rfl (v := .int (u.1 1)) rfl dX3_evenness_42 ?_
      refine g_iload_n hX dX3_evenness_45 rfl 1 rfl ?_
      refine g_isub hX dX3_evenness_46 ?_
      have e9 : K_X3_evenness_16 (n + 1) u j e = ((u.1 1) - e) := by simp only [K_X3_evenness_16, eq_true c_19, if_true, if_false]
      rw [e9]
      exact g_iret hX dX3_evenness_47 rfl rfl
    · skip
      have hlt_19 : j < 12 := nlt_of c_19 (by decide) (by omega)
      refine g_aload_n hX dX3_evenness_22 rfl 2 rfl ?_
      refine g_iload hX dX3_evenness_23 0 rfl ?_
      refine g_iald hX 1 rfl (vp_in_nI (by omega) (by omega)) (v := (u.2 j)) (congrArg _ (nI_clamp (by omega))) dX3_evenness_25 ?_
      refine g_istore hX (lv' := [(5, .int (u.2 j)), (4, .int (nI j)), (1, .int e), (2, .ref h), (3, .int 12), (0, .ref w)]) dX3_evenness_26 (by decide) rfl ?_
      refine g_iload_n hX dX3_evenness_28 rfl 2 rfl ?_
      refine g_iload hX dX3_evenness_29 0 rfl ?_
      refine g_mmin hX k_X3_evenness_2 k_X3_evenness_3 k_X3_evenness_4 k_X3_evenness_5 (Nat.le_of_ble_eq_true rfl) (Nat.le_of_ble_eq_true rfl) (Nat.zero_le _) (Nat.zero_le _) dX3_evenness_31 ?_
      refine g_istore_n hX (lv' := [(1, .int (if (u.2 j) < e then (u.2 j) else e)), (5, .int (u.2 j)), (4, .int (nI j)), (2, .ref h), (3, .int 12), (0, .ref w)]) dX3_evenness_34 rfl (by decide) rfl ?_
      refine g_iinc hX (lv' := [(4, .int (nI (j + 1))), (1, .int (if (u.2 j) < e then (u.2 j) else e)), (5, .int (u.2 j)), (2, .ref h), (3, .int 12), (0, .ref w)]) (v := (nI (j + 1))) 2 dX3_evenness_35 rfl (nI_1 _) (by decide) rfl ?_
      refine g_goto hX 16 dX3_evenness_38 (by decide) ?_
      have e9 : K_X3_evenness_16 (n + 1) u j e = K_X3_evenness_16 n u (j + 1) (if (u.2 j) < e then (u.2 j) else e) := by simp only [K_X3_evenness_16, eq_false c_19, if_true, if_false]
      rw [e9]
      refine g_lv (lv' := [(4, .int (nI (j + 1))), (1, .int (if (u.2 j) < e then (u.2 j) else e)), (2, .ref h), (3, .int 12), (0, .ref w)]) [0, 1, 3, 4, 5] rfl ?_
      exact ih u (j + 1) (if (u.2 j) < e then (u.2 j) else e) (by omega) (by omega)
set_option maxHeartbeats 4000000 in
set_option maxRecDepth 100000 in
theorem c_X3_evenness (l : Launch) (T : TT) (b0 : Nat) (w h : Nat) (u : WV)  : ConI l T b0 yX3_evenness wsX3_evenness rmX3_evenness [.ref w] (wWr T w h u) (F_X3_evenness u) (wWr T w h u) := by
  refine conI_of (cc := cX3_evenness) (maxL := 6) (ret := (some .int)) (lv0 := [(0, .ref w)]) (by decide +kernel) rfl (Nat.le_of_ble_eq_true rfl) rfl (fun X hX => ?_)
  refine g_aload_n hX dX3_evenness_0 rfl 0 rfl ?_
  refine g_get hX 3 h_X3_evenness_X3 0 rfl rfl 2 (by decide) k_X3_evenness_0 rfl (v := .int (u.1 1)) rfl dX3_evenness_1 ?_
  refine g_istore_n hX (lv' := [(1, .int (u.1 1)), (0, .ref w)]) dX3_evenness_4 rfl (by decide) rfl ?_
  refine g_aload_n hX dX3_evenness_5 rfl 1 rfl ?_
  refine g_get hX 3 h_X3_evenness_X3 0 rfl rfl 0 (by decide) k_X3_evenness_1 rfl (v := .ref h) rfl dX3_evenness_6 ?_
  refine g_astore_n hX (lv' := [(2, .ref h), (1, .int (u.1 1)), (0, .ref w)]) dX3_evenness_9 rfl (by decide) rfl ?_
  refine g_aload_n hX dX3_evenness_10 rfl 0 rfl ?_
  refine g_alen hX 1 0 rfl rfl (v := 12) rfl dX3_evenness_11 ?_
  refine g_istore_n hX (lv' := [(3, .int 12), (2, .ref h), (1, .int (u.1 1)), (0, .ref w)]) dX3_evenness_12 rfl (by decide) rfl ?_
  refine g_iconst hX (v := 0) dX3_evenness_13 (by decide) ?_
  refine g_istore hX (lv' := [(4, .int 0), (3, .int 12), (2, .ref h), (1, .int (u.1 1)), (0, .ref w)]) dX3_evenness_14 (by decide) rfl ?_
  have e9 : F_X3_evenness u = K_X3_evenness_16 13 u 0 (u.1 1) := by simp only [F_X3_evenness, if_true, if_false]
  rw [e9]
  refine g_lv (lv' := [(4, .int (nI 0)), (1, .int (u.1 1)), (2, .ref h), (3, .int 12), (0, .ref w)]) [0, 3, 2, 1, 4] rfl ?_
  exact k_X3_evenness_16 hX w h 13 u 0 (u.1 1) (by omega) (by omega)
/-! X3_ribbons -/
def rmX3_ribbons : Room := { frames := 3, cells := 0, slots := 0, locals := 66 }
theorem k_X3_ribbons_15 : Cond.initialized RX4 ∈ wsX3_ribbons := List.mem_of_getElem? (i := 16) rfl
theorem k_X3_ribbons_14 : Cond.static yX4_oneIf ∈ wsX3_ribbons := List.mem_of_getElem? (i := 15) rfl
def K_X3_ribbons_4 : Nat → WV → Nat → Int32 → Int32
  | 0, u, j, e => 0
  | n + 1, u, j, e => (if 12 ≤ (nI j) then e else K_X3_ribbons_4 n u (j + 1) (e + (F_X4_oneIf (F_X3_isRibbon u (nI j)))))
def F_X3_ribbons (u : WV) : Int32 :=
  K_X3_ribbons_4 13 u 0 0
set_option maxHeartbeats 4000000 in
set_option maxRecDepth 100000 in
theorem k_X3_ribbons_4 {T : TT} {X : CX} (hX : Fit T X (yX3_ribbons).cls 3 wsX3_ribbons cX3_ribbons (some .int) rmX3_ribbons) (w h : Nat) : ∀ (n : Nat) (u : WV) (j : Nat) (e : Int32) (hn : j + n = 13) (hj : j ≤ 12), G T X (QI T X 0 0 (K_X3_ribbons_4 n u j e) (wWr T w h u)) 0 0 (wWr T w h u) [(2, .int (nI j)), (1, .int e), (0, .ref w)] 4 [] := by
  intro n
  induction n with
  | zero =>
    intro u j e hn hj
    exact absurd hn (by omega)
  | succ n ih =>
    intro u j e hn hj
    refine g_iload_n hX dX3_ribbons_4 rfl 0 rfl ?_
    refine g_bipush hX (v := 12) dX3_ribbons_5 (by decide) ?_
    refine g_icmp_ge hX 27 dX3_ribbons_7 (by decide) (fun c_7 => ?_) (fun c_7 => ?_)
    · skip
      refine g_iload_n hX dX3_ribbons_27 rfl 1 rfl ?_
      have e9 : K_X3_ribbons_4 (n + 1) u j e = e := by simp only [K_X3_ribbons_4, eq_true c_7, if_true, if_false]
      rw [e9]
      exact g_iret hX dX3_ribbons_28 rfl rfl
    · skip
      have hlt_7 : j < 12 := nlt_of c_7 (by decide) (by omega)
      refine g_iload_n hX dX3_ribbons_10 rfl 1 rfl ?_
      refine g_aload_n hX dX3_ribbons_11 rfl 2 rfl ?_
      refine g_iload_n hX dX3_ribbons_12 rfl 0 rfl ?_
      refine g_cV_I hX (n := 1) (As := [.int (nI j)]) (wc := wWr T w h u) (w1 := wWr T w h u) (rv := (F_X3_isRibbon u (nI j))) (st := [.int e]) 0 rfl rfl (c_X3_isRibbon (xL X) T (xB X) w h u (nI j)) gX3_ribbons_X3_isRibbon rfl rfl rfl ⟨Nat.le_of_ble_eq_true rfl, Nat.le_of_ble_eq_true rfl⟩ ⟨Nat.zero_le _, Nat.zero_le _⟩ ⟨by decide +kernel, by decide +kernel, by decide +kernel⟩ rfl [0, 1] rfl rfl (by decide) rfl (Nat.le_of_ble_eq_true rfl) dX3_ribbons_13 (ws' := wWr T w h u) rfl ?_
      refine g_cSN_I hX (n := 1) (As := [.int (F_X3_isRibbon u (nI j))]) (wc := []) (w1 := []) (rv := (F_X4_oneIf (F_X3_isRibbon u (nI j)))) (st := [.int e]) (c_X4_oneIf (xL X) T (xB X) (F_X3_isRibbon u (nI j))) ggX3_ribbons_X4_oneIf 32 rfl k_X3_ribbons_15 k_X3_ribbons_14 rfl rfl rfl ⟨Nat.le_of_ble_eq_true rfl, Nat.le_of_ble_eq_true rfl⟩ ⟨Nat.zero_le _, Nat.zero_le _⟩ ⟨by decide +kernel, by decide +kernel, by decide +kernel⟩ rfl [] rfl rfl (by decide) rfl (Nat.le_of_ble_eq_true rfl) dX3_ribbons_16 (ws' := wWr T w h u) rfl ?_
      refine g_iadd hX dX3_ribbons_19 ?_
      refine g_istore_n hX (lv' := [(1, .int (e + (F_X4_oneIf (F_X3_isRibbon u (nI j))))), (2, .int (nI j)), (0, .ref w)]) dX3_ribbons_20 rfl (by decide) rfl ?_
      refine g_iinc hX (lv' := [(2, .int (nI (j + 1))), (1, .int (e + (F_X4_oneIf (F_X3_isRibbon u (nI j))))), (0, .ref w)]) (v := (nI (j + 1))) 1 dX3_ribbons_21 rfl (nI_1 _) (by decide) rfl ?_
      refine g_goto hX 4 dX3_ribbons_24 (by decide) ?_
      have e9 : K_X3_ribbons_4 (n + 1) u j e = K_X3_ribbons_4 n u (j + 1) (e + (F_X4_oneIf (F_X3_isRibbon u (nI j)))) := by simp only [K_X3_ribbons_4, eq_false c_7, if_true, if_false]
      rw [e9]
      refine g_lv (lv' := [(2, .int (nI (j + 1))), (1, .int (e + (F_X4_oneIf (F_X3_isRibbon u (nI j))))), (0, .ref w)]) [0, 1, 2] rfl ?_
      exact ih u (j + 1) (e + (F_X4_oneIf (F_X3_isRibbon u (nI j)))) (by omega) (by omega)
set_option maxHeartbeats 4000000 in
set_option maxRecDepth 100000 in
theorem c_X3_ribbons (l : Launch) (T : TT) (b0 : Nat) (w h : Nat) (u : WV)  : ConI l T b0 yX3_ribbons wsX3_ribbons rmX3_ribbons [.ref w] (wWr T w h u) (F_X3_ribbons u) (wWr T w h u) := by
  refine conI_of (cc := cX3_ribbons) (maxL := 3) (ret := (some .int)) (lv0 := [(0, .ref w)]) (by decide +kernel) rfl (Nat.le_of_ble_eq_true rfl) rfl (fun X hX => ?_)
  refine g_iconst hX (v := 0) dX3_ribbons_0 (by decide) ?_
  refine g_istore_n hX (lv' := [(1, .int 0), (0, .ref w)]) dX3_ribbons_1 rfl (by decide) rfl ?_
  refine g_iconst hX (v := 0) dX3_ribbons_2 (by decide) ?_
  refine g_istore_n hX (lv' := [(2, .int 0), (1, .int 0), (0, .ref w)]) dX3_ribbons_3 rfl (by decide) rfl ?_
  have e9 : F_X3_ribbons u = K_X3_ribbons_4 13 u 0 0 := by simp only [F_X3_ribbons, if_true, if_false]
  rw [e9]
  refine g_lv (lv' := [(2, .int (nI 0)), (1, .int 0), (0, .ref w)]) [0, 1, 2] rfl ?_
  exact k_X3_ribbons_4 hX w h 13 u 0 0 (by omega) (by omega)
/-! X3_barePlaces -/
def rmX3_barePlaces : Room := { frames := 1, cells := 0, slots := 0, locals := 20 }
theorem k_X3_barePlaces_0 : Cond.fieldLink RX3 9 RX3 (TX3 0).2.1 (TX3 0).2.2.1 ∈ wsX3_barePlaces := List.mem_of_getElem? (i := 1) rfl
theorem h_X3_barePlaces_X3 : ∀ w ∈ u_ws RX3 TX3 4, w ∈ wsX3_barePlaces := fun w h => List.mem_cons_of_mem _ (List.mem_append_right _ h)
theorem k_X3_barePlaces_2 : Cond.initialized RX4 ∈ wsX3_barePlaces := List.mem_of_getElem? (i := 3) rfl
theorem k_X3_barePlaces_1 : Cond.static yX4_oneIf ∈ wsX3_barePlaces := List.mem_of_getElem? (i := 2) rfl
def K_X3_barePlaces_13 : Nat → WV → Nat → Int32 → Int32
  | 0, u, j, e => 0
  | n + 1, u, j, e => (if 12 ≤ (nI j) then e else (if (u.2 j) = 0 then K_X3_barePlaces_13 n u (j + 1) (e + (F_X4_oneIf 1)) else K_X3_barePlaces_13 n u (j + 1) (e + (F_X4_oneIf 0))))
def F_X3_barePlaces (u : WV) : Int32 :=
  K_X3_barePlaces_13 13 u 0 0
set_option maxHeartbeats 4000000 in
set_option maxRecDepth 100000 in
theorem k_X3_barePlaces_13 {T : TT} {X : CX} (hX : Fit T X (yX3_barePlaces).cls 6 wsX3_barePlaces cX3_barePlaces (some .int) rmX3_barePlaces) (w h : Nat) : ∀ (n : Nat) (u : WV) (j : Nat) (e : Int32) (hn : j + n = 13) (hj : j ≤ 12), G T X (QI T X 0 0 (K_X3_barePlaces_13 n u j e) (wWr T w h u)) 0 0 (wWr T w h u) [(4, .int (nI j)), (1, .int e), (2, .ref h), (3, .int 12), (0, .ref w)] 13 [] := by
  intro n
  induction n with
  | zero =>
    intro u j e hn hj
    exact absurd hn (by omega)
  | succ n ih =>
    intro u j e hn hj
    refine g_iload hX dX3_barePlaces_13 0 rfl ?_
    refine g_iload_n hX dX3_barePlaces_15 rfl 3 rfl ?_
    refine g_icmp_ge hX 47 dX3_barePlaces_16 (by decide) (fun c_16 => ?_) (fun c_16 => ?_)
    · skip
      refine g_iload_n hX dX3_barePlaces_47 rfl 1 rfl ?_
      have e9 : K_X3_barePlaces_13 (n + 1) u j e = e := by simp only [K_X3_barePlaces_13, eq_true c_16, if_true, if_false]
      rw [e9]
      exact g_iret hX dX3_barePlaces_48 rfl rfl
    · skip
      have hlt_16 : j < 12 := nlt_of c_16 (by decide) (by omega)
      refine g_aload_n hX dX3_barePlaces_19 rfl 2 rfl ?_
      refine g_iload hX dX3_barePlaces_20 0 rfl ?_
      refine g_iald hX 1 rfl (vp_in_nI (by omega) (by omega)) (v := (u.2 j)) (congrArg _ (nI_clamp (by omega))) dX3_barePlaces_22 ?_
      refine g_istore hX (lv' := [(5, .int (u.2 j)), (4, .int (nI j)), (1, .int e), (2, .ref h), (3, .int 12), (0, .ref w)]) dX3_barePlaces_23 (by decide) rfl ?_
      refine g_iload_n hX dX3_barePlaces_25 rfl 2 rfl ?_
      refine g_iload hX dX3_barePlaces_26 0 rfl ?_
      refine g_if_ne hX 35 dX3_barePlaces_28 (by decide) (fun c_28 => ?_) (fun c_28 => ?_)
      · skip
        refine g_iconst hX (v := 0) dX3_barePlaces_35 (by decide) ?_
        refine g_cSN_I hX (n := 1) (As := [.int 0]) (wc := []) (w1 := []) (rv := (F_X4_oneIf 0)) (st := [.int e]) (c_X4_oneIf (xL X) T (xB X) 0) ggX3_barePlaces_X4_oneIf 32 rfl k_X3_barePlaces_2 k_X3_barePlaces_1 rfl rfl rfl ⟨Nat.le_of_ble_eq_true rfl, Nat.le_of_ble_eq_true rfl⟩ ⟨Nat.zero_le _, Nat.zero_le _⟩ ⟨by decide +kernel, by decide +kernel, by decide +kernel⟩ rfl [] rfl rfl (by decide) rfl (Nat.le_of_ble_eq_true rfl) dX3_barePlaces_36 (ws' := wWr T w h u) rfl ?_
        refine g_iadd hX dX3_barePlaces_39 ?_
        refine g_istore_n hX (lv' := [(1, .int (e + (F_X4_oneIf 0))), (5, .int (u.2 j)), (4, .int (nI j)), (2, .ref h), (3, .int 12), (0, .ref w)]) dX3_barePlaces_40 rfl (by decide) rfl ?_
        refine g_iinc hX (lv' := [(4, .int (nI (j + 1))), (1, .int (e + (F_X4_oneIf 0))), (5, .int (u.2 j)), (2, .ref h), (3, .int 12), (0, .ref w)]) (v := (nI (j + 1))) 2 dX3_barePlaces_41 rfl (nI_1 _) (by decide) rfl ?_
        refine g_goto hX 13 dX3_barePlaces_44 (by decide) ?_
        have e9 : K_X3_barePlaces_13 (n + 1) u j e = K_X3_barePlaces_13 n u (j + 1) (e + (F_X4_oneIf 0)) := by simp only [K_X3_barePlaces_13, eq_false c_16, eq_false c_28, if_true, if_false]
        rw [e9]
        refine g_lv (lv' := [(4, .int (nI (j + 1))), (1, .int (e + (F_X4_oneIf 0))), (2, .ref h), (3, .int 12), (0, .ref w)]) [0, 1, 3, 4, 5] rfl ?_
        exact ih u (j + 1) (e + (F_X4_oneIf 0)) (by omega) (by omega)
      · skip
        refine g_iconst hX (v := 1) dX3_barePlaces_31 (by decide) ?_
        refine g_goto hX 36 dX3_barePlaces_32 (by decide) ?_
        refine g_cSN_I hX (n := 1) (As := [.int 1]) (wc := []) (w1 := []) (rv := (F_X4_oneIf 1)) (st := [.int e]) (c_X4_oneIf (xL X) T (xB X) 1) ggX3_barePlaces_X4_oneIf 32 rfl k_X3_barePlaces_2 k_X3_barePlaces_1 rfl rfl rfl ⟨Nat.le_of_ble_eq_true rfl, Nat.le_of_ble_eq_true rfl⟩ ⟨Nat.zero_le _, Nat.zero_le _⟩ ⟨by decide +kernel, by decide +kernel, by decide +kernel⟩ rfl [] rfl rfl (by decide) rfl (Nat.le_of_ble_eq_true rfl) dX3_barePlaces_36 (ws' := wWr T w h u) rfl ?_
        refine g_iadd hX dX3_barePlaces_39 ?_
        refine g_istore_n hX (lv' := [(1, .int (e + (F_X4_oneIf 1))), (5, .int (u.2 j)), (4, .int (nI j)), (2, .ref h), (3, .int 12), (0, .ref w)]) dX3_barePlaces_40 rfl (by decide) rfl ?_
        refine g_iinc hX (lv' := [(4, .int (nI (j + 1))), (1, .int (e + (F_X4_oneIf 1))), (5, .int (u.2 j)), (2, .ref h), (3, .int 12), (0, .ref w)]) (v := (nI (j + 1))) 2 dX3_barePlaces_41 rfl (nI_1 _) (by decide) rfl ?_
        refine g_goto hX 13 dX3_barePlaces_44 (by decide) ?_
        have e9 : K_X3_barePlaces_13 (n + 1) u j e = K_X3_barePlaces_13 n u (j + 1) (e + (F_X4_oneIf 1)) := by simp only [K_X3_barePlaces_13, eq_false c_16, eq_true c_28, if_true, if_false]
        rw [e9]
        refine g_lv (lv' := [(4, .int (nI (j + 1))), (1, .int (e + (F_X4_oneIf 1))), (2, .ref h), (3, .int 12), (0, .ref w)]) [0, 1, 3, 4, 5] rfl ?_
        exact ih u (j + 1) (e + (F_X4_oneIf 1)) (by omega) (by omega)
set_option maxHeartbeats 4000000 in
set_option maxRecDepth 100000 in
theorem c_X3_barePlaces (l : Launch) (T : TT) (b0 : Nat) (w h : Nat) (u : WV)  : ConI l T b0 yX3_barePlaces wsX3_barePlaces rmX3_barePlaces [.ref w] (wWr T w h u) (F_X3_barePlaces u) (wWr T w h u) := by
  refine conI_of (cc := cX3_barePlaces) (maxL := 6) (ret := (some .int)) (lv0 := [(0, .ref w)]) (by decide +kernel) rfl (Nat.le_of_ble_eq_true rfl) rfl (fun X hX => ?_)
  refine g_iconst hX (v := 0) dX3_barePlaces_0 (by decide) ?_
  refine g_istore_n hX (lv' := [(1, .int 0), (0, .ref w)]) dX3_barePlaces_1 rfl (by decide) rfl ?_
  refine g_aload_n hX dX3_barePlaces_2 rfl 1 rfl ?_
  refine g_get hX 3 h_X3_barePlaces_X3 0 rfl rfl 0 (by decide) k_X3_barePlaces_0 rfl (v := .ref h) rfl dX3_barePlaces_3 ?_
  refine g_astore_n hX (lv' := [(2, .ref h), (1, .int 0), (0, .ref w)]) dX3_barePlaces_6 rfl (by decide) rfl ?_
  refine g_aload_n hX dX3_barePlaces_7 rfl 0 rfl ?_
  refine g_alen hX 1 0 rfl rfl (v := 12) rfl dX3_barePlaces_8 ?_
  refine g_istore_n hX (lv' := [(3, .int 12), (2, .ref h), (1, .int 0), (0, .ref w)]) dX3_barePlaces_9 rfl (by decide) rfl ?_
  refine g_iconst hX (v := 0) dX3_barePlaces_10 (by decide) ?_
  refine g_istore hX (lv' := [(4, .int 0), (3, .int 12), (2, .ref h), (1, .int 0), (0, .ref w)]) dX3_barePlaces_11 (by decide) rfl ?_
  have e9 : F_X3_barePlaces u = K_X3_barePlaces_13 13 u 0 0 := by simp only [F_X3_barePlaces, if_true, if_false]
  rw [e9]
  refine g_lv (lv' := [(4, .int (nI 0)), (1, .int 0), (2, .ref h), (3, .int 12), (0, .ref w)]) [0, 3, 2, 1, 4] rfl ?_
  exact k_X3_barePlaces_13 hX w h 13 u 0 0 (by omega) (by omega)
end
section
theorem inr_hi {a p : Int32} (h : ¬ F_X4_inRange a p = 0) : F_X4_lowest a ≤ p ∧ p ≤ F_X4_highest a := by
  unfold F_X4_inRange at h
  split at h
  · exact absurd rfl h
  · split at h
    · exact absurd rfl h
    · rename_i h1 h2
      exact ⟨Int32.not_lt.mp h1, Int32.not_lt.mp h2⟩
theorem inr5 {p : Int32} (h : ¬ F_X4_inRange 5 p = 0) : p.toInt ≤ 500 := by
  have h2 := (inr_hi h).2
  rw [Int32.le_iff_toInt_le, show (F_X4_highest 5).toInt = 500 from by decide] at h2
  exact h2
/-! X2_number -/
def rmX2_number : Room := { frames := 0, cells := 0, slots := 0, locals := 0 }
theorem k_X2_number_0 : Cond.fieldLink RX2 30 RX2 (TX2 2).2.1 (TX2 2).2.2.1 ∈ wsX2_number := List.mem_of_getElem? (i := 1) rfl
theorem h_X2_number_X2 : ∀ w ∈ u_ws RX2 TX2 11, w ∈ wsX2_number := fun w h => List.mem_cons_of_mem _ (List.mem_append_right _ h)
def F_X2_number (u : SV) (p1 : Int32) : Int32 :=
  (if p1 < 0 then 0 else (if 5 ≤ p1 then 0 else (u.2.2.2 (Int32.toNatClampNeg p1))))
set_option maxHeartbeats 4000000 in
set_option maxRecDepth 100000 in
theorem c_X2_number (l : Launch) (T : TT) (b0 : Nat) (a w h k d : Nat) (u : SV) (p1 : Int32)  : ConI l T b0 yX2_number wsX2_number rmX2_number [.ref a, .int p1] (wSt T a w h k d u) (F_X2_number u p1) (wSt T a w h k d u) := by
  refine conI_of (cc := cX2_number) (maxL := 2) (ret := (some .int)) (lv0 := [(0, .ref a), (1, .int p1)]) (by decide +kernel) rfl (Nat.le_of_ble_eq_true rfl) rfl (fun X hX => ?_)
  refine g_iload_n hX dX2_number_0 rfl 1 rfl ?_
  refine g_if_lt hX 22 dX2_number_1 (by decide) (fun c_1 => ?_) (fun c_1 => ?_)
  · skip
    refine g_iconst hX (v := 0) dX2_number_22 (by decide) ?_
    have e9 : F_X2_number u p1 = 0 := by simp only [F_X2_number, eq_true c_1, if_true, if_false]
    rw [e9]
    exact g_iret hX dX2_number_23 rfl rfl
  · skip
    refine g_iload_n hX dX2_number_4 rfl 1 rfl ?_
    refine g_aload_n hX dX2_number_5 rfl 0 rfl ?_
    refine g_get hX 2 h_X2_number_X2 0 rfl rfl 2 (by decide) k_X2_number_0 rfl (v := .ref d) rfl dX2_number_6 ?_
    refine g_alen hX 4 0 rfl rfl (v := 5) rfl dX2_number_9 ?_
    refine g_icmp_ge hX 22 dX2_number_10 (by decide) (fun c_10 => ?_) (fun c_10 => ?_)
    · skip
      refine g_iconst hX (v := 0) dX2_number_22 (by decide) ?_
      have e9 : F_X2_number u p1 = 0 := by simp only [F_X2_number, eq_false c_1, eq_true c_10, if_true, if_false]
      rw [e9]
      exact g_iret hX dX2_number_23 rfl rfl
    · skip
      refine g_aload_n hX dX2_number_13 rfl 0 rfl ?_
      refine g_get hX 2 h_X2_number_X2 0 rfl rfl 2 (by decide) k_X2_number_0 rfl (v := .ref d) rfl dX2_number_14 ?_
      refine g_iload_n hX dX2_number_17 rfl 1 rfl ?_
      refine g_iald hX 4 rfl (vin_of c_1 c_10 (by decide)) (v := (u.2.2.2 (Int32.toNatClampNeg p1))) (congrArg _ rfl) dX2_number_18 ?_
      refine g_goto hX 23 dX2_number_19 (by decide) ?_
      have e9 : F_X2_number u p1 = (u.2.2.2 (Int32.toNatClampNeg p1)) := by simp only [F_X2_number, eq_false c_1, eq_false c_10, if_true, if_false]
      rw [e9]
      exact g_iret hX dX2_number_23 rfl rfl
/-! X2_knotsAt -/
def rmX2_knotsAt : Room := { frames := 0, cells := 0, slots := 0, locals := 0 }
theorem k_X2_knotsAt_0 : Cond.fieldLink RX2 18 RX2 (TX2 1).2.1 (TX2 1).2.2.1 ∈ wsX2_knotsAt := List.mem_of_getElem? (i := 1) rfl
theorem h_X2_knotsAt_X2 : ∀ w ∈ u_ws RX2 TX2 11, w ∈ wsX2_knotsAt := fun w h => List.mem_cons_of_mem _ (List.mem_append_right _ h)
def F_X2_knotsAt (u : SV) (p1 : Int32) : Int32 :=
  (if p1 < 0 then 0 else (if 12 ≤ p1 then 0 else (u.2.2.1 (Int32.toNatClampNeg p1))))
set_option maxHeartbeats 4000000 in
set_option maxRecDepth 100000 in
theorem c_X2_knotsAt (l : Launch) (T : TT) (b0 : Nat) (a w h k d : Nat) (u : SV) (p1 : Int32)  : ConI l T b0 yX2_knotsAt wsX2_knotsAt rmX2_knotsAt [.ref a, .int p1] (wSt T a w h k d u) (F_X2_knotsAt u p1) (wSt T a w h k d u) := by
  refine conI_of (cc := cX2_knotsAt) (maxL := 2) (ret := (some .int)) (lv0 := [(0, .ref a), (1, .int p1)]) (by decide +kernel) rfl (Nat.le_of_ble_eq_true rfl) rfl (fun X hX => ?_)
  refine g_iload_n hX dX2_knotsAt_0 rfl 1 rfl ?_
  refine g_if_lt hX 22 dX2_knotsAt_1 (by decide) (fun c_1 => ?_) (fun c_1 => ?_)
  · skip
    refine g_iconst hX (v := 0) dX2_knotsAt_22 (by decide) ?_
    have e9 : F_X2_knotsAt u p1 = 0 := by simp only [F_X2_knotsAt, eq_true c_1, if_true, if_false]
    rw [e9]
    exact g_iret hX dX2_knotsAt_23 rfl rfl
  · skip
    refine g_iload_n hX dX2_knotsAt_4 rfl 1 rfl ?_
    refine g_aload_n hX dX2_knotsAt_5 rfl 0 rfl ?_
    refine g_get hX 2 h_X2_knotsAt_X2 0 rfl rfl 1 (by decide) k_X2_knotsAt_0 rfl (v := .ref k) rfl dX2_knotsAt_6 ?_
    refine g_alen hX 3 0 rfl rfl (v := 12) rfl dX2_knotsAt_9 ?_
    refine g_icmp_ge hX 22 dX2_knotsAt_10 (by decide) (fun c_10 => ?_) (fun c_10 => ?_)
    · skip
      refine g_iconst hX (v := 0) dX2_knotsAt_22 (by decide) ?_
      have e9 : F_X2_knotsAt u p1 = 0 := by simp only [F_X2_knotsAt, eq_false c_1, eq_true c_10, if_true, if_false]
      rw [e9]
      exact g_iret hX dX2_knotsAt_23 rfl rfl
    · skip
      refine g_aload_n hX dX2_knotsAt_13 rfl 0 rfl ?_
      refine g_get hX 2 h_X2_knotsAt_X2 0 rfl rfl 1 (by decide) k_X2_knotsAt_0 rfl (v := .ref k) rfl dX2_knotsAt_14 ?_
      refine g_iload_n hX dX2_knotsAt_17 rfl 1 rfl ?_
      refine g_iald hX 3 rfl (vin_of c_1 c_10 (by decide)) (v := (u.2.2.1 (Int32.toNatClampNeg p1))) (congrArg _ rfl) dX2_knotsAt_18 ?_
      refine g_goto hX 23 dX2_knotsAt_19 (by decide) ?_
      have e9 : F_X2_knotsAt u p1 = (u.2.2.1 (Int32.toNatClampNeg p1)) := by simp only [F_X2_knotsAt, eq_false c_1, eq_false c_10, if_true, if_false]
      rw [e9]
      exact g_iret hX dX2_knotsAt_23 rfl rfl
/-! X2_isBad -/
def rmX2_isBad : Room := { frames := 1, cells := 0, slots := 0, locals := 21 }
def F_X2_isBad (u : SV) (p1 : Int32) : Int32 :=
  (if (F_X2_knotsAt u p1) ≤ 2 then 0 else 1)
set_option maxHeartbeats 4000000 in
set_option maxRecDepth 100000 in
theorem c_X2_isBad (l : Launch) (T : TT) (b0 : Nat) (a w h k d : Nat) (u : SV) (p1 : Int32)  : ConI l T b0 yX2_isBad wsX2_isBad rmX2_isBad [.ref a, .int p1] (wSt T a w h k d u) (F_X2_isBad u p1) (wSt T a w h k d u) := by
  refine conI_of (cc := cX2_isBad) (maxL := 2) (ret := (some .boolean)) (lv0 := [(0, .ref a), (1, .int p1)]) (by decide +kernel) rfl (Nat.le_of_ble_eq_true rfl) rfl (fun X hX => ?_)
  refine g_aload_n hX dX2_isBad_0 rfl 0 rfl ?_
  refine g_iload_n hX dX2_isBad_1 rfl 1 rfl ?_
  refine g_cV_I hX (n := 1) (As := [.int p1]) (wc := wSt T a w h k d u) (w1 := wSt T a w h k d u) (rv := (F_X2_knotsAt u p1)) (st := []) 0 rfl rfl (c_X2_knotsAt (xL X) T (xB X) a w h k d u p1) gX2_isBad_X2_knotsAt rfl rfl rfl ⟨Nat.le_of_ble_eq_true rfl, Nat.le_of_ble_eq_true rfl⟩ ⟨Nat.zero_le _, Nat.zero_le _⟩ ⟨by decide +kernel, by decide +kernel, by decide +kernel⟩ rfl [0, 1, 2, 3, 4] rfl rfl (by decide) rfl (Nat.le_of_ble_eq_true rfl) dX2_isBad_2 (ws' := wSt T a w h k d u) rfl ?_
  refine g_iconst hX (v := 2) dX2_isBad_5 (by decide) ?_
  refine g_icmp_le hX 13 dX2_isBad_6 (by decide) (fun c_6 => ?_) (fun c_6 => ?_)
  · skip
    refine g_iconst hX (v := 0) dX2_isBad_13 (by decide) ?_
    have e9 : F_X2_isBad u p1 = 0 := by simp only [F_X2_isBad, eq_true c_6, if_true, if_false]
    rw [e9]
    exact g_zret hX dX2_isBad_14 rfl rfl rfl
  · skip
    refine g_iconst hX (v := 1) dX2_isBad_9 (by decide) ?_
    refine g_goto hX 14 dX2_isBad_10 (by decide) ?_
    have e9 : F_X2_isBad u p1 = 1 := by simp only [F_X2_isBad, eq_false c_6, if_true, if_false]
    rw [e9]
    exact g_zret hX dX2_isBad_14 rfl rfl rfl
/-! X2_hasBadPlace -/
def rmX2_hasBadPlace : Room := { frames := 2, cells := 0, slots := 0, locals := 42 }
def K_X2_hasBadPlace_4 : Nat → SV → Nat → Int32 → Int32
  | 0, u, j, e => 0
  | n + 1, u, j, e => (if 12 ≤ (nI j) then e else (if e = 0 then (if (F_X2_isBad u (nI j)) = 0 then K_X2_hasBadPlace_4 n u (j + 1) 0 else K_X2_hasBadPlace_4 n u (j + 1) 1) else K_X2_hasBadPlace_4 n u (j + 1) 1))
def F_X2_hasBadPlace (u : SV) : Int32 :=
  K_X2_hasBadPlace_4 13 u 0 0
set_option maxHeartbeats 4000000 in
set_option maxRecDepth 100000 in
theorem k_X2_hasBadPlace_4 {T : TT} {X : CX} (hX : Fit T X (yX2_hasBadPlace).cls 3 wsX2_hasBadPlace cX2_hasBadPlace (some .boolean) rmX2_hasBadPlace) (a w h k d : Nat) : ∀ (n : Nat) (u : SV) (j : Nat) (e : Int32) (hn : j + n = 13) (hj : j ≤ 12) (he : e = 0 ∨ e = 1), G T X (QI T X 0 0 (K_X2_hasBadPlace_4 n u j e) (wSt T a w h k d u)) 0 0 (wSt T a w h k d u) [(2, .int (nI j)), (1, .int e), (0, .ref a)] 4 [] := by
  intro n
  induction n with
  | zero =>
    intro u j e hn hj he
    exact absurd hn (by omega)
  | succ n ih =>
    intro u j e hn hj he
    refine g_iload_n hX dX2_hasBadPlace_4 rfl 0 rfl ?_
    refine g_bipush hX (v := 12) dX2_hasBadPlace_5 (by decide) ?_
    refine g_icmp_ge hX 34 dX2_hasBadPlace_7 (by decide) (fun c_7 => ?_) (fun c_7 => ?_)
    · skip
      refine g_iload_n hX dX2_hasBadPlace_34 rfl 1 rfl ?_
      have e9 : K_X2_hasBadPlace_4 (n + 1) u j e = e := by simp only [K_X2_hasBadPlace_4, eq_true c_7, if_true, if_false]
      rw [e9]
      exact g_zret hX dX2_hasBadPlace_35 (narrow_b he) rfl rfl
    · skip
      have hlt_7 : j < 12 := nlt_of c_7 (by decide) (by omega)
      refine g_iload_n hX dX2_hasBadPlace_10 rfl 1 rfl ?_
      refine g_if_ne hX 22 dX2_hasBadPlace_11 (by decide) (fun c_11 => ?_) (fun c_11 => ?_)
      · skip
        refine g_iconst hX (v := 1) dX2_hasBadPlace_22 (by decide) ?_
        refine g_goto hX 27 dX2_hasBadPlace_23 (by decide) ?_
        refine g_istore_n hX (lv' := [(1, .int 1), (2, .int (nI j)), (0, .ref a)]) dX2_hasBadPlace_27 rfl (by decide) rfl ?_
        refine g_iinc hX (lv' := [(2, .int (nI (j + 1))), (1, .int 1), (0, .ref a)]) (v := (nI (j + 1))) 1 dX2_hasBadPlace_28 rfl (nI_1 _) (by decide) rfl ?_
        refine g_goto hX 4 dX2_hasBadPlace_31 (by decide) ?_
        have e9 : K_X2_hasBadPlace_4 (n + 1) u j e = K_X2_hasBadPlace_4 n u (j + 1) 1 := by simp only [K_X2_hasBadPlace_4, eq_false c_7, eq_false c_11, if_true, if_false]
        rw [e9]
        refine g_lv (lv' := [(2, .int (nI (j + 1))), (1, .int 1), (0, .ref a)]) [0, 1, 2] rfl ?_
        exact ih u (j + 1) 1 (by omega) (by omega) (by first | exact Or.inl rfl | exact Or.inr rfl)
      · skip
        refine g_aload_n hX dX2_hasBadPlace_14 rfl 2 rfl ?_
        refine g_iload_n hX dX2_hasBadPlace_15 rfl 0 rfl ?_
        refine g_cV_I hX (n := 1) (As := [.int (nI j)]) (wc := wSt T a w h k d u) (w1 := wSt T a w h k d u) (rv := (F_X2_isBad u (nI j))) (st := []) 0 rfl rfl (c_X2_isBad (xL X) T (xB X) a w h k d u (nI j)) gX2_hasBadPlace_X2_isBad rfl rfl rfl ⟨Nat.le_of_ble_eq_true rfl, Nat.le_of_ble_eq_true rfl⟩ ⟨Nat.zero_le _, Nat.zero_le _⟩ ⟨by decide +kernel, by decide +kernel, by decide +kernel⟩ rfl [0, 1, 2, 3, 4] rfl rfl (by decide) rfl (Nat.le_of_ble_eq_true rfl) dX2_hasBadPlace_16 (ws' := wSt T a w h k d u) rfl ?_
        refine g_if_eq hX 26 dX2_hasBadPlace_19 (by decide) (fun c_19 => ?_) (fun c_19 => ?_)
        · skip
          refine g_iconst hX (v := 0) dX2_hasBadPlace_26 (by decide) ?_
          refine g_istore_n hX (lv' := [(1, .int 0), (2, .int (nI j)), (0, .ref a)]) dX2_hasBadPlace_27 rfl (by decide) rfl ?_
          refine g_iinc hX (lv' := [(2, .int (nI (j + 1))), (1, .int 0), (0, .ref a)]) (v := (nI (j + 1))) 1 dX2_hasBadPlace_28 rfl (nI_1 _) (by decide) rfl ?_
          refine g_goto hX 4 dX2_hasBadPlace_31 (by decide) ?_
          have e9 : K_X2_hasBadPlace_4 (n + 1) u j e = K_X2_hasBadPlace_4 n u (j + 1) 0 := by simp only [K_X2_hasBadPlace_4, eq_false c_7, eq_true c_11, eq_true c_19, if_true, if_false]
          rw [e9]
          refine g_lv (lv' := [(2, .int (nI (j + 1))), (1, .int 0), (0, .ref a)]) [0, 1, 2] rfl ?_
          exact ih u (j + 1) 0 (by omega) (by omega) (by first | exact Or.inl rfl | exact Or.inr rfl)
        · skip
          refine g_iconst hX (v := 1) dX2_hasBadPlace_22 (by decide) ?_
          refine g_goto hX 27 dX2_hasBadPlace_23 (by decide) ?_
          refine g_istore_n hX (lv' := [(1, .int 1), (2, .int (nI j)), (0, .ref a)]) dX2_hasBadPlace_27 rfl (by decide) rfl ?_
          refine g_iinc hX (lv' := [(2, .int (nI (j + 1))), (1, .int 1), (0, .ref a)]) (v := (nI (j + 1))) 1 dX2_hasBadPlace_28 rfl (nI_1 _) (by decide) rfl ?_
          refine g_goto hX 4 dX2_hasBadPlace_31 (by decide) ?_
          have e9 : K_X2_hasBadPlace_4 (n + 1) u j e = K_X2_hasBadPlace_4 n u (j + 1) 1 := by simp only [K_X2_hasBadPlace_4, eq_false c_7, eq_true c_11, eq_false c_19, if_true, if_false]
          rw [e9]
          refine g_lv (lv' := [(2, .int (nI (j + 1))), (1, .int 1), (0, .ref a)]) [0, 1, 2] rfl ?_
          exact ih u (j + 1) 1 (by omega) (by omega) (by first | exact Or.inl rfl | exact Or.inr rfl)
set_option maxHeartbeats 4000000 in
set_option maxRecDepth 100000 in
theorem c_X2_hasBadPlace (l : Launch) (T : TT) (b0 : Nat) (a w h k d : Nat) (u : SV)  : ConI l T b0 yX2_hasBadPlace wsX2_hasBadPlace rmX2_hasBadPlace [.ref a] (wSt T a w h k d u) (F_X2_hasBadPlace u) (wSt T a w h k d u) := by
  refine conI_of (cc := cX2_hasBadPlace) (maxL := 3) (ret := (some .boolean)) (lv0 := [(0, .ref a)]) (by decide +kernel) rfl (Nat.le_of_ble_eq_true rfl) rfl (fun X hX => ?_)
  refine g_iconst hX (v := 0) dX2_hasBadPlace_0 (by decide) ?_
  refine g_istore_n hX (lv' := [(1, .int 0), (0, .ref a)]) dX2_hasBadPlace_1 rfl (by decide) rfl ?_
  refine g_iconst hX (v := 0) dX2_hasBadPlace_2 (by decide) ?_
  refine g_istore_n hX (lv' := [(2, .int 0), (1, .int 0), (0, .ref a)]) dX2_hasBadPlace_3 rfl (by decide) rfl ?_
  have e9 : F_X2_hasBadPlace u = K_X2_hasBadPlace_4 13 u 0 0 := by simp only [F_X2_hasBadPlace, if_true, if_false]
  rw [e9]
  refine g_lv (lv' := [(2, .int (nI 0)), (1, .int 0), (0, .ref a)]) [0, 1, 2] rfl ?_
  exact k_X2_hasBadPlace_4 hX a w h k d 13 u 0 0 (by omega) (by omega) (Or.inl rfl)
/-! X2_allKnots -/
def rmX2_allKnots : Room := { frames := 0, cells := 0, slots := 0, locals := 0 }
theorem k_X2_allKnots_0 : Cond.fieldLink RX2 18 RX2 (TX2 1).2.1 (TX2 1).2.2.1 ∈ wsX2_allKnots := List.mem_of_getElem? (i := 1) rfl
theorem h_X2_allKnots_X2 : ∀ w ∈ u_ws RX2 TX2 11, w ∈ wsX2_allKnots := fun w h => List.mem_cons_of_mem _ (List.mem_append_right _ h)
def K_X2_allKnots_13 : Nat → SV → Nat → Int32 → Int32
  | 0, u, j, e => 0
  | n + 1, u, j, e => (if 12 ≤ (nI j) then e else K_X2_allKnots_13 n u (j + 1) (e + (u.2.2.1 j)))
def F_X2_allKnots (u : SV) : Int32 :=
  K_X2_allKnots_13 13 u 0 0
set_option maxHeartbeats 4000000 in
set_option maxRecDepth 100000 in
theorem k_X2_allKnots_13 {T : TT} {X : CX} (hX : Fit T X (yX2_allKnots).cls 6 wsX2_allKnots cX2_allKnots (some .int) rmX2_allKnots) (a w h k d : Nat) : ∀ (n : Nat) (u : SV) (j : Nat) (e : Int32) (hn : j + n = 13) (hj : j ≤ 12), G T X (QI T X 0 0 (K_X2_allKnots_13 n u j e) (wSt T a w h k d u)) 0 0 (wSt T a w h k d u) [(4, .int (nI j)), (1, .int e), (2, .ref k), (3, .int 12), (0, .ref a)] 13 [] := by
  intro n
  induction n with
  | zero =>
    intro u j e hn hj
    exact absurd hn (by omega)
  | succ n ih =>
    intro u j e hn hj
    refine g_iload hX dX2_allKnots_13 0 rfl ?_
    refine g_iload_n hX dX2_allKnots_15 rfl 3 rfl ?_
    refine g_icmp_ge hX 36 dX2_allKnots_16 (by decide) (fun c_16 => ?_) (fun c_16 => ?_)
    · skip
      refine g_iload_n hX dX2_allKnots_36 rfl 1 rfl ?_
      have e9 : K_X2_allKnots_13 (n + 1) u j e = e := by simp only [K_X2_allKnots_13, eq_true c_16, if_true, if_false]
      rw [e9]
      exact g_iret hX dX2_allKnots_37 rfl rfl
    · skip
      have hlt_16 : j < 12 := nlt_of c_16 (by decide) (by omega)
      refine g_aload_n hX dX2_allKnots_19 rfl 2 rfl ?_
      refine g_iload hX dX2_allKnots_20 0 rfl ?_
      refine g_iald hX 3 rfl (vp_in_nI (by omega) (by omega)) (v := (u.2.2.1 j)) (congrArg _ (nI_clamp (by omega))) dX2_allKnots_22 ?_
      refine g_istore hX (lv' := [(5, .int (u.2.2.1 j)), (4, .int (nI j)), (1, .int e), (2, .ref k), (3, .int 12), (0, .ref a)]) dX2_allKnots_23 (by decide) rfl ?_
      refine g_iload_n hX dX2_allKnots_25 rfl 2 rfl ?_
      refine g_iload hX dX2_allKnots_26 0 rfl ?_
      refine g_iadd hX dX2_allKnots_28 ?_
      refine g_istore_n hX (lv' := [(1, .int (e + (u.2.2.1 j))), (5, .int (u.2.2.1 j)), (4, .int (nI j)), (2, .ref k), (3, .int 12), (0, .ref a)]) dX2_allKnots_29 rfl (by decide) rfl ?_
      refine g_iinc hX (lv' := [(4, .int (nI (j + 1))), (1, .int (e + (u.2.2.1 j))), (5, .int (u.2.2.1 j)), (2, .ref k), (3, .int 12), (0, .ref a)]) (v := (nI (j + 1))) 2 dX2_allKnots_30 rfl (nI_1 _) (by decide) rfl ?_
      refine g_goto hX 13 dX2_allKnots_33 (by decide) ?_
      have e9 : K_X2_allKnots_13 (n + 1) u j e = K_X2_allKnots_13 n u (j + 1) (e + (u.2.2.1 j)) := by simp only [K_X2_allKnots_13, eq_false c_16, if_true, if_false]
      rw [e9]
      refine g_lv (lv' := [(4, .int (nI (j + 1))), (1, .int (e + (u.2.2.1 j))), (2, .ref k), (3, .int 12), (0, .ref a)]) [0, 1, 3, 4, 5] rfl ?_
      exact ih u (j + 1) (e + (u.2.2.1 j)) (by omega) (by omega)
set_option maxHeartbeats 4000000 in
set_option maxRecDepth 100000 in
theorem c_X2_allKnots (l : Launch) (T : TT) (b0 : Nat) (a w h k d : Nat) (u : SV)  : ConI l T b0 yX2_allKnots wsX2_allKnots rmX2_allKnots [.ref a] (wSt T a w h k d u) (F_X2_allKnots u) (wSt T a w h k d u) := by
  refine conI_of (cc := cX2_allKnots) (maxL := 6) (ret := (some .int)) (lv0 := [(0, .ref a)]) (by decide +kernel) rfl (Nat.le_of_ble_eq_true rfl) rfl (fun X hX => ?_)
  refine g_iconst hX (v := 0) dX2_allKnots_0 (by decide) ?_
  refine g_istore_n hX (lv' := [(1, .int 0), (0, .ref a)]) dX2_allKnots_1 rfl (by decide) rfl ?_
  refine g_aload_n hX dX2_allKnots_2 rfl 1 rfl ?_
  refine g_get hX 2 h_X2_allKnots_X2 0 rfl rfl 1 (by decide) k_X2_allKnots_0 rfl (v := .ref k) rfl dX2_allKnots_3 ?_
  refine g_astore_n hX (lv' := [(2, .ref k), (1, .int 0), (0, .ref a)]) dX2_allKnots_6 rfl (by decide) rfl ?_
  refine g_aload_n hX dX2_allKnots_7 rfl 0 rfl ?_
  refine g_alen hX 3 0 rfl rfl (v := 12) rfl dX2_allKnots_8 ?_
  refine g_istore_n hX (lv' := [(3, .int 12), (2, .ref k), (1, .int 0), (0, .ref a)]) dX2_allKnots_9 rfl (by decide) rfl ?_
  refine g_iconst hX (v := 0) dX2_allKnots_10 (by decide) ?_
  refine g_istore hX (lv' := [(4, .int 0), (3, .int 12), (2, .ref k), (1, .int 0), (0, .ref a)]) dX2_allKnots_11 (by decide) rfl ?_
  have e9 : F_X2_allKnots u = K_X2_allKnots_13 13 u 0 0 := by simp only [F_X2_allKnots, if_true, if_false]
  rw [e9]
  refine g_lv (lv' := [(4, .int (nI 0)), (1, .int 0), (2, .ref k), (3, .int 12), (0, .ref a)]) [0, 3, 2, 1, 4] rfl ?_
  exact k_X2_allKnots_13 hX a w h k d 13 u 0 0 (by omega) (by omega)
/-! X2_isConeEmpty -/
def rmX2_isConeEmpty : Room := { frames := 0, cells := 0, slots := 0, locals := 0 }
theorem k_X2_isConeEmpty_0 : Cond.fieldLink RX2 33 RX2 (TX2 3).2.1 (TX2 3).2.2.1 ∈ wsX2_isConeEmpty := List.mem_of_getElem? (i := 1) rfl
theorem h_X2_isConeEmpty_X2 : ∀ w ∈ u_ws RX2 TX2 11, w ∈ wsX2_isConeEmpty := fun w h => List.mem_cons_of_mem _ (List.mem_append_right _ h)
def F_X2_isConeEmpty (u : SV) : Int32 :=
  (if (u.1 0) = 0 then 1 else 0)
set_option maxHeartbeats 4000000 in
set_option maxRecDepth 100000 in
theorem c_X2_isConeEmpty (l : Launch) (T : TT) (b0 : Nat) (a w h k d : Nat) (u : SV)  : ConI l T b0 yX2_isConeEmpty wsX2_isConeEmpty rmX2_isConeEmpty [.ref a] (wSt T a w h k d u) (F_X2_isConeEmpty u) (wSt T a w h k d u) := by
  refine conI_of (cc := cX2_isConeEmpty) (maxL := 1) (ret := (some .boolean)) (lv0 := [(0, .ref a)]) (by decide +kernel) rfl (Nat.le_of_ble_eq_true rfl) rfl (fun X hX => ?_)
  refine g_aload_n hX dX2_isConeEmpty_0 rfl 0 rfl ?_
  refine g_get hX 2 h_X2_isConeEmpty_X2 0 rfl rfl 3 (by decide) k_X2_isConeEmpty_0 rfl (v := .int (u.1 0)) rfl dX2_isConeEmpty_1 ?_
  refine g_if_ne hX 11 dX2_isConeEmpty_4 (by decide) (fun c_4 => ?_) (fun c_4 => ?_)
  · skip
    refine g_iconst hX (v := 0) dX2_isConeEmpty_11 (by decide) ?_
    have e9 : F_X2_isConeEmpty u = 0 := by simp only [F_X2_isConeEmpty, eq_false c_4, if_true, if_false]
    rw [e9]
    exact g_zret hX dX2_isConeEmpty_12 rfl rfl rfl
  · skip
    refine g_iconst hX (v := 1) dX2_isConeEmpty_7 (by decide) ?_
    refine g_goto hX 12 dX2_isConeEmpty_8 (by decide) ?_
    have e9 : F_X2_isConeEmpty u = 1 := by simp only [F_X2_isConeEmpty, eq_true c_4, if_true, if_false]
    rw [e9]
    exact g_zret hX dX2_isConeEmpty_12 rfl rfl rfl
/-! X2_isIdle -/
def rmX2_isIdle : Room := { frames := 1, cells := 0, slots := 0, locals := 20 }
theorem k_X2_isIdle_0 : Cond.fieldLink RX2 40 RX2 (TX2 5).2.1 (TX2 5).2.2.1 ∈ wsX2_isIdle := List.mem_of_getElem? (i := 1) rfl
theorem h_X2_isIdle_X2 : ∀ w ∈ u_ws RX2 TX2 11, w ∈ wsX2_isIdle := fun w h => List.mem_cons_of_mem _ (List.mem_append_left _ (List.mem_append_right _ h))
theorem k_X2_isIdle_1 : Cond.fieldLink RX2 12 RX2 (TX2 0).2.1 (TX2 0).2.2.1 ∈ wsX2_isIdle := List.mem_of_getElem? (i := 2) rfl
theorem k_X2_isIdle_9 : Cond.initialized RX3 ∈ wsX2_isIdle := List.mem_of_getElem? (i := 10) rfl
theorem k_X2_isIdle_8 : Cond.instanceMethod yX3_isFull ∈ wsX2_isIdle := List.mem_of_getElem? (i := 9) rfl
theorem k_X2_isIdle_10 : Cond.selects RX3 yX3_isFull yX3_isFull ∈ wsX2_isIdle := List.mem_of_getElem? (i := 11) rfl
def F_X2_isIdle (u : SV) : Int32 :=
  (if (u.1 2) = 0 then (if (F_X2_isConeEmpty u) = 0 then (if (F_X3_isFull u.2.1) = 0 then 0 else 1) else 1) else 1)
set_option maxHeartbeats 4000000 in
set_option maxRecDepth 100000 in
theorem c_X2_isIdle (l : Launch) (T : TT) (b0 : Nat) (a w h k d : Nat) (u : SV)  : ConI l T b0 yX2_isIdle wsX2_isIdle rmX2_isIdle [.ref a] (wSt T a w h k d u) (F_X2_isIdle u) (wSt T a w h k d u) := by
  refine conI_of (cc := cX2_isIdle) (maxL := 1) (ret := (some .boolean)) (lv0 := [(0, .ref a)]) (by decide +kernel) rfl (Nat.le_of_ble_eq_true rfl) rfl (fun X hX => ?_)
  refine g_aload_n hX dX2_isIdle_0 rfl 0 rfl ?_
  refine g_get hX 2 h_X2_isIdle_X2 0 rfl rfl 5 (by decide) k_X2_isIdle_0 rfl (v := .int (u.1 2)) rfl dX2_isIdle_1 ?_
  refine g_if_ne hX 24 dX2_isIdle_4 (by decide) (fun c_4 => ?_) (fun c_4 => ?_)
  · skip
    refine g_iconst hX (v := 1) dX2_isIdle_24 (by decide) ?_
    refine g_goto hX 29 dX2_isIdle_25 (by decide) ?_
    have e9 : F_X2_isIdle u = 1 := by simp only [F_X2_isIdle, eq_false c_4, if_true, if_false]
    rw [e9]
    exact g_zret hX dX2_isIdle_29 rfl rfl rfl
  · skip
    refine g_aload_n hX dX2_isIdle_7 rfl 0 rfl ?_
    refine g_cV_I hX (n := 0) (As := []) (wc := wSt T a w h k d u) (w1 := wSt T a w h k d u) (rv := (F_X2_isConeEmpty u)) (st := []) 0 rfl rfl (c_X2_isConeEmpty (xL X) T (xB X) a w h k d u) gX2_isIdle_X2_isConeEmpty rfl rfl rfl ⟨Nat.le_of_ble_eq_true rfl, Nat.le_of_ble_eq_true rfl⟩ ⟨Nat.zero_le _, Nat.zero_le _⟩ ⟨by decide +kernel, by decide +kernel, by decide +kernel⟩ rfl [0, 1, 2, 3, 4] rfl rfl (by decide) rfl (Nat.le_of_ble_eq_true rfl) dX2_isIdle_8 (ws' := wSt T a w h k d u) rfl ?_
    refine g_if_ne hX 24 dX2_isIdle_11 (by decide) (fun c_11 => ?_) (fun c_11 => ?_)
    · skip
      refine g_iconst hX (v := 1) dX2_isIdle_24 (by decide) ?_
      refine g_goto hX 29 dX2_isIdle_25 (by decide) ?_
      have e9 : F_X2_isIdle u = 1 := by simp only [F_X2_isIdle, eq_true c_4, eq_false c_11, if_true, if_false]
      rw [e9]
      exact g_zret hX dX2_isIdle_29 rfl rfl rfl
    · skip
      refine g_aload_n hX dX2_isIdle_14 rfl 0 rfl ?_
      refine g_get hX 2 h_X2_isIdle_X2 0 rfl rfl 0 (by decide) k_X2_isIdle_1 rfl (v := .ref w) rfl dX2_isIdle_15 ?_
      refine g_cVN_I hX (n := 0) (As := []) (wc := wWr T w h u.2.1) (w1 := wWr T w h u.2.1) (rv := (F_X3_isFull u.2.1)) (st := []) 1 rfl rfl (c_X3_isFull (xL X) T (xB X) w h u.2.1) ggX2_isIdle_X3_isFull 27 rfl k_X2_isIdle_9 k_X2_isIdle_8 k_X2_isIdle_10 rfl rfl rfl ⟨Nat.le_of_ble_eq_true rfl, Nat.le_of_ble_eq_true rfl⟩ ⟨Nat.zero_le _, Nat.zero_le _⟩ ⟨by decide +kernel, by decide +kernel, by decide +kernel⟩ rfl [1, 2] rfl rfl (by decide) rfl (Nat.le_of_ble_eq_true rfl) dX2_isIdle_18 (ws' := wSt T a w h k d u) rfl ?_
      refine g_if_eq hX 28 dX2_isIdle_21 (by decide) (fun c_21 => ?_) (fun c_21 => ?_)
      · skip
        refine g_iconst hX (v := 0) dX2_isIdle_28 (by decide) ?_
        have e9 : F_X2_isIdle u = 0 := by simp only [F_X2_isIdle, eq_true c_4, eq_true c_11, eq_true c_21, if_true, if_false]
        rw [e9]
        exact g_zret hX dX2_isIdle_29 rfl rfl rfl
      · skip
        refine g_iconst hX (v := 1) dX2_isIdle_24 (by decide) ?_
        refine g_goto hX 29 dX2_isIdle_25 (by decide) ?_
        have e9 : F_X2_isIdle u = 1 := by simp only [F_X2_isIdle, eq_true c_4, eq_true c_11, eq_false c_21, if_true, if_false]
        rw [e9]
        exact g_zret hX dX2_isIdle_29 rfl rfl rfl
/-! X2_warmDiscs -/
def rmX2_warmDiscs : Room := { frames := 1, cells := 0, slots := 0, locals := 21 }
theorem k_X2_warmDiscs_0 : Cond.fieldLink RX2 37 RX2 (TX2 4).2.1 (TX2 4).2.2.1 ∈ wsX2_warmDiscs := List.mem_of_getElem? (i := 1) rfl
theorem h_X2_warmDiscs_X2 : ∀ w ∈ u_ws RX2 TX2 11, w ∈ wsX2_warmDiscs := fun w h => List.mem_cons_of_mem _ (List.mem_append_right _ h)
theorem k_X2_warmDiscs_1 : Cond.methodLink RX2 125 Lib.Math.min.name ∈ wsX2_warmDiscs := List.mem_of_getElem? (i := 2) rfl
theorem k_X2_warmDiscs_2 : Cond.static Lib.Math.min.name ∈ wsX2_warmDiscs := List.mem_of_getElem? (i := 3) rfl
theorem k_X2_warmDiscs_3 : Cond.initialized "java/lang/Math" ∈ wsX2_warmDiscs := List.mem_of_getElem? (i := 4) rfl
theorem k_X2_warmDiscs_4 : Cond.code Lib.Math.min.name Lib.Math.min.code 2 (some .int) ∈ wsX2_warmDiscs := List.mem_of_getElem? (i := 5) rfl
theorem k_X2_warmDiscs_5 : Cond.methodLink RX2 128 Lib.Math.max.name ∈ wsX2_warmDiscs := List.mem_of_getElem? (i := 6) rfl
theorem k_X2_warmDiscs_6 : Cond.static Lib.Math.max.name ∈ wsX2_warmDiscs := List.mem_of_getElem? (i := 7) rfl
theorem k_X2_warmDiscs_7 : Cond.code Lib.Math.max.name Lib.Math.max.code 2 (some .int) ∈ wsX2_warmDiscs := List.mem_of_getElem? (i := 8) rfl
def F_X2_warmDiscs (u : SV) : SV :=
  (upd u.1 1 (if 0 < (if (((u.1 1) + (F_X2_number u 1)) - 1) < 300 then (((u.1 1) + (F_X2_number u 1)) - 1) else 300) then (if (((u.1 1) + (F_X2_number u 1)) - 1) < 300 then (((u.1 1) + (F_X2_number u 1)) - 1) else 300) else 0), u.2.1, u.2.2.1, u.2.2.2)
set_option maxHeartbeats 4000000 in
set_option maxRecDepth 100000 in
theorem c_X2_warmDiscs (l : Launch) (T : TT) (b0 : Nat) (a w h k d : Nat) (u : SV)  : ConV l T b0 yX2_warmDiscs wsX2_warmDiscs rmX2_warmDiscs [.ref a] (wSt T a w h k d u) (wSt T a w h k d (F_X2_warmDiscs u)) := by
  refine conV_of (cc := cX2_warmDiscs) (maxL := 1) (ret := none) (lv0 := [(0, .ref a)]) (by decide +kernel) rfl (Nat.le_of_ble_eq_true rfl) rfl (fun X hX => ?_)
  refine g_aload_n hX dX2_warmDiscs_0 rfl 0 rfl ?_
  refine g_iconst hX (v := 0) dX2_warmDiscs_1 (by decide) ?_
  refine g_sipush hX (v := 300) dX2_warmDiscs_2 (by decide) ?_
  refine g_aload_n hX dX2_warmDiscs_5 rfl 0 rfl ?_
  refine g_get hX 2 h_X2_warmDiscs_X2 0 rfl rfl 4 (by decide) k_X2_warmDiscs_0 rfl (v := .int (u.1 1)) rfl dX2_warmDiscs_6 ?_
  refine g_aload_n hX dX2_warmDiscs_9 rfl 0 rfl ?_
  refine g_iconst hX (v := 1) dX2_warmDiscs_10 (by decide) ?_
  refine g_cV_I hX (n := 1) (As := [.int 1]) (wc := wSt T a w h k d u) (w1 := wSt T a w h k d u) (rv := (F_X2_number u 1)) (st := [.int (u.1 1), .int 300, .int 0, .ref a]) 0 rfl rfl (c_X2_number (xL X) T (xB X) a w h k d u 1) gX2_warmDiscs_X2_number rfl rfl rfl ⟨Nat.le_of_ble_eq_true rfl, Nat.le_of_ble_eq_true rfl⟩ ⟨Nat.zero_le _, Nat.zero_le _⟩ ⟨by decide +kernel, by decide +kernel, by decide +kernel⟩ rfl [0, 1, 2, 3, 4] rfl rfl (by decide) rfl (Nat.le_of_ble_eq_true rfl) dX2_warmDiscs_11 (ws' := wSt T a w h k d u) rfl ?_
  refine g_iadd hX dX2_warmDiscs_14 ?_
  refine g_iconst hX (v := 1) dX2_warmDiscs_15 (by decide) ?_
  refine g_isub hX dX2_warmDiscs_16 ?_
  refine g_mmin hX k_X2_warmDiscs_1 k_X2_warmDiscs_2 k_X2_warmDiscs_3 k_X2_warmDiscs_4 (Nat.le_of_ble_eq_true rfl) (Nat.le_of_ble_eq_true rfl) (Nat.zero_le _) (Nat.zero_le _) dX2_warmDiscs_17 ?_
  refine g_mmax hX k_X2_warmDiscs_5 k_X2_warmDiscs_6 k_X2_warmDiscs_3 k_X2_warmDiscs_7 (Nat.le_of_ble_eq_true rfl) (Nat.le_of_ble_eq_true rfl) (Nat.zero_le _) (Nat.zero_le _) dX2_warmDiscs_20 ?_
  refine g_put hX 2 h_X2_warmDiscs_X2 0 rfl rfl 4 (by decide) tyX2 tyX2_ok nmX2 k_X2_warmDiscs_0 rfl rfl rfl rfl rfl (Nat.le_of_ble_eq_true rfl) dX2_warmDiscs_23 (ws' := wSt T a w h k d (upd u.1 1 (if 0 < (if (((u.1 1) + (F_X2_number u 1)) - 1) < 300 then (((u.1 1) + (F_X2_number u 1)) - 1) else 300) then (if (((u.1 1) + (F_X2_number u 1)) - 1) < 300 then (((u.1 1) + (F_X2_number u 1)) - 1) else 300) else 0), u.2.1, u.2.2.1, u.2.2.2)) rfl ?_
  have e9 : F_X2_warmDiscs u = (upd u.1 1 (if 0 < (if (((u.1 1) + (F_X2_number u 1)) - 1) < 300 then (((u.1 1) + (F_X2_number u 1)) - 1) else 300) then (if (((u.1 1) + (F_X2_number u 1)) - 1) < 300 then (((u.1 1) + (F_X2_number u 1)) - 1) else 300) else 0), u.2.1, u.2.2.1, u.2.2.2) := by simp only [F_X2_warmDiscs, if_true, if_false]
  rw [e9]
  exact g_vret hX dX2_warmDiscs_26 rfl
/-! X2_tensionAt -/
def rmX2_tensionAt : Room := { frames := 1, cells := 0, slots := 0, locals := 21 }
theorem k_X2_tensionAt_0 : Cond.fieldLink RX2 37 RX2 (TX2 4).2.1 (TX2 4).2.2.1 ∈ wsX2_tensionAt := List.mem_of_getElem? (i := 1) rfl
theorem h_X2_tensionAt_X2 : ∀ w ∈ u_ws RX2 TX2 11, w ∈ wsX2_tensionAt := fun w h => List.mem_cons_of_mem _ (List.mem_append_left _ (List.mem_append_right _ h))
theorem k_X2_tensionAt_1 : Cond.fieldLink RX2 44 RX2 (TX2 6).2.1 (TX2 6).2.2.1 ∈ wsX2_tensionAt := List.mem_of_getElem? (i := 2) rfl
theorem k_X2_tensionAt_2 : Cond.fieldLink RX2 12 RX2 (TX2 0).2.1 (TX2 0).2.2.1 ∈ wsX2_tensionAt := List.mem_of_getElem? (i := 3) rfl
theorem k_X2_tensionAt_14 : Cond.initialized RX3 ∈ wsX2_tensionAt := List.mem_of_getElem? (i := 15) rfl
theorem k_X2_tensionAt_13 : Cond.instanceMethod yX3_heightAt ∈ wsX2_tensionAt := List.mem_of_getElem? (i := 14) rfl
theorem k_X2_tensionAt_15 : Cond.selects RX3 yX3_heightAt yX3_heightAt ∈ wsX2_tensionAt := List.mem_of_getElem? (i := 16) rfl
theorem k_X2_tensionAt_3 : Cond.methodLink RX2 120 Lib.Math.abs.name ∈ wsX2_tensionAt := List.mem_of_getElem? (i := 4) rfl
theorem k_X2_tensionAt_4 : Cond.static Lib.Math.abs.name ∈ wsX2_tensionAt := List.mem_of_getElem? (i := 5) rfl
theorem k_X2_tensionAt_5 : Cond.initialized "java/lang/Math" ∈ wsX2_tensionAt := List.mem_of_getElem? (i := 6) rfl
theorem k_X2_tensionAt_6 : Cond.code Lib.Math.abs.name Lib.Math.abs.code 1 (some .int) ∈ wsX2_tensionAt := List.mem_of_getElem? (i := 7) rfl
def F_X2_tensionAt (u : SV) (p1 : Int32) : Int32 :=
  (if (u.1 3) = (-1) then ((4 * (F_X2_number u 1)) + ((u.1 1) / 10)) else (((4 * (F_X2_number u 1)) + ((u.1 1) / 10)) + (2 * (if 0 ≤ ((F_X3_heightAt u.2.1 p1) - (F_X3_heightAt u.2.1 (u.1 3))) then ((F_X3_heightAt u.2.1 p1) - (F_X3_heightAt u.2.1 (u.1 3))) else 0 - ((F_X3_heightAt u.2.1 p1) - (F_X3_heightAt u.2.1 (u.1 3)))))))
set_option maxHeartbeats 4000000 in
set_option maxRecDepth 100000 in
theorem c_X2_tensionAt (l : Launch) (T : TT) (b0 : Nat) (a w h k d : Nat) (u : SV) (p1 : Int32)  : ConI l T b0 yX2_tensionAt wsX2_tensionAt rmX2_tensionAt [.ref a, .int p1] (wSt T a w h k d u) (F_X2_tensionAt u p1) (wSt T a w h k d u) := by
  refine conI_of (cc := cX2_tensionAt) (maxL := 4) (ret := (some .int)) (lv0 := [(0, .ref a), (1, .int p1)]) (by decide +kernel) rfl (Nat.le_of_ble_eq_true rfl) rfl (fun X hX => ?_)
  refine g_iconst hX (v := 4) dX2_tensionAt_0 (by decide) ?_
  refine g_aload_n hX dX2_tensionAt_1 rfl 0 rfl ?_
  refine g_iconst hX (v := 1) dX2_tensionAt_2 (by decide) ?_
  refine g_cV_I hX (n := 1) (As := [.int 1]) (wc := wSt T a w h k d u) (w1 := wSt T a w h k d u) (rv := (F_X2_number u 1)) (st := [.int 4]) 0 rfl rfl (c_X2_number (xL X) T (xB X) a w h k d u 1) gX2_tensionAt_X2_number rfl rfl rfl ⟨Nat.le_of_ble_eq_true rfl, Nat.le_of_ble_eq_true rfl⟩ ⟨Nat.zero_le _, Nat.zero_le _⟩ ⟨by decide +kernel, by decide +kernel, by decide +kernel⟩ rfl [0, 1, 2, 3, 4] rfl rfl (by decide) rfl (Nat.le_of_ble_eq_true rfl) dX2_tensionAt_3 (ws' := wSt T a w h k d u) rfl ?_
  refine g_imul hX dX2_tensionAt_6 ?_
  refine g_aload_n hX dX2_tensionAt_7 rfl 0 rfl ?_
  refine g_get hX 2 h_X2_tensionAt_X2 0 rfl rfl 4 (by decide) k_X2_tensionAt_0 rfl (v := .int (u.1 1)) rfl dX2_tensionAt_8 ?_
  refine g_bipush hX (v := 10) dX2_tensionAt_11 (by decide) ?_
  refine g_idiv hX dX2_tensionAt_13 (by decide) ?_
  refine g_iadd hX dX2_tensionAt_14 ?_
  refine g_istore_n hX (lv' := [(2, .int ((4 * (F_X2_number u 1)) + ((u.1 1) / 10))), (0, .ref a), (1, .int p1)]) dX2_tensionAt_15 rfl (by decide) rfl ?_
  refine g_aload_n hX dX2_tensionAt_16 rfl 1 rfl ?_
  refine g_get hX 2 h_X2_tensionAt_X2 0 rfl rfl 6 (by decide) k_X2_tensionAt_1 rfl (v := .int (u.1 3)) rfl dX2_tensionAt_17 ?_
  refine g_iconst hX (v := (-1)) dX2_tensionAt_20 (by decide) ?_
  refine g_icmp_ne hX 26 dX2_tensionAt_21 (by decide) (fun c_21 => ?_) (fun c_21 => ?_)
  · skip
    refine g_aload_n hX dX2_tensionAt_26 rfl 1 rfl ?_
    refine g_get hX 2 h_X2_tensionAt_X2 0 rfl rfl 0 (by decide) k_X2_tensionAt_2 rfl (v := .ref w) rfl dX2_tensionAt_27 ?_
    refine g_iload_n hX dX2_tensionAt_30 rfl 2 rfl ?_
    refine g_cVN_I hX (n := 1) (As := [.int p1]) (wc := wWr T w h u.2.1) (w1 := wWr T w h u.2.1) (rv := (F_X3_heightAt u.2.1 p1)) (st := []) 1 rfl rfl (c_X3_heightAt (xL X) T (xB X) w h u.2.1 p1) ggX2_tensionAt_X3_heightAt 29 rfl k_X2_tensionAt_14 k_X2_tensionAt_13 k_X2_tensionAt_15 rfl rfl rfl ⟨Nat.le_of_ble_eq_true rfl, Nat.le_of_ble_eq_true rfl⟩ ⟨Nat.zero_le _, Nat.zero_le _⟩ ⟨by decide +kernel, by decide +kernel, by decide +kernel⟩ rfl [1, 2] rfl rfl (by decide) rfl (Nat.le_of_ble_eq_true rfl) dX2_tensionAt_31 (ws' := wSt T a w h k d u) rfl ?_
    refine g_aload_n hX dX2_tensionAt_34 rfl 1 rfl ?_
    refine g_get hX 2 h_X2_tensionAt_X2 0 rfl rfl 0 (by decide) k_X2_tensionAt_2 rfl (v := .ref w) rfl dX2_tensionAt_35 ?_
    refine g_aload_n hX dX2_tensionAt_38 rfl 1 rfl ?_
    refine g_get hX 2 h_X2_tensionAt_X2 0 rfl rfl 6 (by decide) k_X2_tensionAt_1 rfl (v := .int (u.1 3)) rfl dX2_tensionAt_39 ?_
    refine g_cVN_I hX (n := 1) (As := [.int (u.1 3)]) (wc := wWr T w h u.2.1) (w1 := wWr T w h u.2.1) (rv := (F_X3_heightAt u.2.1 (u.1 3))) (st := [.int (F_X3_heightAt u.2.1 p1)]) 1 rfl rfl (c_X3_heightAt (xL X) T (xB X) w h u.2.1 (u.1 3)) ggX2_tensionAt_X3_heightAt 29 rfl k_X2_tensionAt_14 k_X2_tensionAt_13 k_X2_tensionAt_15 rfl rfl rfl ⟨Nat.le_of_ble_eq_true rfl, Nat.le_of_ble_eq_true rfl⟩ ⟨Nat.zero_le _, Nat.zero_le _⟩ ⟨by decide +kernel, by decide +kernel, by decide +kernel⟩ rfl [1, 2] rfl rfl (by decide) rfl (Nat.le_of_ble_eq_true rfl) dX2_tensionAt_42 (ws' := wSt T a w h k d u) rfl ?_
    refine g_isub hX dX2_tensionAt_45 ?_
    refine g_mabs hX k_X2_tensionAt_3 k_X2_tensionAt_4 k_X2_tensionAt_5 k_X2_tensionAt_6 (Nat.le_of_ble_eq_true rfl) (Nat.le_of_ble_eq_true rfl) (Nat.zero_le _) (Nat.zero_le _) dX2_tensionAt_46 ?_
    refine g_istore_n hX (lv' := [(3, .int (if 0 ≤ ((F_X3_heightAt u.2.1 p1) - (F_X3_heightAt u.2.1 (u.1 3))) then ((F_X3_heightAt u.2.1 p1) - (F_X3_heightAt u.2.1 (u.1 3))) else 0 - ((F_X3_heightAt u.2.1 p1) - (F_X3_heightAt u.2.1 (u.1 3))))), (2, .int ((4 * (F_X2_number u 1)) + ((u.1 1) / 10))), (0, .ref a), (1, .int p1)]) dX2_tensionAt_49 rfl (by decide) rfl ?_
    refine g_iload_n hX dX2_tensionAt_50 rfl 1 rfl ?_
    refine g_iconst hX (v := 2) dX2_tensionAt_51 (by decide) ?_
    refine g_iload_n hX dX2_tensionAt_52 rfl 0 rfl ?_
    refine g_imul hX dX2_tensionAt_53 ?_
    refine g_iadd hX dX2_tensionAt_54 ?_
    have e9 : F_X2_tensionAt u p1 = (((4 * (F_X2_number u 1)) + ((u.1 1) / 10)) + (2 * (if 0 ≤ ((F_X3_heightAt u.2.1 p1) - (F_X3_heightAt u.2.1 (u.1 3))) then ((F_X3_heightAt u.2.1 p1) - (F_X3_heightAt u.2.1 (u.1 3))) else 0 - ((F_X3_heightAt u.2.1 p1) - (F_X3_heightAt u.2.1 (u.1 3)))))) := by simp only [F_X2_tensionAt, eq_false c_21, if_true, if_false]
    rw [e9]
    exact g_iret hX dX2_tensionAt_55 rfl rfl
  · skip
    refine g_iload_n hX dX2_tensionAt_24 rfl 0 rfl ?_
    have e9 : F_X2_tensionAt u p1 = ((4 * (F_X2_number u 1)) + ((u.1 1) / 10)) := by simp only [F_X2_tensionAt, eq_true c_21, if_true, if_false]
    rw [e9]
    exact g_iret hX dX2_tensionAt_25 rfl rfl
/-! X2_copyFrom -/
def rmX2_copyFrom : Room := { frames := 2, cells := 0, slots := 0, locals := 61 }
theorem k_X2_copyFrom_0 : Cond.fieldLink RX2 12 RX2 (TX2 0).2.1 (TX2 0).2.2.1 ∈ wsX2_copyFrom := List.mem_of_getElem? (i := 1) rfl
theorem h_X2_copyFrom_X2 : ∀ w ∈ u_ws RX2 TX2 11, w ∈ wsX2_copyFrom := fun w h => List.mem_cons_of_mem _ (List.mem_append_left _ (List.mem_append_right _ h))
theorem k_X2_copyFrom_16 : Cond.initialized RX3 ∈ wsX2_copyFrom := List.mem_of_getElem? (i := 17) rfl
theorem k_X2_copyFrom_15 : Cond.instanceMethod yX3_copyFrom ∈ wsX2_copyFrom := List.mem_of_getElem? (i := 16) rfl
theorem k_X2_copyFrom_17 : Cond.selects RX3 yX3_copyFrom yX3_copyFrom ∈ wsX2_copyFrom := List.mem_of_getElem? (i := 18) rfl
theorem k_X2_copyFrom_1 : Cond.fieldLink RX2 18 RX2 (TX2 1).2.1 (TX2 1).2.2.1 ∈ wsX2_copyFrom := List.mem_of_getElem? (i := 2) rfl
theorem k_X2_copyFrom_2 : Cond.methodLink RX2 63 arraycopyName ∈ wsX2_copyFrom := List.mem_of_getElem? (i := 3) rfl
theorem k_X2_copyFrom_3 : Cond.native arraycopyName ∈ wsX2_copyFrom := List.mem_of_getElem? (i := 4) rfl
theorem k_X2_copyFrom_4 : Cond.static arraycopyName ∈ wsX2_copyFrom := List.mem_of_getElem? (i := 5) rfl
theorem k_X2_copyFrom_5 : Cond.initialized "java/lang/System" ∈ wsX2_copyFrom := List.mem_of_getElem? (i := 6) rfl
theorem k_X2_copyFrom_6 : Cond.fieldLink RX2 30 RX2 (TX2 2).2.1 (TX2 2).2.2.1 ∈ wsX2_copyFrom := List.mem_of_getElem? (i := 7) rfl
theorem k_X2_copyFrom_7 : Cond.fieldLink RX2 33 RX2 (TX2 3).2.1 (TX2 3).2.2.1 ∈ wsX2_copyFrom := List.mem_of_getElem? (i := 8) rfl
theorem k_X2_copyFrom_8 : Cond.fieldLink RX2 37 RX2 (TX2 4).2.1 (TX2 4).2.2.1 ∈ wsX2_copyFrom := List.mem_of_getElem? (i := 9) rfl
theorem k_X2_copyFrom_9 : Cond.fieldLink RX2 40 RX2 (TX2 5).2.1 (TX2 5).2.2.1 ∈ wsX2_copyFrom := List.mem_of_getElem? (i := 10) rfl
theorem k_X2_copyFrom_10 : Cond.fieldLink RX2 44 RX2 (TX2 6).2.1 (TX2 6).2.2.1 ∈ wsX2_copyFrom := List.mem_of_getElem? (i := 11) rfl
theorem k_X2_copyFrom_11 : Cond.fieldLink RX2 47 RX2 (TX2 7).2.1 (TX2 7).2.2.1 ∈ wsX2_copyFrom := List.mem_of_getElem? (i := 12) rfl
theorem k_X2_copyFrom_12 : Cond.fieldLink RX2 50 RX2 (TX2 8).2.1 (TX2 8).2.2.1 ∈ wsX2_copyFrom := List.mem_of_getElem? (i := 13) rfl
theorem k_X2_copyFrom_13 : Cond.fieldLink RX2 53 RX2 (TX2 9).2.1 (TX2 9).2.2.1 ∈ wsX2_copyFrom := List.mem_of_getElem? (i := 14) rfl
theorem k_X2_copyFrom_14 : Cond.fieldLink RX2 56 RX2 (TX2 10).2.1 (TX2 10).2.2.1 ∈ wsX2_copyFrom := List.mem_of_getElem? (i := 15) rfl
def F_X2_copyFrom (u : SV) (v : SV) : SV :=
  v
set_option maxHeartbeats 4000000 in
set_option maxRecDepth 100000 in
theorem c_X2_copyFrom (l : Launch) (T : TT) (b0 : Nat) (a w h k d a2 w2 h2 k2 d2 : Nat) (u : SV) (v : SV) (hb : v.1 2 = 0 ∨ v.1 2 = 1) : ConV l T b0 yX2_copyFrom wsX2_copyFrom rmX2_copyFrom [.ref a, .ref a2] (wSt T a w h k d u ++ wSt T a2 w2 h2 k2 d2 v) (wSt T a w h k d (F_X2_copyFrom u v) ++ wSt T a2 w2 h2 k2 d2 v) := by
  refine conV_of (cc := cX2_copyFrom) (maxL := 2) (ret := none) (lv0 := [(0, .ref a), (1, .ref a2)]) (by decide +kernel) rfl (Nat.le_of_ble_eq_true rfl) rfl (fun X hX => ?_)
  refine g_aload_n hX dX2_copyFrom_0 rfl 0 rfl ?_
  refine g_get hX 2 h_X2_copyFrom_X2 0 rfl rfl 0 (by decide) k_X2_copyFrom_0 rfl (v := .ref w) rfl dX2_copyFrom_1 ?_
  refine g_aload_n hX dX2_copyFrom_4 rfl 1 rfl ?_
  refine g_get hX 2 h_X2_copyFrom_X2 5 rfl rfl 0 (by decide) k_X2_copyFrom_0 rfl (v := .ref w2) rfl dX2_copyFrom_5 ?_
  refine g_cVN_V hX (n := 1) (As := [.ref w2]) (wc := wWr T w h u.2.1 ++ wWr T w2 h2 v.2.1) (w1 := wWr T w h v.2.1 ++ wWr T w2 h2 v.2.1) (st := []) 1 rfl rfl (c_X3_copyFrom (xL X) T (xB X) w h w2 h2 u.2.1 v.2.1) ggX2_copyFrom_X3_copyFrom 21 rfl k_X2_copyFrom_16 k_X2_copyFrom_15 k_X2_copyFrom_17 rfl rfl rfl ⟨Nat.le_of_ble_eq_true rfl, Nat.le_of_ble_eq_true rfl⟩ ⟨Nat.zero_le _, Nat.zero_le _⟩ ⟨by decide +kernel, by decide +kernel, by decide +kernel⟩ rfl [1, 2, 6, 7] rfl rfl (by decide) rfl (Nat.le_of_ble_eq_true rfl) dX2_copyFrom_8 (ws' := wSt T a w h k d (u.1, v.2.1, u.2.2.1, u.2.2.2) ++ wSt T a2 w2 h2 k2 d2 v) rfl ?_
  refine g_aload_n hX dX2_copyFrom_11 rfl 1 rfl ?_
  refine g_get hX 2 h_X2_copyFrom_X2 5 rfl rfl 1 (by decide) k_X2_copyFrom_1 rfl (v := .ref k2) rfl dX2_copyFrom_12 ?_
  refine g_iconst hX (v := 0) dX2_copyFrom_15 (by decide) ?_
  refine g_aload_n hX dX2_copyFrom_16 rfl 0 rfl ?_
  refine g_get hX 2 h_X2_copyFrom_X2 0 rfl rfl 1 (by decide) k_X2_copyFrom_1 rfl (v := .ref k) rfl dX2_copyFrom_17 ?_
  refine g_iconst hX (v := 0) dX2_copyFrom_20 (by decide) ?_
  refine g_bipush hX (v := 12) dX2_copyFrom_21 (by decide) ?_
  refine g_copyi hX k_X2_copyFrom_2 k_X2_copyFrom_3 k_X2_copyFrom_4 k_X2_copyFrom_5 8 3 rfl rfl (by decide) (by decide) (Nat.le_of_ble_eq_true rfl) (by decide +kernel) dX2_copyFrom_23 (ws' := wSt T a w h k d (u.1, v.2.1, v.2.2.1, u.2.2.2) ++ wSt T a2 w2 h2 k2 d2 v) rfl ?_
  refine g_aload_n hX dX2_copyFrom_26 rfl 1 rfl ?_
  refine g_get hX 2 h_X2_copyFrom_X2 5 rfl rfl 2 (by decide) k_X2_copyFrom_6 rfl (v := .ref d2) rfl dX2_copyFrom_27 ?_
  refine g_iconst hX (v := 0) dX2_copyFrom_30 (by decide) ?_
  refine g_aload_n hX dX2_copyFrom_31 rfl 0 rfl ?_
  refine g_get hX 2 h_X2_copyFrom_X2 0 rfl rfl 2 (by decide) k_X2_copyFrom_6 rfl (v := .ref d) rfl dX2_copyFrom_32 ?_
  refine g_iconst hX (v := 0) dX2_copyFrom_35 (by decide) ?_
  refine g_first hX 2 rfl dX2_copyFrom_36 (fun t_36 hF_36 => ?_)
  refine g_flen hX hF_36 dX2_copyFrom_39 ?_
  refine g_copyi hX k_X2_copyFrom_2 k_X2_copyFrom_3 k_X2_copyFrom_4 k_X2_copyFrom_5 9 4 rfl rfl (by decide) (by decide) (Nat.le_of_ble_eq_true rfl) (by decide +kernel) dX2_copyFrom_40 (ws' := wSt T a w h k d (u.1, v.2.1, v.2.2.1, v.2.2.2) ++ wSt T a2 w2 h2 k2 d2 v) rfl ?_
  refine g_aload_n hX dX2_copyFrom_43 rfl 0 rfl ?_
  refine g_aload_n hX dX2_copyFrom_44 rfl 1 rfl ?_
  refine g_get hX 2 h_X2_copyFrom_X2 5 rfl rfl 3 (by decide) k_X2_copyFrom_7 rfl (v := .int (v.1 0)) rfl dX2_copyFrom_45 ?_
  refine g_put hX 2 h_X2_copyFrom_X2 0 rfl rfl 3 (by decide) tyX2 tyX2_ok nmX2 k_X2_copyFrom_7 rfl rfl rfl rfl rfl (Nat.le_of_ble_eq_true rfl) dX2_copyFrom_48 (ws' := wSt T a w h k d (upd u.1 0 (v.1 0), v.2.1, v.2.2.1, v.2.2.2) ++ wSt T a2 w2 h2 k2 d2 v) rfl ?_
  refine g_aload_n hX dX2_copyFrom_51 rfl 0 rfl ?_
  refine g_aload_n hX dX2_copyFrom_52 rfl 1 rfl ?_
  refine g_get hX 2 h_X2_copyFrom_X2 5 rfl rfl 4 (by decide) k_X2_copyFrom_8 rfl (v := .int (v.1 1)) rfl dX2_copyFrom_53 ?_
  refine g_put hX 2 h_X2_copyFrom_X2 0 rfl rfl 4 (by decide) tyX2 tyX2_ok nmX2 k_X2_copyFrom_8 rfl rfl rfl rfl rfl (Nat.le_of_ble_eq_true rfl) dX2_copyFrom_56 (ws' := wSt T a w h k d (upd (upd u.1 0 (v.1 0)) 1 (v.1 1), v.2.1, v.2.2.1, v.2.2.2) ++ wSt T a2 w2 h2 k2 d2 v) rfl ?_
  refine g_aload_n hX dX2_copyFrom_59 rfl 0 rfl ?_
  refine g_aload_n hX dX2_copyFrom_60 rfl 1 rfl ?_
  refine g_get hX 2 h_X2_copyFrom_X2 5 rfl rfl 5 (by decide) k_X2_copyFrom_9 rfl (v := .int (v.1 2)) rfl dX2_copyFrom_61 ?_
  refine g_put hX 2 h_X2_copyFrom_X2 0 rfl rfl 5 (by decide) tyX2 tyX2_ok nmX2 k_X2_copyFrom_9 rfl rfl rfl (narrow_b hb) (fits_b hb) (Nat.le_of_ble_eq_true rfl) dX2_copyFrom_64 (ws' := wSt T a w h k d (upd (upd (upd u.1 0 (v.1 0)) 1 (v.1 1)) 2 (v.1 2), v.2.1, v.2.2.1, v.2.2.2) ++ wSt T a2 w2 h2 k2 d2 v) rfl ?_
  refine g_aload_n hX dX2_copyFrom_67 rfl 0 rfl ?_
  refine g_aload_n hX dX2_copyFrom_68 rfl 1 rfl ?_
  refine g_get hX 2 h_X2_copyFrom_X2 5 rfl rfl 6 (by decide) k_X2_copyFrom_10 rfl (v := .int (v.1 3)) rfl dX2_copyFrom_69 ?_
  refine g_put hX 2 h_X2_copyFrom_X2 0 rfl rfl 6 (by decide) tyX2 tyX2_ok nmX2 k_X2_copyFrom_10 rfl rfl rfl rfl rfl (Nat.le_of_ble_eq_true rfl) dX2_copyFrom_72 (ws' := wSt T a w h k d (upd (upd (upd (upd u.1 0 (v.1 0)) 1 (v.1 1)) 2 (v.1 2)) 3 (v.1 3), v.2.1, v.2.2.1, v.2.2.2) ++ wSt T a2 w2 h2 k2 d2 v) rfl ?_
  refine g_aload_n hX dX2_copyFrom_75 rfl 0 rfl ?_
  refine g_aload_n hX dX2_copyFrom_76 rfl 1 rfl ?_
  refine g_get hX 2 h_X2_copyFrom_X2 5 rfl rfl 7 (by decide) k_X2_copyFrom_11 rfl (v := .int (v.1 4)) rfl dX2_copyFrom_77 ?_
  refine g_put hX 2 h_X2_copyFrom_X2 0 rfl rfl 7 (by decide) tyX2 tyX2_ok nmX2 k_X2_copyFrom_11 rfl rfl rfl rfl rfl (Nat.le_of_ble_eq_true rfl) dX2_copyFrom_80 (ws' := wSt T a w h k d (upd (upd (upd (upd (upd u.1 0 (v.1 0)) 1 (v.1 1)) 2 (v.1 2)) 3 (v.1 3)) 4 (v.1 4), v.2.1, v.2.2.1, v.2.2.2) ++ wSt T a2 w2 h2 k2 d2 v) rfl ?_
  refine g_aload_n hX dX2_copyFrom_83 rfl 0 rfl ?_
  refine g_aload_n hX dX2_copyFrom_84 rfl 1 rfl ?_
  refine g_get hX 2 h_X2_copyFrom_X2 5 rfl rfl 8 (by decide) k_X2_copyFrom_12 rfl (v := .int (v.1 5)) rfl dX2_copyFrom_85 ?_
  refine g_put hX 2 h_X2_copyFrom_X2 0 rfl rfl 8 (by decide) tyX2 tyX2_ok nmX2 k_X2_copyFrom_12 rfl rfl rfl rfl rfl (Nat.le_of_ble_eq_true rfl) dX2_copyFrom_88 (ws' := wSt T a w h k d (upd (upd (upd (upd (upd (upd u.1 0 (v.1 0)) 1 (v.1 1)) 2 (v.1 2)) 3 (v.1 3)) 4 (v.1 4)) 5 (v.1 5), v.2.1, v.2.2.1, v.2.2.2) ++ wSt T a2 w2 h2 k2 d2 v) rfl ?_
  refine g_aload_n hX dX2_copyFrom_91 rfl 0 rfl ?_
  refine g_aload_n hX dX2_copyFrom_92 rfl 1 rfl ?_
  refine g_get hX 2 h_X2_copyFrom_X2 5 rfl rfl 9 (by decide) k_X2_copyFrom_13 rfl (v := .int (v.1 6)) rfl dX2_copyFrom_93 ?_
  refine g_put hX 2 h_X2_copyFrom_X2 0 rfl rfl 9 (by decide) tyX2 tyX2_ok nmX2 k_X2_copyFrom_13 rfl rfl rfl rfl rfl (Nat.le_of_ble_eq_true rfl) dX2_copyFrom_96 (ws' := wSt T a w h k d (upd (upd (upd (upd (upd (upd (upd u.1 0 (v.1 0)) 1 (v.1 1)) 2 (v.1 2)) 3 (v.1 3)) 4 (v.1 4)) 5 (v.1 5)) 6 (v.1 6), v.2.1, v.2.2.1, v.2.2.2) ++ wSt T a2 w2 h2 k2 d2 v) rfl ?_
  refine g_aload_n hX dX2_copyFrom_99 rfl 0 rfl ?_
  refine g_aload_n hX dX2_copyFrom_100 rfl 1 rfl ?_
  refine g_get hX 2 h_X2_copyFrom_X2 5 rfl rfl 10 (by decide) k_X2_copyFrom_14 rfl (v := .int (v.1 7)) rfl dX2_copyFrom_101 ?_
  refine g_put hX 2 h_X2_copyFrom_X2 0 rfl rfl 10 (by decide) tyX2 tyX2_ok nmX2 k_X2_copyFrom_14 rfl rfl rfl rfl rfl (Nat.le_of_ble_eq_true rfl) dX2_copyFrom_104 (ws' := wSt T a w h k d (upd (upd (upd (upd (upd (upd (upd (upd u.1 0 (v.1 0)) 1 (v.1 1)) 2 (v.1 2)) 3 (v.1 3)) 4 (v.1 4)) 5 (v.1 5)) 6 (v.1 6)) 7 (v.1 7), v.2.1, v.2.2.1, v.2.2.2) ++ wSt T a2 w2 h2 k2 d2 v) rfl ?_
  have e9 : F_X2_copyFrom u v = v := by simp only [F_X2_copyFrom, if_true, if_false]
  rw [e9]
  exact g_vret hX dX2_copyFrom_107 rfl
/-! X2_turnOnce -/
def rmX2_turnOnce : Room := { frames := 2, cells := 0, slots := 0, locals := 45 }
theorem k_X2_turnOnce_0 : Cond.fieldLink RX2 50 RX2 (TX2 8).2.1 (TX2 8).2.2.1 ∈ wsX2_turnOnce := List.mem_of_getElem? (i := 1) rfl
theorem h_X2_turnOnce_X2 : ∀ w ∈ u_ws RX2 TX2 11, w ∈ wsX2_turnOnce := fun w h => List.mem_cons_of_mem _ (List.mem_append_left _ (List.mem_append_right _ h))
theorem k_X2_turnOnce_1 : Cond.fieldLink RX2 12 RX2 (TX2 0).2.1 (TX2 0).2.2.1 ∈ wsX2_turnOnce := List.mem_of_getElem? (i := 2) rfl
theorem k_X2_turnOnce_17 : Cond.initialized RX3 ∈ wsX2_turnOnce := List.mem_of_getElem? (i := 18) rfl
theorem k_X2_turnOnce_21 : Cond.instanceMethod yX3_guidePlace ∈ wsX2_turnOnce := List.mem_of_getElem? (i := 22) rfl
theorem k_X2_turnOnce_22 : Cond.selects RX3 yX3_guidePlace yX3_guidePlace ∈ wsX2_turnOnce := List.mem_of_getElem? (i := 23) rfl
theorem k_X2_turnOnce_25 : Cond.instanceMethod yX3_heightAt ∈ wsX2_turnOnce := List.mem_of_getElem? (i := 26) rfl
theorem k_X2_turnOnce_26 : Cond.selects RX3 yX3_heightAt yX3_heightAt ∈ wsX2_turnOnce := List.mem_of_getElem? (i := 27) rfl
theorem k_X2_turnOnce_2 : Cond.fieldLink RX2 33 RX2 (TX2 3).2.1 (TX2 3).2.2.1 ∈ wsX2_turnOnce := List.mem_of_getElem? (i := 3) rfl
theorem k_X2_turnOnce_29 : Cond.instanceMethod yX3_layWrap ∈ wsX2_turnOnce := List.mem_of_getElem? (i := 30) rfl
theorem k_X2_turnOnce_30 : Cond.selects RX3 yX3_layWrap yX3_layWrap ∈ wsX2_turnOnce := List.mem_of_getElem? (i := 31) rfl
theorem k_X2_turnOnce_3 : Cond.fieldLink RX2 47 RX2 (TX2 7).2.1 (TX2 7).2.2.1 ∈ wsX2_turnOnce := List.mem_of_getElem? (i := 4) rfl
theorem k_X2_turnOnce_4 : Cond.fieldLink RX2 44 RX2 (TX2 6).2.1 (TX2 6).2.2.1 ∈ wsX2_turnOnce := List.mem_of_getElem? (i := 5) rfl
theorem k_X2_turnOnce_59 : Cond.instanceMethod yX3_moveGuide ∈ wsX2_turnOnce := List.mem_of_getElem? (i := 60) rfl
theorem k_X2_turnOnce_60 : Cond.selects RX3 yX3_moveGuide yX3_moveGuide ∈ wsX2_turnOnce := List.mem_of_getElem? (i := 61) rfl
theorem k_X2_turnOnce_5 : Cond.fieldLink RX2 40 RX2 (TX2 5).2.1 (TX2 5).2.2.1 ∈ wsX2_turnOnce := List.mem_of_getElem? (i := 6) rfl
theorem k_X2_turnOnce_6 : Cond.fieldLink RX2 53 RX2 (TX2 9).2.1 (TX2 9).2.2.1 ∈ wsX2_turnOnce := List.mem_of_getElem? (i := 7) rfl
def F_X2_turnOnce (u : SV) : SV :=
  (if (F_X2_isIdle u) = 0 then (if (10 + (F_X3_heightAt u.2.1 (F_X3_guidePlace u.2.1))) ≤ (u.1 0) then (let z_66 := F_X3_layWrap u.2.1
  (let z_84 := F_X2_warmDiscs (upd (upd (upd (upd u.1 5 ((u.1 5) + 1)) 0 ((u.1 0) - (10 + (F_X3_heightAt u.2.1 (F_X3_guidePlace u.2.1))))) 4 (F_X2_tensionAt (upd (upd u.1 5 ((u.1 5) + 1)) 0 ((u.1 0) - (10 + (F_X3_heightAt u.2.1 (F_X3_guidePlace u.2.1)))), z_66, u.2.2.1, u.2.2.2) (F_X3_guidePlace u.2.1))) 3 (F_X3_guidePlace u.2.1), z_66, u.2.2.1, u.2.2.2)
  (if (z_84.1 4) ≤ (F_X2_number z_84 4) then (let z_132 := F_X3_moveGuide z_84.2.1 (F_X2_number z_84 0) (F_X2_number z_84 2) (z_84.1 5)
  (z_84.1, z_132, z_84.2.2.1, z_84.2.2.2)) else (let z_132 := F_X3_moveGuide z_84.2.1 (F_X2_number (upd (upd z_84.1 2 1) 6 ((z_84.1 6) + 1), z_84.2.1, z_84.2.2.1, z_84.2.2.2) 0) (F_X2_number (upd (upd z_84.1 2 1) 6 ((z_84.1 6) + 1), z_84.2.1, z_84.2.2.1, z_84.2.2.2) 2) (z_84.1 5)
  (upd (upd z_84.1 2 1) 6 ((z_84.1 6) + 1), z_132, z_84.2.2.1, z_84.2.2.2))))) else (upd (upd u.1 5 ((u.1 5) + 1)) 0 0, u.2.1, u.2.2.1, u.2.2.2)) else u)
set_option maxHeartbeats 4000000 in
set_option maxRecDepth 100000 in
theorem c_X2_turnOnce (l : Launch) (T : TT) (b0 : Nat) (a w h k d : Nat) (u : SV)  : ConV l T b0 yX2_turnOnce wsX2_turnOnce rmX2_turnOnce [.ref a] (wSt T a w h k d u) (wSt T a w h k d (F_X2_turnOnce u)) := by
  refine conV_of (cc := cX2_turnOnce) (maxL := 3) (ret := none) (lv0 := [(0, .ref a)]) (by decide +kernel) rfl (Nat.le_of_ble_eq_true rfl) rfl (fun X hX => ?_)
  refine g_aload_n hX dX2_turnOnce_0 rfl 0 rfl ?_
  refine g_cV_I hX (n := 0) (As := []) (wc := wSt T a w h k d u) (w1 := wSt T a w h k d u) (rv := (F_X2_isIdle u)) (st := []) 0 rfl rfl (c_X2_isIdle (xL X) T (xB X) a w h k d u) gX2_turnOnce_X2_isIdle rfl rfl rfl ⟨Nat.le_of_ble_eq_true rfl, Nat.le_of_ble_eq_true rfl⟩ ⟨Nat.zero_le _, Nat.zero_le _⟩ ⟨by decide +kernel, by decide +kernel, by decide +kernel⟩ rfl [0, 1, 2, 3, 4] rfl rfl (by decide) rfl (Nat.le_of_ble_eq_true rfl) dX2_turnOnce_1 (ws' := wSt T a w h k d u) rfl ?_
  refine g_if_eq hX 8 dX2_turnOnce_4 (by decide) (fun c_4 => ?_) (fun c_4 => ?_)
  · skip
    refine g_aload_n hX dX2_turnOnce_8 rfl 0 rfl ?_
    refine g_dup hX dX2_turnOnce_9 rfl ?_
    refine g_get hX 2 h_X2_turnOnce_X2 0 rfl rfl 8 (by decide) k_X2_turnOnce_0 rfl (v := .int (u.1 5)) rfl dX2_turnOnce_10 ?_
    refine g_iconst hX (v := 1) dX2_turnOnce_13 (by decide) ?_
    refine g_iadd hX dX2_turnOnce_14 ?_
    refine g_put hX 2 h_X2_turnOnce_X2 0 rfl rfl 8 (by decide) tyX2 tyX2_ok nmX2 k_X2_turnOnce_0 rfl rfl rfl rfl rfl (Nat.le_of_ble_eq_true rfl) dX2_turnOnce_15 (ws' := wSt T a w h k d (upd u.1 5 ((u.1 5) + 1), u.2.1, u.2.2.1, u.2.2.2)) rfl ?_
    refine g_aload_n hX dX2_turnOnce_18 rfl 0 rfl ?_
    refine g_get hX 2 h_X2_turnOnce_X2 0 rfl rfl 0 (by decide) k_X2_turnOnce_1 rfl (v := .ref w) rfl dX2_turnOnce_19 ?_
    refine g_cVN_I hX (n := 0) (As := []) (wc := wWr T w h u.2.1) (w1 := wWr T w h u.2.1) (rv := (F_X3_guidePlace u.2.1)) (st := []) 1 rfl rfl (c_X3_guidePlace (xL X) T (xB X) w h u.2.1) ggX2_turnOnce_X3_guidePlace 28 rfl k_X2_turnOnce_17 k_X2_turnOnce_21 k_X2_turnOnce_22 rfl rfl rfl ⟨Nat.le_of_ble_eq_true rfl, Nat.le_of_ble_eq_true rfl⟩ ⟨Nat.zero_le _, Nat.zero_le _⟩ ⟨by decide +kernel, by decide +kernel, by decide +kernel⟩ rfl [1, 2] rfl rfl (by decide) rfl (Nat.le_of_ble_eq_true rfl) dX2_turnOnce_22 (ws' := wSt T a w h k d (upd u.1 5 ((u.1 5) + 1), u.2.1, u.2.2.1, u.2.2.2)) rfl ?_
    refine g_istore_n hX (lv' := [(1, .int (F_X3_guidePlace u.2.1)), (0, .ref a)]) dX2_turnOnce_25 rfl (by decide) rfl ?_
    refine g_bipush hX (v := 10) dX2_turnOnce_26 (by decide) ?_
    refine g_aload_n hX dX2_turnOnce_28 rfl 1 rfl ?_
    refine g_get hX 2 h_X2_turnOnce_X2 0 rfl rfl 0 (by decide) k_X2_turnOnce_1 rfl (v := .ref w) rfl dX2_turnOnce_29 ?_
    refine g_iload_n hX dX2_turnOnce_32 rfl 0 rfl ?_
    refine g_cVN_I hX (n := 1) (As := [.int (F_X3_guidePlace u.2.1)]) (wc := wWr T w h u.2.1) (w1 := wWr T w h u.2.1) (rv := (F_X3_heightAt u.2.1 (F_X3_guidePlace u.2.1))) (st := [.int 10]) 1 rfl rfl (c_X3_heightAt (xL X) T (xB X) w h u.2.1 (F_X3_guidePlace u.2.1)) ggX2_turnOnce_X3_heightAt 29 rfl k_X2_turnOnce_17 k_X2_turnOnce_25 k_X2_turnOnce_26 rfl rfl rfl ⟨Nat.le_of_ble_eq_true rfl, Nat.le_of_ble_eq_true rfl⟩ ⟨Nat.zero_le _, Nat.zero_le _⟩ ⟨by decide +kernel, by decide +kernel, by decide +kernel⟩ rfl [1, 2] rfl rfl (by decide) rfl (Nat.le_of_ble_eq_true rfl) dX2_turnOnce_33 (ws' := wSt T a w h k d (upd u.1 5 ((u.1 5) + 1), u.2.1, u.2.2.1, u.2.2.2)) rfl ?_
    refine g_iadd hX dX2_turnOnce_36 ?_
    refine g_istore_n hX (lv' := [(2, .int (10 + (F_X3_heightAt u.2.1 (F_X3_guidePlace u.2.1)))), (1, .int (F_X3_guidePlace u.2.1)), (0, .ref a)]) dX2_turnOnce_37 rfl (by decide) rfl ?_
    refine g_aload_n hX dX2_turnOnce_38 rfl 2 rfl ?_
    refine g_get hX 2 h_X2_turnOnce_X2 0 rfl rfl 3 (by decide) k_X2_turnOnce_2 rfl (v := .int (u.1 0)) rfl dX2_turnOnce_39 ?_
    refine g_iload_n hX dX2_turnOnce_42 rfl 0 rfl ?_
    refine g_icmp_ge hX 52 dX2_turnOnce_43 (by decide) (fun c_43 => ?_) (fun c_43 => ?_)
    · skip
      refine g_aload_n hX dX2_turnOnce_52 rfl 2 rfl ?_
      refine g_dup hX dX2_turnOnce_53 rfl ?_
      refine g_get hX 2 h_X2_turnOnce_X2 0 rfl rfl 3 (by decide) k_X2_turnOnce_2 rfl (v := .int (u.1 0)) rfl dX2_turnOnce_54 ?_
      refine g_iload_n hX dX2_turnOnce_57 rfl 0 rfl ?_
      refine g_isub hX dX2_turnOnce_58 ?_
      refine g_put hX 2 h_X2_turnOnce_X2 0 rfl rfl 3 (by decide) tyX2 tyX2_ok nmX2 k_X2_turnOnce_2 rfl rfl rfl rfl rfl (Nat.le_of_ble_eq_true rfl) dX2_turnOnce_59 (ws' := wSt T a w h k d (upd (upd u.1 5 ((u.1 5) + 1)) 0 ((u.1 0) - (10 + (F_X3_heightAt u.2.1 (F_X3_guidePlace u.2.1)))), u.2.1, u.2.2.1, u.2.2.2)) rfl ?_
      refine g_aload_n hX dX2_turnOnce_62 rfl 2 rfl ?_
      refine g_get hX 2 h_X2_turnOnce_X2 0 rfl rfl 0 (by decide) k_X2_turnOnce_1 rfl (v := .ref w) rfl dX2_turnOnce_63 ?_
      obtain ⟨z_66, hz_66⟩ : ∃ z : WV, z = F_X3_layWrap u.2.1 := ⟨_, rfl⟩
      refine g_cVN_V hX (n := 0) (As := []) (wc := wWr T w h u.2.1) (w1 := wWr T w h z_66) (st := []) 1 rfl rfl (by rw [hz_66]; exact (c_X3_layWrap (xL X) T (xB X) w h u.2.1)) ggX2_turnOnce_X3_layWrap 30 rfl k_X2_turnOnce_17 k_X2_turnOnce_29 k_X2_turnOnce_30 rfl rfl rfl ⟨Nat.le_of_ble_eq_true rfl, Nat.le_of_ble_eq_true rfl⟩ ⟨Nat.zero_le _, Nat.zero_le _⟩ ⟨by decide +kernel, by decide +kernel, by decide +kernel⟩ rfl [1, 2] rfl rfl (by decide) rfl (Nat.le_of_ble_eq_true rfl) dX2_turnOnce_66 (ws' := wSt T a w h k d (upd (upd u.1 5 ((u.1 5) + 1)) 0 ((u.1 0) - (10 + (F_X3_heightAt u.2.1 (F_X3_guidePlace u.2.1)))), z_66, u.2.2.1, u.2.2.2)) rfl ?_
      refine g_aload_n hX dX2_turnOnce_69 rfl 2 rfl ?_
      refine g_aload_n hX dX2_turnOnce_70 rfl 2 rfl ?_
      refine g_iload_n hX dX2_turnOnce_71 rfl 1 rfl ?_
      refine g_cV_I hX (n := 1) (As := [.int (F_X3_guidePlace u.2.1)]) (wc := wSt T a w h k d (upd (upd u.1 5 ((u.1 5) + 1)) 0 ((u.1 0) - (10 + (F_X3_heightAt u.2.1 (F_X3_guidePlace u.2.1)))), z_66, u.2.2.1, u.2.2.2)) (w1 := wSt T a w h k d (upd (upd u.1 5 ((u.1 5) + 1)) 0 ((u.1 0) - (10 + (F_X3_heightAt u.2.1 (F_X3_guidePlace u.2.1)))), z_66, u.2.2.1, u.2.2.2)) (rv := (F_X2_tensionAt (upd (upd u.1 5 ((u.1 5) + 1)) 0 ((u.1 0) - (10 + (F_X3_heightAt u.2.1 (F_X3_guidePlace u.2.1)))), z_66, u.2.2.1, u.2.2.2) (F_X3_guidePlace u.2.1))) (st := [.ref a]) 0 rfl rfl (c_X2_tensionAt (xL X) T (xB X) a w h k d (upd (upd u.1 5 ((u.1 5) + 1)) 0 ((u.1 0) - (10 + (F_X3_heightAt u.2.1 (F_X3_guidePlace u.2.1)))), z_66, u.2.2.1, u.2.2.2) (F_X3_guidePlace u.2.1)) gX2_turnOnce_X2_tensionAt rfl rfl rfl ⟨Nat.le_of_ble_eq_true rfl, Nat.le_of_ble_eq_true rfl⟩ ⟨Nat.zero_le _, Nat.zero_le _⟩ ⟨by decide +kernel, by decide +kernel, by decide +kernel⟩ rfl [0, 1, 2, 3, 4] rfl rfl (by decide) rfl (Nat.le_of_ble_eq_true rfl) dX2_turnOnce_72 (ws' := wSt T a w h k d (upd (upd u.1 5 ((u.1 5) + 1)) 0 ((u.1 0) - (10 + (F_X3_heightAt u.2.1 (F_X3_guidePlace u.2.1)))), z_66, u.2.2.1, u.2.2.2)) rfl ?_
      refine g_put hX 2 h_X2_turnOnce_X2 0 rfl rfl 7 (by decide) tyX2 tyX2_ok nmX2 k_X2_turnOnce_3 rfl rfl rfl rfl rfl (Nat.le_of_ble_eq_true rfl) dX2_turnOnce_75 (ws' := wSt T a w h k d (upd (upd (upd u.1 5 ((u.1 5) + 1)) 0 ((u.1 0) - (10 + (F_X3_heightAt u.2.1 (F_X3_guidePlace u.2.1))))) 4 (F_X2_tensionAt (upd (upd u.1 5 ((u.1 5) + 1)) 0 ((u.1 0) - (10 + (F_X3_heightAt u.2.1 (F_X3_guidePlace u.2.1)))), z_66, u.2.2.1, u.2.2.2) (F_X3_guidePlace u.2.1)), z_66, u.2.2.1, u.2.2.2)) rfl ?_
      refine g_aload_n hX dX2_turnOnce_78 rfl 2 rfl ?_
      refine g_iload_n hX dX2_turnOnce_79 rfl 1 rfl ?_
      refine g_put hX 2 h_X2_turnOnce_X2 0 rfl rfl 6 (by decide) tyX2 tyX2_ok nmX2 k_X2_turnOnce_4 rfl rfl rfl rfl rfl (Nat.le_of_ble_eq_true rfl) dX2_turnOnce_80 (ws' := wSt T a w h k d (upd (upd (upd (upd u.1 5 ((u.1 5) + 1)) 0 ((u.1 0) - (10 + (F_X3_heightAt u.2.1 (F_X3_guidePlace u.2.1))))) 4 (F_X2_tensionAt (upd (upd u.1 5 ((u.1 5) + 1)) 0 ((u.1 0) - (10 + (F_X3_heightAt u.2.1 (F_X3_guidePlace u.2.1)))), z_66, u.2.2.1, u.2.2.2) (F_X3_guidePlace u.2.1))) 3 (F_X3_guidePlace u.2.1), z_66, u.2.2.1, u.2.2.2)) rfl ?_
      refine g_aload_n hX dX2_turnOnce_83 rfl 2 rfl ?_
      obtain ⟨z_84, hz_84⟩ : ∃ z : SV, z = F_X2_warmDiscs (upd (upd (upd (upd u.1 5 ((u.1 5) + 1)) 0 ((u.1 0) - (10 + (F_X3_heightAt u.2.1 (F_X3_guidePlace u.2.1))))) 4 (F_X2_tensionAt (upd (upd u.1 5 ((u.1 5) + 1)) 0 ((u.1 0) - (10 + (F_X3_heightAt u.2.1 (F_X3_guidePlace u.2.1)))), z_66, u.2.2.1, u.2.2.2) (F_X3_guidePlace u.2.1))) 3 (F_X3_guidePlace u.2.1), z_66, u.2.2.1, u.2.2.2) := ⟨_, rfl⟩
      refine g_cV_V hX (n := 0) (As := []) (wc := wSt T a w h k d (upd (upd (upd (upd u.1 5 ((u.1 5) + 1)) 0 ((u.1 0) - (10 + (F_X3_heightAt u.2.1 (F_X3_guidePlace u.2.1))))) 4 (F_X2_tensionAt (upd (upd u.1 5 ((u.1 5) + 1)) 0 ((u.1 0) - (10 + (F_X3_heightAt u.2.1 (F_X3_guidePlace u.2.1)))), z_66, u.2.2.1, u.2.2.2) (F_X3_guidePlace u.2.1))) 3 (F_X3_guidePlace u.2.1), z_66, u.2.2.1, u.2.2.2)) (w1 := wSt T a w h k d z_84) (st := []) 0 rfl rfl (by rw [hz_84]; exact (c_X2_warmDiscs (xL X) T (xB X) a w h k d (upd (upd (upd (upd u.1 5 ((u.1 5) + 1)) 0 ((u.1 0) - (10 + (F_X3_heightAt u.2.1 (F_X3_guidePlace u.2.1))))) 4 (F_X2_tensionAt (upd (upd u.1 5 ((u.1 5) + 1)) 0 ((u.1 0) - (10 + (F_X3_heightAt u.2.1 (F_X3_guidePlace u.2.1)))), z_66, u.2.2.1, u.2.2.2) (F_X3_guidePlace u.2.1))) 3 (F_X3_guidePlace u.2.1), z_66, u.2.2.1, u.2.2.2))) gX2_turnOnce_X2_warmDiscs rfl rfl rfl ⟨Nat.le_of_ble_eq_true rfl, Nat.le_of_ble_eq_true rfl⟩ ⟨Nat.zero_le _, Nat.zero_le _⟩ ⟨by decide +kernel, by decide +kernel, by decide +kernel⟩ rfl [0, 1, 2, 3, 4] rfl rfl (by decide) rfl (Nat.le_of_ble_eq_true rfl) dX2_turnOnce_84 (ws' := wSt T a w h k d z_84) rfl ?_
      refine g_aload_n hX dX2_turnOnce_87 rfl 2 rfl ?_
      refine g_get hX 2 h_X2_turnOnce_X2 0 rfl rfl 7 (by decide) k_X2_turnOnce_3 rfl (v := .int (z_84.1 4)) rfl dX2_turnOnce_88 ?_
      refine g_aload_n hX dX2_turnOnce_91 rfl 2 rfl ?_
      refine g_iconst hX (v := 4) dX2_turnOnce_92 (by decide) ?_
      refine g_cV_I hX (n := 1) (As := [.int 4]) (wc := wSt T a w h k d z_84) (w1 := wSt T a w h k d z_84) (rv := (F_X2_number z_84 4)) (st := [.int (z_84.1 4)]) 0 rfl rfl (c_X2_number (xL X) T (xB X) a w h k d z_84 4) gX2_turnOnce_X2_number rfl rfl rfl ⟨Nat.le_of_ble_eq_true rfl, Nat.le_of_ble_eq_true rfl⟩ ⟨Nat.zero_le _, Nat.zero_le _⟩ ⟨by decide +kernel, by decide +kernel, by decide +kernel⟩ rfl [0, 1, 2, 3, 4] rfl rfl (by decide) rfl (Nat.le_of_ble_eq_true rfl) dX2_turnOnce_93 (ws' := wSt T a w h k d z_84) rfl ?_
      refine g_icmp_le hX 114 dX2_turnOnce_96 (by decide) (fun c_96 => ?_) (fun c_96 => ?_)
      · skip
        refine g_aload_n hX dX2_turnOnce_114 rfl 2 rfl ?_
        refine g_get hX 2 h_X2_turnOnce_X2 0 rfl rfl 0 (by decide) k_X2_turnOnce_1 rfl (v := .ref w) rfl dX2_turnOnce_115 ?_
        refine g_aload_n hX dX2_turnOnce_118 rfl 2 rfl ?_
        refine g_iconst hX (v := 0) dX2_turnOnce_119 (by decide) ?_
        refine g_cV_I hX (n := 1) (As := [.int 0]) (wc := wSt T a w h k d z_84) (w1 := wSt T a w h k d z_84) (rv := (F_X2_number z_84 0)) (st := [.ref w]) 0 rfl rfl (c_X2_number (xL X) T (xB X) a w h k d z_84 0) gX2_turnOnce_X2_number rfl rfl rfl ⟨Nat.le_of_ble_eq_true rfl, Nat.le_of_ble_eq_true rfl⟩ ⟨Nat.zero_le _, Nat.zero_le _⟩ ⟨by decide +kernel, by decide +kernel, by decide +kernel⟩ rfl [0, 1, 2, 3, 4] rfl rfl (by decide) rfl (Nat.le_of_ble_eq_true rfl) dX2_turnOnce_120 (ws' := wSt T a w h k d z_84) rfl ?_
        refine g_aload_n hX dX2_turnOnce_123 rfl 2 rfl ?_
        refine g_iconst hX (v := 2) dX2_turnOnce_124 (by decide) ?_
        refine g_cV_I hX (n := 1) (As := [.int 2]) (wc := wSt T a w h k d z_84) (w1 := wSt T a w h k d z_84) (rv := (F_X2_number z_84 2)) (st := [.int (F_X2_number z_84 0), .ref w]) 0 rfl rfl (c_X2_number (xL X) T (xB X) a w h k d z_84 2) gX2_turnOnce_X2_number rfl rfl rfl ⟨Nat.le_of_ble_eq_true rfl, Nat.le_of_ble_eq_true rfl⟩ ⟨Nat.zero_le _, Nat.zero_le _⟩ ⟨by decide +kernel, by decide +kernel, by decide +kernel⟩ rfl [0, 1, 2, 3, 4] rfl rfl (by decide) rfl (Nat.le_of_ble_eq_true rfl) dX2_turnOnce_125 (ws' := wSt T a w h k d z_84) rfl ?_
        refine g_aload_n hX dX2_turnOnce_128 rfl 2 rfl ?_
        refine g_get hX 2 h_X2_turnOnce_X2 0 rfl rfl 8 (by decide) k_X2_turnOnce_0 rfl (v := .int (z_84.1 5)) rfl dX2_turnOnce_129 ?_
        obtain ⟨z_132, hz_132⟩ : ∃ z : WV, z = F_X3_moveGuide z_84.2.1 (F_X2_number z_84 0) (F_X2_number z_84 2) (z_84.1 5) := ⟨_, rfl⟩
        refine g_cVN_V hX (n := 3) (As := [.int (F_X2_number z_84 0), .int (F_X2_number z_84 2), .int (z_84.1 5)]) (wc := wWr T w h z_84.2.1) (w1 := wWr T w h z_132) (st := []) 1 rfl rfl (by rw [hz_132]; exact (c_X3_moveGuide (xL X) T (xB X) w h z_84.2.1 (F_X2_number z_84 0) (F_X2_number z_84 2) (z_84.1 5))) ggX2_turnOnce_X3_moveGuide 31 rfl k_X2_turnOnce_17 k_X2_turnOnce_59 k_X2_turnOnce_60 rfl rfl rfl ⟨Nat.le_of_ble_eq_true rfl, Nat.le_of_ble_eq_true rfl⟩ ⟨Nat.zero_le _, Nat.zero_le _⟩ ⟨by decide +kernel, by decide +kernel, by decide +kernel⟩ rfl [1, 2] rfl rfl (by decide) rfl (Nat.le_of_ble_eq_true rfl) dX2_turnOnce_132 (ws' := wSt T a w h k d (z_84.1, z_132, z_84.2.2.1, z_84.2.2.2)) rfl ?_
        have e9 : F_X2_turnOnce u = (z_84.1, z_132, z_84.2.2.1, z_84.2.2.2) := by simp only [F_X2_turnOnce, ← hz_66, ← hz_84, ← hz_132, eq_true c_4, eq_true c_43, eq_true c_96, if_true, if_false]
        rw [e9]
        exact g_vret hX dX2_turnOnce_135 rfl
      · skip
        refine g_aload_n hX dX2_turnOnce_99 rfl 2 rfl ?_
        refine g_iconst hX (v := 1) dX2_turnOnce_100 (by decide) ?_
        refine g_put hX 2 h_X2_turnOnce_X2 0 rfl rfl 5 (by decide) tyX2 tyX2_ok nmX2 k_X2_turnOnce_5 rfl rfl rfl rfl rfl (Nat.le_of_ble_eq_true rfl) dX2_turnOnce_101 (ws' := wSt T a w h k d (upd z_84.1 2 1, z_84.2.1, z_84.2.2.1, z_84.2.2.2)) rfl ?_
        refine g_aload_n hX dX2_turnOnce_104 rfl 2 rfl ?_
        refine g_dup hX dX2_turnOnce_105 rfl ?_
        refine g_get hX 2 h_X2_turnOnce_X2 0 rfl rfl 9 (by decide) k_X2_turnOnce_6 rfl (v := .int (z_84.1 6)) rfl dX2_turnOnce_106 ?_
        refine g_iconst hX (v := 1) dX2_turnOnce_109 (by decide) ?_
        refine g_iadd hX dX2_turnOnce_110 ?_
        refine g_put hX 2 h_X2_turnOnce_X2 0 rfl rfl 9 (by decide) tyX2 tyX2_ok nmX2 k_X2_turnOnce_6 rfl rfl rfl rfl rfl (Nat.le_of_ble_eq_true rfl) dX2_turnOnce_111 (ws' := wSt T a w h k d (upd (upd z_84.1 2 1) 6 ((z_84.1 6) + 1), z_84.2.1, z_84.2.2.1, z_84.2.2.2)) rfl ?_
        refine g_aload_n hX dX2_turnOnce_114 rfl 2 rfl ?_
        refine g_get hX 2 h_X2_turnOnce_X2 0 rfl rfl 0 (by decide) k_X2_turnOnce_1 rfl (v := .ref w) rfl dX2_turnOnce_115 ?_
        refine g_aload_n hX dX2_turnOnce_118 rfl 2 rfl ?_
        refine g_iconst hX (v := 0) dX2_turnOnce_119 (by decide) ?_
        refine g_cV_I hX (n := 1) (As := [.int 0]) (wc := wSt T a w h k d (upd (upd z_84.1 2 1) 6 ((z_84.1 6) + 1), z_84.2.1, z_84.2.2.1, z_84.2.2.2)) (w1 := wSt T a w h k d (upd (upd z_84.1 2 1) 6 ((z_84.1 6) + 1), z_84.2.1, z_84.2.2.1, z_84.2.2.2)) (rv := (F_X2_number (upd (upd z_84.1 2 1) 6 ((z_84.1 6) + 1), z_84.2.1, z_84.2.2.1, z_84.2.2.2) 0)) (st := [.ref w]) 0 rfl rfl (c_X2_number (xL X) T (xB X) a w h k d (upd (upd z_84.1 2 1) 6 ((z_84.1 6) + 1), z_84.2.1, z_84.2.2.1, z_84.2.2.2) 0) gX2_turnOnce_X2_number rfl rfl rfl ⟨Nat.le_of_ble_eq_true rfl, Nat.le_of_ble_eq_true rfl⟩ ⟨Nat.zero_le _, Nat.zero_le _⟩ ⟨by decide +kernel, by decide +kernel, by decide +kernel⟩ rfl [0, 1, 2, 3, 4] rfl rfl (by decide) rfl (Nat.le_of_ble_eq_true rfl) dX2_turnOnce_120 (ws' := wSt T a w h k d (upd (upd z_84.1 2 1) 6 ((z_84.1 6) + 1), z_84.2.1, z_84.2.2.1, z_84.2.2.2)) rfl ?_
        refine g_aload_n hX dX2_turnOnce_123 rfl 2 rfl ?_
        refine g_iconst hX (v := 2) dX2_turnOnce_124 (by decide) ?_
        refine g_cV_I hX (n := 1) (As := [.int 2]) (wc := wSt T a w h k d (upd (upd z_84.1 2 1) 6 ((z_84.1 6) + 1), z_84.2.1, z_84.2.2.1, z_84.2.2.2)) (w1 := wSt T a w h k d (upd (upd z_84.1 2 1) 6 ((z_84.1 6) + 1), z_84.2.1, z_84.2.2.1, z_84.2.2.2)) (rv := (F_X2_number (upd (upd z_84.1 2 1) 6 ((z_84.1 6) + 1), z_84.2.1, z_84.2.2.1, z_84.2.2.2) 2)) (st := [.int (F_X2_number (upd (upd z_84.1 2 1) 6 ((z_84.1 6) + 1), z_84.2.1, z_84.2.2.1, z_84.2.2.2) 0), .ref w]) 0 rfl rfl (c_X2_number (xL X) T (xB X) a w h k d (upd (upd z_84.1 2 1) 6 ((z_84.1 6) + 1), z_84.2.1, z_84.2.2.1, z_84.2.2.2) 2) gX2_turnOnce_X2_number rfl rfl rfl ⟨Nat.le_of_ble_eq_true rfl, Nat.le_of_ble_eq_true rfl⟩ ⟨Nat.zero_le _, Nat.zero_le _⟩ ⟨by decide +kernel, by decide +kernel, by decide +kernel⟩ rfl [0, 1, 2, 3, 4] rfl rfl (by decide) rfl (Nat.le_of_ble_eq_true rfl) dX2_turnOnce_125 (ws' := wSt T a w h k d (upd (upd z_84.1 2 1) 6 ((z_84.1 6) + 1), z_84.2.1, z_84.2.2.1, z_84.2.2.2)) rfl ?_
        refine g_aload_n hX dX2_turnOnce_128 rfl 2 rfl ?_
        refine g_get hX 2 h_X2_turnOnce_X2 0 rfl rfl 8 (by decide) k_X2_turnOnce_0 rfl (v := .int (z_84.1 5)) rfl dX2_turnOnce_129 ?_
        obtain ⟨z_132, hz_132⟩ : ∃ z : WV, z = F_X3_moveGuide z_84.2.1 (F_X2_number (upd (upd z_84.1 2 1) 6 ((z_84.1 6) + 1), z_84.2.1, z_84.2.2.1, z_84.2.2.2) 0) (F_X2_number (upd (upd z_84.1 2 1) 6 ((z_84.1 6) + 1), z_84.2.1, z_84.2.2.1, z_84.2.2.2) 2) (z_84.1 5) := ⟨_, rfl⟩
        refine g_cVN_V hX (n := 3) (As := [.int (F_X2_number (upd (upd z_84.1 2 1) 6 ((z_84.1 6) + 1), z_84.2.1, z_84.2.2.1, z_84.2.2.2) 0), .int (F_X2_number (upd (upd z_84.1 2 1) 6 ((z_84.1 6) + 1), z_84.2.1, z_84.2.2.1, z_84.2.2.2) 2), .int (z_84.1 5)]) (wc := wWr T w h z_84.2.1) (w1 := wWr T w h z_132) (st := []) 1 rfl rfl (by rw [hz_132]; exact (c_X3_moveGuide (xL X) T (xB X) w h z_84.2.1 (F_X2_number (upd (upd z_84.1 2 1) 6 ((z_84.1 6) + 1), z_84.2.1, z_84.2.2.1, z_84.2.2.2) 0) (F_X2_number (upd (upd z_84.1 2 1) 6 ((z_84.1 6) + 1), z_84.2.1, z_84.2.2.1, z_84.2.2.2) 2) (z_84.1 5))) ggX2_turnOnce_X3_moveGuide 31 rfl k_X2_turnOnce_17 k_X2_turnOnce_59 k_X2_turnOnce_60 rfl rfl rfl ⟨Nat.le_of_ble_eq_true rfl, Nat.le_of_ble_eq_true rfl⟩ ⟨Nat.zero_le _, Nat.zero_le _⟩ ⟨by decide +kernel, by decide +kernel, by decide +kernel⟩ rfl [1, 2] rfl rfl (by decide) rfl (Nat.le_of_ble_eq_true rfl) dX2_turnOnce_132 (ws' := wSt T a w h k d (upd (upd z_84.1 2 1) 6 ((z_84.1 6) + 1), z_132, z_84.2.2.1, z_84.2.2.2)) rfl ?_
        have e9 : F_X2_turnOnce u = (upd (upd z_84.1 2 1) 6 ((z_84.1 6) + 1), z_132, z_84.2.2.1, z_84.2.2.2) := by simp only [F_X2_turnOnce, ← hz_66, ← hz_84, ← hz_132, eq_true c_4, eq_true c_43, eq_false c_96, if_true, if_false]
        rw [e9]
        exact g_vret hX dX2_turnOnce_135 rfl
    · skip
      refine g_aload_n hX dX2_turnOnce_46 rfl 2 rfl ?_
      refine g_iconst hX (v := 0) dX2_turnOnce_47 (by decide) ?_
      refine g_put hX 2 h_X2_turnOnce_X2 0 rfl rfl 3 (by decide) tyX2 tyX2_ok nmX2 k_X2_turnOnce_2 rfl rfl rfl rfl rfl (Nat.le_of_ble_eq_true rfl) dX2_turnOnce_48 (ws' := wSt T a w h k d (upd (upd u.1 5 ((u.1 5) + 1)) 0 0, u.2.1, u.2.2.1, u.2.2.2)) rfl ?_
      have e9 : F_X2_turnOnce u = (upd (upd u.1 5 ((u.1 5) + 1)) 0 0, u.2.1, u.2.2.1, u.2.2.2) := by simp only [F_X2_turnOnce, eq_true c_4, eq_false c_43, if_true, if_false]
      rw [e9]
      exact g_vret hX dX2_turnOnce_51 rfl
  · skip
    have e9 : F_X2_turnOnce u = u := by simp only [F_X2_turnOnce, eq_false c_4, if_true, if_false]
    rw [e9]
    exact g_vret hX dX2_turnOnce_7 rfl
/-! X2_tieKnot -/
def rmX2_tieKnot : Room := { frames := 1, cells := 0, slots := 0, locals := 21 }
theorem k_X2_tieKnot_0 : Cond.fieldLink RX2 33 RX2 (TX2 3).2.1 (TX2 3).2.2.1 ∈ wsX2_tieKnot := List.mem_of_getElem? (i := 1) rfl
theorem h_X2_tieKnot_X2 : ∀ w ∈ u_ws RX2 TX2 11, w ∈ wsX2_tieKnot := fun w h => List.mem_cons_of_mem _ (List.mem_append_right _ h)
theorem k_X2_tieKnot_1 : Cond.fieldLink RX2 40 RX2 (TX2 5).2.1 (TX2 5).2.2.1 ∈ wsX2_tieKnot := List.mem_of_getElem? (i := 2) rfl
theorem k_X2_tieKnot_2 : Cond.fieldLink RX2 44 RX2 (TX2 6).2.1 (TX2 6).2.2.1 ∈ wsX2_tieKnot := List.mem_of_getElem? (i := 3) rfl
theorem k_X2_tieKnot_3 : Cond.fieldLink RX2 18 RX2 (TX2 1).2.1 (TX2 1).2.2.1 ∈ wsX2_tieKnot := List.mem_of_getElem? (i := 4) rfl
def F_X2_tieKnot (u : SV) : Int32 × SV :=
  (if (F_X2_number u 3) ≤ (u.1 0) then (if (u.1 2) = 0 then ((-5), u) else (if (u.1 3) < 0 then ((-5), u) else (if (u.1 3) < 12 then (((upd u.2.2.1 (Int32.toNatClampNeg (u.1 3)) ((u.2.2.1 (Int32.toNatClampNeg (u.1 3))) + 1)) (Int32.toNatClampNeg (u.1 3))), (upd (upd u.1 0 ((u.1 0) - (F_X2_number u 3))) 2 0, u.2.1, (upd u.2.2.1 (Int32.toNatClampNeg (u.1 3)) ((u.2.2.1 (Int32.toNatClampNeg (u.1 3))) + 1)), u.2.2.2)) else ((-5), u)))) else ((-4), u))
set_option maxHeartbeats 4000000 in
set_option maxRecDepth 100000 in
theorem c_X2_tieKnot (l : Launch) (T : TT) (b0 : Nat) (a w h k d : Nat) (u : SV)  : ConI l T b0 yX2_tieKnot wsX2_tieKnot rmX2_tieKnot [.ref a] (wSt T a w h k d u) ((F_X2_tieKnot u).1) (wSt T a w h k d ((F_X2_tieKnot u).2)) := by
  refine conI_of (cc := cX2_tieKnot) (maxL := 2) (ret := (some .int)) (lv0 := [(0, .ref a)]) (by decide +kernel) rfl (Nat.le_of_ble_eq_true rfl) rfl (fun X hX => ?_)
  refine g_aload_n hX dX2_tieKnot_0 rfl 0 rfl ?_
  refine g_iconst hX (v := 3) dX2_tieKnot_1 (by decide) ?_
  refine g_cV_I hX (n := 1) (As := [.int 3]) (wc := wSt T a w h k d u) (w1 := wSt T a w h k d u) (rv := (F_X2_number u 3)) (st := []) 0 rfl rfl (c_X2_number (xL X) T (xB X) a w h k d u 3) gX2_tieKnot_X2_number rfl rfl rfl ⟨Nat.le_of_ble_eq_true rfl, Nat.le_of_ble_eq_true rfl⟩ ⟨Nat.zero_le _, Nat.zero_le _⟩ ⟨by decide +kernel, by decide +kernel, by decide +kernel⟩ rfl [0, 1, 2, 3, 4] rfl rfl (by decide) rfl (Nat.le_of_ble_eq_true rfl) dX2_tieKnot_2 (ws' := wSt T a w h k d u) rfl ?_
  refine g_istore_n hX (lv' := [(1, .int (F_X2_number u 3)), (0, .ref a)]) dX2_tieKnot_5 rfl (by decide) rfl ?_
  refine g_aload_n hX dX2_tieKnot_6 rfl 1 rfl ?_
  refine g_get hX 2 h_X2_tieKnot_X2 0 rfl rfl 3 (by decide) k_X2_tieKnot_0 rfl (v := .int (u.1 0)) rfl dX2_tieKnot_7 ?_
  refine g_iload_n hX dX2_tieKnot_10 rfl 0 rfl ?_
  refine g_icmp_ge hX 17 dX2_tieKnot_11 (by decide) (fun c_11 => ?_) (fun c_11 => ?_)
  · skip
    refine g_aload_n hX dX2_tieKnot_17 rfl 1 rfl ?_
    refine g_get hX 2 h_X2_tieKnot_X2 0 rfl rfl 5 (by decide) k_X2_tieKnot_1 rfl (v := .int (u.1 2)) rfl dX2_tieKnot_18 ?_
    refine g_if_eq hX 43 dX2_tieKnot_21 (by decide) (fun c_21 => ?_) (fun c_21 => ?_)
    · skip
      refine g_bipush hX (v := (-5)) dX2_tieKnot_43 (by decide) ?_
      have e9 : F_X2_tieKnot u = ((-5), u) := by simp only [F_X2_tieKnot, eq_true c_11, eq_true c_21, if_true, if_false]
      rw [e9]
      exact g_iret hX dX2_tieKnot_45 rfl rfl
    · skip
      refine g_aload_n hX dX2_tieKnot_24 rfl 1 rfl ?_
      refine g_get hX 2 h_X2_tieKnot_X2 0 rfl rfl 6 (by decide) k_X2_tieKnot_2 rfl (v := .int (u.1 3)) rfl dX2_tieKnot_25 ?_
      refine g_if_lt hX 43 dX2_tieKnot_28 (by decide) (fun c_28 => ?_) (fun c_28 => ?_)
      · skip
        refine g_bipush hX (v := (-5)) dX2_tieKnot_43 (by decide) ?_
        have e9 : F_X2_tieKnot u = ((-5), u) := by simp only [F_X2_tieKnot, eq_true c_11, eq_false c_21, eq_true c_28, if_true, if_false]
        rw [e9]
        exact g_iret hX dX2_tieKnot_45 rfl rfl
      · skip
        refine g_aload_n hX dX2_tieKnot_31 rfl 1 rfl ?_
        refine g_get hX 2 h_X2_tieKnot_X2 0 rfl rfl 6 (by decide) k_X2_tieKnot_2 rfl (v := .int (u.1 3)) rfl dX2_tieKnot_32 ?_
        refine g_aload_n hX dX2_tieKnot_35 rfl 1 rfl ?_
        refine g_get hX 2 h_X2_tieKnot_X2 0 rfl rfl 1 (by decide) k_X2_tieKnot_3 rfl (v := .ref k) rfl dX2_tieKnot_36 ?_
        refine g_alen hX 3 0 rfl rfl (v := 12) rfl dX2_tieKnot_39 ?_
        refine g_icmp_lt hX 46 dX2_tieKnot_40 (by decide) (fun c_40 => ?_) (fun c_40 => ?_)
        · skip
          refine g_aload_n hX dX2_tieKnot_46 rfl 1 rfl ?_
          refine g_dup hX dX2_tieKnot_47 rfl ?_
          refine g_get hX 2 h_X2_tieKnot_X2 0 rfl rfl 3 (by decide) k_X2_tieKnot_0 rfl (v := .int (u.1 0)) rfl dX2_tieKnot_48 ?_
          refine g_iload_n hX dX2_tieKnot_51 rfl 0 rfl ?_
          refine g_isub hX dX2_tieKnot_52 ?_
          refine g_put hX 2 h_X2_tieKnot_X2 0 rfl rfl 3 (by decide) tyX2 tyX2_ok nmX2 k_X2_tieKnot_0 rfl rfl rfl rfl rfl (Nat.le_of_ble_eq_true rfl) dX2_tieKnot_53 (ws' := wSt T a w h k d (upd u.1 0 ((u.1 0) - (F_X2_number u 3)), u.2.1, u.2.2.1, u.2.2.2)) rfl ?_
          refine g_aload_n hX dX2_tieKnot_56 rfl 1 rfl ?_
          refine g_iconst hX (v := 0) dX2_tieKnot_57 (by decide) ?_
          refine g_put hX 2 h_X2_tieKnot_X2 0 rfl rfl 5 (by decide) tyX2 tyX2_ok nmX2 k_X2_tieKnot_1 rfl rfl rfl rfl rfl (Nat.le_of_ble_eq_true rfl) dX2_tieKnot_58 (ws' := wSt T a w h k d (upd (upd u.1 0 ((u.1 0) - (F_X2_number u 3))) 2 0, u.2.1, u.2.2.1, u.2.2.2)) rfl ?_
          refine g_aload_n hX dX2_tieKnot_61 rfl 1 rfl ?_
          refine g_get hX 2 h_X2_tieKnot_X2 0 rfl rfl 1 (by decide) k_X2_tieKnot_3 rfl (v := .ref k) rfl dX2_tieKnot_62 ?_
          refine g_aload_n hX dX2_tieKnot_65 rfl 1 rfl ?_
          refine g_get hX 2 h_X2_tieKnot_X2 0 rfl rfl 6 (by decide) k_X2_tieKnot_2 rfl (v := .int (u.1 3)) rfl dX2_tieKnot_66 ?_
          refine g_dup2 hX dX2_tieKnot_69 rfl rfl ?_
          refine g_iald hX 3 rfl (vin_lt c_28 c_40 (by decide)) (v := (u.2.2.1 (Int32.toNatClampNeg (u.1 3)))) (congrArg _ rfl) dX2_tieKnot_70 ?_
          refine g_iconst hX (v := 1) dX2_tieKnot_71 (by decide) ?_
          refine g_iadd hX dX2_tieKnot_72 ?_
          refine g_iast hX 3 rfl (vin_lt c_28 c_40 (by decide)) dX2_tieKnot_73 (ws' := wSt T a w h k d (upd (upd u.1 0 ((u.1 0) - (F_X2_number u 3))) 2 0, u.2.1, (upd u.2.2.1 (Int32.toNatClampNeg (u.1 3)) ((u.2.2.1 (Int32.toNatClampNeg (u.1 3))) + 1)), u.2.2.2)) rfl ?_
          refine g_aload_n hX dX2_tieKnot_74 rfl 1 rfl ?_
          refine g_get hX 2 h_X2_tieKnot_X2 0 rfl rfl 1 (by decide) k_X2_tieKnot_3 rfl (v := .ref k) rfl dX2_tieKnot_75 ?_
          refine g_aload_n hX dX2_tieKnot_78 rfl 1 rfl ?_
          refine g_get hX 2 h_X2_tieKnot_X2 0 rfl rfl 6 (by decide) k_X2_tieKnot_2 rfl (v := .int (u.1 3)) rfl dX2_tieKnot_79 ?_
          refine g_iald hX 3 rfl (vin_lt c_28 c_40 (by decide)) (v := ((upd u.2.2.1 (Int32.toNatClampNeg (u.1 3)) ((u.2.2.1 (Int32.toNatClampNeg (u.1 3))) + 1)) (Int32.toNatClampNeg (u.1 3)))) (congrArg _ rfl) dX2_tieKnot_82 ?_
          have e9 : F_X2_tieKnot u = (((upd u.2.2.1 (Int32.toNatClampNeg (u.1 3)) ((u.2.2.1 (Int32.toNatClampNeg (u.1 3))) + 1)) (Int32.toNatClampNeg (u.1 3))), (upd (upd u.1 0 ((u.1 0) - (F_X2_number u 3))) 2 0, u.2.1, (upd u.2.2.1 (Int32.toNatClampNeg (u.1 3)) ((u.2.2.1 (Int32.toNatClampNeg (u.1 3))) + 1)), u.2.2.2)) := by simp only [F_X2_tieKnot, eq_true c_11, eq_false c_21, eq_false c_28, eq_true c_40, if_true, if_false]
          rw [e9]
          exact g_iret hX dX2_tieKnot_83 rfl rfl
        · skip
          refine g_bipush hX (v := (-5)) dX2_tieKnot_43 (by decide) ?_
          have e9 : F_X2_tieKnot u = ((-5), u) := by simp only [F_X2_tieKnot, eq_true c_11, eq_false c_21, eq_false c_28, eq_false c_40, if_true, if_false]
          rw [e9]
          exact g_iret hX dX2_tieKnot_45 rfl rfl
  · skip
    refine g_bipush hX (v := (-4)) dX2_tieKnot_14 (by decide) ?_
    have e9 : F_X2_tieKnot u = ((-4), u) := by simp only [F_X2_tieKnot, eq_false c_11, if_true, if_false]
    rw [e9]
    exact g_iret hX dX2_tieKnot_16 rfl rfl
/-! X2_changeCone -/
def rmX2_changeCone : Room := { frames := 2, cells := 0, slots := 0, locals := 41 }
theorem k_X2_changeCone_4 : Cond.initialized RX4 ∈ wsX2_changeCone := List.mem_of_getElem? (i := 5) rfl
theorem k_X2_changeCone_3 : Cond.static yX4_inRange ∈ wsX2_changeCone := List.mem_of_getElem? (i := 4) rfl
theorem k_X2_changeCone_0 : Cond.fieldLink RX2 33 RX2 (TX2 3).2.1 (TX2 3).2.2.1 ∈ wsX2_changeCone := List.mem_of_getElem? (i := 1) rfl
theorem h_X2_changeCone_X2 : ∀ w ∈ u_ws RX2 TX2 11, w ∈ wsX2_changeCone := fun w h => List.mem_cons_of_mem _ (List.mem_append_left _ (List.mem_append_right _ h))
theorem k_X2_changeCone_1 : Cond.fieldLink RX2 12 RX2 (TX2 0).2.1 (TX2 0).2.2.1 ∈ wsX2_changeCone := List.mem_of_getElem? (i := 2) rfl
theorem h_X2_changeCone_X3 : ∀ w ∈ u_ws RX3 TX3 4, w ∈ wsX2_changeCone := fun w h => List.mem_cons_of_mem _ (List.mem_append_right _ h)
theorem k_X2_changeCone_2 : Cond.fieldLink RX2 40 RX2 (TX2 5).2.1 (TX2 5).2.2.1 ∈ wsX2_changeCone := List.mem_of_getElem? (i := 3) rfl
def F_X2_changeCone (u : SV) (p1 : Int32) : Int32 × SV :=
  (if (F_X4_inRange 6 p1) = 0 then ((-2), u) else (if (u.2.1.1 0) ≤ 0 then ((u.1 0), (upd (upd u.1 0 p1) 2 0, u.2.1, u.2.2.1, u.2.2.2)) else ((u.1 0), (upd (upd u.1 0 p1) 2 1, u.2.1, u.2.2.1, u.2.2.2))))
set_option maxHeartbeats 4000000 in
set_option maxRecDepth 100000 in
theorem c_X2_changeCone (l : Launch) (T : TT) (b0 : Nat) (a w h k d : Nat) (u : SV) (p1 : Int32)  : ConI l T b0 yX2_changeCone wsX2_changeCone rmX2_changeCone [.ref a, .int p1] (wSt T a w h k d u) ((F_X2_changeCone u p1).1) (wSt T a w h k d ((F_X2_changeCone u p1).2)) := by
  refine conI_of (cc := cX2_changeCone) (maxL := 3) (ret := (some .int)) (lv0 := [(0, .ref a), (1, .int p1)]) (by decide +kernel) rfl (Nat.le_of_ble_eq_true rfl) rfl (fun X hX => ?_)
  refine g_bipush hX (v := 6) dX2_changeCone_0 (by decide) ?_
  refine g_iload_n hX dX2_changeCone_2 rfl 1 rfl ?_
  refine g_cSN_I hX (n := 2) (As := [.int 6, .int p1]) (wc := []) (w1 := []) (rv := (F_X4_inRange 6 p1)) (st := []) (c_X4_inRange (xL X) T (xB X) 6 p1) ggX2_changeCone_X4_inRange 23 rfl k_X2_changeCone_4 k_X2_changeCone_3 rfl rfl rfl ⟨Nat.le_of_ble_eq_true rfl, Nat.le_of_ble_eq_true rfl⟩ ⟨Nat.zero_le _, Nat.zero_le _⟩ ⟨by decide +kernel, by decide +kernel, by decide +kernel⟩ rfl [] rfl rfl (by decide) rfl (Nat.le_of_ble_eq_true rfl) dX2_changeCone_3 (ws' := wSt T a w h k d u) rfl ?_
  refine g_if_ne hX 12 dX2_changeCone_6 (by decide) (fun c_6 => ?_) (fun c_6 => ?_)
  · skip
    refine g_aload_n hX dX2_changeCone_12 rfl 0 rfl ?_
    refine g_get hX 2 h_X2_changeCone_X2 0 rfl rfl 3 (by decide) k_X2_changeCone_0 rfl (v := .int (u.1 0)) rfl dX2_changeCone_13 ?_
    refine g_istore_n hX (lv' := [(2, .int (u.1 0)), (0, .ref a), (1, .int p1)]) dX2_changeCone_16 rfl (by decide) rfl ?_
    refine g_aload_n hX dX2_changeCone_17 rfl 1 rfl ?_
    refine g_iload_n hX dX2_changeCone_18 rfl 2 rfl ?_
    refine g_put hX 2 h_X2_changeCone_X2 0 rfl rfl 3 (by decide) tyX2 tyX2_ok nmX2 k_X2_changeCone_0 rfl rfl rfl rfl rfl (Nat.le_of_ble_eq_true rfl) dX2_changeCone_19 (ws' := wSt T a w h k d (upd u.1 0 p1, u.2.1, u.2.2.1, u.2.2.2)) rfl ?_
    refine g_aload_n hX dX2_changeCone_22 rfl 1 rfl ?_
    refine g_aload_n hX dX2_changeCone_23 rfl 1 rfl ?_
    refine g_get hX 2 h_X2_changeCone_X2 0 rfl rfl 0 (by decide) k_X2_changeCone_1 rfl (v := .ref w) rfl dX2_changeCone_24 ?_
    refine g_getN hX 3 h_X2_changeCone_X3 1 rfl rfl 1 (by decide) 0 rfl rfl (v := .int (u.2.1.1 0)) rfl dX2_changeCone_27 ?_
    refine g_if_le hX 37 dX2_changeCone_30 (by decide) (fun c_30 => ?_) (fun c_30 => ?_)
    · skip
      refine g_iconst hX (v := 0) dX2_changeCone_37 (by decide) ?_
      refine g_put hX 2 h_X2_changeCone_X2 0 rfl rfl 5 (by decide) tyX2 tyX2_ok nmX2 k_X2_changeCone_2 rfl rfl rfl rfl rfl (Nat.le_of_ble_eq_true rfl) dX2_changeCone_38 (ws' := wSt T a w h k d (upd (upd u.1 0 p1) 2 0, u.2.1, u.2.2.1, u.2.2.2)) rfl ?_
      refine g_iload_n hX dX2_changeCone_41 rfl 0 rfl ?_
      have e9 : F_X2_changeCone u p1 = ((u.1 0), (upd (upd u.1 0 p1) 2 0, u.2.1, u.2.2.1, u.2.2.2)) := by simp only [F_X2_changeCone, eq_false c_6, eq_true c_30, if_true, if_false]
      rw [e9]
      exact g_iret hX dX2_changeCone_42 rfl rfl
    · skip
      refine g_iconst hX (v := 1) dX2_changeCone_33 (by decide) ?_
      refine g_goto hX 38 dX2_changeCone_34 (by decide) ?_
      refine g_put hX 2 h_X2_changeCone_X2 0 rfl rfl 5 (by decide) tyX2 tyX2_ok nmX2 k_X2_changeCone_2 rfl rfl rfl rfl rfl (Nat.le_of_ble_eq_true rfl) dX2_changeCone_38 (ws' := wSt T a w h k d (upd (upd u.1 0 p1) 2 1, u.2.1, u.2.2.1, u.2.2.2)) rfl ?_
      refine g_iload_n hX dX2_changeCone_41 rfl 0 rfl ?_
      have e9 : F_X2_changeCone u p1 = ((u.1 0), (upd (upd u.1 0 p1) 2 1, u.2.1, u.2.2.1, u.2.2.2)) := by simp only [F_X2_changeCone, eq_false c_6, eq_false c_30, if_true, if_false]
      rw [e9]
      exact g_iret hX dX2_changeCone_42 rfl rfl
  · skip
    refine g_bipush hX (v := (-2)) dX2_changeCone_9 (by decide) ?_
    have e9 : F_X2_changeCone u p1 = ((-2), u) := by simp only [F_X2_changeCone, eq_true c_6, if_true, if_false]
    rw [e9]
    exact g_iret hX dX2_changeCone_11 rfl rfl
/-! X2_changeNumber -/
def rmX2_changeNumber : Room := { frames := 2, cells := 0, slots := 0, locals := 41 }
theorem k_X2_changeNumber_0 : Cond.fieldLink RX2 30 RX2 (TX2 2).2.1 (TX2 2).2.2.1 ∈ wsX2_changeNumber := List.mem_of_getElem? (i := 1) rfl
theorem h_X2_changeNumber_X2 : ∀ w ∈ u_ws RX2 TX2 11, w ∈ wsX2_changeNumber := fun w h => List.mem_cons_of_mem _ (List.mem_append_right _ h)
theorem k_X2_changeNumber_2 : Cond.initialized RX4 ∈ wsX2_changeNumber := List.mem_of_getElem? (i := 3) rfl
theorem k_X2_changeNumber_1 : Cond.static yX4_inRange ∈ wsX2_changeNumber := List.mem_of_getElem? (i := 2) rfl
def F_X2_changeNumber (u : SV) (p1 : Int32) (p2 : Int32) : Int32 × SV :=
  (if p1 < 0 then ((-1), u) else (if p1 < 5 then (if (F_X4_inRange p1 p2) = 0 then ((-2), u) else (if (u.2.2.2 (Int32.toNatClampNeg p1)) = p2 then ((-5), u) else ((u.2.2.2 (Int32.toNatClampNeg p1)), (u.1, u.2.1, u.2.2.1, (upd u.2.2.2 (Int32.toNatClampNeg p1) p2))))) else ((-1), u)))
set_option maxHeartbeats 4000000 in
set_option maxRecDepth 100000 in
theorem c_X2_changeNumber (l : Launch) (T : TT) (b0 : Nat) (a w h k d : Nat) (u : SV) (p1 : Int32) (p2 : Int32)  : ConI l T b0 yX2_changeNumber wsX2_changeNumber rmX2_changeNumber [.ref a, .int p1, .int p2] (wSt T a w h k d u) ((F_X2_changeNumber u p1 p2).1) (wSt T a w h k d ((F_X2_changeNumber u p1 p2).2)) := by
  refine conI_of (cc := cX2_changeNumber) (maxL := 4) (ret := (some .int)) (lv0 := [(0, .ref a), (1, .int p1), (2, .int p2)]) (by decide +kernel) rfl (Nat.le_of_ble_eq_true rfl) rfl (fun X hX => ?_)
  refine g_iload_n hX dX2_changeNumber_0 rfl 1 rfl ?_
  refine g_if_lt hX 13 dX2_changeNumber_1 (by decide) (fun c_1 => ?_) (fun c_1 => ?_)
  · skip
    refine g_iconst hX (v := (-1)) dX2_changeNumber_13 (by decide) ?_
    have e9 : F_X2_changeNumber u p1 p2 = ((-1), u) := by simp only [F_X2_changeNumber, eq_true c_1, if_true, if_false]
    rw [e9]
    exact g_iret hX dX2_changeNumber_14 rfl rfl
  · skip
    refine g_iload_n hX dX2_changeNumber_4 rfl 1 rfl ?_
    refine g_aload_n hX dX2_changeNumber_5 rfl 0 rfl ?_
    refine g_get hX 2 h_X2_changeNumber_X2 0 rfl rfl 2 (by decide) k_X2_changeNumber_0 rfl (v := .ref d) rfl dX2_changeNumber_6 ?_
    refine g_alen hX 4 0 rfl rfl (v := 5) rfl dX2_changeNumber_9 ?_
    refine g_icmp_lt hX 15 dX2_changeNumber_10 (by decide) (fun c_10 => ?_) (fun c_10 => ?_)
    · skip
      refine g_iload_n hX dX2_changeNumber_15 rfl 1 rfl ?_
      refine g_iload_n hX dX2_changeNumber_16 rfl 2 rfl ?_
      refine g_cSN_I hX (n := 2) (As := [.int p1, .int p2]) (wc := []) (w1 := []) (rv := (F_X4_inRange p1 p2)) (st := []) (c_X4_inRange (xL X) T (xB X) p1 p2) ggX2_changeNumber_X4_inRange 23 rfl k_X2_changeNumber_2 k_X2_changeNumber_1 rfl rfl rfl ⟨Nat.le_of_ble_eq_true rfl, Nat.le_of_ble_eq_true rfl⟩ ⟨Nat.zero_le _, Nat.zero_le _⟩ ⟨by decide +kernel, by decide +kernel, by decide +kernel⟩ rfl [] rfl rfl (by decide) rfl (Nat.le_of_ble_eq_true rfl) dX2_changeNumber_17 (ws' := wSt T a w h k d u) rfl ?_
      refine g_if_ne hX 26 dX2_changeNumber_20 (by decide) (fun c_20 => ?_) (fun c_20 => ?_)
      · skip
        refine g_aload_n hX dX2_changeNumber_26 rfl 0 rfl ?_
        refine g_get hX 2 h_X2_changeNumber_X2 0 rfl rfl 2 (by decide) k_X2_changeNumber_0 rfl (v := .ref d) rfl dX2_changeNumber_27 ?_
        refine g_iload_n hX dX2_changeNumber_30 rfl 1 rfl ?_
        refine g_iald hX 4 rfl (vin_lt c_1 c_10 (by decide)) (v := (u.2.2.2 (Int32.toNatClampNeg p1))) (congrArg _ rfl) dX2_changeNumber_31 ?_
        refine g_istore_n hX (lv' := [(3, .int (u.2.2.2 (Int32.toNatClampNeg p1))), (0, .ref a), (1, .int p1), (2, .int p2)]) dX2_changeNumber_32 rfl (by decide) rfl ?_
        refine g_iload_n hX dX2_changeNumber_33 rfl 0 rfl ?_
        refine g_iload_n hX dX2_changeNumber_34 rfl 3 rfl ?_
        refine g_icmp_ne hX 41 dX2_changeNumber_35 (by decide) (fun c_35 => ?_) (fun c_35 => ?_)
        · skip
          refine g_aload_n hX dX2_changeNumber_41 rfl 1 rfl ?_
          refine g_get hX 2 h_X2_changeNumber_X2 0 rfl rfl 2 (by decide) k_X2_changeNumber_0 rfl (v := .ref d) rfl dX2_changeNumber_42 ?_
          refine g_iload_n hX dX2_changeNumber_45 rfl 2 rfl ?_
          refine g_iload_n hX dX2_changeNumber_46 rfl 3 rfl ?_
          refine g_iast hX 4 rfl (vin_lt c_1 c_10 (by decide)) dX2_changeNumber_47 (ws' := wSt T a w h k d (u.1, u.2.1, u.2.2.1, (upd u.2.2.2 (Int32.toNatClampNeg p1) p2))) rfl ?_
          refine g_iload_n hX dX2_changeNumber_48 rfl 0 rfl ?_
          have e9 : F_X2_changeNumber u p1 p2 = ((u.2.2.2 (Int32.toNatClampNeg p1)), (u.1, u.2.1, u.2.2.1, (upd u.2.2.2 (Int32.toNatClampNeg p1) p2))) := by simp only [F_X2_changeNumber, eq_false c_1, eq_true c_10, eq_false c_20, eq_false c_35, if_true, if_false]
          rw [e9]
          exact g_iret hX dX2_changeNumber_49 rfl rfl
        · skip
          refine g_bipush hX (v := (-5)) dX2_changeNumber_38 (by decide) ?_
          have e9 : F_X2_changeNumber u p1 p2 = ((-5), u) := by simp only [F_X2_changeNumber, eq_false c_1, eq_true c_10, eq_false c_20, eq_true c_35, if_true, if_false]
          rw [e9]
          exact g_iret hX dX2_changeNumber_40 rfl rfl
      · skip
        refine g_bipush hX (v := (-2)) dX2_changeNumber_23 (by decide) ?_
        have e9 : F_X2_changeNumber u p1 p2 = ((-2), u) := by simp only [F_X2_changeNumber, eq_false c_1, eq_true c_10, eq_true c_20, if_true, if_false]
        rw [e9]
        exact g_iret hX dX2_changeNumber_25 rfl rfl
    · skip
      refine g_iconst hX (v := (-1)) dX2_changeNumber_13 (by decide) ?_
      have e9 : F_X2_changeNumber u p1 p2 = ((-1), u) := by simp only [F_X2_changeNumber, eq_false c_1, eq_false c_10, if_true, if_false]
      rw [e9]
      exact g_iret hX dX2_changeNumber_14 rfl rfl
/-! X2_takePackageOff -/
def rmX2_takePackageOff : Room := { frames := 2, cells := 0, slots := 0, locals := 43 }
theorem k_X2_takePackageOff_0 : Cond.fieldLink RX2 12 RX2 (TX2 0).2.1 (TX2 0).2.2.1 ∈ wsX2_takePackageOff := List.mem_of_getElem? (i := 1) rfl
theorem h_X2_takePackageOff_X2 : ∀ w ∈ u_ws RX2 TX2 11, w ∈ wsX2_takePackageOff := fun w h => List.mem_cons_of_mem _ (List.mem_append_left _ (List.mem_append_right _ h))
theorem h_X2_takePackageOff_X3 : ∀ w ∈ u_ws RX3 TX3 4, w ∈ wsX2_takePackageOff := fun w h => List.mem_cons_of_mem _ (List.mem_append_right _ h)
theorem k_X2_takePackageOff_7 : Cond.initialized RX3 ∈ wsX2_takePackageOff := List.mem_of_getElem? (i := 8) rfl
theorem k_X2_takePackageOff_6 : Cond.instanceMethod yX3_clear ∈ wsX2_takePackageOff := List.mem_of_getElem? (i := 7) rfl
theorem k_X2_takePackageOff_8 : Cond.selects RX3 yX3_clear yX3_clear ∈ wsX2_takePackageOff := List.mem_of_getElem? (i := 9) rfl
theorem k_X2_takePackageOff_1 : Cond.fieldLink RX2 18 RX2 (TX2 1).2.1 (TX2 1).2.2.1 ∈ wsX2_takePackageOff := List.mem_of_getElem? (i := 2) rfl
theorem k_X2_takePackageOff_2 : Cond.fieldLink RX2 40 RX2 (TX2 5).2.1 (TX2 5).2.2.1 ∈ wsX2_takePackageOff := List.mem_of_getElem? (i := 3) rfl
theorem k_X2_takePackageOff_3 : Cond.fieldLink RX2 44 RX2 (TX2 6).2.1 (TX2 6).2.2.1 ∈ wsX2_takePackageOff := List.mem_of_getElem? (i := 4) rfl
theorem k_X2_takePackageOff_4 : Cond.fieldLink RX2 47 RX2 (TX2 7).2.1 (TX2 7).2.2.1 ∈ wsX2_takePackageOff := List.mem_of_getElem? (i := 5) rfl
theorem k_X2_takePackageOff_5 : Cond.fieldLink RX2 56 RX2 (TX2 10).2.1 (TX2 10).2.2.1 ∈ wsX2_takePackageOff := List.mem_of_getElem? (i := 6) rfl
def F_X2_takePackageOff (u : SV) : Int32 × SV :=
  (if (u.2.1.1 0) = 0 then ((-5), u) else (let z_19 := F_X3_clear u.2.1
  (let z_27 := F_J7_fill_53178 u.2.2.1 0
  ((u.2.1.1 0), (upd (upd (upd (upd u.1 2 0) 3 (-1)) 4 0) 7 ((u.1 7) + 1), z_19, z_27, u.2.2.2)))))
set_option maxHeartbeats 4000000 in
set_option maxRecDepth 100000 in
theorem c_X2_takePackageOff (l : Launch) (T : TT) (b0 : Nat) (a w h k d : Nat) (u : SV)  : ConI l T b0 yX2_takePackageOff wsX2_takePackageOff rmX2_takePackageOff [.ref a] (wSt T a w h k d u) ((F_X2_takePackageOff u).1) (wSt T a w h k d ((F_X2_takePackageOff u).2)) := by
  refine conI_of (cc := cX2_takePackageOff) (maxL := 2) (ret := (some .int)) (lv0 := [(0, .ref a)]) (by decide +kernel) rfl (Nat.le_of_ble_eq_true rfl) rfl (fun X hX => ?_)
  refine g_aload_n hX dX2_takePackageOff_0 rfl 0 rfl ?_
  refine g_get hX 2 h_X2_takePackageOff_X2 0 rfl rfl 0 (by decide) k_X2_takePackageOff_0 rfl (v := .ref w) rfl dX2_takePackageOff_1 ?_
  refine g_getN hX 3 h_X2_takePackageOff_X3 1 rfl rfl 1 (by decide) 0 rfl rfl (v := .int (u.2.1.1 0)) rfl dX2_takePackageOff_4 ?_
  refine g_istore_n hX (lv' := [(1, .int (u.2.1.1 0)), (0, .ref a)]) dX2_takePackageOff_7 rfl (by decide) rfl ?_
  refine g_iload_n hX dX2_takePackageOff_8 rfl 0 rfl ?_
  refine g_if_ne hX 15 dX2_takePackageOff_9 (by decide) (fun c_9 => ?_) (fun c_9 => ?_)
  · skip
    refine g_aload_n hX dX2_takePackageOff_15 rfl 1 rfl ?_
    refine g_get hX 2 h_X2_takePackageOff_X2 0 rfl rfl 0 (by decide) k_X2_takePackageOff_0 rfl (v := .ref w) rfl dX2_takePackageOff_16 ?_
    obtain ⟨z_19, hz_19⟩ : ∃ z : WV, z = F_X3_clear u.2.1 := ⟨_, rfl⟩
    refine g_cVN_V hX (n := 0) (As := []) (wc := wWr T w h u.2.1) (w1 := wWr T w h z_19) (st := []) 1 rfl rfl (by rw [hz_19]; exact (c_X3_clear (xL X) T (xB X) w h u.2.1)) ggX2_takePackageOff_X3_clear 36 rfl k_X2_takePackageOff_7 k_X2_takePackageOff_6 k_X2_takePackageOff_8 rfl rfl rfl ⟨Nat.le_of_ble_eq_true rfl, Nat.le_of_ble_eq_true rfl⟩ ⟨Nat.zero_le _, Nat.zero_le _⟩ ⟨by decide +kernel, by decide +kernel, by decide +kernel⟩ rfl [1, 2] rfl rfl (by decide) rfl (Nat.le_of_ble_eq_true rfl) dX2_takePackageOff_19 (ws' := wSt T a w h k d (u.1, z_19, u.2.2.1, u.2.2.2)) rfl ?_
    refine g_aload_n hX dX2_takePackageOff_22 rfl 1 rfl ?_
    refine g_get hX 2 h_X2_takePackageOff_X2 0 rfl rfl 1 (by decide) k_X2_takePackageOff_1 rfl (v := .ref k) rfl dX2_takePackageOff_23 ?_
    refine g_iconst hX (v := 0) dX2_takePackageOff_26 (by decide) ?_
    obtain ⟨z_27, hz_27⟩ : ∃ z : (Nat → Int32), z = F_J7_fill_53178 u.2.2.1 0 := ⟨_, rfl⟩
    refine g_cS_V hX (n := 2) (As := [.ref k, .int 0]) (wc := wAr T k 12 u.2.2.1) (w1 := wAr T k 12 z_27) (st := []) (by rw [hz_27]; exact (c_J7_fill_53178 (xL X) T (xB X) k 12 u.2.2.1 0 (by decide))) gX2_takePackageOff_J7_fill_53178 rfl rfl rfl ⟨Nat.le_of_ble_eq_true rfl, Nat.le_of_ble_eq_true rfl⟩ ⟨Nat.zero_le _, Nat.zero_le _⟩ ⟨by decide +kernel, by decide +kernel, by decide +kernel⟩ rfl [3] rfl rfl (by decide) rfl (Nat.le_of_ble_eq_true rfl) dX2_takePackageOff_27 (ws' := wSt T a w h k d (u.1, z_19, z_27, u.2.2.2)) rfl ?_
    refine g_aload_n hX dX2_takePackageOff_30 rfl 1 rfl ?_
    refine g_iconst hX (v := 0) dX2_takePackageOff_31 (by decide) ?_
    refine g_put hX 2 h_X2_takePackageOff_X2 0 rfl rfl 5 (by decide) tyX2 tyX2_ok nmX2 k_X2_takePackageOff_2 rfl rfl rfl rfl rfl (Nat.le_of_ble_eq_true rfl) dX2_takePackageOff_32 (ws' := wSt T a w h k d (upd u.1 2 0, z_19, z_27, u.2.2.2)) rfl ?_
    refine g_aload_n hX dX2_takePackageOff_35 rfl 1 rfl ?_
    refine g_iconst hX (v := (-1)) dX2_takePackageOff_36 (by decide) ?_
    refine g_put hX 2 h_X2_takePackageOff_X2 0 rfl rfl 6 (by decide) tyX2 tyX2_ok nmX2 k_X2_takePackageOff_3 rfl rfl rfl rfl rfl (Nat.le_of_ble_eq_true rfl) dX2_takePackageOff_37 (ws' := wSt T a w h k d (upd (upd u.1 2 0) 3 (-1), z_19, z_27, u.2.2.2)) rfl ?_
    refine g_aload_n hX dX2_takePackageOff_40 rfl 1 rfl ?_
    refine g_iconst hX (v := 0) dX2_takePackageOff_41 (by decide) ?_
    refine g_put hX 2 h_X2_takePackageOff_X2 0 rfl rfl 7 (by decide) tyX2 tyX2_ok nmX2 k_X2_takePackageOff_4 rfl rfl rfl rfl rfl (Nat.le_of_ble_eq_true rfl) dX2_takePackageOff_42 (ws' := wSt T a w h k d (upd (upd (upd u.1 2 0) 3 (-1)) 4 0, z_19, z_27, u.2.2.2)) rfl ?_
    refine g_aload_n hX dX2_takePackageOff_45 rfl 1 rfl ?_
    refine g_dup hX dX2_takePackageOff_46 rfl ?_
    refine g_get hX 2 h_X2_takePackageOff_X2 0 rfl rfl 10 (by decide) k_X2_takePackageOff_5 rfl (v := .int (u.1 7)) rfl dX2_takePackageOff_47 ?_
    refine g_iconst hX (v := 1) dX2_takePackageOff_50 (by decide) ?_
    refine g_iadd hX dX2_takePackageOff_51 ?_
    refine g_put hX 2 h_X2_takePackageOff_X2 0 rfl rfl 10 (by decide) tyX2 tyX2_ok nmX2 k_X2_takePackageOff_5 rfl rfl rfl rfl rfl (Nat.le_of_ble_eq_true rfl) dX2_takePackageOff_52 (ws' := wSt T a w h k d (upd (upd (upd (upd u.1 2 0) 3 (-1)) 4 0) 7 ((u.1 7) + 1), z_19, z_27, u.2.2.2)) rfl ?_
    refine g_iload_n hX dX2_takePackageOff_55 rfl 0 rfl ?_
    have e9 : F_X2_takePackageOff u = ((u.2.1.1 0), (upd (upd (upd (upd u.1 2 0) 3 (-1)) 4 0) 7 ((u.1 7) + 1), z_19, z_27, u.2.2.2)) := by simp only [F_X2_takePackageOff, ← hz_19, ← hz_27, eq_false c_9, if_true, if_false]
    rw [e9]
    exact g_iret hX dX2_takePackageOff_56 rfl rfl
  · skip
    refine g_bipush hX (v := (-5)) dX2_takePackageOff_12 (by decide) ?_
    have e9 : F_X2_takePackageOff u = ((-5), u) := by simp only [F_X2_takePackageOff, eq_true c_9, if_true, if_false]
    rw [e9]
    exact g_iret hX dX2_takePackageOff_14 rfl rfl
/-! X2_turnOften -/
def rmX2_turnOften : Room := { frames := 3, cells := 0, slots := 0, locals := 67 }
theorem k_X2_turnOften_2 : Cond.initialized RX4 ∈ wsX2_turnOften := List.mem_of_getElem? (i := 3) rfl
theorem k_X2_turnOften_1 : Cond.static yX4_inRange ∈ wsX2_turnOften := List.mem_of_getElem? (i := 2) rfl
theorem k_X2_turnOften_0 : Cond.fieldLink RX2 12 RX2 (TX2 0).2.1 (TX2 0).2.2.1 ∈ wsX2_turnOften := List.mem_of_getElem? (i := 1) rfl
theorem h_X2_turnOften_X2 : ∀ w ∈ u_ws RX2 TX2 11, w ∈ wsX2_turnOften := fun w h => List.mem_cons_of_mem _ (List.mem_append_left _ (List.mem_append_right _ h))
theorem h_X2_turnOften_X3 : ∀ w ∈ u_ws RX3 TX3 4, w ∈ wsX2_turnOften := fun w h => List.mem_cons_of_mem _ (List.mem_append_right _ h)
def K_X2_turnOften_31 : Nat → SV → Int32 → Nat → Int32 → Int32 × SV
  | 0, u, p1, j, e => (0, u)
  | n + 1, u, p1, j, e => (if p1 ≤ (nI j) then (((u.2.1.1 0) - e), u) else (if (F_X2_isIdle u) = 0 then (let z_44 := F_X2_turnOnce u
  K_X2_turnOften_31 n z_44 p1 (j + 1) e) else (((u.2.1.1 0) - e), u)))
def F_X2_turnOften (u : SV) (p1 : Int32) : Int32 × SV :=
  (if (F_X4_inRange 5 p1) = 0 then ((-2), u) else (if (F_X2_isIdle u) = 0 then K_X2_turnOften_31 501 u p1 0 (u.2.1.1 0) else ((-5), u)))
set_option maxHeartbeats 4000000 in
set_option maxRecDepth 100000 in
theorem k_X2_turnOften_31 {T : TT} {X : CX} (hX : Fit T X (yX2_turnOften).cls 4 wsX2_turnOften cX2_turnOften (some .int) rmX2_turnOften) (a w h k d : Nat) : ∀ (n : Nat) (u : SV) (p1 : Int32) (j : Nat) (e : Int32) (hn : j + n = 501) (hj : j ≤ 500) (hp : p1.toInt ≤ 500), G T X (QI T X 0 0 ((K_X2_turnOften_31 n u p1 j e).1) (wSt T a w h k d ((K_X2_turnOften_31 n u p1 j e).2))) 0 0 (wSt T a w h k d u) [(3, .int (nI j)), (2, .int e), (0, .ref a), (1, .int p1)] 31 [] := by
  intro n
  induction n with
  | zero =>
    intro u p1 j e hn hj hp
    exact absurd hn (by omega)
  | succ n ih =>
    intro u p1 j e hn hj hp
    refine g_iload_n hX dX2_turnOften_31 rfl 0 rfl ?_
    refine g_iload_n hX dX2_turnOften_32 rfl 3 rfl ?_
    refine g_icmp_ge hX 53 dX2_turnOften_33 (by decide) (fun c_33 => ?_) (fun c_33 => ?_)
    · skip
      refine g_aload_n hX dX2_turnOften_53 rfl 2 rfl ?_
      refine g_get hX 2 h_X2_turnOften_X2 0 rfl rfl 0 (by decide) k_X2_turnOften_0 rfl (v := .ref w) rfl dX2_turnOften_54 ?_
      refine g_getN hX 3 h_X2_turnOften_X3 1 rfl rfl 1 (by decide) 0 rfl rfl (v := .int (u.2.1.1 0)) rfl dX2_turnOften_57 ?_
      refine g_iload_n hX dX2_turnOften_60 rfl 1 rfl ?_
      refine g_isub hX dX2_turnOften_61 ?_
      have e9 : K_X2_turnOften_31 (n + 1) u p1 j e = (((u.2.1.1 0) - e), u) := by simp only [K_X2_turnOften_31, eq_true c_33, if_true, if_false]
      rw [e9]
      exact g_iret hX dX2_turnOften_62 rfl rfl
    · skip
      have hlt : j < 500 := nlt_p c_33 hp (by omega)
      refine g_aload_n hX dX2_turnOften_36 rfl 2 rfl ?_
      refine g_cV_I hX (n := 0) (As := []) (wc := wSt T a w h k d u) (w1 := wSt T a w h k d u) (rv := (F_X2_isIdle u)) (st := []) 0 rfl rfl (c_X2_isIdle (xL X) T (xB X) a w h k d u) gX2_turnOften_X2_isIdle rfl rfl rfl ⟨Nat.le_of_ble_eq_true rfl, Nat.le_of_ble_eq_true rfl⟩ ⟨Nat.zero_le _, Nat.zero_le _⟩ ⟨by decide +kernel, by decide +kernel, by decide +kernel⟩ rfl [0, 1, 2, 3, 4] rfl rfl (by decide) rfl (Nat.le_of_ble_eq_true rfl) dX2_turnOften_37 (ws' := wSt T a w h k d u) rfl ?_
      refine g_if_ne hX 53 dX2_turnOften_40 (by decide) (fun c_40 => ?_) (fun c_40 => ?_)
      · skip
        refine g_aload_n hX dX2_turnOften_53 rfl 2 rfl ?_
        refine g_get hX 2 h_X2_turnOften_X2 0 rfl rfl 0 (by decide) k_X2_turnOften_0 rfl (v := .ref w) rfl dX2_turnOften_54 ?_
        refine g_getN hX 3 h_X2_turnOften_X3 1 rfl rfl 1 (by decide) 0 rfl rfl (v := .int (u.2.1.1 0)) rfl dX2_turnOften_57 ?_
        refine g_iload_n hX dX2_turnOften_60 rfl 1 rfl ?_
        refine g_isub hX dX2_turnOften_61 ?_
        have e9 : K_X2_turnOften_31 (n + 1) u p1 j e = (((u.2.1.1 0) - e), u) := by simp only [K_X2_turnOften_31, eq_false c_33, eq_false c_40, if_true, if_false]
        rw [e9]
        exact g_iret hX dX2_turnOften_62 rfl rfl
      · skip
        refine g_aload_n hX dX2_turnOften_43 rfl 2 rfl ?_
        obtain ⟨z_44, hz_44⟩ : ∃ z : SV, z = F_X2_turnOnce u := ⟨_, rfl⟩
        refine g_cV_V hX (n := 0) (As := []) (wc := wSt T a w h k d u) (w1 := wSt T a w h k d z_44) (st := []) 0 rfl rfl (by rw [hz_44]; exact (c_X2_turnOnce (xL X) T (xB X) a w h k d u)) gX2_turnOften_X2_turnOnce rfl rfl rfl ⟨Nat.le_of_ble_eq_true rfl, Nat.le_of_ble_eq_true rfl⟩ ⟨Nat.zero_le _, Nat.zero_le _⟩ ⟨by decide +kernel, by decide +kernel, by decide +kernel⟩ rfl [0, 1, 2, 3, 4] rfl rfl (by decide) rfl (Nat.le_of_ble_eq_true rfl) dX2_turnOften_44 (ws' := wSt T a w h k d z_44) rfl ?_
        refine g_iinc hX (lv' := [(3, .int (nI (j + 1))), (2, .int e), (0, .ref a), (1, .int p1)]) (v := (nI (j + 1))) 0 dX2_turnOften_47 rfl (nI_1 _) (by decide) rfl ?_
        refine g_goto hX 31 dX2_turnOften_50 (by decide) ?_
        have e9 : K_X2_turnOften_31 (n + 1) u p1 j e = K_X2_turnOften_31 n z_44 p1 (j + 1) e := by simp only [K_X2_turnOften_31, ← hz_44, eq_false c_33, eq_true c_40, if_true, if_false]
        rw [e9]
        refine g_lv (lv' := [(3, .int (nI (j + 1))), (2, .int e), (0, .ref a), (1, .int p1)]) [0, 1, 2, 3] rfl ?_
        exact ih z_44 p1 (j + 1) e (by omega) (by omega) hp
set_option maxHeartbeats 4000000 in
set_option maxRecDepth 100000 in
theorem c_X2_turnOften (l : Launch) (T : TT) (b0 : Nat) (a w h k d : Nat) (u : SV) (p1 : Int32)  : ConI l T b0 yX2_turnOften wsX2_turnOften rmX2_turnOften [.ref a, .int p1] (wSt T a w h k d u) ((F_X2_turnOften u p1).1) (wSt T a w h k d ((F_X2_turnOften u p1).2)) := by
  refine conI_of (cc := cX2_turnOften) (maxL := 4) (ret := (some .int)) (lv0 := [(0, .ref a), (1, .int p1)]) (by decide +kernel) rfl (Nat.le_of_ble_eq_true rfl) rfl (fun X hX => ?_)
  refine g_iconst hX (v := 5) dX2_turnOften_0 (by decide) ?_
  refine g_iload_n hX dX2_turnOften_1 rfl 1 rfl ?_
  refine g_cSN_I hX (n := 2) (As := [.int 5, .int p1]) (wc := []) (w1 := []) (rv := (F_X4_inRange 5 p1)) (st := []) (c_X4_inRange (xL X) T (xB X) 5 p1) ggX2_turnOften_X4_inRange 23 rfl k_X2_turnOften_2 k_X2_turnOften_1 rfl rfl rfl ⟨Nat.le_of_ble_eq_true rfl, Nat.le_of_ble_eq_true rfl⟩ ⟨Nat.zero_le _, Nat.zero_le _⟩ ⟨by decide +kernel, by decide +kernel, by decide +kernel⟩ rfl [] rfl rfl (by decide) rfl (Nat.le_of_ble_eq_true rfl) dX2_turnOften_2 (ws' := wSt T a w h k d u) rfl ?_
  refine g_if_ne hX 11 dX2_turnOften_5 (by decide) (fun c_5 => ?_) (fun c_5 => ?_)
  · skip
    refine g_aload_n hX dX2_turnOften_11 rfl 0 rfl ?_
    refine g_cV_I hX (n := 0) (As := []) (wc := wSt T a w h k d u) (w1 := wSt T a w h k d u) (rv := (F_X2_isIdle u)) (st := []) 0 rfl rfl (c_X2_isIdle (xL X) T (xB X) a w h k d u) gX2_turnOften_X2_isIdle rfl rfl rfl ⟨Nat.le_of_ble_eq_true rfl, Nat.le_of_ble_eq_true rfl⟩ ⟨Nat.zero_le _, Nat.zero_le _⟩ ⟨by decide +kernel, by decide +kernel, by decide +kernel⟩ rfl [0, 1, 2, 3, 4] rfl rfl (by decide) rfl (Nat.le_of_ble_eq_true rfl) dX2_turnOften_12 (ws' := wSt T a w h k d u) rfl ?_
    refine g_if_eq hX 21 dX2_turnOften_15 (by decide) (fun c_15 => ?_) (fun c_15 => ?_)
    · skip
      refine g_aload_n hX dX2_turnOften_21 rfl 0 rfl ?_
      refine g_get hX 2 h_X2_turnOften_X2 0 rfl rfl 0 (by decide) k_X2_turnOften_0 rfl (v := .ref w) rfl dX2_turnOften_22 ?_
      refine g_getN hX 3 h_X2_turnOften_X3 1 rfl rfl 1 (by decide) 0 rfl rfl (v := .int (u.2.1.1 0)) rfl dX2_turnOften_25 ?_
      refine g_istore_n hX (lv' := [(2, .int (u.2.1.1 0)), (0, .ref a), (1, .int p1)]) dX2_turnOften_28 rfl (by decide) rfl ?_
      refine g_iconst hX (v := 0) dX2_turnOften_29 (by decide) ?_
      refine g_istore_n hX (lv' := [(3, .int 0), (2, .int (u.2.1.1 0)), (0, .ref a), (1, .int p1)]) dX2_turnOften_30 rfl (by decide) rfl ?_
      have e9 : F_X2_turnOften u p1 = K_X2_turnOften_31 501 u p1 0 (u.2.1.1 0) := by simp only [F_X2_turnOften, eq_false c_5, eq_true c_15, if_true, if_false]
      rw [e9]
      refine g_lv (lv' := [(3, .int (nI 0)), (2, .int (u.2.1.1 0)), (0, .ref a), (1, .int p1)]) [0, 1, 2, 3] rfl ?_
      exact k_X2_turnOften_31 hX a w h k d 501 u p1 0 (u.2.1.1 0) (by omega) (by omega) (inr5 c_5)
    · skip
      refine g_bipush hX (v := (-5)) dX2_turnOften_18 (by decide) ?_
      have e9 : F_X2_turnOften u p1 = ((-5), u) := by simp only [F_X2_turnOften, eq_false c_5, eq_false c_15, if_true, if_false]
      rw [e9]
      exact g_iret hX dX2_turnOften_20 rfl rfl
  · skip
    refine g_bipush hX (v := (-2)) dX2_turnOften_8 (by decide) ?_
    have e9 : F_X2_turnOften u p1 = ((-2), u) := by simp only [F_X2_turnOften, eq_true c_5, if_true, if_false]
    rw [e9]
    exact g_iret hX dX2_turnOften_10 rfl rfl
/-! X2_obey -/
def rmX2_obey : Room := { frames := 4, cells := 0, slots := 0, locals := 90 }
def F_X2_obey (u : SV) (p1 : Int32) (p2 : Int32) : Int32 × SV :=
  (if p1 = 5 then (let z_30 := F_X2_turnOften u p2
  (z_30.1, z_30.2)) else (if p1 = 6 then (let z_36 := F_X2_changeCone u p2
  (z_36.1, z_36.2)) else (if p1 = 7 then (let z_41 := F_X2_tieKnot u
  (z_41.1, z_41.2)) else (let z_48 := F_X2_changeNumber u p1 p2
  (z_48.1, z_48.2)))))
set_option maxHeartbeats 4000000 in
set_option maxRecDepth 100000 in
theorem c_X2_obey (l : Launch) (T : TT) (b0 : Nat) (a w h k d : Nat) (u : SV) (p1 : Int32) (p2 : Int32)  : ConI l T b0 yX2_obey wsX2_obey rmX2_obey [.ref a, .int p1, .int p2] (wSt T a w h k d u) ((F_X2_obey u p1 p2).1) (wSt T a w h k d ((F_X2_obey u p1 p2).2)) := by
  refine conI_of (cc := cX2_obey) (maxL := 3) (ret := (some .int)) (lv0 := [(0, .ref a), (1, .int p1), (2, .int p2)]) (by decide +kernel) rfl (Nat.le_of_ble_eq_true rfl) rfl (fun X hX => ?_)
  refine g_iload_n hX dX2_obey_0 rfl 1 rfl ?_
  by_cases c_1_5 : p1 = 5
  · skip
    refine g_tabIn hX (off := 27) 28 dX2_obey_1 (by rw [c_1_5]; decide) (by rw [c_1_5]; decide) (by rw [c_1_5]; decide) (by decide) ?_
    refine g_aload_n hX dX2_obey_28 rfl 0 rfl ?_
    refine g_iload_n hX dX2_obey_29 rfl 2 rfl ?_
    obtain ⟨z_30, hz_30⟩ : ∃ z : Int32 × SV, z = F_X2_turnOften u p2 := ⟨_, rfl⟩
    refine g_cV_I hX (n := 1) (As := [.int p2]) (wc := wSt T a w h k d u) (w1 := wSt T a w h k d z_30.2) (rv := z_30.1) (st := []) 0 rfl rfl (by rw [hz_30]; exact (c_X2_turnOften (xL X) T (xB X) a w h k d u p2)) gX2_obey_X2_turnOften rfl rfl rfl ⟨Nat.le_of_ble_eq_true rfl, Nat.le_of_ble_eq_true rfl⟩ ⟨Nat.zero_le _, Nat.zero_le _⟩ ⟨by decide +kernel, by decide +kernel, by decide +kernel⟩ rfl [0, 1, 2, 3, 4] rfl rfl (by decide) rfl (Nat.le_of_ble_eq_true rfl) dX2_obey_30 (ws' := wSt T a w h k d z_30.2) rfl ?_
    have e9 : F_X2_obey u p1 p2 = (z_30.1, z_30.2) := by simp only [F_X2_obey, ← hz_30, eq_true c_1_5, if_true, if_false]
    rw [e9]
    exact g_iret hX dX2_obey_33 rfl rfl
  · skip
    by_cases c_1_6 : p1 = 6
    · skip
      refine g_tabIn hX (off := 33) 34 dX2_obey_1 (by rw [c_1_6]; decide) (by rw [c_1_6]; decide) (by rw [c_1_6]; decide) (by decide) ?_
      refine g_aload_n hX dX2_obey_34 rfl 0 rfl ?_
      refine g_iload_n hX dX2_obey_35 rfl 2 rfl ?_
      obtain ⟨z_36, hz_36⟩ : ∃ z : Int32 × SV, z = F_X2_changeCone u p2 := ⟨_, rfl⟩
      refine g_cV_I hX (n := 1) (As := [.int p2]) (wc := wSt T a w h k d u) (w1 := wSt T a w h k d z_36.2) (rv := z_36.1) (st := []) 0 rfl rfl (by rw [hz_36]; exact (c_X2_changeCone (xL X) T (xB X) a w h k d u p2)) gX2_obey_X2_changeCone rfl rfl rfl ⟨Nat.le_of_ble_eq_true rfl, Nat.le_of_ble_eq_true rfl⟩ ⟨Nat.zero_le _, Nat.zero_le _⟩ ⟨by decide +kernel, by decide +kernel, by decide +kernel⟩ rfl [0, 1, 2, 3, 4] rfl rfl (by decide) rfl (Nat.le_of_ble_eq_true rfl) dX2_obey_36 (ws' := wSt T a w h k d z_36.2) rfl ?_
      have e9 : F_X2_obey u p1 p2 = (z_36.1, z_36.2) := by simp only [F_X2_obey, ← hz_36, eq_false c_1_5, eq_true c_1_6, if_true, if_false]
      rw [e9]
      exact g_iret hX dX2_obey_39 rfl rfl
    · skip
      by_cases c_1_7 : p1 = 7
      · skip
        refine g_tabIn hX (off := 39) 40 dX2_obey_1 (by rw [c_1_7]; decide) (by rw [c_1_7]; decide) (by rw [c_1_7]; decide) (by decide) ?_
        refine g_aload_n hX dX2_obey_40 rfl 0 rfl ?_
        obtain ⟨z_41, hz_41⟩ : ∃ z : Int32 × SV, z = F_X2_tieKnot u := ⟨_, rfl⟩
        refine g_cV_I hX (n := 0) (As := []) (wc := wSt T a w h k d u) (w1 := wSt T a w h k d z_41.2) (rv := z_41.1) (st := []) 0 rfl rfl (by rw [hz_41]; exact (c_X2_tieKnot (xL X) T (xB X) a w h k d u)) gX2_obey_X2_tieKnot rfl rfl rfl ⟨Nat.le_of_ble_eq_true rfl, Nat.le_of_ble_eq_true rfl⟩ ⟨Nat.zero_le _, Nat.zero_le _⟩ ⟨by decide +kernel, by decide +kernel, by decide +kernel⟩ rfl [0, 1, 2, 3, 4] rfl rfl (by decide) rfl (Nat.le_of_ble_eq_true rfl) dX2_obey_41 (ws' := wSt T a w h k d z_41.2) rfl ?_
        have e9 : F_X2_obey u p1 p2 = (z_41.1, z_41.2) := by simp only [F_X2_obey, ← hz_41, eq_false c_1_5, eq_false c_1_6, eq_true c_1_7, if_true, if_false]
        rw [e9]
        exact g_iret hX dX2_obey_44 rfl rfl
      · skip
        have tc_1_5 : ¬ Int32.toInt p1 = 5 := lv_neT c_1_5 (by decide)
        have tc_1_6 : ¬ Int32.toInt p1 = 6 := lv_neT c_1_6 (by decide)
        have tc_1_7 : ¬ Int32.toInt p1 = 7 := lv_neT c_1_7 (by decide)
        refine g_tabOut hX 45 dX2_obey_1 (by omega) (by decide) ?_
        refine g_aload_n hX dX2_obey_45 rfl 0 rfl ?_
        refine g_iload_n hX dX2_obey_46 rfl 1 rfl ?_
        refine g_iload_n hX dX2_obey_47 rfl 2 rfl ?_
        obtain ⟨z_48, hz_48⟩ : ∃ z : Int32 × SV, z = F_X2_changeNumber u p1 p2 := ⟨_, rfl⟩
        refine g_cV_I hX (n := 2) (As := [.int p1, .int p2]) (wc := wSt T a w h k d u) (w1 := wSt T a w h k d z_48.2) (rv := z_48.1) (st := []) 0 rfl rfl (by rw [hz_48]; exact (c_X2_changeNumber (xL X) T (xB X) a w h k d u p1 p2)) gX2_obey_X2_changeNumber rfl rfl rfl ⟨Nat.le_of_ble_eq_true rfl, Nat.le_of_ble_eq_true rfl⟩ ⟨Nat.zero_le _, Nat.zero_le _⟩ ⟨by decide +kernel, by decide +kernel, by decide +kernel⟩ rfl [0, 1, 2, 3, 4] rfl rfl (by decide) rfl (Nat.le_of_ble_eq_true rfl) dX2_obey_48 (ws' := wSt T a w h k d z_48.2) rfl ?_
        have e9 : F_X2_obey u p1 p2 = (z_48.1, z_48.2) := by simp only [F_X2_obey, ← hz_48, eq_false c_1_5, eq_false c_1_6, eq_false c_1_7, if_true, if_false]
        rw [e9]
        exact g_iret hX dX2_obey_51 rfl rfl
end
section
/-! X0_append -/
def rmX0_append : Room := { frames := 0, cells := 0, slots := 0, locals := 0 }
theorem k_X0_append_0 : Cond.fieldLink RX0 22 RX0 (TX0 3).2.1 (TX0 3).2.2.1 ∈ wsX0_append := List.mem_of_getElem? (i := 1) rfl
theorem h_X0_append_X0 : ∀ w ∈ u_ws RX0 TX0 7, w ∈ wsX0_append := fun w h => List.mem_cons_of_mem _ (List.mem_append_right _ h)
theorem k_X0_append_1 : Cond.fieldLink RX0 9 RX0 (TX0 0).2.1 (TX0 0).2.2.1 ∈ wsX0_append := List.mem_of_getElem? (i := 2) rfl
def F_X0_append (u : TV) (p1 : Int32) : Int32 × TV :=
  (if (u.1 0) < 0 then ((-3), u) else (if (u.1 0) < 60 then (((u.1 0) + 1), (upd u.1 0 ((u.1 0) + 1), (upd u.2.1 (Int32.toNatClampNeg (u.1 0)) (vp_nar .char p1)), u.2.2.1, u.2.2.2)) else ((-3), u)))
set_option maxHeartbeats 4000000 in
set_option maxRecDepth 100000 in
theorem c_X0_append (l : Launch) (T : TT) (b0 : Nat) (t c k v : Nat) (u : TV) (p1 : Int32)  : ConI l T b0 yX0_append wsX0_append rmX0_append [.ref t, .int p1] (wTx T t c k v u) ((F_X0_append u p1).1) (wTx T t c k v ((F_X0_append u p1).2)) := by
  refine conI_of (cc := cX0_append) (maxL := 2) (ret := (some .int)) (lv0 := [(0, .ref t), (1, .int p1)]) (by decide +kernel) rfl (Nat.le_of_ble_eq_true rfl) rfl (fun X hX => ?_)
  refine g_aload_n hX dX0_append_0 rfl 0 rfl ?_
  refine g_get hX 0 h_X0_append_X0 0 rfl rfl 3 (by decide) k_X0_append_0 rfl (v := .int (u.1 0)) rfl dX0_append_1 ?_
  refine g_if_lt hX 19 dX0_append_4 (by decide) (fun c_4 => ?_) (fun c_4 => ?_)
  · skip
    refine g_bipush hX (v := (-3)) dX0_append_19 (by decide) ?_
    have e9 : F_X0_append u p1 = ((-3), u) := by simp only [F_X0_append, eq_true c_4, if_true, if_false]
    rw [e9]
    exact g_iret hX dX0_append_21 rfl rfl
  · skip
    refine g_aload_n hX dX0_append_7 rfl 0 rfl ?_
    refine g_get hX 0 h_X0_append_X0 0 rfl rfl 3 (by decide) k_X0_append_0 rfl (v := .int (u.1 0)) rfl dX0_append_8 ?_
    refine g_aload_n hX dX0_append_11 rfl 0 rfl ?_
    refine g_get hX 0 h_X0_append_X0 0 rfl rfl 0 (by decide) k_X0_append_1 rfl (v := .ref c) rfl dX0_append_12 ?_
    refine g_alen hX 1 1 rfl rfl (v := 60) rfl dX0_append_15 ?_
    refine g_icmp_lt hX 22 dX0_append_16 (by decide) (fun c_16 => ?_) (fun c_16 => ?_)
    · skip
      refine g_aload_n hX dX0_append_22 rfl 0 rfl ?_
      refine g_get hX 0 h_X0_append_X0 0 rfl rfl 0 (by decide) k_X0_append_1 rfl (v := .ref c) rfl dX0_append_23 ?_
      refine g_aload_n hX dX0_append_26 rfl 0 rfl ?_
      refine g_get hX 0 h_X0_append_X0 0 rfl rfl 3 (by decide) k_X0_append_0 rfl (v := .int (u.1 0)) rfl dX0_append_27 ?_
      refine g_iload_n hX dX0_append_30 rfl 1 rfl ?_
      refine g_cast_ hX 1 rfl (vin_lt c_4 c_16 (by decide)) dX0_append_31 (ws' := wTx T t c k v (u.1, (upd u.2.1 (Int32.toNatClampNeg (u.1 0)) (vp_nar .char p1)), u.2.2.1, u.2.2.2)) rfl ?_
      refine g_aload_n hX dX0_append_32 rfl 0 rfl ?_
      refine g_dup hX dX0_append_33 rfl ?_
      refine g_get hX 0 h_X0_append_X0 0 rfl rfl 3 (by decide) k_X0_append_0 rfl (v := .int (u.1 0)) rfl dX0_append_34 ?_
      refine g_iconst hX (v := 1) dX0_append_37 (by decide) ?_
      refine g_iadd hX dX0_append_38 ?_
      refine g_put hX 0 h_X0_append_X0 0 rfl rfl 3 (by decide) tyX0 tyX0_ok nmX0 k_X0_append_0 rfl rfl rfl rfl rfl (Nat.le_of_ble_eq_true rfl) dX0_append_39 (ws' := wTx T t c k v (upd u.1 0 ((u.1 0) + 1), (upd u.2.1 (Int32.toNatClampNeg (u.1 0)) (vp_nar .char p1)), u.2.2.1, u.2.2.2)) rfl ?_
      refine g_aload_n hX dX0_append_42 rfl 0 rfl ?_
      refine g_get hX 0 h_X0_append_X0 0 rfl rfl 3 (by decide) k_X0_append_0 rfl (v := .int ((u.1 0) + 1)) rfl dX0_append_43 ?_
      have e9 : F_X0_append u p1 = (((u.1 0) + 1), (upd u.1 0 ((u.1 0) + 1), (upd u.2.1 (Int32.toNatClampNeg (u.1 0)) (vp_nar .char p1)), u.2.2.1, u.2.2.2)) := by simp only [F_X0_append, eq_false c_4, eq_true c_16, if_true, if_false]
      rw [e9]
      exact g_iret hX dX0_append_46 rfl rfl
    · skip
      refine g_bipush hX (v := (-3)) dX0_append_19 (by decide) ?_
      have e9 : F_X0_append u p1 = ((-3), u) := by simp only [F_X0_append, eq_false c_4, eq_false c_16, if_true, if_false]
      rw [e9]
      exact g_iret hX dX0_append_21 rfl rfl
/-! X0_empty -/
def rmX0_empty : Room := { frames := 0, cells := 0, slots := 0, locals := 0 }
theorem k_X0_empty_0 : Cond.fieldLink RX0 22 RX0 (TX0 3).2.1 (TX0 3).2.2.1 ∈ wsX0_empty := List.mem_of_getElem? (i := 1) rfl
theorem h_X0_empty_X0 : ∀ w ∈ u_ws RX0 TX0 7, w ∈ wsX0_empty := fun w h => List.mem_cons_of_mem _ (List.mem_append_right _ h)
def F_X0_empty (u : TV) : Int32 × TV :=
  ((u.1 0), (upd u.1 0 0, u.2.1, u.2.2.1, u.2.2.2))
set_option maxHeartbeats 4000000 in
set_option maxRecDepth 100000 in
theorem c_X0_empty (l : Launch) (T : TT) (b0 : Nat) (t c k v : Nat) (u : TV)  : ConI l T b0 yX0_empty wsX0_empty rmX0_empty [.ref t] (wTx T t c k v u) ((F_X0_empty u).1) (wTx T t c k v ((F_X0_empty u).2)) := by
  refine conI_of (cc := cX0_empty) (maxL := 2) (ret := (some .int)) (lv0 := [(0, .ref t)]) (by decide +kernel) rfl (Nat.le_of_ble_eq_true rfl) rfl (fun X hX => ?_)
  refine g_aload_n hX dX0_empty_0 rfl 0 rfl ?_
  refine g_get hX 0 h_X0_empty_X0 0 rfl rfl 3 (by decide) k_X0_empty_0 rfl (v := .int (u.1 0)) rfl dX0_empty_1 ?_
  refine g_istore_n hX (lv' := [(1, .int (u.1 0)), (0, .ref t)]) dX0_empty_4 rfl (by decide) rfl ?_
  refine g_aload_n hX dX0_empty_5 rfl 1 rfl ?_
  refine g_iconst hX (v := 0) dX0_empty_6 (by decide) ?_
  refine g_put hX 0 h_X0_empty_X0 0 rfl rfl 3 (by decide) tyX0 tyX0_ok nmX0 k_X0_empty_0 rfl rfl rfl rfl rfl (Nat.le_of_ble_eq_true rfl) dX0_empty_7 (ws' := wTx T t c k v (upd u.1 0 0, u.2.1, u.2.2.1, u.2.2.2)) rfl ?_
  refine g_iload_n hX dX0_empty_10 rfl 0 rfl ?_
  have e9 : F_X0_empty u = ((u.1 0), (upd u.1 0 0, u.2.1, u.2.2.1, u.2.2.2)) := by simp only [F_X0_empty, if_true, if_false]
  rw [e9]
  exact g_iret hX dX0_empty_11 rfl rfl
/-! X0_kindOf -/
def rmX0_kindOf : Room := { frames := 0, cells := 0, slots := 0, locals := 0 }
def F_X0_kindOf (p1 : Int32) : Int32 :=
  (if p1 = 99 then 6 else (if p1 = 100 then 1 else (if p1 = 103 then 5 else (if p1 = 107 then 3 else (if p1 = 110 then 7 else (if p1 = 115 then 4 else (if p1 = 116 then 0 else (if p1 = 119 then 2 else (-1)))))))))
set_option maxHeartbeats 4000000 in
set_option maxRecDepth 100000 in
theorem c_X0_kindOf (l : Launch) (T : TT) (b0 : Nat) (p1 : Int32)  : ConI l T b0 yX0_kindOf wsX0_kindOf rmX0_kindOf [.int p1] ([]) (F_X0_kindOf p1) ([]) := by
  refine conI_of (cc := cX0_kindOf) (maxL := 1) (ret := (some .int)) (lv0 := [(0, .int p1)]) (by decide +kernel) rfl (Nat.le_of_ble_eq_true rfl) rfl (fun X hX => ?_)
  refine g_iload_n hX dX0_kindOf_0 rfl 0 rfl ?_
  by_cases c_1_99 : p1 = 99
  · skip
    refine g_tabIn hX (off := 111) 112 dX0_kindOf_1 (by rw [c_1_99]; decide) (by rw [c_1_99]; decide) (by rw [c_1_99]; decide) (by decide) ?_
    refine g_bipush hX (v := 6) dX0_kindOf_112 (by decide) ?_
    have e9 : F_X0_kindOf p1 = 6 := by simp only [F_X0_kindOf, eq_true c_1_99, if_true, if_false]
    rw [e9]
    exact g_iret hX dX0_kindOf_114 rfl rfl
  · skip
    by_cases c_1_100 : p1 = 100
    · skip
      refine g_tabIn hX (off := 101) 102 dX0_kindOf_1 (by rw [c_1_100]; decide) (by rw [c_1_100]; decide) (by rw [c_1_100]; decide) (by decide) ?_
      refine g_iconst hX (v := 1) dX0_kindOf_102 (by decide) ?_
      have e9 : F_X0_kindOf p1 = 1 := by simp only [F_X0_kindOf, eq_false c_1_99, eq_true c_1_100, if_true, if_false]
      rw [e9]
      exact g_iret hX dX0_kindOf_103 rfl rfl
    · skip
      by_cases c_1_103 : p1 = 103
      · skip
        refine g_tabIn hX (off := 109) 110 dX0_kindOf_1 (by rw [c_1_103]; decide) (by rw [c_1_103]; decide) (by rw [c_1_103]; decide) (by decide) ?_
        refine g_iconst hX (v := 5) dX0_kindOf_110 (by decide) ?_
        have e9 : F_X0_kindOf p1 = 5 := by simp only [F_X0_kindOf, eq_false c_1_99, eq_false c_1_100, eq_true c_1_103, if_true, if_false]
        rw [e9]
        exact g_iret hX dX0_kindOf_111 rfl rfl
      · skip
        by_cases c_1_107 : p1 = 107
        · skip
          refine g_tabIn hX (off := 105) 106 dX0_kindOf_1 (by rw [c_1_107]; decide) (by rw [c_1_107]; decide) (by rw [c_1_107]; decide) (by decide) ?_
          refine g_iconst hX (v := 3) dX0_kindOf_106 (by decide) ?_
          have e9 : F_X0_kindOf p1 = 3 := by simp only [F_X0_kindOf, eq_false c_1_99, eq_false c_1_100, eq_false c_1_103, eq_true c_1_107, if_true, if_false]
          rw [e9]
          exact g_iret hX dX0_kindOf_107 rfl rfl
        · skip
          by_cases c_1_110 : p1 = 110
          · skip
            refine g_tabIn hX (off := 114) 115 dX0_kindOf_1 (by rw [c_1_110]; decide) (by rw [c_1_110]; decide) (by rw [c_1_110]; decide) (by decide) ?_
            refine g_bipush hX (v := 7) dX0_kindOf_115 (by decide) ?_
            have e9 : F_X0_kindOf p1 = 7 := by simp only [F_X0_kindOf, eq_false c_1_99, eq_false c_1_100, eq_false c_1_103, eq_false c_1_107, eq_true c_1_110, if_true, if_false]
            rw [e9]
            exact g_iret hX dX0_kindOf_117 rfl rfl
          · skip
            by_cases c_1_115 : p1 = 115
            · skip
              refine g_tabIn hX (off := 107) 108 dX0_kindOf_1 (by rw [c_1_115]; decide) (by rw [c_1_115]; decide) (by rw [c_1_115]; decide) (by decide) ?_
              refine g_iconst hX (v := 4) dX0_kindOf_108 (by decide) ?_
              have e9 : F_X0_kindOf p1 = 4 := by simp only [F_X0_kindOf, eq_false c_1_99, eq_false c_1_100, eq_false c_1_103, eq_false c_1_107, eq_false c_1_110, eq_true c_1_115, if_true, if_false]
              rw [e9]
              exact g_iret hX dX0_kindOf_109 rfl rfl
            · skip
              by_cases c_1_116 : p1 = 116
              · skip
                refine g_tabIn hX (off := 99) 100 dX0_kindOf_1 (by rw [c_1_116]; decide) (by rw [c_1_116]; decide) (by rw [c_1_116]; decide) (by decide) ?_
                refine g_iconst hX (v := 0) dX0_kindOf_100 (by decide) ?_
                have e9 : F_X0_kindOf p1 = 0 := by simp only [F_X0_kindOf, eq_false c_1_99, eq_false c_1_100, eq_false c_1_103, eq_false c_1_107, eq_false c_1_110, eq_false c_1_115, eq_true c_1_116, if_true, if_false]
                rw [e9]
                exact g_iret hX dX0_kindOf_101 rfl rfl
              · skip
                by_cases c_1_119 : p1 = 119
                · skip
                  refine g_tabIn hX (off := 103) 104 dX0_kindOf_1 (by rw [c_1_119]; decide) (by rw [c_1_119]; decide) (by rw [c_1_119]; decide) (by decide) ?_
                  refine g_iconst hX (v := 2) dX0_kindOf_104 (by decide) ?_
                  have e9 : F_X0_kindOf p1 = 2 := by simp only [F_X0_kindOf, eq_false c_1_99, eq_false c_1_100, eq_false c_1_103, eq_false c_1_107, eq_false c_1_110, eq_false c_1_115, eq_false c_1_116, eq_true c_1_119, if_true, if_false]
                  rw [e9]
                  exact g_iret hX dX0_kindOf_105 rfl rfl
                · skip
                  have tc_1_99 : ¬ Int32.toInt p1 = 99 := lv_neT c_1_99 (by decide)
                  have tc_1_100 : ¬ Int32.toInt p1 = 100 := lv_neT c_1_100 (by decide)
                  have tc_1_103 : ¬ Int32.toInt p1 = 103 := lv_neT c_1_103 (by decide)
                  have tc_1_107 : ¬ Int32.toInt p1 = 107 := lv_neT c_1_107 (by decide)
                  have tc_1_110 : ¬ Int32.toInt p1 = 110 := lv_neT c_1_110 (by decide)
                  have tc_1_115 : ¬ Int32.toInt p1 = 115 := lv_neT c_1_115 (by decide)
                  have tc_1_116 : ¬ Int32.toInt p1 = 116 := lv_neT c_1_116 (by decide)
                  have tc_1_119 : ¬ Int32.toInt p1 = 119 := lv_neT c_1_119 (by decide)
                  have hg_1 : Int32.toInt p1 < 99 ∨ 119 < Int32.toInt p1 ∨ Int32.toInt p1 = 101 ∨ Int32.toInt p1 = 102 ∨ Int32.toInt p1 = 104 ∨ Int32.toInt p1 = 105 ∨ Int32.toInt p1 = 106 ∨ Int32.toInt p1 = 108 ∨ Int32.toInt p1 = 109 ∨ Int32.toInt p1 = 111 ∨ Int32.toInt p1 = 112 ∨ Int32.toInt p1 = 113 ∨ Int32.toInt p1 = 114 ∨ Int32.toInt p1 = 117 ∨ Int32.toInt p1 = 118 := by omega
                  refine g_tabDef hX 118 dX0_kindOf_1 (by rcases hg_1 with hg | hg | hg | hg | hg | hg | hg | hg | hg | hg | hg | hg | hg | hg | hg; exact Or.inl hg; exact Or.inr (Or.inl hg); all_goals (exact Or.inr (Or.inr (by rw [hg]; decide)))) (by decide) ?_
                  refine g_iconst hX (v := (-1)) dX0_kindOf_118 (by decide) ?_
                  have e9 : F_X0_kindOf p1 = (-1) := by simp only [F_X0_kindOf, eq_false c_1_99, eq_false c_1_100, eq_false c_1_103, eq_false c_1_107, eq_false c_1_110, eq_false c_1_115, eq_false c_1_116, eq_false c_1_119, if_true, if_false]
                  rw [e9]
                  exact g_iret hX dX0_kindOf_119 rfl rfl
/-! X0_isComplete -/
def rmX0_isComplete : Room := { frames := 1, cells := 0, slots := 0, locals := 20 }
theorem k_X0_isComplete_0 : Cond.fieldLink RX0 29 RX0 (TX0 5).2.1 (TX0 5).2.2.1 ∈ wsX0_isComplete := List.mem_of_getElem? (i := 1) rfl
theorem h_X0_isComplete_X0 : ∀ w ∈ u_ws RX0 TX0 7, w ∈ wsX0_isComplete := fun w h => List.mem_cons_of_mem _ (List.mem_append_right _ h)
theorem k_X0_isComplete_1 : Cond.fieldLink RX0 32 RX0 (TX0 6).2.1 (TX0 6).2.2.1 ∈ wsX0_isComplete := List.mem_of_getElem? (i := 2) rfl
theorem k_X0_isComplete_3 : Cond.initialized RX4 ∈ wsX0_isComplete := List.mem_of_getElem? (i := 4) rfl
theorem k_X0_isComplete_2 : Cond.static yX4_lowest ∈ wsX0_isComplete := List.mem_of_getElem? (i := 3) rfl
def F_X0_isComplete (u : TV) : Int32 :=
  (if (u.1 2) = 7 then 1 else (if (u.1 2) = (-1) then 0 else (if (u.1 3) < (F_X4_lowest (u.1 2)) then 0 else 1)))
set_option maxHeartbeats 4000000 in
set_option maxRecDepth 100000 in
theorem c_X0_isComplete (l : Launch) (T : TT) (b0 : Nat) (t c k v : Nat) (u : TV)  : ConI l T b0 yX0_isComplete wsX0_isComplete rmX0_isComplete [.ref t] (wTx T t c k v u) (F_X0_isComplete u) (wTx T t c k v u) := by
  refine conI_of (cc := cX0_isComplete) (maxL := 1) (ret := (some .boolean)) (lv0 := [(0, .ref t)]) (by decide +kernel) rfl (Nat.le_of_ble_eq_true rfl) rfl (fun X hX => ?_)
  refine g_aload_n hX dX0_isComplete_0 rfl 0 rfl ?_
  refine g_get hX 0 h_X0_isComplete_X0 0 rfl rfl 5 (by decide) k_X0_isComplete_0 rfl (v := .int (u.1 2)) rfl dX0_isComplete_1 ?_
  refine g_bipush hX (v := 7) dX0_isComplete_4 (by decide) ?_
  refine g_icmp_eq hX 31 dX0_isComplete_6 (by decide) (fun c_6 => ?_) (fun c_6 => ?_)
  · skip
    refine g_iconst hX (v := 1) dX0_isComplete_31 (by decide) ?_
    refine g_goto hX 36 dX0_isComplete_32 (by decide) ?_
    have e9 : F_X0_isComplete u = 1 := by simp only [F_X0_isComplete, eq_true c_6, if_true, if_false]
    rw [e9]
    exact g_zret hX dX0_isComplete_36 rfl rfl rfl
  · skip
    refine g_aload_n hX dX0_isComplete_9 rfl 0 rfl ?_
    refine g_get hX 0 h_X0_isComplete_X0 0 rfl rfl 5 (by decide) k_X0_isComplete_0 rfl (v := .int (u.1 2)) rfl dX0_isComplete_10 ?_
    refine g_iconst hX (v := (-1)) dX0_isComplete_13 (by decide) ?_
    refine g_icmp_eq hX 35 dX0_isComplete_14 (by decide) (fun c_14 => ?_) (fun c_14 => ?_)
    · skip
      refine g_iconst hX (v := 0) dX0_isComplete_35 (by decide) ?_
      have e9 : F_X0_isComplete u = 0 := by simp only [F_X0_isComplete, eq_false c_6, eq_true c_14, if_true, if_false]
      rw [e9]
      exact g_zret hX dX0_isComplete_36 rfl rfl rfl
    · skip
      refine g_aload_n hX dX0_isComplete_17 rfl 0 rfl ?_
      refine g_get hX 0 h_X0_isComplete_X0 0 rfl rfl 6 (by decide) k_X0_isComplete_1 rfl (v := .int (u.1 3)) rfl dX0_isComplete_18 ?_
      refine g_aload_n hX dX0_isComplete_21 rfl 0 rfl ?_
      refine g_get hX 0 h_X0_isComplete_X0 0 rfl rfl 5 (by decide) k_X0_isComplete_0 rfl (v := .int (u.1 2)) rfl dX0_isComplete_22 ?_
      refine g_cSN_I hX (n := 1) (As := [.int (u.1 2)]) (wc := []) (w1 := []) (rv := (F_X4_lowest (u.1 2))) (st := [.int (u.1 3)]) (c_X4_lowest (xL X) T (xB X) (u.1 2)) ggX0_isComplete_X4_lowest 40 rfl k_X0_isComplete_3 k_X0_isComplete_2 rfl rfl rfl ⟨Nat.le_of_ble_eq_true rfl, Nat.le_of_ble_eq_true rfl⟩ ⟨Nat.zero_le _, Nat.zero_le _⟩ ⟨by decide +kernel, by decide +kernel, by decide +kernel⟩ rfl [] rfl rfl (by decide) rfl (Nat.le_of_ble_eq_true rfl) dX0_isComplete_25 (ws' := wTx T t c k v u) rfl ?_
      refine g_icmp_lt hX 35 dX0_isComplete_28 (by decide) (fun c_28 => ?_) (fun c_28 => ?_)
      · skip
        refine g_iconst hX (v := 0) dX0_isComplete_35 (by decide) ?_
        have e9 : F_X0_isComplete u = 0 := by simp only [F_X0_isComplete, eq_false c_6, eq_false c_14, eq_true c_28, if_true, if_false]
        rw [e9]
        exact g_zret hX dX0_isComplete_36 rfl rfl rfl
      · skip
        refine g_iconst hX (v := 1) dX0_isComplete_31 (by decide) ?_
        refine g_goto hX 36 dX0_isComplete_32 (by decide) ?_
        have e9 : F_X0_isComplete u = 1 := by simp only [F_X0_isComplete, eq_false c_6, eq_false c_14, eq_false c_28, if_true, if_false]
        rw [e9]
        exact g_zret hX dX0_isComplete_36 rfl rfl rfl
/-! X0_addCommand -/
def rmX0_addCommand : Room := { frames := 0, cells := 0, slots := 0, locals := 0 }
theorem k_X0_addCommand_0 : Cond.fieldLink RX0 26 RX0 (TX0 4).2.1 (TX0 4).2.2.1 ∈ wsX0_addCommand := List.mem_of_getElem? (i := 1) rfl
theorem h_X0_addCommand_X0 : ∀ w ∈ u_ws RX0 TX0 7, w ∈ wsX0_addCommand := fun w h => List.mem_cons_of_mem _ (List.mem_append_right _ h)
theorem k_X0_addCommand_3 : Cond.fieldLink RX0 29 RX0 (TX0 5).2.1 (TX0 5).2.2.1 ∈ wsX0_addCommand := List.mem_of_getElem? (i := 4) rfl
theorem k_X0_addCommand_4 : Cond.fieldLink RX0 32 RX0 (TX0 6).2.1 (TX0 6).2.2.1 ∈ wsX0_addCommand := List.mem_of_getElem? (i := 5) rfl
theorem k_X0_addCommand_1 : Cond.fieldLink RX0 15 RX0 (TX0 1).2.1 (TX0 1).2.2.1 ∈ wsX0_addCommand := List.mem_of_getElem? (i := 2) rfl
theorem k_X0_addCommand_2 : Cond.fieldLink RX0 19 RX0 (TX0 2).2.1 (TX0 2).2.2.1 ∈ wsX0_addCommand := List.mem_of_getElem? (i := 3) rfl
def F_X0_addCommand (u : TV) : TV :=
  (if (u.1 1) < 0 then (upd (upd u.1 2 (-1)) 3 (-1), u.2.1, u.2.2.1, u.2.2.2) else (if 60 ≤ (u.1 1) then (upd (upd u.1 2 (-1)) 3 (-1), u.2.1, u.2.2.1, u.2.2.2) else (upd (upd (upd u.1 1 ((u.1 1) + 1)) 2 (-1)) 3 (-1), u.2.1, (upd u.2.2.1 (Int32.toNatClampNeg (u.1 1)) (u.1 2)), (upd u.2.2.2 (Int32.toNatClampNeg (u.1 1)) (u.1 3)))))
set_option maxHeartbeats 4000000 in
set_option maxRecDepth 100000 in
theorem c_X0_addCommand (l : Launch) (T : TT) (b0 : Nat) (t c k v : Nat) (u : TV)  : ConV l T b0 yX0_addCommand wsX0_addCommand rmX0_addCommand [.ref t] (wTx T t c k v u) (wTx T t c k v (F_X0_addCommand u)) := by
  refine conV_of (cc := cX0_addCommand) (maxL := 1) (ret := none) (lv0 := [(0, .ref t)]) (by decide +kernel) rfl (Nat.le_of_ble_eq_true rfl) rfl (fun X hX => ?_)
  refine g_aload_n hX dX0_addCommand_0 rfl 0 rfl ?_
  refine g_get hX 0 h_X0_addCommand_X0 0 rfl rfl 4 (by decide) k_X0_addCommand_0 rfl (v := .int (u.1 1)) rfl dX0_addCommand_1 ?_
  refine g_if_lt hX 67 dX0_addCommand_4 (by decide) (fun c_4 => ?_) (fun c_4 => ?_)
  · skip
    refine g_aload_n hX dX0_addCommand_67 rfl 0 rfl ?_
    refine g_iconst hX (v := (-1)) dX0_addCommand_68 (by decide) ?_
    refine g_put hX 0 h_X0_addCommand_X0 0 rfl rfl 5 (by decide) tyX0 tyX0_ok nmX0 k_X0_addCommand_3 rfl rfl rfl rfl rfl (Nat.le_of_ble_eq_true rfl) dX0_addCommand_69 (ws' := wTx T t c k v (upd u.1 2 (-1), u.2.1, u.2.2.1, u.2.2.2)) rfl ?_
    refine g_aload_n hX dX0_addCommand_72 rfl 0 rfl ?_
    refine g_iconst hX (v := (-1)) dX0_addCommand_73 (by decide) ?_
    refine g_put hX 0 h_X0_addCommand_X0 0 rfl rfl 6 (by decide) tyX0 tyX0_ok nmX0 k_X0_addCommand_4 rfl rfl rfl rfl rfl (Nat.le_of_ble_eq_true rfl) dX0_addCommand_74 (ws' := wTx T t c k v (upd (upd u.1 2 (-1)) 3 (-1), u.2.1, u.2.2.1, u.2.2.2)) rfl ?_
    have e9 : F_X0_addCommand u = (upd (upd u.1 2 (-1)) 3 (-1), u.2.1, u.2.2.1, u.2.2.2) := by simp only [F_X0_addCommand, eq_true c_4, if_true, if_false]
    rw [e9]
    exact g_vret hX dX0_addCommand_77 rfl
  · skip
    refine g_aload_n hX dX0_addCommand_7 rfl 0 rfl ?_
    refine g_get hX 0 h_X0_addCommand_X0 0 rfl rfl 4 (by decide) k_X0_addCommand_0 rfl (v := .int (u.1 1)) rfl dX0_addCommand_8 ?_
    refine g_aload_n hX dX0_addCommand_11 rfl 0 rfl ?_
    refine g_get hX 0 h_X0_addCommand_X0 0 rfl rfl 1 (by decide) k_X0_addCommand_1 rfl (v := .ref k) rfl dX0_addCommand_12 ?_
    refine g_alen hX 2 0 rfl rfl (v := 60) rfl dX0_addCommand_15 ?_
    refine g_icmp_ge hX 67 dX0_addCommand_16 (by decide) (fun c_16 => ?_) (fun c_16 => ?_)
    · skip
      refine g_aload_n hX dX0_addCommand_67 rfl 0 rfl ?_
      refine g_iconst hX (v := (-1)) dX0_addCommand_68 (by decide) ?_
      refine g_put hX 0 h_X0_addCommand_X0 0 rfl rfl 5 (by decide) tyX0 tyX0_ok nmX0 k_X0_addCommand_3 rfl rfl rfl rfl rfl (Nat.le_of_ble_eq_true rfl) dX0_addCommand_69 (ws' := wTx T t c k v (upd u.1 2 (-1), u.2.1, u.2.2.1, u.2.2.2)) rfl ?_
      refine g_aload_n hX dX0_addCommand_72 rfl 0 rfl ?_
      refine g_iconst hX (v := (-1)) dX0_addCommand_73 (by decide) ?_
      refine g_put hX 0 h_X0_addCommand_X0 0 rfl rfl 6 (by decide) tyX0 tyX0_ok nmX0 k_X0_addCommand_4 rfl rfl rfl rfl rfl (Nat.le_of_ble_eq_true rfl) dX0_addCommand_74 (ws' := wTx T t c k v (upd (upd u.1 2 (-1)) 3 (-1), u.2.1, u.2.2.1, u.2.2.2)) rfl ?_
      have e9 : F_X0_addCommand u = (upd (upd u.1 2 (-1)) 3 (-1), u.2.1, u.2.2.1, u.2.2.2) := by simp only [F_X0_addCommand, eq_false c_4, eq_true c_16, if_true, if_false]
      rw [e9]
      exact g_vret hX dX0_addCommand_77 rfl
    · skip
      refine g_aload_n hX dX0_addCommand_19 rfl 0 rfl ?_
      refine g_get hX 0 h_X0_addCommand_X0 0 rfl rfl 4 (by decide) k_X0_addCommand_0 rfl (v := .int (u.1 1)) rfl dX0_addCommand_20 ?_
      refine g_aload_n hX dX0_addCommand_23 rfl 0 rfl ?_
      refine g_get hX 0 h_X0_addCommand_X0 0 rfl rfl 2 (by decide) k_X0_addCommand_2 rfl (v := .ref v) rfl dX0_addCommand_24 ?_
      refine g_alen hX 3 0 rfl rfl (v := 60) rfl dX0_addCommand_27 ?_
      refine g_icmp_ge hX 67 dX0_addCommand_28 (by decide) (fun c0 => absurd c0 c_16) (fun _ => ?_)
      refine g_aload_n hX dX0_addCommand_31 rfl 0 rfl ?_
      refine g_get hX 0 h_X0_addCommand_X0 0 rfl rfl 1 (by decide) k_X0_addCommand_1 rfl (v := .ref k) rfl dX0_addCommand_32 ?_
      refine g_aload_n hX dX0_addCommand_35 rfl 0 rfl ?_
      refine g_get hX 0 h_X0_addCommand_X0 0 rfl rfl 4 (by decide) k_X0_addCommand_0 rfl (v := .int (u.1 1)) rfl dX0_addCommand_36 ?_
      refine g_aload_n hX dX0_addCommand_39 rfl 0 rfl ?_
      refine g_get hX 0 h_X0_addCommand_X0 0 rfl rfl 5 (by decide) k_X0_addCommand_3 rfl (v := .int (u.1 2)) rfl dX0_addCommand_40 ?_
      refine g_iast hX 2 rfl (vin_of c_4 c_16 (by decide)) dX0_addCommand_43 (ws' := wTx T t c k v (u.1, u.2.1, (upd u.2.2.1 (Int32.toNatClampNeg (u.1 1)) (u.1 2)), u.2.2.2)) rfl ?_
      refine g_aload_n hX dX0_addCommand_44 rfl 0 rfl ?_
      refine g_get hX 0 h_X0_addCommand_X0 0 rfl rfl 2 (by decide) k_X0_addCommand_2 rfl (v := .ref v) rfl dX0_addCommand_45 ?_
      refine g_aload_n hX dX0_addCommand_48 rfl 0 rfl ?_
      refine g_get hX 0 h_X0_addCommand_X0 0 rfl rfl 4 (by decide) k_X0_addCommand_0 rfl (v := .int (u.1 1)) rfl dX0_addCommand_49 ?_
      refine g_aload_n hX dX0_addCommand_52 rfl 0 rfl ?_
      refine g_get hX 0 h_X0_addCommand_X0 0 rfl rfl 6 (by decide) k_X0_addCommand_4 rfl (v := .int (u.1 3)) rfl dX0_addCommand_53 ?_
      refine g_iast hX 3 rfl (vin_of c_4 c_16 (by decide)) dX0_addCommand_56 (ws' := wTx T t c k v (u.1, u.2.1, (upd u.2.2.1 (Int32.toNatClampNeg (u.1 1)) (u.1 2)), (upd u.2.2.2 (Int32.toNatClampNeg (u.1 1)) (u.1 3)))) rfl ?_
      refine g_aload_n hX dX0_addCommand_57 rfl 0 rfl ?_
      refine g_dup hX dX0_addCommand_58 rfl ?_
      refine g_get hX 0 h_X0_addCommand_X0 0 rfl rfl 4 (by decide) k_X0_addCommand_0 rfl (v := .int (u.1 1)) rfl dX0_addCommand_59 ?_
      refine g_iconst hX (v := 1) dX0_addCommand_62 (by decide) ?_
      refine g_iadd hX dX0_addCommand_63 ?_
      refine g_put hX 0 h_X0_addCommand_X0 0 rfl rfl 4 (by decide) tyX0 tyX0_ok nmX0 k_X0_addCommand_0 rfl rfl rfl rfl rfl (Nat.le_of_ble_eq_true rfl) dX0_addCommand_64 (ws' := wTx T t c k v (upd u.1 1 ((u.1 1) + 1), u.2.1, (upd u.2.2.1 (Int32.toNatClampNeg (u.1 1)) (u.1 2)), (upd u.2.2.2 (Int32.toNatClampNeg (u.1 1)) (u.1 3)))) rfl ?_
      refine g_aload_n hX dX0_addCommand_67 rfl 0 rfl ?_
      refine g_iconst hX (v := (-1)) dX0_addCommand_68 (by decide) ?_
      refine g_put hX 0 h_X0_addCommand_X0 0 rfl rfl 5 (by decide) tyX0 tyX0_ok nmX0 k_X0_addCommand_3 rfl rfl rfl rfl rfl (Nat.le_of_ble_eq_true rfl) dX0_addCommand_69 (ws' := wTx T t c k v (upd (upd u.1 1 ((u.1 1) + 1)) 2 (-1), u.2.1, (upd u.2.2.1 (Int32.toNatClampNeg (u.1 1)) (u.1 2)), (upd u.2.2.2 (Int32.toNatClampNeg (u.1 1)) (u.1 3)))) rfl ?_
      refine g_aload_n hX dX0_addCommand_72 rfl 0 rfl ?_
      refine g_iconst hX (v := (-1)) dX0_addCommand_73 (by decide) ?_
      refine g_put hX 0 h_X0_addCommand_X0 0 rfl rfl 6 (by decide) tyX0 tyX0_ok nmX0 k_X0_addCommand_4 rfl rfl rfl rfl rfl (Nat.le_of_ble_eq_true rfl) dX0_addCommand_74 (ws' := wTx T t c k v (upd (upd (upd u.1 1 ((u.1 1) + 1)) 2 (-1)) 3 (-1), u.2.1, (upd u.2.2.1 (Int32.toNatClampNeg (u.1 1)) (u.1 2)), (upd u.2.2.2 (Int32.toNatClampNeg (u.1 1)) (u.1 3)))) rfl ?_
      have e9 : F_X0_addCommand u = (upd (upd (upd u.1 1 ((u.1 1) + 1)) 2 (-1)) 3 (-1), u.2.1, (upd u.2.2.1 (Int32.toNatClampNeg (u.1 1)) (u.1 2)), (upd u.2.2.2 (Int32.toNatClampNeg (u.1 1)) (u.1 3))) := by simp only [F_X0_addCommand, eq_false c_4, eq_false c_16, if_true, if_false]
      rw [e9]
      exact g_vret hX dX0_addCommand_77 rfl
/-! X0_commandAt -/
def rmX0_commandAt : Room := { frames := 0, cells := 0, slots := 0, locals := 0 }
theorem k_X0_commandAt_0 : Cond.fieldLink RX0 15 RX0 (TX0 1).2.1 (TX0 1).2.2.1 ∈ wsX0_commandAt := List.mem_of_getElem? (i := 1) rfl
theorem h_X0_commandAt_X0 : ∀ w ∈ u_ws RX0 TX0 7, w ∈ wsX0_commandAt := fun w h => List.mem_cons_of_mem _ (List.mem_append_right _ h)
def F_X0_commandAt (u : TV) (p1 : Int32) : Int32 :=
  (if p1 < 0 then (-1) else (if 60 ≤ p1 then (-1) else (u.2.2.1 (Int32.toNatClampNeg p1))))
set_option maxHeartbeats 4000000 in
set_option maxRecDepth 100000 in
theorem c_X0_commandAt (l : Launch) (T : TT) (b0 : Nat) (t c k v : Nat) (u : TV) (p1 : Int32)  : ConI l T b0 yX0_commandAt wsX0_commandAt rmX0_commandAt [.ref t, .int p1] (wTx T t c k v u) (F_X0_commandAt u p1) (wTx T t c k v u) := by
  refine conI_of (cc := cX0_commandAt) (maxL := 2) (ret := (some .int)) (lv0 := [(0, .ref t), (1, .int p1)]) (by decide +kernel) rfl (Nat.le_of_ble_eq_true rfl) rfl (fun X hX => ?_)
  refine g_iload_n hX dX0_commandAt_0 rfl 1 rfl ?_
  refine g_if_lt hX 22 dX0_commandAt_1 (by decide) (fun c_1 => ?_) (fun c_1 => ?_)
  · skip
    refine g_iconst hX (v := (-1)) dX0_commandAt_22 (by decide) ?_
    have e9 : F_X0_commandAt u p1 = (-1) := by simp only [F_X0_commandAt, eq_true c_1, if_true, if_false]
    rw [e9]
    exact g_iret hX dX0_commandAt_23 rfl rfl
  · skip
    refine g_iload_n hX dX0_commandAt_4 rfl 1 rfl ?_
    refine g_aload_n hX dX0_commandAt_5 rfl 0 rfl ?_
    refine g_get hX 0 h_X0_commandAt_X0 0 rfl rfl 1 (by decide) k_X0_commandAt_0 rfl (v := .ref k) rfl dX0_commandAt_6 ?_
    refine g_alen hX 2 0 rfl rfl (v := 60) rfl dX0_commandAt_9 ?_
    refine g_icmp_ge hX 22 dX0_commandAt_10 (by decide) (fun c_10 => ?_) (fun c_10 => ?_)
    · skip
      refine g_iconst hX (v := (-1)) dX0_commandAt_22 (by decide) ?_
      have e9 : F_X0_commandAt u p1 = (-1) := by simp only [F_X0_commandAt, eq_false c_1, eq_true c_10, if_true, if_false]
      rw [e9]
      exact g_iret hX dX0_commandAt_23 rfl rfl
    · skip
      refine g_aload_n hX dX0_commandAt_13 rfl 0 rfl ?_
      refine g_get hX 0 h_X0_commandAt_X0 0 rfl rfl 1 (by decide) k_X0_commandAt_0 rfl (v := .ref k) rfl dX0_commandAt_14 ?_
      refine g_iload_n hX dX0_commandAt_17 rfl 1 rfl ?_
      refine g_iald hX 2 rfl (vin_of c_1 c_10 (by decide)) (v := (u.2.2.1 (Int32.toNatClampNeg p1))) (congrArg _ rfl) dX0_commandAt_18 ?_
      refine g_goto hX 23 dX0_commandAt_19 (by decide) ?_
      have e9 : F_X0_commandAt u p1 = (u.2.2.1 (Int32.toNatClampNeg p1)) := by simp only [F_X0_commandAt, eq_false c_1, eq_false c_10, if_true, if_false]
      rw [e9]
      exact g_iret hX dX0_commandAt_23 rfl rfl
/-! X0_valueAt -/
def rmX0_valueAt : Room := { frames := 0, cells := 0, slots := 0, locals := 0 }
theorem k_X0_valueAt_0 : Cond.fieldLink RX0 19 RX0 (TX0 2).2.1 (TX0 2).2.2.1 ∈ wsX0_valueAt := List.mem_of_getElem? (i := 1) rfl
theorem h_X0_valueAt_X0 : ∀ w ∈ u_ws RX0 TX0 7, w ∈ wsX0_valueAt := fun w h => List.mem_cons_of_mem _ (List.mem_append_right _ h)
def F_X0_valueAt (u : TV) (p1 : Int32) : Int32 :=
  (if p1 < 0 then (-1) else (if 60 ≤ p1 then (-1) else (u.2.2.2 (Int32.toNatClampNeg p1))))
set_option maxHeartbeats 4000000 in
set_option maxRecDepth 100000 in
theorem c_X0_valueAt (l : Launch) (T : TT) (b0 : Nat) (t c k v : Nat) (u : TV) (p1 : Int32)  : ConI l T b0 yX0_valueAt wsX0_valueAt rmX0_valueAt [.ref t, .int p1] (wTx T t c k v u) (F_X0_valueAt u p1) (wTx T t c k v u) := by
  refine conI_of (cc := cX0_valueAt) (maxL := 2) (ret := (some .int)) (lv0 := [(0, .ref t), (1, .int p1)]) (by decide +kernel) rfl (Nat.le_of_ble_eq_true rfl) rfl (fun X hX => ?_)
  refine g_iload_n hX dX0_valueAt_0 rfl 1 rfl ?_
  refine g_if_lt hX 22 dX0_valueAt_1 (by decide) (fun c_1 => ?_) (fun c_1 => ?_)
  · skip
    refine g_iconst hX (v := (-1)) dX0_valueAt_22 (by decide) ?_
    have e9 : F_X0_valueAt u p1 = (-1) := by simp only [F_X0_valueAt, eq_true c_1, if_true, if_false]
    rw [e9]
    exact g_iret hX dX0_valueAt_23 rfl rfl
  · skip
    refine g_iload_n hX dX0_valueAt_4 rfl 1 rfl ?_
    refine g_aload_n hX dX0_valueAt_5 rfl 0 rfl ?_
    refine g_get hX 0 h_X0_valueAt_X0 0 rfl rfl 2 (by decide) k_X0_valueAt_0 rfl (v := .ref v) rfl dX0_valueAt_6 ?_
    refine g_alen hX 3 0 rfl rfl (v := 60) rfl dX0_valueAt_9 ?_
    refine g_icmp_ge hX 22 dX0_valueAt_10 (by decide) (fun c_10 => ?_) (fun c_10 => ?_)
    · skip
      refine g_iconst hX (v := (-1)) dX0_valueAt_22 (by decide) ?_
      have e9 : F_X0_valueAt u p1 = (-1) := by simp only [F_X0_valueAt, eq_false c_1, eq_true c_10, if_true, if_false]
      rw [e9]
      exact g_iret hX dX0_valueAt_23 rfl rfl
    · skip
      refine g_aload_n hX dX0_valueAt_13 rfl 0 rfl ?_
      refine g_get hX 0 h_X0_valueAt_X0 0 rfl rfl 2 (by decide) k_X0_valueAt_0 rfl (v := .ref v) rfl dX0_valueAt_14 ?_
      refine g_iload_n hX dX0_valueAt_17 rfl 1 rfl ?_
      refine g_iald hX 3 rfl (vin_of c_1 c_10 (by decide)) (v := (u.2.2.2 (Int32.toNatClampNeg p1))) (congrArg _ rfl) dX0_valueAt_18 ?_
      refine g_goto hX 23 dX0_valueAt_19 (by decide) ?_
      have e9 : F_X0_valueAt u p1 = (u.2.2.2 (Int32.toNatClampNeg p1)) := by simp only [F_X0_valueAt, eq_false c_1, eq_false c_10, if_true, if_false]
      rw [e9]
      exact g_iret hX dX0_valueAt_23 rfl rfl
/-! X0_takesDigit -/
def rmX0_takesDigit : Room := { frames := 1, cells := 0, slots := 0, locals := 20 }
theorem k_X0_takesDigit_0 : Cond.fieldLink RX0 29 RX0 (TX0 5).2.1 (TX0 5).2.2.1 ∈ wsX0_takesDigit := List.mem_of_getElem? (i := 1) rfl
theorem h_X0_takesDigit_X0 : ∀ w ∈ u_ws RX0 TX0 7, w ∈ wsX0_takesDigit := fun w h => List.mem_cons_of_mem _ (List.mem_append_right _ h)
theorem k_X0_takesDigit_1 : Cond.fieldLink RX0 32 RX0 (TX0 6).2.1 (TX0 6).2.2.1 ∈ wsX0_takesDigit := List.mem_of_getElem? (i := 2) rfl
theorem k_X0_takesDigit_3 : Cond.initialized RX4 ∈ wsX0_takesDigit := List.mem_of_getElem? (i := 4) rfl
theorem k_X0_takesDigit_6 : Cond.static yX4_highest ∈ wsX0_takesDigit := List.mem_of_getElem? (i := 7) rfl
theorem k_X0_takesDigit_2 : Cond.static yX4_lowest ∈ wsX0_takesDigit := List.mem_of_getElem? (i := 3) rfl
def F_X0_takesDigit (u : TV) (p1 : Int32) : Int32 × TV :=
  (if (u.1 2) = 7 then (0, u) else (if (u.1 3) = 0 then (0, u) else (if (u.1 3) = (-1) then (if 0 < p1 then (if p1 ≤ (F_X4_highest (u.1 2)) then (1, (upd u.1 3 p1, u.2.1, u.2.2.1, u.2.2.2)) else (0, u)) else (if (F_X4_lowest (u.1 2)) = 0 then (if p1 ≤ (F_X4_highest (u.1 2)) then (1, (upd u.1 3 p1, u.2.1, u.2.2.1, u.2.2.2)) else (0, u)) else (0, u))) else (if 0 < ((10 * (u.1 3)) + p1) then (if ((10 * (u.1 3)) + p1) ≤ (F_X4_highest (u.1 2)) then (1, (upd u.1 3 ((10 * (u.1 3)) + p1), u.2.1, u.2.2.1, u.2.2.2)) else (0, u)) else (if (F_X4_lowest (u.1 2)) = 0 then (if ((10 * (u.1 3)) + p1) ≤ (F_X4_highest (u.1 2)) then (1, (upd u.1 3 ((10 * (u.1 3)) + p1), u.2.1, u.2.2.1, u.2.2.2)) else (0, u)) else (0, u))))))
set_option maxHeartbeats 4000000 in
set_option maxRecDepth 100000 in
theorem c_X0_takesDigit (l : Launch) (T : TT) (b0 : Nat) (t c k v : Nat) (u : TV) (p1 : Int32)  : ConI l T b0 yX0_takesDigit wsX0_takesDigit rmX0_takesDigit [.ref t, .int p1] (wTx T t c k v u) ((F_X0_takesDigit u p1).1) (wTx T t c k v ((F_X0_takesDigit u p1).2)) := by
  refine conI_of (cc := cX0_takesDigit) (maxL := 4) (ret := (some .boolean)) (lv0 := [(0, .ref t), (1, .int p1)]) (by decide +kernel) rfl (Nat.le_of_ble_eq_true rfl) rfl (fun X hX => ?_)
  refine g_aload_n hX dX0_takesDigit_0 rfl 0 rfl ?_
  refine g_get hX 0 h_X0_takesDigit_X0 0 rfl rfl 5 (by decide) k_X0_takesDigit_0 rfl (v := .int (u.1 2)) rfl dX0_takesDigit_1 ?_
  refine g_bipush hX (v := 7) dX0_takesDigit_4 (by decide) ?_
  refine g_icmp_eq hX 16 dX0_takesDigit_6 (by decide) (fun c_6 => ?_) (fun c_6 => ?_)
  · skip
    refine g_iconst hX (v := 0) dX0_takesDigit_16 (by decide) ?_
    have e9 : F_X0_takesDigit u p1 = (0, u) := by simp only [F_X0_takesDigit, eq_true c_6, if_true, if_false]
    rw [e9]
    exact g_zret hX dX0_takesDigit_17 rfl rfl rfl
  · skip
    refine g_aload_n hX dX0_takesDigit_9 rfl 0 rfl ?_
    refine g_get hX 0 h_X0_takesDigit_X0 0 rfl rfl 6 (by decide) k_X0_takesDigit_1 rfl (v := .int (u.1 3)) rfl dX0_takesDigit_10 ?_
    refine g_if_ne hX 18 dX0_takesDigit_13 (by decide) (fun c_13 => ?_) (fun c_13 => ?_)
    · skip
      refine g_aload_n hX dX0_takesDigit_18 rfl 0 rfl ?_
      refine g_get hX 0 h_X0_takesDigit_X0 0 rfl rfl 6 (by decide) k_X0_takesDigit_1 rfl (v := .int (u.1 3)) rfl dX0_takesDigit_19 ?_
      refine g_iconst hX (v := (-1)) dX0_takesDigit_22 (by decide) ?_
      refine g_icmp_ne hX 30 dX0_takesDigit_23 (by decide) (fun c_23 => ?_) (fun c_23 => ?_)
      · skip
        refine g_bipush hX (v := 10) dX0_takesDigit_30 (by decide) ?_
        refine g_aload_n hX dX0_takesDigit_32 rfl 0 rfl ?_
        refine g_get hX 0 h_X0_takesDigit_X0 0 rfl rfl 6 (by decide) k_X0_takesDigit_1 rfl (v := .int (u.1 3)) rfl dX0_takesDigit_33 ?_
        refine g_imul hX dX0_takesDigit_36 ?_
        refine g_iload_n hX dX0_takesDigit_37 rfl 1 rfl ?_
        refine g_iadd hX dX0_takesDigit_38 ?_
        refine g_istore_n hX (lv' := [(2, .int ((10 * (u.1 3)) + p1)), (0, .ref t), (1, .int p1)]) dX0_takesDigit_39 rfl (by decide) rfl ?_
        refine g_iload_n hX dX0_takesDigit_40 rfl 0 rfl ?_
        refine g_if_gt hX 54 dX0_takesDigit_41 (by decide) (fun c_41 => ?_) (fun c_41 => ?_)
        · skip
          refine g_iconst hX (v := 1) dX0_takesDigit_54 (by decide) ?_
          refine g_goto hX 59 dX0_takesDigit_55 (by decide) ?_
          refine g_istore_n hX (lv' := [(3, .int 1), (2, .int ((10 * (u.1 3)) + p1)), (0, .ref t), (1, .int p1)]) dX0_takesDigit_59 rfl (by decide) rfl ?_
          refine g_iload_n hX dX0_takesDigit_60 rfl 0 rfl ?_
          refine g_if_eq hX 75 dX0_takesDigit_61 (by decide) (fun c0 => absurd c0 (by decide)) (fun _ => ?_)
          refine g_iload_n hX dX0_takesDigit_64 rfl 1 rfl ?_
          refine g_aload_n hX dX0_takesDigit_65 rfl 2 rfl ?_
          refine g_get hX 0 h_X0_takesDigit_X0 0 rfl rfl 5 (by decide) k_X0_takesDigit_0 rfl (v := .int (u.1 2)) rfl dX0_takesDigit_66 ?_
          refine g_cSN_I hX (n := 1) (As := [.int (u.1 2)]) (wc := []) (w1 := []) (rv := (F_X4_highest (u.1 2))) (st := [.int ((10 * (u.1 3)) + p1)]) (c_X4_highest (xL X) T (xB X) (u.1 2)) ggX0_takesDigit_X4_highest 41 rfl k_X0_takesDigit_3 k_X0_takesDigit_6 rfl rfl rfl ⟨Nat.le_of_ble_eq_true rfl, Nat.le_of_ble_eq_true rfl⟩ ⟨Nat.zero_le _, Nat.zero_le _⟩ ⟨by decide +kernel, by decide +kernel, by decide +kernel⟩ rfl [] rfl rfl (by decide) rfl (Nat.le_of_ble_eq_true rfl) dX0_takesDigit_69 (ws' := wTx T t c k v u) rfl ?_
          refine g_icmp_le hX 77 dX0_takesDigit_72 (by decide) (fun c_72 => ?_) (fun c_72 => ?_)
          · skip
            refine g_aload_n hX dX0_takesDigit_77 rfl 2 rfl ?_
            refine g_iload_n hX dX0_takesDigit_78 rfl 1 rfl ?_
            refine g_put hX 0 h_X0_takesDigit_X0 0 rfl rfl 6 (by decide) tyX0 tyX0_ok nmX0 k_X0_takesDigit_1 rfl rfl rfl rfl rfl (Nat.le_of_ble_eq_true rfl) dX0_takesDigit_79 (ws' := wTx T t c k v (upd u.1 3 ((10 * (u.1 3)) + p1), u.2.1, u.2.2.1, u.2.2.2)) rfl ?_
            refine g_iconst hX (v := 1) dX0_takesDigit_82 (by decide) ?_
            have e9 : F_X0_takesDigit u p1 = (1, (upd u.1 3 ((10 * (u.1 3)) + p1), u.2.1, u.2.2.1, u.2.2.2)) := by simp only [F_X0_takesDigit, eq_false c_6, eq_false c_13, eq_false c_23, eq_true c_41, eq_true c_72, if_true, if_false]
            rw [e9]
            exact g_zret hX dX0_takesDigit_83 rfl rfl rfl
          · skip
            refine g_iconst hX (v := 0) dX0_takesDigit_75 (by decide) ?_
            have e9 : F_X0_takesDigit u p1 = (0, u) := by simp only [F_X0_takesDigit, eq_false c_6, eq_false c_13, eq_false c_23, eq_true c_41, eq_false c_72, if_true, if_false]
            rw [e9]
            exact g_zret hX dX0_takesDigit_76 rfl rfl rfl
        · skip
          refine g_aload_n hX dX0_takesDigit_44 rfl 1 rfl ?_
          refine g_get hX 0 h_X0_takesDigit_X0 0 rfl rfl 5 (by decide) k_X0_takesDigit_0 rfl (v := .int (u.1 2)) rfl dX0_takesDigit_45 ?_
          refine g_cSN_I hX (n := 1) (As := [.int (u.1 2)]) (wc := []) (w1 := []) (rv := (F_X4_lowest (u.1 2))) (st := []) (c_X4_lowest (xL X) T (xB X) (u.1 2)) ggX0_takesDigit_X4_lowest 40 rfl k_X0_takesDigit_3 k_X0_takesDigit_2 rfl rfl rfl ⟨Nat.le_of_ble_eq_true rfl, Nat.le_of_ble_eq_true rfl⟩ ⟨Nat.zero_le _, Nat.zero_le _⟩ ⟨by decide +kernel, by decide +kernel, by decide +kernel⟩ rfl [] rfl rfl (by decide) rfl (Nat.le_of_ble_eq_true rfl) dX0_takesDigit_48 (ws' := wTx T t c k v u) rfl ?_
          refine g_if_ne hX 58 dX0_takesDigit_51 (by decide) (fun c_51 => ?_) (fun c_51 => ?_)
          · skip
            refine g_iconst hX (v := 0) dX0_takesDigit_58 (by decide) ?_
            refine g_istore_n hX (lv' := [(3, .int 0), (2, .int ((10 * (u.1 3)) + p1)), (0, .ref t), (1, .int p1)]) dX0_takesDigit_59 rfl (by decide) rfl ?_
            refine g_iload_n hX dX0_takesDigit_60 rfl 0 rfl ?_
            refine g_if_eq hX 75 dX0_takesDigit_61 (by decide) (fun _ => ?_) (fun c0 => absurd c0 (by decide))
            refine g_iconst hX (v := 0) dX0_takesDigit_75 (by decide) ?_
            have e9 : F_X0_takesDigit u p1 = (0, u) := by simp only [F_X0_takesDigit, eq_false c_6, eq_false c_13, eq_false c_23, eq_false c_41, eq_false c_51, if_true, if_false]
            rw [e9]
            exact g_zret hX dX0_takesDigit_76 rfl rfl rfl
          · skip
            refine g_iconst hX (v := 1) dX0_takesDigit_54 (by decide) ?_
            refine g_goto hX 59 dX0_takesDigit_55 (by decide) ?_
            refine g_istore_n hX (lv' := [(3, .int 1), (2, .int ((10 * (u.1 3)) + p1)), (0, .ref t), (1, .int p1)]) dX0_takesDigit_59 rfl (by decide) rfl ?_
            refine g_iload_n hX dX0_takesDigit_60 rfl 0 rfl ?_
            refine g_if_eq hX 75 dX0_takesDigit_61 (by decide) (fun c0 => absurd c0 (by decide)) (fun _ => ?_)
            refine g_iload_n hX dX0_takesDigit_64 rfl 1 rfl ?_
            refine g_aload_n hX dX0_takesDigit_65 rfl 2 rfl ?_
            refine g_get hX 0 h_X0_takesDigit_X0 0 rfl rfl 5 (by decide) k_X0_takesDigit_0 rfl (v := .int (u.1 2)) rfl dX0_takesDigit_66 ?_
            refine g_cSN_I hX (n := 1) (As := [.int (u.1 2)]) (wc := []) (w1 := []) (rv := (F_X4_highest (u.1 2))) (st := [.int ((10 * (u.1 3)) + p1)]) (c_X4_highest (xL X) T (xB X) (u.1 2)) ggX0_takesDigit_X4_highest 41 rfl k_X0_takesDigit_3 k_X0_takesDigit_6 rfl rfl rfl ⟨Nat.le_of_ble_eq_true rfl, Nat.le_of_ble_eq_true rfl⟩ ⟨Nat.zero_le _, Nat.zero_le _⟩ ⟨by decide +kernel, by decide +kernel, by decide +kernel⟩ rfl [] rfl rfl (by decide) rfl (Nat.le_of_ble_eq_true rfl) dX0_takesDigit_69 (ws' := wTx T t c k v u) rfl ?_
            refine g_icmp_le hX 77 dX0_takesDigit_72 (by decide) (fun c_72 => ?_) (fun c_72 => ?_)
            · skip
              refine g_aload_n hX dX0_takesDigit_77 rfl 2 rfl ?_
              refine g_iload_n hX dX0_takesDigit_78 rfl 1 rfl ?_
              refine g_put hX 0 h_X0_takesDigit_X0 0 rfl rfl 6 (by decide) tyX0 tyX0_ok nmX0 k_X0_takesDigit_1 rfl rfl rfl rfl rfl (Nat.le_of_ble_eq_true rfl) dX0_takesDigit_79 (ws' := wTx T t c k v (upd u.1 3 ((10 * (u.1 3)) + p1), u.2.1, u.2.2.1, u.2.2.2)) rfl ?_
              refine g_iconst hX (v := 1) dX0_takesDigit_82 (by decide) ?_
              have e9 : F_X0_takesDigit u p1 = (1, (upd u.1 3 ((10 * (u.1 3)) + p1), u.2.1, u.2.2.1, u.2.2.2)) := by simp only [F_X0_takesDigit, eq_false c_6, eq_false c_13, eq_false c_23, eq_false c_41, eq_true c_51, eq_true c_72, if_true, if_false]
              rw [e9]
              exact g_zret hX dX0_takesDigit_83 rfl rfl rfl
            · skip
              refine g_iconst hX (v := 0) dX0_takesDigit_75 (by decide) ?_
              have e9 : F_X0_takesDigit u p1 = (0, u) := by simp only [F_X0_takesDigit, eq_false c_6, eq_false c_13, eq_false c_23, eq_false c_41, eq_true c_51, eq_false c_72, if_true, if_false]
              rw [e9]
              exact g_zret hX dX0_takesDigit_76 rfl rfl rfl
      · skip
        refine g_iload_n hX dX0_takesDigit_26 rfl 1 rfl ?_
        refine g_goto hX 39 dX0_takesDigit_27 (by decide) ?_
        refine g_istore_n hX (lv' := [(2, .int p1), (0, .ref t), (1, .int p1)]) dX0_takesDigit_39 rfl (by decide) rfl ?_
        refine g_iload_n hX dX0_takesDigit_40 rfl 0 rfl ?_
        refine g_if_gt hX 54 dX0_takesDigit_41 (by decide) (fun c_41 => ?_) (fun c_41 => ?_)
        · skip
          refine g_iconst hX (v := 1) dX0_takesDigit_54 (by decide) ?_
          refine g_goto hX 59 dX0_takesDigit_55 (by decide) ?_
          refine g_istore_n hX (lv' := [(3, .int 1), (2, .int p1), (0, .ref t), (1, .int p1)]) dX0_takesDigit_59 rfl (by decide) rfl ?_
          refine g_iload_n hX dX0_takesDigit_60 rfl 0 rfl ?_
          refine g_if_eq hX 75 dX0_takesDigit_61 (by decide) (fun c0 => absurd c0 (by decide)) (fun _ => ?_)
          refine g_iload_n hX dX0_takesDigit_64 rfl 1 rfl ?_
          refine g_aload_n hX dX0_takesDigit_65 rfl 2 rfl ?_
          refine g_get hX 0 h_X0_takesDigit_X0 0 rfl rfl 5 (by decide) k_X0_takesDigit_0 rfl (v := .int (u.1 2)) rfl dX0_takesDigit_66 ?_
          refine g_cSN_I hX (n := 1) (As := [.int (u.1 2)]) (wc := []) (w1 := []) (rv := (F_X4_highest (u.1 2))) (st := [.int p1]) (c_X4_highest (xL X) T (xB X) (u.1 2)) ggX0_takesDigit_X4_highest 41 rfl k_X0_takesDigit_3 k_X0_takesDigit_6 rfl rfl rfl ⟨Nat.le_of_ble_eq_true rfl, Nat.le_of_ble_eq_true rfl⟩ ⟨Nat.zero_le _, Nat.zero_le _⟩ ⟨by decide +kernel, by decide +kernel, by decide +kernel⟩ rfl [] rfl rfl (by decide) rfl (Nat.le_of_ble_eq_true rfl) dX0_takesDigit_69 (ws' := wTx T t c k v u) rfl ?_
          refine g_icmp_le hX 77 dX0_takesDigit_72 (by decide) (fun c_72 => ?_) (fun c_72 => ?_)
          · skip
            refine g_aload_n hX dX0_takesDigit_77 rfl 2 rfl ?_
            refine g_iload_n hX dX0_takesDigit_78 rfl 1 rfl ?_
            refine g_put hX 0 h_X0_takesDigit_X0 0 rfl rfl 6 (by decide) tyX0 tyX0_ok nmX0 k_X0_takesDigit_1 rfl rfl rfl rfl rfl (Nat.le_of_ble_eq_true rfl) dX0_takesDigit_79 (ws' := wTx T t c k v (upd u.1 3 p1, u.2.1, u.2.2.1, u.2.2.2)) rfl ?_
            refine g_iconst hX (v := 1) dX0_takesDigit_82 (by decide) ?_
            have e9 : F_X0_takesDigit u p1 = (1, (upd u.1 3 p1, u.2.1, u.2.2.1, u.2.2.2)) := by simp only [F_X0_takesDigit, eq_false c_6, eq_false c_13, eq_true c_23, eq_true c_41, eq_true c_72, if_true, if_false]
            rw [e9]
            exact g_zret hX dX0_takesDigit_83 rfl rfl rfl
          · skip
            refine g_iconst hX (v := 0) dX0_takesDigit_75 (by decide) ?_
            have e9 : F_X0_takesDigit u p1 = (0, u) := by simp only [F_X0_takesDigit, eq_false c_6, eq_false c_13, eq_true c_23, eq_true c_41, eq_false c_72, if_true, if_false]
            rw [e9]
            exact g_zret hX dX0_takesDigit_76 rfl rfl rfl
        · skip
          refine g_aload_n hX dX0_takesDigit_44 rfl 1 rfl ?_
          refine g_get hX 0 h_X0_takesDigit_X0 0 rfl rfl 5 (by decide) k_X0_takesDigit_0 rfl (v := .int (u.1 2)) rfl dX0_takesDigit_45 ?_
          refine g_cSN_I hX (n := 1) (As := [.int (u.1 2)]) (wc := []) (w1 := []) (rv := (F_X4_lowest (u.1 2))) (st := []) (c_X4_lowest (xL X) T (xB X) (u.1 2)) ggX0_takesDigit_X4_lowest 40 rfl k_X0_takesDigit_3 k_X0_takesDigit_2 rfl rfl rfl ⟨Nat.le_of_ble_eq_true rfl, Nat.le_of_ble_eq_true rfl⟩ ⟨Nat.zero_le _, Nat.zero_le _⟩ ⟨by decide +kernel, by decide +kernel, by decide +kernel⟩ rfl [] rfl rfl (by decide) rfl (Nat.le_of_ble_eq_true rfl) dX0_takesDigit_48 (ws' := wTx T t c k v u) rfl ?_
          refine g_if_ne hX 58 dX0_takesDigit_51 (by decide) (fun c_51 => ?_) (fun c_51 => ?_)
          · skip
            refine g_iconst hX (v := 0) dX0_takesDigit_58 (by decide) ?_
            refine g_istore_n hX (lv' := [(3, .int 0), (2, .int p1), (0, .ref t), (1, .int p1)]) dX0_takesDigit_59 rfl (by decide) rfl ?_
            refine g_iload_n hX dX0_takesDigit_60 rfl 0 rfl ?_
            refine g_if_eq hX 75 dX0_takesDigit_61 (by decide) (fun _ => ?_) (fun c0 => absurd c0 (by decide))
            refine g_iconst hX (v := 0) dX0_takesDigit_75 (by decide) ?_
            have e9 : F_X0_takesDigit u p1 = (0, u) := by simp only [F_X0_takesDigit, eq_false c_6, eq_false c_13, eq_true c_23, eq_false c_41, eq_false c_51, if_true, if_false]
            rw [e9]
            exact g_zret hX dX0_takesDigit_76 rfl rfl rfl
          · skip
            refine g_iconst hX (v := 1) dX0_takesDigit_54 (by decide) ?_
            refine g_goto hX 59 dX0_takesDigit_55 (by decide) ?_
            refine g_istore_n hX (lv' := [(3, .int 1), (2, .int p1), (0, .ref t), (1, .int p1)]) dX0_takesDigit_59 rfl (by decide) rfl ?_
            refine g_iload_n hX dX0_takesDigit_60 rfl 0 rfl ?_
            refine g_if_eq hX 75 dX0_takesDigit_61 (by decide) (fun c0 => absurd c0 (by decide)) (fun _ => ?_)
            refine g_iload_n hX dX0_takesDigit_64 rfl 1 rfl ?_
            refine g_aload_n hX dX0_takesDigit_65 rfl 2 rfl ?_
            refine g_get hX 0 h_X0_takesDigit_X0 0 rfl rfl 5 (by decide) k_X0_takesDigit_0 rfl (v := .int (u.1 2)) rfl dX0_takesDigit_66 ?_
            refine g_cSN_I hX (n := 1) (As := [.int (u.1 2)]) (wc := []) (w1 := []) (rv := (F_X4_highest (u.1 2))) (st := [.int p1]) (c_X4_highest (xL X) T (xB X) (u.1 2)) ggX0_takesDigit_X4_highest 41 rfl k_X0_takesDigit_3 k_X0_takesDigit_6 rfl rfl rfl ⟨Nat.le_of_ble_eq_true rfl, Nat.le_of_ble_eq_true rfl⟩ ⟨Nat.zero_le _, Nat.zero_le _⟩ ⟨by decide +kernel, by decide +kernel, by decide +kernel⟩ rfl [] rfl rfl (by decide) rfl (Nat.le_of_ble_eq_true rfl) dX0_takesDigit_69 (ws' := wTx T t c k v u) rfl ?_
            refine g_icmp_le hX 77 dX0_takesDigit_72 (by decide) (fun c_72 => ?_) (fun c_72 => ?_)
            · skip
              refine g_aload_n hX dX0_takesDigit_77 rfl 2 rfl ?_
              refine g_iload_n hX dX0_takesDigit_78 rfl 1 rfl ?_
              refine g_put hX 0 h_X0_takesDigit_X0 0 rfl rfl 6 (by decide) tyX0 tyX0_ok nmX0 k_X0_takesDigit_1 rfl rfl rfl rfl rfl (Nat.le_of_ble_eq_true rfl) dX0_takesDigit_79 (ws' := wTx T t c k v (upd u.1 3 p1, u.2.1, u.2.2.1, u.2.2.2)) rfl ?_
              refine g_iconst hX (v := 1) dX0_takesDigit_82 (by decide) ?_
              have e9 : F_X0_takesDigit u p1 = (1, (upd u.1 3 p1, u.2.1, u.2.2.1, u.2.2.2)) := by simp only [F_X0_takesDigit, eq_false c_6, eq_false c_13, eq_true c_23, eq_false c_41, eq_true c_51, eq_true c_72, if_true, if_false]
              rw [e9]
              exact g_zret hX dX0_takesDigit_83 rfl rfl rfl
            · skip
              refine g_iconst hX (v := 0) dX0_takesDigit_75 (by decide) ?_
              have e9 : F_X0_takesDigit u p1 = (0, u) := by simp only [F_X0_takesDigit, eq_false c_6, eq_false c_13, eq_true c_23, eq_false c_41, eq_true c_51, eq_false c_72, if_true, if_false]
              rw [e9]
              exact g_zret hX dX0_takesDigit_76 rfl rfl rfl
    · skip
      refine g_iconst hX (v := 0) dX0_takesDigit_16 (by decide) ?_
      have e9 : F_X0_takesDigit u p1 = (0, u) := by simp only [F_X0_takesDigit, eq_false c_6, eq_true c_13, if_true, if_false]
      rw [e9]
      exact g_zret hX dX0_takesDigit_17 rfl rfl rfl
/-! X0_takes -/
def rmX0_takes : Room := { frames := 2, cells := 0, slots := 0, locals := 43 }
theorem k_X0_takes_0 : Cond.fieldLink RX0 29 RX0 (TX0 5).2.1 (TX0 5).2.2.1 ∈ wsX0_takes := List.mem_of_getElem? (i := 1) rfl
theorem h_X0_takes_X0 : ∀ w ∈ u_ws RX0 TX0 7, w ∈ wsX0_takes := fun w h => List.mem_cons_of_mem _ (List.mem_append_right _ h)
def F_X0_takes (u : TV) (p1 : Int32) : Int32 × TV :=
  (if (u.1 2) = (-1) then (if (F_X0_kindOf p1) = (-1) then (0, (upd u.1 2 (F_X0_kindOf p1), u.2.1, u.2.2.1, u.2.2.2)) else (1, (upd u.1 2 (F_X0_kindOf p1), u.2.1, u.2.2.1, u.2.2.2))) else (if p1 = 44 then (if (F_X0_isComplete u) = 0 then (if p1 < 48 then (0, u) else (if 57 < p1 then (0, u) else (let z_66 := F_X0_takesDigit u (p1 - 48)
  (if z_66.1 = 0 then (0, z_66.2) else (1, z_66.2))))) else (let z_44 := F_X0_addCommand u
  (1, z_44))) else (if p1 < 48 then (0, u) else (if 57 < p1 then (0, u) else (let z_66 := F_X0_takesDigit u (p1 - 48)
  (if z_66.1 = 0 then (0, z_66.2) else (1, z_66.2)))))))
set_option maxHeartbeats 4000000 in
set_option maxRecDepth 100000 in
theorem c_X0_takes (l : Launch) (T : TT) (b0 : Nat) (t c k v : Nat) (u : TV) (p1 : Int32)  : ConI l T b0 yX0_takes wsX0_takes rmX0_takes [.ref t, .int p1] (wTx T t c k v u) ((F_X0_takes u p1).1) (wTx T t c k v ((F_X0_takes u p1).2)) := by
  refine conI_of (cc := cX0_takes) (maxL := 2) (ret := (some .boolean)) (lv0 := [(0, .ref t), (1, .int p1)]) (by decide +kernel) rfl (Nat.le_of_ble_eq_true rfl) rfl (fun X hX => ?_)
  refine g_aload_n hX dX0_takes_0 rfl 0 rfl ?_
  refine g_get hX 0 h_X0_takes_X0 0 rfl rfl 5 (by decide) k_X0_takes_0 rfl (v := .int (u.1 2)) rfl dX0_takes_1 ?_
  refine g_iconst hX (v := (-1)) dX0_takes_4 (by decide) ?_
  refine g_icmp_ne hX 30 dX0_takes_5 (by decide) (fun c_5 => ?_) (fun c_5 => ?_)
  · skip
    refine g_iload_n hX dX0_takes_30 rfl 1 rfl ?_
    refine g_bipush hX (v := 44) dX0_takes_31 (by decide) ?_
    refine g_icmp_ne hX 49 dX0_takes_33 (by decide) (fun c_33 => ?_) (fun c_33 => ?_)
    · skip
      refine g_iload_n hX dX0_takes_49 rfl 1 rfl ?_
      refine g_bipush hX (v := 48) dX0_takes_50 (by decide) ?_
      refine g_icmp_lt hX 76 dX0_takes_52 (by decide) (fun c_52 => ?_) (fun c_52 => ?_)
      · skip
        refine g_iconst hX (v := 0) dX0_takes_76 (by decide) ?_
        have e9 : F_X0_takes u p1 = (0, u) := by simp only [F_X0_takes, eq_false c_5, eq_false c_33, eq_true c_52, if_true, if_false]
        rw [e9]
        exact g_zret hX dX0_takes_77 rfl rfl rfl
      · skip
        refine g_iload_n hX dX0_takes_55 rfl 1 rfl ?_
        refine g_bipush hX (v := 57) dX0_takes_56 (by decide) ?_
        refine g_icmp_gt hX 76 dX0_takes_58 (by decide) (fun c_58 => ?_) (fun c_58 => ?_)
        · skip
          refine g_iconst hX (v := 0) dX0_takes_76 (by decide) ?_
          have e9 : F_X0_takes u p1 = (0, u) := by simp only [F_X0_takes, eq_false c_5, eq_false c_33, eq_false c_52, eq_true c_58, if_true, if_false]
          rw [e9]
          exact g_zret hX dX0_takes_77 rfl rfl rfl
        · skip
          refine g_aload_n hX dX0_takes_61 rfl 0 rfl ?_
          refine g_iload_n hX dX0_takes_62 rfl 1 rfl ?_
          refine g_bipush hX (v := 48) dX0_takes_63 (by decide) ?_
          refine g_isub hX dX0_takes_65 ?_
          obtain ⟨z_66, hz_66⟩ : ∃ z : Int32 × TV, z = F_X0_takesDigit u (p1 - 48) := ⟨_, rfl⟩
          refine g_cV_I hX (n := 1) (As := [.int (p1 - 48)]) (wc := wTx T t c k v u) (w1 := wTx T t c k v z_66.2) (rv := z_66.1) (st := []) 0 rfl rfl (by rw [hz_66]; exact (c_X0_takesDigit (xL X) T (xB X) t c k v u (p1 - 48))) gX0_takes_X0_takesDigit rfl rfl rfl ⟨Nat.le_of_ble_eq_true rfl, Nat.le_of_ble_eq_true rfl⟩ ⟨Nat.zero_le _, Nat.zero_le _⟩ ⟨by decide +kernel, by decide +kernel, by decide +kernel⟩ rfl [0, 1, 2, 3] rfl rfl (by decide) rfl (Nat.le_of_ble_eq_true rfl) dX0_takes_66 (ws' := wTx T t c k v z_66.2) rfl ?_
          refine g_if_eq hX 76 dX0_takes_69 (by decide) (fun c_69 => ?_) (fun c_69 => ?_)
          · skip
            refine g_iconst hX (v := 0) dX0_takes_76 (by decide) ?_
            have e9 : F_X0_takes u p1 = (0, z_66.2) := by simp only [F_X0_takes, ← hz_66, eq_false c_5, eq_false c_33, eq_false c_52, eq_false c_58, eq_true c_69, if_true, if_false]
            rw [e9]
            exact g_zret hX dX0_takes_77 rfl rfl rfl
          · skip
            refine g_iconst hX (v := 1) dX0_takes_72 (by decide) ?_
            refine g_goto hX 77 dX0_takes_73 (by decide) ?_
            have e9 : F_X0_takes u p1 = (1, z_66.2) := by simp only [F_X0_takes, ← hz_66, eq_false c_5, eq_false c_33, eq_false c_52, eq_false c_58, eq_false c_69, if_true, if_false]
            rw [e9]
            exact g_zret hX dX0_takes_77 rfl rfl rfl
    · skip
      refine g_aload_n hX dX0_takes_36 rfl 0 rfl ?_
      refine g_cV_I hX (n := 0) (As := []) (wc := wTx T t c k v u) (w1 := wTx T t c k v u) (rv := (F_X0_isComplete u)) (st := []) 0 rfl rfl (c_X0_isComplete (xL X) T (xB X) t c k v u) gX0_takes_X0_isComplete rfl rfl rfl ⟨Nat.le_of_ble_eq_true rfl, Nat.le_of_ble_eq_true rfl⟩ ⟨Nat.zero_le _, Nat.zero_le _⟩ ⟨by decide +kernel, by decide +kernel, by decide +kernel⟩ rfl [0, 1, 2, 3] rfl rfl (by decide) rfl (Nat.le_of_ble_eq_true rfl) dX0_takes_37 (ws' := wTx T t c k v u) rfl ?_
      refine g_if_eq hX 49 dX0_takes_40 (by decide) (fun c_40 => ?_) (fun c_40 => ?_)
      · skip
        refine g_iload_n hX dX0_takes_49 rfl 1 rfl ?_
        refine g_bipush hX (v := 48) dX0_takes_50 (by decide) ?_
        refine g_icmp_lt hX 76 dX0_takes_52 (by decide) (fun c_52 => ?_) (fun c_52 => ?_)
        · skip
          refine g_iconst hX (v := 0) dX0_takes_76 (by decide) ?_
          have e9 : F_X0_takes u p1 = (0, u) := by simp only [F_X0_takes, eq_false c_5, eq_true c_33, eq_true c_40, eq_true c_52, if_true, if_false]
          rw [e9]
          exact g_zret hX dX0_takes_77 rfl rfl rfl
        · skip
          refine g_iload_n hX dX0_takes_55 rfl 1 rfl ?_
          refine g_bipush hX (v := 57) dX0_takes_56 (by decide) ?_
          refine g_icmp_gt hX 76 dX0_takes_58 (by decide) (fun c_58 => ?_) (fun c_58 => ?_)
          · skip
            refine g_iconst hX (v := 0) dX0_takes_76 (by decide) ?_
            have e9 : F_X0_takes u p1 = (0, u) := by simp only [F_X0_takes, eq_false c_5, eq_true c_33, eq_true c_40, eq_false c_52, eq_true c_58, if_true, if_false]
            rw [e9]
            exact g_zret hX dX0_takes_77 rfl rfl rfl
          · skip
            refine g_aload_n hX dX0_takes_61 rfl 0 rfl ?_
            refine g_iload_n hX dX0_takes_62 rfl 1 rfl ?_
            refine g_bipush hX (v := 48) dX0_takes_63 (by decide) ?_
            refine g_isub hX dX0_takes_65 ?_
            obtain ⟨z_66, hz_66⟩ : ∃ z : Int32 × TV, z = F_X0_takesDigit u (p1 - 48) := ⟨_, rfl⟩
            refine g_cV_I hX (n := 1) (As := [.int (p1 - 48)]) (wc := wTx T t c k v u) (w1 := wTx T t c k v z_66.2) (rv := z_66.1) (st := []) 0 rfl rfl (by rw [hz_66]; exact (c_X0_takesDigit (xL X) T (xB X) t c k v u (p1 - 48))) gX0_takes_X0_takesDigit rfl rfl rfl ⟨Nat.le_of_ble_eq_true rfl, Nat.le_of_ble_eq_true rfl⟩ ⟨Nat.zero_le _, Nat.zero_le _⟩ ⟨by decide +kernel, by decide +kernel, by decide +kernel⟩ rfl [0, 1, 2, 3] rfl rfl (by decide) rfl (Nat.le_of_ble_eq_true rfl) dX0_takes_66 (ws' := wTx T t c k v z_66.2) rfl ?_
            refine g_if_eq hX 76 dX0_takes_69 (by decide) (fun c_69 => ?_) (fun c_69 => ?_)
            · skip
              refine g_iconst hX (v := 0) dX0_takes_76 (by decide) ?_
              have e9 : F_X0_takes u p1 = (0, z_66.2) := by simp only [F_X0_takes, ← hz_66, eq_false c_5, eq_true c_33, eq_true c_40, eq_false c_52, eq_false c_58, eq_true c_69, if_true, if_false]
              rw [e9]
              exact g_zret hX dX0_takes_77 rfl rfl rfl
            · skip
              refine g_iconst hX (v := 1) dX0_takes_72 (by decide) ?_
              refine g_goto hX 77 dX0_takes_73 (by decide) ?_
              have e9 : F_X0_takes u p1 = (1, z_66.2) := by simp only [F_X0_takes, ← hz_66, eq_false c_5, eq_true c_33, eq_true c_40, eq_false c_52, eq_false c_58, eq_false c_69, if_true, if_false]
              rw [e9]
              exact g_zret hX dX0_takes_77 rfl rfl rfl
      · skip
        refine g_aload_n hX dX0_takes_43 rfl 0 rfl ?_
        obtain ⟨z_44, hz_44⟩ : ∃ z : TV, z = F_X0_addCommand u := ⟨_, rfl⟩
        refine g_cV_V hX (n := 0) (As := []) (wc := wTx T t c k v u) (w1 := wTx T t c k v z_44) (st := []) 0 rfl rfl (by rw [hz_44]; exact (c_X0_addCommand (xL X) T (xB X) t c k v u)) gX0_takes_X0_addCommand rfl rfl rfl ⟨Nat.le_of_ble_eq_true rfl, Nat.le_of_ble_eq_true rfl⟩ ⟨Nat.zero_le _, Nat.zero_le _⟩ ⟨by decide +kernel, by decide +kernel, by decide +kernel⟩ rfl [0, 1, 2, 3] rfl rfl (by decide) rfl (Nat.le_of_ble_eq_true rfl) dX0_takes_44 (ws' := wTx T t c k v z_44) rfl ?_
        refine g_iconst hX (v := 1) dX0_takes_47 (by decide) ?_
        have e9 : F_X0_takes u p1 = (1, z_44) := by simp only [F_X0_takes, ← hz_44, eq_false c_5, eq_true c_33, eq_false c_40, if_true, if_false]
        rw [e9]
        exact g_zret hX dX0_takes_48 rfl rfl rfl
  · skip
    refine g_aload_n hX dX0_takes_8 rfl 0 rfl ?_
    refine g_iload_n hX dX0_takes_9 rfl 1 rfl ?_
    refine g_cS_I hX (n := 1) (As := [.int p1]) (wc := []) (w1 := []) (rv := (F_X0_kindOf p1)) (st := [.ref t]) (c_X0_kindOf (xL X) T (xB X) p1) gX0_takes_X0_kindOf rfl rfl rfl ⟨Nat.le_of_ble_eq_true rfl, Nat.le_of_ble_eq_true rfl⟩ ⟨Nat.zero_le _, Nat.zero_le _⟩ ⟨by decide +kernel, by decide +kernel, by decide +kernel⟩ rfl [] rfl rfl (by decide) rfl (Nat.le_of_ble_eq_true rfl) dX0_takes_10 (ws' := wTx T t c k v u) rfl ?_
    refine g_put hX 0 h_X0_takes_X0 0 rfl rfl 5 (by decide) tyX0 tyX0_ok nmX0 k_X0_takes_0 rfl rfl rfl rfl rfl (Nat.le_of_ble_eq_true rfl) dX0_takes_13 (ws' := wTx T t c k v (upd u.1 2 (F_X0_kindOf p1), u.2.1, u.2.2.1, u.2.2.2)) rfl ?_
    refine g_aload_n hX dX0_takes_16 rfl 0 rfl ?_
    refine g_get hX 0 h_X0_takes_X0 0 rfl rfl 5 (by decide) k_X0_takes_0 rfl (v := .int (F_X0_kindOf p1)) rfl dX0_takes_17 ?_
    refine g_iconst hX (v := (-1)) dX0_takes_20 (by decide) ?_
    refine g_icmp_eq hX 28 dX0_takes_21 (by decide) (fun c_21 => ?_) (fun c_21 => ?_)
    · skip
      refine g_iconst hX (v := 0) dX0_takes_28 (by decide) ?_
      have e9 : F_X0_takes u p1 = (0, (upd u.1 2 (F_X0_kindOf p1), u.2.1, u.2.2.1, u.2.2.2)) := by simp only [F_X0_takes, eq_true c_5, eq_true c_21, if_true, if_false]
      rw [e9]
      exact g_zret hX dX0_takes_29 rfl rfl rfl
    · skip
      refine g_iconst hX (v := 1) dX0_takes_24 (by decide) ?_
      refine g_goto hX 29 dX0_takes_25 (by decide) ?_
      have e9 : F_X0_takes u p1 = (1, (upd u.1 2 (F_X0_kindOf p1), u.2.1, u.2.2.1, u.2.2.2)) := by simp only [F_X0_takes, eq_true c_5, eq_false c_21, if_true, if_false]
      rw [e9]
      exact g_zret hX dX0_takes_29 rfl rfl rfl
/-! X0_read -/
def rmX0_read : Room := { frames := 3, cells := 0, slots := 0, locals := 64 }
theorem k_X0_read_0 : Cond.fieldLink RX0 26 RX0 (TX0 4).2.1 (TX0 4).2.2.1 ∈ wsX0_read := List.mem_of_getElem? (i := 1) rfl
theorem h_X0_read_X0 : ∀ w ∈ u_ws RX0 TX0 7, w ∈ wsX0_read := fun w h => List.mem_cons_of_mem _ (List.mem_append_right _ h)
theorem k_X0_read_1 : Cond.fieldLink RX0 29 RX0 (TX0 5).2.1 (TX0 5).2.2.1 ∈ wsX0_read := List.mem_of_getElem? (i := 2) rfl
theorem k_X0_read_2 : Cond.fieldLink RX0 32 RX0 (TX0 6).2.1 (TX0 6).2.2.1 ∈ wsX0_read := List.mem_of_getElem? (i := 3) rfl
theorem k_X0_read_3 : Cond.fieldLink RX0 22 RX0 (TX0 3).2.1 (TX0 3).2.2.1 ∈ wsX0_read := List.mem_of_getElem? (i := 4) rfl
theorem k_X0_read_4 : Cond.fieldLink RX0 9 RX0 (TX0 0).2.1 (TX0 0).2.2.1 ∈ wsX0_read := List.mem_of_getElem? (i := 5) rfl
def K_X0_read_17 : Nat → TV → Nat → Int32 × TV
  | 0, u, j => (0, u)
  | n + 1, u, j => (if (u.1 0) ≤ (nI j) then (if (F_X0_isComplete u) = 0 then ((u.1 0), u) else (let z_68 := F_X0_addCommand u
  ((-1), z_68))) else (if 60 ≤ (nI j) then (if (F_X0_isComplete u) = 0 then ((u.1 0), u) else (let z_68 := F_X0_addCommand u
  ((-1), z_68))) else (let z_41 := F_X0_takes u (u.2.1 j)
  (if z_41.1 = 0 then ((nI j), z_41.2) else K_X0_read_17 n z_41.2 (j + 1)))))
def F_X0_read (u : TV) : Int32 × TV :=
  K_X0_read_17 61 (upd (upd (upd u.1 1 0) 2 (-1)) 3 (-1), u.2.1, u.2.2.1, u.2.2.2) 0
set_option maxHeartbeats 4000000 in
set_option maxRecDepth 100000 in
theorem k_X0_read_17 {T : TT} {X : CX} (hX : Fit T X (yX0_read).cls 2 wsX0_read cX0_read (some .int) rmX0_read) (t c k v : Nat) : ∀ (n : Nat) (u : TV) (j : Nat) (hn : j + n = 61) (hj : j ≤ 60), G T X (QI T X 0 0 ((K_X0_read_17 n u j).1) (wTx T t c k v ((K_X0_read_17 n u j).2))) 0 0 (wTx T t c k v u) [(1, .int (nI j)), (0, .ref t)] 17 [] := by
  intro n
  induction n with
  | zero =>
    intro u j hn hj
    exact absurd hn (by omega)
  | succ n ih =>
    intro u j hn hj
    refine g_iload_n hX dX0_read_17 rfl 0 rfl ?_
    refine g_aload_n hX dX0_read_18 rfl 1 rfl ?_
    refine g_get hX 0 h_X0_read_X0 0 rfl rfl 3 (by decide) k_X0_read_3 rfl (v := .int (u.1 0)) rfl dX0_read_19 ?_
    refine g_icmp_ge hX 55 dX0_read_22 (by decide) (fun c_22 => ?_) (fun c_22 => ?_)
    · skip
      refine g_aload_n hX dX0_read_55 rfl 1 rfl ?_
      refine g_cV_I hX (n := 0) (As := []) (wc := wTx T t c k v u) (w1 := wTx T t c k v u) (rv := (F_X0_isComplete u)) (st := []) 0 rfl rfl (c_X0_isComplete (xL X) T (xB X) t c k v u) gX0_read_X0_isComplete rfl rfl rfl ⟨Nat.le_of_ble_eq_true rfl, Nat.le_of_ble_eq_true rfl⟩ ⟨Nat.zero_le _, Nat.zero_le _⟩ ⟨by decide +kernel, by decide +kernel, by decide +kernel⟩ rfl [0, 1, 2, 3] rfl rfl (by decide) rfl (Nat.le_of_ble_eq_true rfl) dX0_read_56 (ws' := wTx T t c k v u) rfl ?_
      refine g_if_ne hX 67 dX0_read_59 (by decide) (fun c_59 => ?_) (fun c_59 => ?_)
      · skip
        refine g_aload_n hX dX0_read_67 rfl 1 rfl ?_
        obtain ⟨z_68, hz_68⟩ : ∃ z : TV, z = F_X0_addCommand u := ⟨_, rfl⟩
        refine g_cV_V hX (n := 0) (As := []) (wc := wTx T t c k v u) (w1 := wTx T t c k v z_68) (st := []) 0 rfl rfl (by rw [hz_68]; exact (c_X0_addCommand (xL X) T (xB X) t c k v u)) gX0_read_X0_addCommand rfl rfl rfl ⟨Nat.le_of_ble_eq_true rfl, Nat.le_of_ble_eq_true rfl⟩ ⟨Nat.zero_le _, Nat.zero_le _⟩ ⟨by decide +kernel, by decide +kernel, by decide +kernel⟩ rfl [0, 1, 2, 3] rfl rfl (by decide) rfl (Nat.le_of_ble_eq_true rfl) dX0_read_68 (ws' := wTx T t c k v z_68) rfl ?_
        refine g_iconst hX (v := (-1)) dX0_read_71 (by decide) ?_
        have e9 : K_X0_read_17 (n + 1) u j = ((-1), z_68) := by simp only [K_X0_read_17, ← hz_68, eq_true c_22, eq_false c_59, if_true, if_false]
        rw [e9]
        exact g_iret hX dX0_read_72 rfl rfl
      · skip
        refine g_aload_n hX dX0_read_62 rfl 1 rfl ?_
        refine g_get hX 0 h_X0_read_X0 0 rfl rfl 3 (by decide) k_X0_read_3 rfl (v := .int (u.1 0)) rfl dX0_read_63 ?_
        have e9 : K_X0_read_17 (n + 1) u j = ((u.1 0), u) := by simp only [K_X0_read_17, eq_true c_22, eq_true c_59, if_true, if_false]
        rw [e9]
        exact g_iret hX dX0_read_66 rfl rfl
    · skip
      refine g_iload_n hX dX0_read_25 rfl 0 rfl ?_
      refine g_aload_n hX dX0_read_26 rfl 1 rfl ?_
      refine g_get hX 0 h_X0_read_X0 0 rfl rfl 0 (by decide) k_X0_read_4 rfl (v := .ref c) rfl dX0_read_27 ?_
      refine g_alen hX 1 1 rfl rfl (v := 60) rfl dX0_read_30 ?_
      refine g_icmp_ge hX 55 dX0_read_31 (by decide) (fun c_31 => ?_) (fun c_31 => ?_)
      · skip
        refine g_aload_n hX dX0_read_55 rfl 1 rfl ?_
        refine g_cV_I hX (n := 0) (As := []) (wc := wTx T t c k v u) (w1 := wTx T t c k v u) (rv := (F_X0_isComplete u)) (st := []) 0 rfl rfl (c_X0_isComplete (xL X) T (xB X) t c k v u) gX0_read_X0_isComplete rfl rfl rfl ⟨Nat.le_of_ble_eq_true rfl, Nat.le_of_ble_eq_true rfl⟩ ⟨Nat.zero_le _, Nat.zero_le _⟩ ⟨by decide +kernel, by decide +kernel, by decide +kernel⟩ rfl [0, 1, 2, 3] rfl rfl (by decide) rfl (Nat.le_of_ble_eq_true rfl) dX0_read_56 (ws' := wTx T t c k v u) rfl ?_
        refine g_if_ne hX 67 dX0_read_59 (by decide) (fun c_59 => ?_) (fun c_59 => ?_)
        · skip
          refine g_aload_n hX dX0_read_67 rfl 1 rfl ?_
          obtain ⟨z_68, hz_68⟩ : ∃ z : TV, z = F_X0_addCommand u := ⟨_, rfl⟩
          refine g_cV_V hX (n := 0) (As := []) (wc := wTx T t c k v u) (w1 := wTx T t c k v z_68) (st := []) 0 rfl rfl (by rw [hz_68]; exact (c_X0_addCommand (xL X) T (xB X) t c k v u)) gX0_read_X0_addCommand rfl rfl rfl ⟨Nat.le_of_ble_eq_true rfl, Nat.le_of_ble_eq_true rfl⟩ ⟨Nat.zero_le _, Nat.zero_le _⟩ ⟨by decide +kernel, by decide +kernel, by decide +kernel⟩ rfl [0, 1, 2, 3] rfl rfl (by decide) rfl (Nat.le_of_ble_eq_true rfl) dX0_read_68 (ws' := wTx T t c k v z_68) rfl ?_
          refine g_iconst hX (v := (-1)) dX0_read_71 (by decide) ?_
          have e9 : K_X0_read_17 (n + 1) u j = ((-1), z_68) := by simp only [K_X0_read_17, ← hz_68, eq_false c_22, eq_true c_31, eq_false c_59, if_true, if_false]
          rw [e9]
          exact g_iret hX dX0_read_72 rfl rfl
        · skip
          refine g_aload_n hX dX0_read_62 rfl 1 rfl ?_
          refine g_get hX 0 h_X0_read_X0 0 rfl rfl 3 (by decide) k_X0_read_3 rfl (v := .int (u.1 0)) rfl dX0_read_63 ?_
          have e9 : K_X0_read_17 (n + 1) u j = ((u.1 0), u) := by simp only [K_X0_read_17, eq_false c_22, eq_true c_31, eq_true c_59, if_true, if_false]
          rw [e9]
          exact g_iret hX dX0_read_66 rfl rfl
      · skip
        have hlt_31 : j < 60 := nlt_of c_31 (by decide) (by omega)
        refine g_aload_n hX dX0_read_34 rfl 1 rfl ?_
        refine g_aload_n hX dX0_read_35 rfl 1 rfl ?_
        refine g_get hX 0 h_X0_read_X0 0 rfl rfl 0 (by decide) k_X0_read_4 rfl (v := .ref c) rfl dX0_read_36 ?_
        refine g_iload_n hX dX0_read_39 rfl 0 rfl ?_
        refine g_cald hX 1 rfl (vp_in_nI (by omega) (by omega)) (v := (u.2.1 j)) (congrArg _ (nI_clamp (by omega))) dX0_read_40 ?_
        obtain ⟨z_41, hz_41⟩ : ∃ z : Int32 × TV, z = F_X0_takes u (u.2.1 j) := ⟨_, rfl⟩
        refine g_cV_I hX (n := 1) (As := [.int (u.2.1 j)]) (wc := wTx T t c k v u) (w1 := wTx T t c k v z_41.2) (rv := z_41.1) (st := []) 0 rfl rfl (by rw [hz_41]; exact (c_X0_takes (xL X) T (xB X) t c k v u (u.2.1 j))) gX0_read_X0_takes rfl rfl rfl ⟨Nat.le_of_ble_eq_true rfl, Nat.le_of_ble_eq_true rfl⟩ ⟨Nat.zero_le _, Nat.zero_le _⟩ ⟨by decide +kernel, by decide +kernel, by decide +kernel⟩ rfl [0, 1, 2, 3] rfl rfl (by decide) rfl (Nat.le_of_ble_eq_true rfl) dX0_read_41 (ws' := wTx T t c k v z_41.2) rfl ?_
        refine g_if_ne hX 49 dX0_read_44 (by decide) (fun c_44 => ?_) (fun c_44 => ?_)
        · skip
          refine g_iinc hX (lv' := [(1, .int (nI (j + 1))), (0, .ref t)]) (v := (nI (j + 1))) 0 dX0_read_49 rfl (nI_1 _) (by decide) rfl ?_
          refine g_goto hX 17 dX0_read_52 (by decide) ?_
          have e9 : K_X0_read_17 (n + 1) u j = K_X0_read_17 n z_41.2 (j + 1) := by simp only [K_X0_read_17, ← hz_41, eq_false c_22, eq_false c_31, eq_false c_44, if_true, if_false]
          rw [e9]
          refine g_lv (lv' := [(1, .int (nI (j + 1))), (0, .ref t)]) [0, 1] rfl ?_
          exact ih z_41.2 (j + 1) (by omega) (by omega)
        · skip
          refine g_iload_n hX dX0_read_47 rfl 0 rfl ?_
          have e9 : K_X0_read_17 (n + 1) u j = ((nI j), z_41.2) := by simp only [K_X0_read_17, ← hz_41, eq_false c_22, eq_false c_31, eq_true c_44, if_true, if_false]
          rw [e9]
          exact g_iret hX dX0_read_48 rfl rfl
set_option maxHeartbeats 4000000 in
set_option maxRecDepth 100000 in
theorem c_X0_read (l : Launch) (T : TT) (b0 : Nat) (t c k v : Nat) (u : TV)  : ConI l T b0 yX0_read wsX0_read rmX0_read [.ref t] (wTx T t c k v u) ((F_X0_read u).1) (wTx T t c k v ((F_X0_read u).2)) := by
  refine conI_of (cc := cX0_read) (maxL := 2) (ret := (some .int)) (lv0 := [(0, .ref t)]) (by decide +kernel) rfl (Nat.le_of_ble_eq_true rfl) rfl (fun X hX => ?_)
  refine g_aload_n hX dX0_read_0 rfl 0 rfl ?_
  refine g_iconst hX (v := 0) dX0_read_1 (by decide) ?_
  refine g_put hX 0 h_X0_read_X0 0 rfl rfl 4 (by decide) tyX0 tyX0_ok nmX0 k_X0_read_0 rfl rfl rfl rfl rfl (Nat.le_of_ble_eq_true rfl) dX0_read_2 (ws' := wTx T t c k v (upd u.1 1 0, u.2.1, u.2.2.1, u.2.2.2)) rfl ?_
  refine g_aload_n hX dX0_read_5 rfl 0 rfl ?_
  refine g_iconst hX (v := (-1)) dX0_read_6 (by decide) ?_
  refine g_put hX 0 h_X0_read_X0 0 rfl rfl 5 (by decide) tyX0 tyX0_ok nmX0 k_X0_read_1 rfl rfl rfl rfl rfl (Nat.le_of_ble_eq_true rfl) dX0_read_7 (ws' := wTx T t c k v (upd (upd u.1 1 0) 2 (-1), u.2.1, u.2.2.1, u.2.2.2)) rfl ?_
  refine g_aload_n hX dX0_read_10 rfl 0 rfl ?_
  refine g_iconst hX (v := (-1)) dX0_read_11 (by decide) ?_
  refine g_put hX 0 h_X0_read_X0 0 rfl rfl 6 (by decide) tyX0 tyX0_ok nmX0 k_X0_read_2 rfl rfl rfl rfl rfl (Nat.le_of_ble_eq_true rfl) dX0_read_12 (ws' := wTx T t c k v (upd (upd (upd u.1 1 0) 2 (-1)) 3 (-1), u.2.1, u.2.2.1, u.2.2.2)) rfl ?_
  refine g_iconst hX (v := 0) dX0_read_15 (by decide) ?_
  refine g_istore_n hX (lv' := [(1, .int 0), (0, .ref t)]) dX0_read_16 rfl (by decide) rfl ?_
  have e9 : F_X0_read u = K_X0_read_17 61 (upd (upd (upd u.1 1 0) 2 (-1)) 3 (-1), u.2.1, u.2.2.1, u.2.2.2) 0 := by simp only [F_X0_read, if_true, if_false]
  rw [e9]
  refine g_lv (lv' := [(1, .int (nI 0)), (0, .ref t)]) [0, 1] rfl ?_
  exact k_X0_read_17 hX t c k v 61 (upd (upd (upd u.1 1 0) 2 (-1)) 3 (-1), u.2.1, u.2.2.1, u.2.2.2) 0 (by omega) (by omega)
end
section
theorem zz_last : True := trivial
end
