section
-- ===== PART A: goes FIRST, ahead of the names: the tables' words, and 'selects' of the private methods out of them =====
/-- a private method of a class that the tables say can be made, by its rows of tables_1 -/
def lw_okq (q : MethodName × Nat) : Prop := (q.1.cls ≠ "java/lang/invoke/MethodHandle" ∧ q.1.cls ≠ "java/lang/invoke/VarHandle") ∧ Cond.instantiable q.1.cls q.2 ∈ tables_1 ∧ Cond.privateMethod q.1 ∈ tables_1 ∧ Cond.instanceMethod q.1 ∈ tables_1
theorem lw_p0 : lw_okq (⟨"NestedCodes", "readAgain", "()V"⟩, 7) := ⟨⟨by decide +kernel, by decide +kernel⟩, List.mem_of_getElem? (i := 12) (by decide +kernel), List.mem_of_getElem? (i := 142) (by decide +kernel), List.mem_of_getElem? (i := 143) (by decide +kernel)⟩
theorem lw_p1 : lw_okq (⟨"NestedCodes$InnerCode", "setGenerators", "([I)V"⟩, 2) := ⟨⟨by decide +kernel, by decide +kernel⟩, List.mem_of_getElem? (i := 77) (by decide +kernel), List.mem_of_getElem? (i := 146) (by decide +kernel), List.mem_of_getElem? (i := 147) (by decide +kernel)⟩
theorem lw_p2 : lw_okq (⟨"NestedCodes$Reading", "read", "(LNestedCodes$State;LNestedCodes$InnerCode;)V"⟩, 8) := ⟨⟨by decide +kernel, by decide +kernel⟩, List.mem_of_getElem? (i := 106) (by decide +kernel), List.mem_of_getElem? (i := 162) (by decide +kernel), List.mem_of_getElem? (i := 163) (by decide +kernel)⟩
theorem lw_p3 : lw_okq (⟨"NestedCodes$Reading", "readBlock", "(ILNestedCodes$State;LNestedCodes$InnerCode;)V"⟩, 8) := ⟨⟨by decide +kernel, by decide +kernel⟩, List.mem_of_getElem? (i := 106) (by decide +kernel), List.mem_of_getElem? (i := 170) (by decide +kernel), List.mem_of_getElem? (i := 171) (by decide +kernel)⟩
theorem lw_p4 : lw_okq (⟨"NestedCodes$InnerCode", "symbolOf", "(I)I"⟩, 2) := ⟨⟨by decide +kernel, by decide +kernel⟩, List.mem_of_getElem? (i := 77) (by decide +kernel), List.mem_of_getElem? (i := 174) (by decide +kernel), List.mem_of_getElem? (i := 175) (by decide +kernel)⟩
theorem lw_p5 : lw_okq (⟨"NestedCodes$InnerCode", "bitsBetween", "(II)I"⟩, 2) := ⟨⟨by decide +kernel, by decide +kernel⟩, List.mem_of_getElem? (i := 77) (by decide +kernel), List.mem_of_getElem? (i := 178) (by decide +kernel), List.mem_of_getElem? (i := 179) (by decide +kernel)⟩
theorem lw_p6 : lw_okq (⟨"NestedCodes$InnerCode", "reliability", "(I)I"⟩, 2) := ⟨⟨by decide +kernel, by decide +kernel⟩, List.mem_of_getElem? (i := 77) (by decide +kernel), List.mem_of_getElem? (i := 183) (by decide +kernel), List.mem_of_getElem? (i := 184) (by decide +kernel)⟩
theorem lw_p7 : lw_okq (⟨"NestedCodes$Reading", "blocksBefore", "(I)I"⟩, 8) := ⟨⟨by decide +kernel, by decide +kernel⟩, List.mem_of_getElem? (i := 106) (by decide +kernel), List.mem_of_getElem? (i := 190) (by decide +kernel), List.mem_of_getElem? (i := 191) (by decide +kernel)⟩
theorem lw_p8 : lw_okq (⟨"NestedCodes$History", "record", "(LNestedCodes$State;)V"⟩, 2) := ⟨⟨by decide +kernel, by decide +kernel⟩, List.mem_of_getElem? (i := 60) (by decide +kernel), List.mem_of_getElem? (i := 220) (by decide +kernel), List.mem_of_getElem? (i := 221) (by decide +kernel)⟩
theorem lw_p9 : lw_okq (⟨"NestedCodes$History", "dropOldest", "()V"⟩, 2) := ⟨⟨by decide +kernel, by decide +kernel⟩, List.mem_of_getElem? (i := 60) (by decide +kernel), List.mem_of_getElem? (i := 224) (by decide +kernel), List.mem_of_getElem? (i := 225) (by decide +kernel)⟩
theorem lw_p10 : lw_okq (⟨"NestedCodes$State", "copyFrom", "(LNestedCodes$State;)V"⟩, 7) := ⟨⟨by decide +kernel, by decide +kernel⟩, List.mem_of_getElem? (i := 20) (by decide +kernel), List.mem_of_getElem? (i := 228) (by decide +kernel), List.mem_of_getElem? (i := 229) (by decide +kernel)⟩
theorem lw_p11 : lw_okq (⟨"NestedCodes$State", "clearBlocks", "()V"⟩, 7) := ⟨⟨by decide +kernel, by decide +kernel⟩, List.mem_of_getElem? (i := 20) (by decide +kernel), List.mem_of_getElem? (i := 232) (by decide +kernel), List.mem_of_getElem? (i := 233) (by decide +kernel)⟩
theorem lw_p12 : lw_okq (⟨"NestedCodes$History", "restoreLatest", "(LNestedCodes$State;)V"⟩, 2) := ⟨⟨by decide +kernel, by decide +kernel⟩, List.mem_of_getElem? (i := 60) (by decide +kernel), List.mem_of_getElem? (i := 256) (by decide +kernel), List.mem_of_getElem? (i := 257) (by decide +kernel)⟩
theorem lw_p13 : lw_okq (⟨"NestedCodes$State", "outerDistance", "()I"⟩, 7) := ⟨⟨by decide +kernel, by decide +kernel⟩, List.mem_of_getElem? (i := 20) (by decide +kernel), List.mem_of_getElem? (i := 264) (by decide +kernel), List.mem_of_getElem? (i := 265) (by decide +kernel)⟩
theorem lw_p14 : lw_okq (⟨"NestedCodes", "lostBlocks", "()I"⟩, 7) := ⟨⟨by decide +kernel, by decide +kernel⟩, List.mem_of_getElem? (i := 12) (by decide +kernel), List.mem_of_getElem? (i := 268) (by decide +kernel), List.mem_of_getElem? (i := 269) (by decide +kernel)⟩
theorem lw_p15 : lw_okq (⟨"NestedCodes", "wrongBits", "()I"⟩, 7) := ⟨⟨by decide +kernel, by decide +kernel⟩, List.mem_of_getElem? (i := 12) (by decide +kernel), List.mem_of_getElem? (i := 272) (by decide +kernel), List.mem_of_getElem? (i := 273) (by decide +kernel)⟩
def lw_privs_1 : List (MethodName × Nat) := [(⟨"NestedCodes", "readAgain", "()V"⟩, 7), (⟨"NestedCodes$InnerCode", "setGenerators", "([I)V"⟩, 2), (⟨"NestedCodes$Reading", "read", "(LNestedCodes$State;LNestedCodes$InnerCode;)V"⟩, 8), (⟨"NestedCodes$Reading", "readBlock", "(ILNestedCodes$State;LNestedCodes$InnerCode;)V"⟩, 8), (⟨"NestedCodes$InnerCode", "symbolOf", "(I)I"⟩, 2), (⟨"NestedCodes$InnerCode", "bitsBetween", "(II)I"⟩, 2), (⟨"NestedCodes$InnerCode", "reliability", "(I)I"⟩, 2), (⟨"NestedCodes$Reading", "blocksBefore", "(I)I"⟩, 8), (⟨"NestedCodes$History", "record", "(LNestedCodes$State;)V"⟩, 2), (⟨"NestedCodes$History", "dropOldest", "()V"⟩, 2), (⟨"NestedCodes$State", "copyFrom", "(LNestedCodes$State;)V"⟩, 7), (⟨"NestedCodes$State", "clearBlocks", "()V"⟩, 7), (⟨"NestedCodes$History", "restoreLatest", "(LNestedCodes$State;)V"⟩, 2), (⟨"NestedCodes$State", "outerDistance", "()I"⟩, 7), (⟨"NestedCodes", "lostBlocks", "()I"⟩, 7), (⟨"NestedCodes", "wrongBits", "()I"⟩, 7)]
theorem lw_r1 : ∀ q ∈ lw_privs_1, lw_okq q := List.forall_mem_cons.mpr ⟨lw_p0, List.forall_mem_cons.mpr ⟨lw_p1, List.forall_mem_cons.mpr ⟨lw_p2, List.forall_mem_cons.mpr ⟨lw_p3, List.forall_mem_cons.mpr ⟨lw_p4, List.forall_mem_cons.mpr ⟨lw_p5, List.forall_mem_cons.mpr ⟨lw_p6, List.forall_mem_cons.mpr ⟨lw_p7, List.forall_mem_cons.mpr ⟨lw_p8, List.forall_mem_cons.mpr ⟨lw_p9, List.forall_mem_cons.mpr ⟨lw_p10, List.forall_mem_cons.mpr ⟨lw_p11, List.forall_mem_cons.mpr ⟨lw_p12, List.forall_mem_cons.mpr ⟨lw_p13, List.forall_mem_cons.mpr ⟨lw_p14, List.forall_mem_cons.mpr ⟨lw_p15, fun _ h => absurd h List.not_mem_nil⟩⟩⟩⟩⟩⟩⟩⟩⟩⟩⟩⟩⟩⟩⟩⟩
theorem lw_p16 : lw_okq (⟨"NestedCodes", "wordSentFor", "(II)I"⟩, 7) := ⟨⟨by decide +kernel, by decide +kernel⟩, List.mem_of_getElem? (i := 12) (by decide +kernel), List.mem_of_getElem? (i := 276) (by decide +kernel), List.mem_of_getElem? (i := 277) (by decide +kernel)⟩
theorem lw_p17 : lw_okq (⟨"NestedCodes$OuterCode", "codeword", "(I)J"⟩, 1) := ⟨⟨by decide +kernel, by decide +kernel⟩, List.mem_of_getElem? (i := 92) (by decide +kernel), List.mem_of_getElem? (i := 280) (by decide +kernel), List.mem_of_getElem? (i := 281) (by decide +kernel)⟩
theorem lw_p18 : lw_okq (⟨"NestedCodes", "isMessage", "(I)Z"⟩, 7) := ⟨⟨by decide +kernel, by decide +kernel⟩, List.mem_of_getElem? (i := 12) (by decide +kernel), List.mem_of_getElem? (i := 304) (by decide +kernel), List.mem_of_getElem? (i := 305) (by decide +kernel)⟩
theorem lw_p19 : lw_okq (⟨"NestedCodes$State", "messages", "()I"⟩, 7) := ⟨⟨by decide +kernel, by decide +kernel⟩, List.mem_of_getElem? (i := 20) (by decide +kernel), List.mem_of_getElem? (i := 308) (by decide +kernel), List.mem_of_getElem? (i := 309) (by decide +kernel)⟩
theorem lw_p20 : lw_okq (⟨"NestedCodes", "isBlock", "(I)Z"⟩, 7) := ⟨⟨by decide +kernel, by decide +kernel⟩, List.mem_of_getElem? (i := 12) (by decide +kernel), List.mem_of_getElem? (i := 312) (by decide +kernel), List.mem_of_getElem? (i := 313) (by decide +kernel)⟩
theorem lw_p21 : lw_okq (⟨"NestedCodes$State", "allBits", "()I"⟩, 7) := ⟨⟨by decide +kernel, by decide +kernel⟩, List.mem_of_getElem? (i := 20) (by decide +kernel), List.mem_of_getElem? (i := 324) (by decide +kernel), List.mem_of_getElem? (i := 325) (by decide +kernel)⟩
theorem lw_p22 : lw_okq (⟨"NestedCodes", "burstMask", "(III)I"⟩, 7) := ⟨⟨by decide +kernel, by decide +kernel⟩, List.mem_of_getElem? (i := 12) (by decide +kernel), List.mem_of_getElem? (i := 336) (by decide +kernel), List.mem_of_getElem? (i := 337) (by decide +kernel)⟩
theorem lw_p23 : lw_okq (⟨"NestedCodes", "lawfulMessage", "()I"⟩, 7) := ⟨⟨by decide +kernel, by decide +kernel⟩, List.mem_of_getElem? (i := 12) (by decide +kernel), List.mem_of_getElem? (i := 346) (by decide +kernel), List.mem_of_getElem? (i := 347) (by decide +kernel)⟩
theorem lw_p24 : lw_okq (⟨"NestedCodes", "lawBound", "()I"⟩, 7) := ⟨⟨by decide +kernel, by decide +kernel⟩, List.mem_of_getElem? (i := 12) (by decide +kernel), List.mem_of_getElem? (i := 350) (by decide +kernel), List.mem_of_getElem? (i := 351) (by decide +kernel)⟩
theorem lw_p25 : lw_okq (⟨"NestedCodes$Reading", "differingBlocks", "(J)J"⟩, 8) := ⟨⟨by decide +kernel, by decide +kernel⟩, List.mem_of_getElem? (i := 106) (by decide +kernel), List.mem_of_getElem? (i := 354) (by decide +kernel), List.mem_of_getElem? (i := 355) (by decide +kernel)⟩
theorem lw_p26 : lw_okq (⟨"NestedCodes$Reading", "scoreOf", "(J)I"⟩, 8) := ⟨⟨by decide +kernel, by decide +kernel⟩, List.mem_of_getElem? (i := 106) (by decide +kernel), List.mem_of_getElem? (i := 367) (by decide +kernel), List.mem_of_getElem? (i := 368) (by decide +kernel)⟩
theorem lw_p27 : lw_okq (⟨"NestedCodes$State", "shiftedRound", "(I)I"⟩, 7) := ⟨⟨by decide +kernel, by decide +kernel⟩, List.mem_of_getElem? (i := 20) (by decide +kernel), List.mem_of_getElem? (i := 372) (by decide +kernel), List.mem_of_getElem? (i := 373) (by decide +kernel)⟩
theorem lw_p28 : lw_okq (⟨"NestedCodes", "sentSymbol", "(I)I"⟩, 7) := ⟨⟨by decide +kernel, by decide +kernel⟩, List.mem_of_getElem? (i := 12) (by decide +kernel), List.mem_of_getElem? (i := 389) (by decide +kernel), List.mem_of_getElem? (i := 390) (by decide +kernel)⟩
theorem lw_p29 : lw_okq (⟨"NestedCodes$InnerCode", "bitsToAnotherSymbol", "(I)I"⟩, 2) := ⟨⟨by decide +kernel, by decide +kernel⟩, List.mem_of_getElem? (i := 77) (by decide +kernel), List.mem_of_getElem? (i := 401) (by decide +kernel), List.mem_of_getElem? (i := 402) (by decide +kernel)⟩
theorem lw_p30 : lw_okq (⟨"NestedCodes$Reading", "keptBlocks", "(I)J"⟩, 8) := ⟨⟨by decide +kernel, by decide +kernel⟩, List.mem_of_getElem? (i := 106) (by decide +kernel), List.mem_of_getElem? (i := 410) (by decide +kernel), List.mem_of_getElem? (i := 411) (by decide +kernel)⟩
theorem lw_p31 : lw_okq (⟨"NestedCodes", "isResult", "(JIJ)Z"⟩, 7) := ⟨⟨by decide +kernel, by decide +kernel⟩, List.mem_of_getElem? (i := 12) (by decide +kernel), List.mem_of_getElem? (i := 415) (by decide +kernel), List.mem_of_getElem? (i := 416) (by decide +kernel)⟩
def lw_privs_2 : List (MethodName × Nat) := [(⟨"NestedCodes", "wordSentFor", "(II)I"⟩, 7), (⟨"NestedCodes$OuterCode", "codeword", "(I)J"⟩, 1), (⟨"NestedCodes", "isMessage", "(I)Z"⟩, 7), (⟨"NestedCodes$State", "messages", "()I"⟩, 7), (⟨"NestedCodes", "isBlock", "(I)Z"⟩, 7), (⟨"NestedCodes$State", "allBits", "()I"⟩, 7), (⟨"NestedCodes", "burstMask", "(III)I"⟩, 7), (⟨"NestedCodes", "lawfulMessage", "()I"⟩, 7), (⟨"NestedCodes", "lawBound", "()I"⟩, 7), (⟨"NestedCodes$Reading", "differingBlocks", "(J)J"⟩, 8), (⟨"NestedCodes$Reading", "scoreOf", "(J)I"⟩, 8), (⟨"NestedCodes$State", "shiftedRound", "(I)I"⟩, 7), (⟨"NestedCodes", "sentSymbol", "(I)I"⟩, 7), (⟨"NestedCodes$InnerCode", "bitsToAnotherSymbol", "(I)I"⟩, 2), (⟨"NestedCodes$Reading", "keptBlocks", "(I)J"⟩, 8), (⟨"NestedCodes", "isResult", "(JIJ)Z"⟩, 7)]
theorem lw_r2 : ∀ q ∈ lw_privs_2, lw_okq q := List.forall_mem_cons.mpr ⟨lw_p16, List.forall_mem_cons.mpr ⟨lw_p17, List.forall_mem_cons.mpr ⟨lw_p18, List.forall_mem_cons.mpr ⟨lw_p19, List.forall_mem_cons.mpr ⟨lw_p20, List.forall_mem_cons.mpr ⟨lw_p21, List.forall_mem_cons.mpr ⟨lw_p22, List.forall_mem_cons.mpr ⟨lw_p23, List.forall_mem_cons.mpr ⟨lw_p24, List.forall_mem_cons.mpr ⟨lw_p25, List.forall_mem_cons.mpr ⟨lw_p26, List.forall_mem_cons.mpr ⟨lw_p27, List.forall_mem_cons.mpr ⟨lw_p28, List.forall_mem_cons.mpr ⟨lw_p29, List.forall_mem_cons.mpr ⟨lw_p30, List.forall_mem_cons.mpr ⟨lw_p31, fun _ h => absurd h List.not_mem_nil⟩⟩⟩⟩⟩⟩⟩⟩⟩⟩⟩⟩⟩⟩⟩⟩
theorem lw_p32 : lw_okq (⟨"NestedCodes", "fragileBitsOf", "(I)I"⟩, 7) := ⟨⟨by decide +kernel, by decide +kernel⟩, List.mem_of_getElem? (i := 12) (by decide +kernel), List.mem_of_getElem? (i := 451) (by decide +kernel), List.mem_of_getElem? (i := 452) (by decide +kernel)⟩
theorem lw_p33 : lw_okq (⟨"NestedCodes", "partInSentScore", "(I)I"⟩, 7) := ⟨⟨by decide +kernel, by decide +kernel⟩, List.mem_of_getElem? (i := 12) (by decide +kernel), List.mem_of_getElem? (i := 455) (by decide +kernel), List.mem_of_getElem? (i := 456) (by decide +kernel)⟩
theorem lw_p34 : lw_okq (⟨"NestedCodes", "nearestMessage", "(I)I"⟩, 7) := ⟨⟨by decide +kernel, by decide +kernel⟩, List.mem_of_getElem? (i := 12) (by decide +kernel), List.mem_of_getElem? (i := 470) (by decide +kernel), List.mem_of_getElem? (i := 471) (by decide +kernel)⟩
theorem lw_p35 : lw_okq (⟨"NestedCodesModel", "prepares", "()V"⟩, 17) := ⟨⟨by decide +kernel, by decide +kernel⟩, List.mem_of_getElem? (i := 476) (by decide +kernel), List.mem_of_getElem? (i := 486) (by decide +kernel), List.mem_of_getElem? (i := 487) (by decide +kernel)⟩
theorem lw_p36 : lw_okq (⟨"NestedCodesModel", "records", "()V"⟩, 17) := ⟨⟨by decide +kernel, by decide +kernel⟩, List.mem_of_getElem? (i := 476) (by decide +kernel), List.mem_of_getElem? (i := 553) (by decide +kernel), List.mem_of_getElem? (i := 554) (by decide +kernel)⟩
theorem lw_p37 : lw_okq (⟨"NestedCodesModel", "empties", "()V"⟩, 17) := ⟨⟨by decide +kernel, by decide +kernel⟩, List.mem_of_getElem? (i := 476) (by decide +kernel), List.mem_of_getElem? (i := 557) (by decide +kernel), List.mem_of_getElem? (i := 558) (by decide +kernel)⟩
theorem lw_p38 : lw_okq (⟨"NestedCodesModel", "areGenerators", "(I)Z"⟩, 17) := ⟨⟨by decide +kernel, by decide +kernel⟩, List.mem_of_getElem? (i := 476) (by decide +kernel), List.mem_of_getElem? (i := 573) (by decide +kernel), List.mem_of_getElem? (i := 574) (by decide +kernel)⟩
theorem lw_p39 : lw_okq (⟨"NestedCodesModel", "distance", "()I"⟩, 17) := ⟨⟨by decide +kernel, by decide +kernel⟩, List.mem_of_getElem? (i := 476) (by decide +kernel), List.mem_of_getElem? (i := 585) (by decide +kernel), List.mem_of_getElem? (i := 586) (by decide +kernel)⟩
theorem lw_p40 : lw_okq (⟨"NestedCodesModel", "wrongBits", "()I"⟩, 17) := ⟨⟨by decide +kernel, by decide +kernel⟩, List.mem_of_getElem? (i := 476) (by decide +kernel), List.mem_of_getElem? (i := 589) (by decide +kernel), List.mem_of_getElem? (i := 590) (by decide +kernel)⟩
theorem lw_p41 : lw_okq (⟨"NestedCodesModel", "isLost", "(I)Z"⟩, 17) := ⟨⟨by decide +kernel, by decide +kernel⟩, List.mem_of_getElem? (i := 476) (by decide +kernel), List.mem_of_getElem? (i := 593) (by decide +kernel), List.mem_of_getElem? (i := 594) (by decide +kernel)⟩
theorem lw_p42 : lw_okq (⟨"NestedCodesModel", "isMessage", "(I)Z"⟩, 17) := ⟨⟨by decide +kernel, by decide +kernel⟩, List.mem_of_getElem? (i := 476) (by decide +kernel), List.mem_of_getElem? (i := 609) (by decide +kernel), List.mem_of_getElem? (i := 610) (by decide +kernel)⟩
theorem lw_p43 : lw_okq (⟨"NestedCodesModel", "messages", "()I"⟩, 17) := ⟨⟨by decide +kernel, by decide +kernel⟩, List.mem_of_getElem? (i := 476) (by decide +kernel), List.mem_of_getElem? (i := 613) (by decide +kernel), List.mem_of_getElem? (i := 614) (by decide +kernel)⟩
theorem lw_p44 : lw_okq (⟨"NestedCodesModel", "isBlock", "(I)Z"⟩, 17) := ⟨⟨by decide +kernel, by decide +kernel⟩, List.mem_of_getElem? (i := 476) (by decide +kernel), List.mem_of_getElem? (i := 617) (by decide +kernel), List.mem_of_getElem? (i := 618) (by decide +kernel)⟩
theorem lw_p45 : lw_okq (⟨"NestedCodesModel", "decodes", "()V"⟩, 17) := ⟨⟨by decide +kernel, by decide +kernel⟩, List.mem_of_getElem? (i := 476) (by decide +kernel), List.mem_of_getElem? (i := 645) (by decide +kernel), List.mem_of_getElem? (i := 646) (by decide +kernel)⟩
theorem lw_p46 : lw_okq (⟨"NestedCodesModel", "judges", "()V"⟩, 17) := ⟨⟨by decide +kernel, by decide +kernel⟩, List.mem_of_getElem? (i := 476) (by decide +kernel), List.mem_of_getElem? (i := 649) (by decide +kernel), List.mem_of_getElem? (i := 650) (by decide +kernel)⟩
theorem lw_p47 : lw_okq (⟨"NestedCodesModel", "scoreOf", "(I)I"⟩, 17) := ⟨⟨by decide +kernel, by decide +kernel⟩, List.mem_of_getElem? (i := 476) (by decide +kernel), List.mem_of_getElem? (i := 653) (by decide +kernel), List.mem_of_getElem? (i := 654) (by decide +kernel)⟩
def lw_privs_3 : List (MethodName × Nat) := [(⟨"NestedCodes", "fragileBitsOf", "(I)I"⟩, 7), (⟨"NestedCodes", "partInSentScore", "(I)I"⟩, 7), (⟨"NestedCodes", "nearestMessage", "(I)I"⟩, 7), (⟨"NestedCodesModel", "prepares", "()V"⟩, 17), (⟨"NestedCodesModel", "records", "()V"⟩, 17), (⟨"NestedCodesModel", "empties", "()V"⟩, 17), (⟨"NestedCodesModel", "areGenerators", "(I)Z"⟩, 17), (⟨"NestedCodesModel", "distance", "()I"⟩, 17), (⟨"NestedCodesModel", "wrongBits", "()I"⟩, 17), (⟨"NestedCodesModel", "isLost", "(I)Z"⟩, 17), (⟨"NestedCodesModel", "isMessage", "(I)Z"⟩, 17), (⟨"NestedCodesModel", "messages", "()I"⟩, 17), (⟨"NestedCodesModel", "isBlock", "(I)Z"⟩, 17), (⟨"NestedCodesModel", "decodes", "()V"⟩, 17), (⟨"NestedCodesModel", "judges", "()V"⟩, 17), (⟨"NestedCodesModel", "scoreOf", "(I)I"⟩, 17)]
theorem lw_r3 : ∀ q ∈ lw_privs_3, lw_okq q := List.forall_mem_cons.mpr ⟨lw_p32, List.forall_mem_cons.mpr ⟨lw_p33, List.forall_mem_cons.mpr ⟨lw_p34, List.forall_mem_cons.mpr ⟨lw_p35, List.forall_mem_cons.mpr ⟨lw_p36, List.forall_mem_cons.mpr ⟨lw_p37, List.forall_mem_cons.mpr ⟨lw_p38, List.forall_mem_cons.mpr ⟨lw_p39, List.forall_mem_cons.mpr ⟨lw_p40, List.forall_mem_cons.mpr ⟨lw_p41, List.forall_mem_cons.mpr ⟨lw_p42, List.forall_mem_cons.mpr ⟨lw_p43, List.forall_mem_cons.mpr ⟨lw_p44, List.forall_mem_cons.mpr ⟨lw_p45, List.forall_mem_cons.mpr ⟨lw_p46, List.forall_mem_cons.mpr ⟨lw_p47, fun _ h => absurd h List.not_mem_nil⟩⟩⟩⟩⟩⟩⟩⟩⟩⟩⟩⟩⟩⟩⟩⟩
theorem lw_p48 : lw_okq (⟨"NestedCodesModel", "bar", "()I"⟩, 17) := ⟨⟨by decide +kernel, by decide +kernel⟩, List.mem_of_getElem? (i := 476) (by decide +kernel), List.mem_of_getElem? (i := 657) (by decide +kernel), List.mem_of_getElem? (i := 658) (by decide +kernel)⟩
theorem lw_p49 : lw_okq (⟨"NestedCodesModel", "trialOf", "(I)I"⟩, 17) := ⟨⟨by decide +kernel, by decide +kernel⟩, List.mem_of_getElem? (i := 476) (by decide +kernel), List.mem_of_getElem? (i := 661) (by decide +kernel), List.mem_of_getElem? (i := 662) (by decide +kernel)⟩
theorem lw_p50 : lw_okq (⟨"NestedCodesModel", "isResult", "(II)Z"⟩, 17) := ⟨⟨by decide +kernel, by decide +kernel⟩, List.mem_of_getElem? (i := 476) (by decide +kernel), List.mem_of_getElem? (i := 665) (by decide +kernel), List.mem_of_getElem? (i := 666) (by decide +kernel)⟩
theorem lw_p51 : lw_okq (⟨"NestedCodesModel", "placeOf", "(I)I"⟩, 17) := ⟨⟨by decide +kernel, by decide +kernel⟩, List.mem_of_getElem? (i := 476) (by decide +kernel), List.mem_of_getElem? (i := 681) (by decide +kernel), List.mem_of_getElem? (i := 682) (by decide +kernel)⟩
theorem lw_p52 : lw_okq (⟨"NestedCodesModel", "isRight", "()Z"⟩, 17) := ⟨⟨by decide +kernel, by decide +kernel⟩, List.mem_of_getElem? (i := 476) (by decide +kernel), List.mem_of_getElem? (i := 726) (by decide +kernel), List.mem_of_getElem? (i := 727) (by decide +kernel)⟩
def lw_privs_4 : List (MethodName × Nat) := [(⟨"NestedCodesModel", "bar", "()I"⟩, 17), (⟨"NestedCodesModel", "trialOf", "(I)I"⟩, 17), (⟨"NestedCodesModel", "isResult", "(II)Z"⟩, 17), (⟨"NestedCodesModel", "placeOf", "(I)I"⟩, 17), (⟨"NestedCodesModel", "isRight", "()Z"⟩, 17)]
theorem lw_r4 : ∀ q ∈ lw_privs_4, lw_okq q := List.forall_mem_cons.mpr ⟨lw_p48, List.forall_mem_cons.mpr ⟨lw_p49, List.forall_mem_cons.mpr ⟨lw_p50, List.forall_mem_cons.mpr ⟨lw_p51, List.forall_mem_cons.mpr ⟨lw_p52, fun _ h => absurd h List.not_mem_nil⟩⟩⟩⟩⟩
def lw_privs : List (MethodName × Nat) := lw_privs_1 ++ (lw_privs_2 ++ (lw_privs_3 ++ (lw_privs_4)))
def lw_tbl : List Cond := k2_sels lw_privs ++ tables_1
theorem lw_privs_ok : ∀ q ∈ lw_privs, lw_okq q := by
  show ∀ q ∈ lw_privs_1 ++ (lw_privs_2 ++ (lw_privs_3 ++ (lw_privs_4))), lw_okq q
  exact List.forall_mem_append.mpr ⟨lw_r1, List.forall_mem_append.mpr ⟨lw_r2, List.forall_mem_append.mpr ⟨lw_r3, lw_r4⟩⟩⟩
end
section
/-! ===== BEGIN words of one list among another's, by their places ===== -/
theorem goodIn_r {big : List Cond} (ws : List Cond) (ps : List Nat) (hp : ws = ps.filterMap (fun i => big[i]?)) (h : ws.all goodWord = true) : GoodIn big ws := by
  intro w hw
  have h1 := List.all_eq_true.mp h w hw
  rw [hp] at hw
  obtain ⟨i, -, hi⟩ := List.mem_filterMap.mp hw
  have hm : w ∈ big := by first | exact List.mem_of_getElem? hi | exact List.getElem?_mem hi
  exact ⟨hm, good_of_word h1⟩
theorem goodIn_app {big a b : List Cond} (ha : GoodIn big a) (hb : GoodIn big b) : GoodIn big (a ++ b) := fun w h => (List.mem_append.mp h).elim (ha w) (hb w)
theorem goodIn_ca {big a b : List Cond} {c : Cond} (ha : GoodIn big (c :: a)) (hb : GoodIn big b) : GoodIn big (c :: (a ++ b)) := fun w h => (List.mem_cons.mp h).elim (fun e => ha w (List.mem_cons.mpr (Or.inl e))) (fun h => (List.mem_append.mp h).elim (fun h => ha w (List.mem_cons.mpr (Or.inr h))) (hb w))
theorem goodIn_sub {big ws : List Cond} (hm : ∀ w ∈ ws, w ∈ big) (h : ws.all goodWord = true) : GoodIn big ws := fun w hw => ⟨hm w hw, good_of_word (List.all_eq_true.mp h w hw)⟩
/-! ===== END ===== -/

/-! ===== BEGIN printed: names, fields, word lists, decode rows ===== -/
def RX0 : String := "NestedCodes$History"
def TX0 : u_T := fun k => match k with
  | 0 => ("NestedCodes$History", "states", "[LNestedCodes$State;", true)
  | _ => ("NestedCodes$History", "size", "I", false)
def tyX0 : Nat → FieldType := fun k => match k with
  | 0 => .array (.object "NestedCodes$State")
  | _ => .int
abbrev wsX00 : List Cond := u_ws RX0 TX0 2
theorem nmX0 : ∀ a, a < 2 → ∀ b, b < 2 → a ≠ b → (TX0 a).2.1 ≠ (TX0 b).2.1 := by decide +kernel
theorem tyX0_ok : ∀ k, k < 2 → parseFieldDescriptor (TX0 k).2.2.1 = some (tyX0 k) := by decide +kernel
abbrev cX0_init : ByteArray := prog_2_method_1_code
def yX0_init : MethodName := ⟨RX0, "<init>", "()V"⟩
abbrev cX0_record : ByteArray := prog_2_method_2_code
def yX0_record : MethodName := ⟨RX0, "record", "(LNestedCodes$State;)V"⟩
abbrev cX0_dropOldest : ByteArray := prog_2_method_3_code
def yX0_dropOldest : MethodName := ⟨RX0, "dropOldest", "()V"⟩
abbrev cX0_restoreLatest : ByteArray := prog_2_method_4_code
def yX0_restoreLatest : MethodName := ⟨RX0, "restoreLatest", "(LNestedCodes$State;)V"⟩
def RX1 : String := "NestedCodes$InnerCode"
def TX1 : u_T := fun k => match k with
  | 0 => ("NestedCodes$InnerCode", "words", "[I", true)
  | _ => ("NestedCodes$InnerCode", "distance", "I", false)
def tyX1 : Nat → FieldType := fun k => match k with
  | 0 => .array .int
  | _ => .int
abbrev wsX10 : List Cond := u_ws RX1 TX1 2
theorem nmX1 : ∀ a, a < 2 → ∀ b, b < 2 → a ≠ b → (TX1 a).2.1 ≠ (TX1 b).2.1 := by decide +kernel
theorem tyX1_ok : ∀ k, k < 2 → parseFieldDescriptor (TX1 k).2.2.1 = some (tyX1 k) := by decide +kernel
abbrev cX1_init : ByteArray := prog_3_method_1_code
def yX1_init : MethodName := ⟨RX1, "<init>", "()V"⟩
abbrev cX1_setGenerators : ByteArray := prog_3_method_2_code
def yX1_setGenerators : MethodName := ⟨RX1, "setGenerators", "([I)V"⟩
abbrev cX1_bitsBetween : ByteArray := prog_3_method_3_code
def yX1_bitsBetween : MethodName := ⟨RX1, "bitsBetween", "(II)I"⟩
abbrev cX1_symbolOf : ByteArray := prog_3_method_4_code
def yX1_symbolOf : MethodName := ⟨RX1, "symbolOf", "(I)I"⟩
abbrev cX1_reliability : ByteArray := prog_3_method_5_code
def yX1_reliability : MethodName := ⟨RX1, "reliability", "(I)I"⟩
abbrev cX1_bitsToAnotherSymbol : ByteArray := prog_3_method_6_code
def yX1_bitsToAnotherSymbol : MethodName := ⟨RX1, "bitsToAnotherSymbol", "(I)I"⟩
def RX2 : String := "NestedCodes$OuterCode"
def TX2 : u_T := fun k => match k with
  | _ => ("NestedCodes$OuterCode", "parts", "[J", true)
def tyX2 : Nat → FieldType := fun k => match k with
  | _ => .array .long
abbrev wsX20 : List Cond := u_ws RX2 TX2 1
theorem nmX2 : ∀ a, a < 1 → ∀ b, b < 1 → a ≠ b → (TX2 a).2.1 ≠ (TX2 b).2.1 := by decide +kernel
theorem tyX2_ok : ∀ k, k < 1 → parseFieldDescriptor (TX2 k).2.2.1 = some (tyX2 k) := by decide +kernel
abbrev cX2_init : ByteArray := prog_4_method_1_code
def yX2_init : MethodName := ⟨RX2, "<init>", "()V"⟩
abbrev cX2_codeword : ByteArray := prog_4_method_2_code
def yX2_codeword : MethodName := ⟨RX2, "codeword", "(I)J"⟩
abbrev cX2_markSymbols : ByteArray := prog_4_method_3_code
def yX2_markSymbols : MethodName := ⟨RX2, "markSymbols", "(J)J"⟩
abbrev cX2_marks : ByteArray := prog_4_method_4_code
def yX2_marks : MethodName := ⟨RX2, "marks", "(I)J"⟩
def RX3 : String := "NestedCodes$Reading"
def TX3 : u_T := fun k => match k with
  | 0 => ("NestedCodes$Reading", "symbols", "[I", true)
  | 1 => ("NestedCodes$Reading", "gaps", "[I", true)
  | 2 => ("NestedCodes$Reading", "reliabilities", "[I", true)
  | 3 => ("NestedCodes$Reading", "order", "[I", true)
  | 4 => ("NestedCodes$Reading", "places", "[I", true)
  | 5 => ("NestedCodes$Reading", "length", "I", false)
  | 6 => ("NestedCodes$Reading", "packedSymbols", "J", false)
  | _ => ("NestedCodes$Reading", "allBlocks", "J", false)
def tyX3 : Nat → FieldType := fun k => match k with
  | 0 => .array .int
  | 1 => .array .int
  | 2 => .array .int
  | 3 => .array .int
  | 4 => .array .int
  | 5 => .int
  | 6 => .long
  | _ => .long
abbrev wsX30 : List Cond := u_ws RX3 TX3 8
theorem nmX3 : ∀ a, a < 8 → ∀ b, b < 8 → a ≠ b → (TX3 a).2.1 ≠ (TX3 b).2.1 := by decide +kernel
theorem tyX3_ok : ∀ k, k < 8 → parseFieldDescriptor (TX3 k).2.2.1 = some (tyX3 k) := by decide +kernel
abbrev cX3_init : ByteArray := prog_5_method_1_code
def yX3_init : MethodName := ⟨RX3, "<init>", "()V"⟩
abbrev cX3_read : ByteArray := prog_5_method_2_code
def yX3_read : MethodName := ⟨RX3, "read", "(LNestedCodes$State;LNestedCodes$InnerCode;)V"⟩
abbrev cX3_readBlock : ByteArray := prog_5_method_3_code
def yX3_readBlock : MethodName := ⟨RX3, "readBlock", "(ILNestedCodes$State;LNestedCodes$InnerCode;)V"⟩
abbrev cX3_blocksBefore : ByteArray := prog_5_method_4_code
def yX3_blocksBefore : MethodName := ⟨RX3, "blocksBefore", "(I)I"⟩
abbrev cX3_keptBlocks : ByteArray := prog_5_method_5_code
def yX3_keptBlocks : MethodName := ⟨RX3, "keptBlocks", "(I)J"⟩
abbrev cX3_differingBlocks : ByteArray := prog_5_method_6_code
def yX3_differingBlocks : MethodName := ⟨RX3, "differingBlocks", "(J)J"⟩
abbrev cX3_scoreOf : ByteArray := prog_5_method_7_code
def yX3_scoreOf : MethodName := ⟨RX3, "scoreOf", "(J)I"⟩
def RX4 : String := "NestedCodes$State"
def TX4 : u_T := fun k => match k with
  | 0 => ("NestedCodes$State", "length", "I", false)
  | 1 => ("NestedCodes$State", "dimension", "I", false)
  | 2 => ("NestedCodes$State", "bits", "I", false)
  | 3 => ("NestedCodes$State", "generators", "[I", true)
  | 4 => ("NestedCodes$State", "words", "[I", true)
  | 5 => ("NestedCodes$State", "lost", "[Z", true)
  | _ => ("NestedCodes$State", "sentMessage", "I", false)
def tyX4 : Nat → FieldType := fun k => match k with
  | 0 => .int
  | 1 => .int
  | 2 => .int
  | 3 => .array .int
  | 4 => .array .int
  | 5 => .array .boolean
  | _ => .int
abbrev wsX40 : List Cond := u_ws RX4 TX4 7
theorem nmX4 : ∀ a, a < 7 → ∀ b, b < 7 → a ≠ b → (TX4 a).2.1 ≠ (TX4 b).2.1 := by decide +kernel
theorem tyX4_ok : ∀ k, k < 7 → parseFieldDescriptor (TX4 k).2.2.1 = some (tyX4 k) := by decide +kernel
abbrev cX4_init : ByteArray := prog_6_method_1_code
def yX4_init : MethodName := ⟨RX4, "<init>", "()V"⟩
abbrev cX4_copyFrom : ByteArray := prog_6_method_2_code
def yX4_copyFrom : MethodName := ⟨RX4, "copyFrom", "(LNestedCodes$State;)V"⟩
abbrev cX4_clearBlocks : ByteArray := prog_6_method_3_code
def yX4_clearBlocks : MethodName := ⟨RX4, "clearBlocks", "()V"⟩
abbrev cX4_outerDistance : ByteArray := prog_6_method_4_code
def yX4_outerDistance : MethodName := ⟨RX4, "outerDistance", "()I"⟩
abbrev cX4_messages : ByteArray := prog_6_method_5_code
def yX4_messages : MethodName := ⟨RX4, "messages", "()I"⟩
abbrev cX4_allBits : ByteArray := prog_6_method_6_code
def yX4_allBits : MethodName := ⟨RX4, "allBits", "()I"⟩
abbrev cX4_shiftedRound : ByteArray := prog_6_method_7_code
def yX4_shiftedRound : MethodName := ⟨RX4, "shiftedRound", "(I)I"⟩
def RX5 : String := "NestedCodes"
def TX5 : u_T := fun k => match k with
  | 0 => ("NestedCodes", "state", "LNestedCodes$State;", true)
  | 1 => ("NestedCodes", "history", "LNestedCodes$History;", true)
  | 2 => ("NestedCodes", "inner", "LNestedCodes$InnerCode;", true)
  | 3 => ("NestedCodes", "outer", "LNestedCodes$OuterCode;", true)
  | 4 => ("NestedCodes", "reading", "LNestedCodes$Reading;", true)
  | 5 => ("NestedCodes", "waiting", "[I", true)
  | _ => ("NestedCodes", "waitingCount", "I", false)
def tyX5 : Nat → FieldType := fun k => match k with
  | 0 => .object "NestedCodes$State"
  | 1 => .object "NestedCodes$History"
  | 2 => .object "NestedCodes$InnerCode"
  | 3 => .object "NestedCodes$OuterCode"
  | 4 => .object "NestedCodes$Reading"
  | 5 => .array .int
  | _ => .int
abbrev wsX50 : List Cond := u_ws RX5 TX5 7
theorem nmX5 : ∀ a, a < 7 → ∀ b, b < 7 → a ≠ b → (TX5 a).2.1 ≠ (TX5 b).2.1 := by decide +kernel
theorem tyX5_ok : ∀ k, k < 7 → parseFieldDescriptor (TX5 k).2.2.1 = some (tyX5 k) := by decide +kernel
abbrev cX5_init : ByteArray := prog_1_method_1_code
def yX5_init : MethodName := ⟨RX5, "<init>", "()V"⟩
abbrev cX5_setOuter : ByteArray := prog_1_method_2_code
def yX5_setOuter : MethodName := ⟨RX5, "setOuter", "(II)I"⟩
abbrev cX5_generator : ByteArray := prog_1_method_3_code
def yX5_generator : MethodName := ⟨RX5, "generator", "(I)I"⟩
abbrev cX5_clearGenerators : ByteArray := prog_1_method_4_code
def yX5_clearGenerators : MethodName := ⟨RX5, "clearGenerators", "()I"⟩
abbrev cX5_setInner : ByteArray := prog_1_method_5_code
def yX5_setInner : MethodName := ⟨RX5, "setInner", "(I)I"⟩
abbrev cX5_undo : ByteArray := prog_1_method_6_code
def yX5_undo : MethodName := ⟨RX5, "undo", "()I"⟩
abbrev cX5_count : ByteArray := prog_1_method_7_code
def yX5_count : MethodName := ⟨RX5, "count", "(I)I"⟩
abbrev cX5_wordOf : ByteArray := prog_1_method_8_code
def yX5_wordOf : MethodName := ⟨RX5, "wordOf", "(I)I"⟩
abbrev cX5_product : ByteArray := prog_1_method_9_code
def yX5_product : MethodName := ⟨RX5, "product", "(II)I"⟩
abbrev cX5_symbolFor : ByteArray := prog_1_method_10_code
def yX5_symbolFor : MethodName := ⟨RX5, "symbolFor", "(II)I"⟩
abbrev cX5_send : ByteArray := prog_1_method_11_code
def yX5_send : MethodName := ⟨RX5, "send", "(I)I"⟩
abbrev cX5_flip : ByteArray := prog_1_method_12_code
def yX5_flip : MethodName := ⟨RX5, "flip", "(II)I"⟩
abbrev cX5_lose : ByteArray := prog_1_method_13_code
def yX5_lose : MethodName := ⟨RX5, "lose", "(II)I"⟩
abbrev cX5_burst : ByteArray := prog_1_method_14_code
def yX5_burst : MethodName := ⟨RX5, "burst", "(II)I"⟩
abbrev cX5_sendCascade : ByteArray := prog_1_method_15_code
def yX5_sendCascade : MethodName := ⟨RX5, "sendCascade", "()I"⟩
abbrev cX5_received : ByteArray := prog_1_method_16_code
def yX5_received : MethodName := ⟨RX5, "received", "(I)I"⟩
abbrev cX5_sent : ByteArray := prog_1_method_17_code
def yX5_sent : MethodName := ⟨RX5, "sent", "()I"⟩
abbrev cX5_block : ByteArray := prog_1_method_18_code
def yX5_block : MethodName := ⟨RX5, "block", "(II)I"⟩
abbrev cX5_blockAt : ByteArray := prog_1_method_19_code
def yX5_blockAt : MethodName := ⟨RX5, "blockAt", "(I)I"⟩
abbrev cX5_strength : ByteArray := prog_1_method_20_code
def yX5_strength : MethodName := ⟨RX5, "strength", "(I)I"⟩
abbrev cX5_trial : ByteArray := prog_1_method_21_code
def yX5_trial : MethodName := ⟨RX5, "trial", "(I)I"⟩
abbrev cX5_score : ByteArray := prog_1_method_22_code
def yX5_score : MethodName := ⟨RX5, "score", "(I)I"⟩
abbrev cX5_lawful : ByteArray := prog_1_method_23_code
def yX5_lawful : MethodName := ⟨RX5, "lawful", "()I"⟩
abbrev cX5_decode : ByteArray := prog_1_method_24_code
def yX5_decode : MethodName := ⟨RX5, "decode", "()I"⟩
abbrev cX5_decidingTrial : ByteArray := prog_1_method_25_code
def yX5_decidingTrial : MethodName := ⟨RX5, "decidingTrial", "()I"⟩
abbrev cX5_margin : ByteArray := prog_1_method_26_code
def yX5_margin : MethodName := ⟨RX5, "margin", "()I"⟩
abbrev cX5_wastedTrials : ByteArray := prog_1_method_27_code
def yX5_wastedTrials : MethodName := ⟨RX5, "wastedTrials", "()I"⟩
abbrev cX5_isGuaranteed : ByteArray := prog_1_method_28_code
def yX5_isGuaranteed : MethodName := ⟨RX5, "isGuaranteed", "()I"⟩
abbrev cX5_fragileBits : ByteArray := prog_1_method_29_code
def yX5_fragileBits : MethodName := ⟨RX5, "fragileBits", "()I"⟩
abbrev cX5_fragileBlocks : ByteArray := prog_1_method_30_code
def yX5_fragileBlocks : MethodName := ⟨RX5, "fragileBlocks", "()I"⟩
abbrev cX5_nearest : ByteArray := prog_1_method_31_code
def yX5_nearest : MethodName := ⟨RX5, "nearest", "(I)I"⟩
abbrev cX5_isSymbol : ByteArray := prog_1_method_32_code
def yX5_isSymbol : MethodName := ⟨RX5, "isSymbol", "(I)Z"⟩
abbrev cX5_isMessage : ByteArray := prog_1_method_33_code
def yX5_isMessage : MethodName := ⟨RX5, "isMessage", "(I)Z"⟩
abbrev cX5_isBlock : ByteArray := prog_1_method_34_code
def yX5_isBlock : MethodName := ⟨RX5, "isBlock", "(I)Z"⟩
abbrev cX5_generateInnerCode : ByteArray := prog_1_method_35_code
def yX5_generateInnerCode : MethodName := ⟨RX5, "generateInnerCode", "([II)Z"⟩
abbrev cX5_generatedWord : ByteArray := prog_1_method_36_code
def yX5_generatedWord : MethodName := ⟨RX5, "generatedWord", "([II)I"⟩
abbrev cX5_fieldProduct : ByteArray := prog_1_method_37_code
def yX5_fieldProduct : MethodName := ⟨RX5, "fieldProduct", "(II)I"⟩
abbrev cX5_symbolIn : ByteArray := prog_1_method_38_code
def yX5_symbolIn : MethodName := ⟨RX5, "symbolIn", "(JI)I"⟩
abbrev cX5_readAgain : ByteArray := prog_1_method_39_code
def yX5_readAgain : MethodName := ⟨RX5, "readAgain", "()V"⟩
abbrev cX5_sentSymbol : ByteArray := prog_1_method_40_code
def yX5_sentSymbol : MethodName := ⟨RX5, "sentSymbol", "(I)I"⟩
abbrev cX5_wordSentFor : ByteArray := prog_1_method_41_code
def yX5_wordSentFor : MethodName := ⟨RX5, "wordSentFor", "(II)I"⟩
abbrev cX5_lostBlocks : ByteArray := prog_1_method_42_code
def yX5_lostBlocks : MethodName := ⟨RX5, "lostBlocks", "()I"⟩
abbrev cX5_wrongBits : ByteArray := prog_1_method_43_code
def yX5_wrongBits : MethodName := ⟨RX5, "wrongBits", "()I"⟩
abbrev cX5_burstMask : ByteArray := prog_1_method_44_code
def yX5_burstMask : MethodName := ⟨RX5, "burstMask", "(III)I"⟩
abbrev cX5_lawBound : ByteArray := prog_1_method_45_code
def yX5_lawBound : MethodName := ⟨RX5, "lawBound", "()I"⟩
abbrev cX5_isResult : ByteArray := prog_1_method_46_code
def yX5_isResult : MethodName := ⟨RX5, "isResult", "(JIJ)Z"⟩
abbrev cX5_lawfulMessage : ByteArray := prog_1_method_47_code
def yX5_lawfulMessage : MethodName := ⟨RX5, "lawfulMessage", "()I"⟩
abbrev cX5_partInSentScore : ByteArray := prog_1_method_48_code
def yX5_partInSentScore : MethodName := ⟨RX5, "partInSentScore", "(I)I"⟩
abbrev cX5_fragileBitsOf : ByteArray := prog_1_method_49_code
def yX5_fragileBitsOf : MethodName := ⟨RX5, "fragileBitsOf", "(I)I"⟩
abbrev cX5_nearestMessage : ByteArray := prog_1_method_50_code
def yX5_nearestMessage : MethodName := ⟨RX5, "nearestMessage", "(I)I"⟩
def RX6 : String := "NestedCodesModel"
def TX6 : u_T := fun k => match k with
  | 0 => ("NestedCodesModel", "d", "[I", true)
  | 1 => ("NestedCodesModel", "was", "[I", true)
  | 2 => ("NestedCodesModel", "states", "I", false)
  | 3 => ("NestedCodesModel", "waiting", "[I", true)
  | 4 => ("NestedCodesModel", "waits", "I", false)
  | 5 => ("NestedCodesModel", "times", "[I", true)
  | 6 => ("NestedCodesModel", "code", "[B", true)
  | 7 => ("NestedCodesModel", "word", "[I", true)
  | 8 => ("NestedCodesModel", "symbol", "[I", true)
  | 9 => ("NestedCodesModel", "gap", "[I", true)
  | 10 => ("NestedCodesModel", "least", "I", false)
  | 11 => ("NestedCodesModel", "its", "[I", true)
  | 12 => ("NestedCodesModel", "far", "[I", true)
  | 13 => ("NestedCodesModel", "trust", "[I", true)
  | 14 => ("NestedCodesModel", "order", "[I", true)
  | 15 => ("NestedCodesModel", "found", "I", false)
  | _ => ("NestedCodesModel", "deciding", "I", false)
def tyX6 : Nat → FieldType := fun k => match k with
  | 0 => .array .int
  | 1 => .array .int
  | 2 => .int
  | 3 => .array .int
  | 4 => .int
  | 5 => .array .int
  | 6 => .array .byte
  | 7 => .array .int
  | 8 => .array .int
  | 9 => .array .int
  | 10 => .int
  | 11 => .array .int
  | 12 => .array .int
  | 13 => .array .int
  | 14 => .array .int
  | 15 => .int
  | _ => .int
abbrev wsX60 : List Cond := u_ws RX6 TX6 17
theorem nmX6 : ∀ a, a < 17 → ∀ b, b < 17 → a ≠ b → (TX6 a).2.1 ≠ (TX6 b).2.1 := by decide +kernel
theorem tyX6_ok : ∀ k, k < 17 → parseFieldDescriptor (TX6 k).2.2.1 = some (tyX6 k) := by decide +kernel
abbrev cX6_init : ByteArray := prog_8_method_1_code
def yX6_init : MethodName := ⟨RX6, "<init>", "()V"⟩
abbrev cX6_in : ByteArray := prog_8_method_2_code
def yX6_in : MethodName := ⟨RX6, "in", "(III)Z"⟩
abbrev cX6_multiplied : ByteArray := prog_8_method_3_code
def yX6_multiplied : MethodName := ⟨RX6, "multiplied", "(II)I"⟩
abbrev cX6_ones : ByteArray := prog_8_method_4_code
def yX6_ones : MethodName := ⟨RX6, "ones", "(I)I"⟩
abbrev cX6_prepares : ByteArray := prog_8_method_5_code
def yX6_prepares : MethodName := ⟨RX6, "prepares", "()V"⟩
abbrev cX6_isBlock : ByteArray := prog_8_method_6_code
def yX6_isBlock : MethodName := ⟨RX6, "isBlock", "(I)Z"⟩
abbrev cX6_isLost : ByteArray := prog_8_method_7_code
def yX6_isLost : MethodName := ⟨RX6, "isLost", "(I)Z"⟩
abbrev cX6_messages : ByteArray := prog_8_method_8_code
def yX6_messages : MethodName := ⟨RX6, "messages", "()I"⟩
abbrev cX6_isMessage : ByteArray := prog_8_method_9_code
def yX6_isMessage : MethodName := ⟨RX6, "isMessage", "(I)Z"⟩
abbrev cX6_distance : ByteArray := prog_8_method_10_code
def yX6_distance : MethodName := ⟨RX6, "distance", "()I"⟩
abbrev cX6_records : ByteArray := prog_8_method_11_code
def yX6_records : MethodName := ⟨RX6, "records", "()V"⟩
abbrev cX6_empties : ByteArray := prog_8_method_12_code
def yX6_empties : MethodName := ⟨RX6, "empties", "()V"⟩
abbrev cX6_setOuter : ByteArray := prog_8_method_13_code
def yX6_setOuter : MethodName := ⟨RX6, "setOuter", "(II)I"⟩
abbrev cX6_generator : ByteArray := prog_8_method_14_code
def yX6_generator : MethodName := ⟨RX6, "generator", "(I)I"⟩
abbrev cX6_clearGenerators : ByteArray := prog_8_method_15_code
def yX6_clearGenerators : MethodName := ⟨RX6, "clearGenerators", "()I"⟩
abbrev cX6_areGenerators : ByteArray := prog_8_method_16_code
def yX6_areGenerators : MethodName := ⟨RX6, "areGenerators", "(I)Z"⟩
abbrev cX6_setInner : ByteArray := prog_8_method_17_code
def yX6_setInner : MethodName := ⟨RX6, "setInner", "(I)I"⟩
abbrev cX6_undo : ByteArray := prog_8_method_18_code
def yX6_undo : MethodName := ⟨RX6, "undo", "()I"⟩
abbrev cX6_wrongBits : ByteArray := prog_8_method_19_code
def yX6_wrongBits : MethodName := ⟨RX6, "wrongBits", "()I"⟩
abbrev cX6_count : ByteArray := prog_8_method_20_code
def yX6_count : MethodName := ⟨RX6, "count", "(I)I"⟩
abbrev cX6_wordOf : ByteArray := prog_8_method_21_code
def yX6_wordOf : MethodName := ⟨RX6, "wordOf", "(I)I"⟩
abbrev cX6_product : ByteArray := prog_8_method_22_code
def yX6_product : MethodName := ⟨RX6, "product", "(II)I"⟩
abbrev cX6_symbolFor : ByteArray := prog_8_method_23_code
def yX6_symbolFor : MethodName := ⟨RX6, "symbolFor", "(II)I"⟩
abbrev cX6_send : ByteArray := prog_8_method_24_code
def yX6_send : MethodName := ⟨RX6, "send", "(I)I"⟩
abbrev cX6_flip : ByteArray := prog_8_method_25_code
def yX6_flip : MethodName := ⟨RX6, "flip", "(II)I"⟩
abbrev cX6_lose : ByteArray := prog_8_method_26_code
def yX6_lose : MethodName := ⟨RX6, "lose", "(II)I"⟩
abbrev cX6_burst : ByteArray := prog_8_method_27_code
def yX6_burst : MethodName := ⟨RX6, "burst", "(II)I"⟩
abbrev cX6_sendCascade : ByteArray := prog_8_method_28_code
def yX6_sendCascade : MethodName := ⟨RX6, "sendCascade", "()I"⟩
abbrev cX6_received : ByteArray := prog_8_method_29_code
def yX6_received : MethodName := ⟨RX6, "received", "(I)I"⟩
abbrev cX6_sent : ByteArray := prog_8_method_30_code
def yX6_sent : MethodName := ⟨RX6, "sent", "()I"⟩
abbrev cX6_judges : ByteArray := prog_8_method_31_code
def yX6_judges : MethodName := ⟨RX6, "judges", "()V"⟩
abbrev cX6_placeOf : ByteArray := prog_8_method_32_code
def yX6_placeOf : MethodName := ⟨RX6, "placeOf", "(I)I"⟩
abbrev cX6_block : ByteArray := prog_8_method_33_code
def yX6_block : MethodName := ⟨RX6, "block", "(II)I"⟩
abbrev cX6_blockAt : ByteArray := prog_8_method_34_code
def yX6_blockAt : MethodName := ⟨RX6, "blockAt", "(I)I"⟩
abbrev cX6_strength : ByteArray := prog_8_method_35_code
def yX6_strength : MethodName := ⟨RX6, "strength", "(I)I"⟩
abbrev cX6_scoreOf : ByteArray := prog_8_method_36_code
def yX6_scoreOf : MethodName := ⟨RX6, "scoreOf", "(I)I"⟩
abbrev cX6_bar : ByteArray := prog_8_method_37_code
def yX6_bar : MethodName := ⟨RX6, "bar", "()I"⟩
abbrev cX6_isResult : ByteArray := prog_8_method_38_code
def yX6_isResult : MethodName := ⟨RX6, "isResult", "(II)Z"⟩
abbrev cX6_trialOf : ByteArray := prog_8_method_39_code
def yX6_trialOf : MethodName := ⟨RX6, "trialOf", "(I)I"⟩
abbrev cX6_decodes : ByteArray := prog_8_method_40_code
def yX6_decodes : MethodName := ⟨RX6, "decodes", "()V"⟩
abbrev cX6_trial : ByteArray := prog_8_method_41_code
def yX6_trial : MethodName := ⟨RX6, "trial", "(I)I"⟩
abbrev cX6_score : ByteArray := prog_8_method_42_code
def yX6_score : MethodName := ⟨RX6, "score", "(I)I"⟩
abbrev cX6_lawful : ByteArray := prog_8_method_43_code
def yX6_lawful : MethodName := ⟨RX6, "lawful", "()I"⟩
abbrev cX6_decode : ByteArray := prog_8_method_44_code
def yX6_decode : MethodName := ⟨RX6, "decode", "()I"⟩
abbrev cX6_decidingTrial : ByteArray := prog_8_method_45_code
def yX6_decidingTrial : MethodName := ⟨RX6, "decidingTrial", "()I"⟩
abbrev cX6_margin : ByteArray := prog_8_method_46_code
def yX6_margin : MethodName := ⟨RX6, "margin", "()I"⟩
abbrev cX6_wastedTrials : ByteArray := prog_8_method_47_code
def yX6_wastedTrials : MethodName := ⟨RX6, "wastedTrials", "()I"⟩
abbrev cX6_isGuaranteed : ByteArray := prog_8_method_48_code
def yX6_isGuaranteed : MethodName := ⟨RX6, "isGuaranteed", "()I"⟩
abbrev cX6_isRight : ByteArray := prog_8_method_49_code
def yX6_isRight : MethodName := ⟨RX6, "isRight", "()Z"⟩
abbrev cX6_fragileBits : ByteArray := prog_8_method_50_code
def yX6_fragileBits : MethodName := ⟨RX6, "fragileBits", "()I"⟩
abbrev cX6_fragileBlocks : ByteArray := prog_8_method_51_code
def yX6_fragileBlocks : MethodName := ⟨RX6, "fragileBlocks", "()I"⟩
abbrev cX6_nearest : ByteArray := prog_8_method_52_code
def yX6_nearest : MethodName := ⟨RX6, "nearest", "(I)I"⟩
def RJ6 : String := "java/lang/Integer"
def TJ6 : u_T := fun k => match k with
  | _ => ("", "", "", false)
def tyJ6 : Nat → FieldType := fun k => match k with
  | _ => .int
abbrev wsJ60 : List Cond := u_ws RJ6 TJ6 0
theorem nmJ6 : ∀ a, a < 0 → ∀ b, b < 0 → a ≠ b → (TJ6 a).2.1 ≠ (TJ6 b).2.1 := by decide +kernel
theorem tyJ6_ok : ∀ k, k < 0 → parseFieldDescriptor (TJ6 k).2.2.1 = some (tyJ6 k) := by decide +kernel
abbrev cJ6_bitCount_0f7a4 : ByteArray := prog_9_method_49_code
def yJ6_bitCount_0f7a4 : MethodName := ⟨RJ6, "bitCount", "(I)I"⟩
def RJ13 : String := "java/lang/Long"
def TJ13 : u_T := fun k => match k with
  | _ => ("", "", "", false)
def tyJ13 : Nat → FieldType := fun k => match k with
  | _ => .int
abbrev wsJ130 : List Cond := u_ws RJ13 TJ13 0
theorem nmJ13 : ∀ a, a < 0 → ∀ b, b < 0 → a ≠ b → (TJ13 a).2.1 ≠ (TJ13 b).2.1 := by decide +kernel
theorem tyJ13_ok : ∀ k, k < 0 → parseFieldDescriptor (TJ13 k).2.2.1 = some (tyJ13 k) := by decide +kernel
abbrev cJ13_bitCount_95d88 : ByteArray := prog_10_method_50_code
def yJ13_bitCount_95d88 : MethodName := ⟨RJ13, "bitCount", "(J)I"⟩
def RJ9 : String := "java/lang/Math"
def TJ9 : u_T := fun k => match k with
  | _ => ("", "", "", false)
def tyJ9 : Nat → FieldType := fun k => match k with
  | _ => .int
abbrev wsJ90 : List Cond := u_ws RJ9 TJ9 0
theorem nmJ9 : ∀ a, a < 0 → ∀ b, b < 0 → a ≠ b → (TJ9 a).2.1 ≠ (TJ9 b).2.1 := by decide +kernel
theorem tyJ9_ok : ∀ k, k < 0 → parseFieldDescriptor (TJ9 k).2.2.1 = some (tyJ9 k) := by decide +kernel
abbrev cJ9_max_7cf53 : ByteArray := prog_11_method_65_code
def yJ9_max_7cf53 : MethodName := ⟨RJ9, "max", "(II)I"⟩
abbrev cJ9_min_7cf53 : ByteArray := prog_11_method_69_code
def yJ9_min_7cf53 : MethodName := ⟨RJ9, "min", "(II)I"⟩
def RL : String := "NestedCodesLaw"
abbrev cL_law : ByteArray := code
def yL_law : MethodName := ⟨RL, "law", "([I)Z"⟩
def wsX4_init : List Cond := .code yX4_init cX4_init 1 none :: ([.methodLink RX4 3 objectInit, .instanceMethod objectInit, .code objectInit ⟨#[0xb1]⟩ 1 none, .fieldLink RX4 9 "NestedCodes$State" "length" "I", .fieldLink RX4 15 "NestedCodes$State" "dimension" "I", .fieldLink RX4 18 "NestedCodes$State" "bits" "I", .arrayClass .int, .fieldLink RX4 21 "NestedCodes$State" "generators" "[I", .fieldLink RX4 25 "NestedCodes$State" "words" "[I", .arrayClass .boolean, .fieldLink RX4 28 "NestedCodes$State" "lost" "[Z", .fieldLink RX4 32 "NestedCodes$State" "sentMessage" "I"] ++ wsX40)
def wsX0_init : List Cond := .code yX0_init cX0_init 2 none :: ([.methodLink RX0 3 objectInit, .instanceMethod objectInit, .code objectInit ⟨#[0xb1]⟩ 1 none, .classLink RX0 9 RX4, .fieldLink RX0 11 "NestedCodes$History" "states" "[LNestedCodes$State;", .instantiable RX4 7, .initialized RX4, .fieldLink RX0 18 "NestedCodes$History" "size" "I", .instanceMethod yX4_init, .code yX4_init cX4_init 1 none, .methodLink RX4 3 objectInit, .fieldLink RX4 9 "NestedCodes$State" "length" "I", .fieldLink RX4 15 "NestedCodes$State" "dimension" "I", .fieldLink RX4 18 "NestedCodes$State" "bits" "I", .arrayClass .int, .fieldLink RX4 21 "NestedCodes$State" "generators" "[I", .fieldLink RX4 25 "NestedCodes$State" "words" "[I", .arrayClass .boolean, .fieldLink RX4 28 "NestedCodes$State" "lost" "[Z", .fieldLink RX4 32 "NestedCodes$State" "sentMessage" "I"] ++ wsX00 ++ wsX40)
def wsX0_dropOldest : List Cond := .code yX0_dropOldest cX0_dropOldest 3 none :: ([.fieldLink RX0 11 "NestedCodes$History" "states" "[LNestedCodes$State;", .fieldLink RX0 18 "NestedCodes$History" "size" "I"] ++ wsX00)
def wsX4_copyFrom : List Cond := .code yX4_copyFrom cX4_copyFrom 3 none :: ([.fieldLink RX4 9 "NestedCodes$State" "length" "I", .fieldLink RX4 15 "NestedCodes$State" "dimension" "I", .fieldLink RX4 18 "NestedCodes$State" "bits" "I", .fieldLink RX4 32 "NestedCodes$State" "sentMessage" "I", .fieldLink RX4 21 "NestedCodes$State" "generators" "[I", .fieldLink RX4 25 "NestedCodes$State" "words" "[I", .fieldLink RX4 28 "NestedCodes$State" "lost" "[Z"] ++ wsX40)
def wsX0_record : List Cond := .code yX0_record cX0_record 2 none :: ([.fieldLink RX0 18 "NestedCodes$History" "size" "I", .fieldLink RX0 11 "NestedCodes$History" "states" "[LNestedCodes$State;", .methodLink RX0 22 yX0_dropOldest, .instanceMethod yX0_dropOldest, .selects RX0 yX0_dropOldest yX0_dropOldest, .initialized RX0, .code yX0_dropOldest cX0_dropOldest 3 none, .instanceMethod yX4_copyFrom, .initialized RX4, .selects RX4 yX4_copyFrom yX4_copyFrom, .code yX4_copyFrom cX4_copyFrom 3 none, .fieldLink RX4 9 "NestedCodes$State" "length" "I", .fieldLink RX4 15 "NestedCodes$State" "dimension" "I", .fieldLink RX4 18 "NestedCodes$State" "bits" "I", .fieldLink RX4 32 "NestedCodes$State" "sentMessage" "I", .fieldLink RX4 21 "NestedCodes$State" "generators" "[I", .fieldLink RX4 25 "NestedCodes$State" "words" "[I", .fieldLink RX4 28 "NestedCodes$State" "lost" "[Z"] ++ wsX00 ++ wsX40)
def wsX0_restoreLatest : List Cond := .code yX0_restoreLatest cX0_restoreLatest 2 none :: ([.fieldLink RX0 18 "NestedCodes$History" "size" "I", .fieldLink RX0 11 "NestedCodes$History" "states" "[LNestedCodes$State;", .instanceMethod yX4_copyFrom, .initialized RX4, .selects RX4 yX4_copyFrom yX4_copyFrom, .code yX4_copyFrom cX4_copyFrom 3 none, .fieldLink RX4 9 "NestedCodes$State" "length" "I", .fieldLink RX4 15 "NestedCodes$State" "dimension" "I", .fieldLink RX4 18 "NestedCodes$State" "bits" "I", .fieldLink RX4 32 "NestedCodes$State" "sentMessage" "I", .fieldLink RX4 21 "NestedCodes$State" "generators" "[I", .fieldLink RX4 25 "NestedCodes$State" "words" "[I", .fieldLink RX4 28 "NestedCodes$State" "lost" "[Z"] ++ wsX00 ++ wsX40)
def wsX1_init : List Cond := .code yX1_init cX1_init 1 none :: ([.methodLink RX1 3 objectInit, .instanceMethod objectInit, .code objectInit ⟨#[0xb1]⟩ 1 none, .arrayClass .int, .fieldLink RX1 9 "NestedCodes$InnerCode" "words" "[I", .fieldLink RX1 15 "NestedCodes$InnerCode" "distance" "I"] ++ wsX10)
def wsX5_generatedWord : List Cond := .code yX5_generatedWord cX5_generatedWord 4 (some .int) :: ([])
def wsJ6_bitCount_0f7a4 : List Cond := .code yJ6_bitCount_0f7a4 cJ6_bitCount_0f7a4 1 (some .int) :: ([.constant RJ6 265 (1431655765), .constant RJ6 266 (858993459), .constant RJ6 267 (252645135)])
def wsX1_setGenerators : List Cond := .code yX1_setGenerators cX1_setGenerators 3 none :: ([.fieldLink RX1 15 "NestedCodes$InnerCode" "distance" "I", .fieldLink RX1 9 "NestedCodes$InnerCode" "words" "[I", .methodLink RX1 29 Lib.Math.min.name, .static Lib.Math.min.name, .initialized "java/lang/Math", .code Lib.Math.min.name Lib.Math.min.code 2 (some .int), .static yX5_generatedWord, .initialized RX5, .code yX5_generatedWord cX5_generatedWord 4 (some .int), .methodLink RX1 23 yJ6_bitCount_0f7a4, .static yJ6_bitCount_0f7a4, .initialized RJ6, .code yJ6_bitCount_0f7a4 cJ6_bitCount_0f7a4 1 (some .int), .constant RJ6 265 (1431655765), .constant RJ6 266 (858993459), .constant RJ6 267 (252645135)] ++ wsX10)
def wsX1_bitsBetween : List Cond := .code yX1_bitsBetween cX1_bitsBetween 3 (some .int) :: ([.fieldLink RX1 9 "NestedCodes$InnerCode" "words" "[I", .methodLink RX1 23 yJ6_bitCount_0f7a4, .static yJ6_bitCount_0f7a4, .initialized RJ6, .code yJ6_bitCount_0f7a4 cJ6_bitCount_0f7a4 1 (some .int), .constant RJ6 265 (1431655765), .constant RJ6 266 (858993459), .constant RJ6 267 (252645135)] ++ wsX10)
def wsX1_symbolOf : List Cond := .code yX1_symbolOf cX1_symbolOf 4 (some .int) :: ([.methodLink RX1 35 yX1_bitsBetween, .instanceMethod yX1_bitsBetween, .selects RX1 yX1_bitsBetween yX1_bitsBetween, .initialized RX1, .code yX1_bitsBetween cX1_bitsBetween 3 (some .int), .fieldLink RX1 9 "NestedCodes$InnerCode" "words" "[I", .methodLink RX1 23 yJ6_bitCount_0f7a4, .static yJ6_bitCount_0f7a4, .initialized RJ6, .code yJ6_bitCount_0f7a4 cJ6_bitCount_0f7a4 1 (some .int), .constant RJ6 265 (1431655765), .constant RJ6 266 (858993459), .constant RJ6 267 (252645135)] ++ wsX10)
def wsX1_reliability : List Cond := .code yX1_reliability cX1_reliability 2 (some .int) :: ([.fieldLink RX1 15 "NestedCodes$InnerCode" "distance" "I", .methodLink RX1 38 Lib.Math.max.name, .static Lib.Math.max.name, .initialized "java/lang/Math", .code Lib.Math.max.name Lib.Math.max.code 2 (some .int)] ++ wsX10)
def wsX1_bitsToAnotherSymbol : List Cond := .code yX1_bitsToAnotherSymbol cX1_bitsToAnotherSymbol 8 (some .int) :: ([.methodLink RX1 29 Lib.Math.min.name, .static Lib.Math.min.name, .initialized "java/lang/Math", .code Lib.Math.min.name Lib.Math.min.code 2 (some .int), .methodLink RX1 41 yX1_symbolOf, .instanceMethod yX1_symbolOf, .selects RX1 yX1_symbolOf yX1_symbolOf, .initialized RX1, .code yX1_symbolOf cX1_symbolOf 4 (some .int), .methodLink RX1 35 yX1_bitsBetween, .instanceMethod yX1_bitsBetween, .selects RX1 yX1_bitsBetween yX1_bitsBetween, .code yX1_bitsBetween cX1_bitsBetween 3 (some .int), .fieldLink RX1 9 "NestedCodes$InnerCode" "words" "[I", .methodLink RX1 23 yJ6_bitCount_0f7a4, .static yJ6_bitCount_0f7a4, .initialized RJ6, .code yJ6_bitCount_0f7a4 cJ6_bitCount_0f7a4 1 (some .int), .constant RJ6 265 (1431655765), .constant RJ6 266 (858993459), .constant RJ6 267 (252645135)] ++ wsX10)
def wsX5_fieldProduct : List Cond := .code yX5_fieldProduct cX5_fieldProduct 5 (some .int) :: ([])
def wsX2_init : List Cond := .code yX2_init cX2_init 5 none :: ([.methodLink RX2 3 objectInit, .instanceMethod objectInit, .code objectInit ⟨#[0xb1]⟩ 1 none, .arrayClass .long, .fieldLink RX2 9 "NestedCodes$OuterCode" "parts" "[J", .static yX5_fieldProduct, .initialized RX5, .code yX5_fieldProduct cX5_fieldProduct 5 (some .int)] ++ wsX20)
def wsX2_codeword : List Cond := .code yX2_codeword cX2_codeword 3 (some .long) :: ([.fieldLink RX2 9 "NestedCodes$OuterCode" "parts" "[J"] ++ wsX20)
def wsX2_markSymbols : List Cond := .code yX2_markSymbols cX2_markSymbols 4 (some .long) :: ([.constantLong RX2 19 (18764998447377)])
def wsX2_marks : List Cond := .code yX2_marks cX2_marks 1 (some .long) :: ([.constantLong RX2 19 (18764998447377)])
def wsX3_init : List Cond := .code yX3_init cX3_init 1 none :: ([.methodLink RX3 3 objectInit, .instanceMethod objectInit, .code objectInit ⟨#[0xb1]⟩ 1 none, .arrayClass .int, .fieldLink RX3 9 "NestedCodes$Reading" "symbols" "[I", .fieldLink RX3 15 "NestedCodes$Reading" "gaps" "[I", .fieldLink RX3 18 "NestedCodes$Reading" "reliabilities" "[I", .fieldLink RX3 21 "NestedCodes$Reading" "order" "[I", .fieldLink RX3 24 "NestedCodes$Reading" "places" "[I", .fieldLink RX3 27 "NestedCodes$Reading" "length" "I", .fieldLink RX3 31 "NestedCodes$Reading" "packedSymbols" "J", .fieldLink RX3 35 "NestedCodes$Reading" "allBlocks" "J"] ++ wsX30)
def wsX3_readBlock_r1 : List Cond := [Cond.fieldLink RX3 9 "NestedCodes$Reading" "symbols" "[I", Cond.fieldLink RX3 15 "NestedCodes$Reading" "gaps" "[I", Cond.fieldLink RX3 18 "NestedCodes$Reading" "reliabilities" "[I", Cond.instanceMethod yX1_symbolOf, Cond.initialized RX1, Cond.selects RX1 yX1_symbolOf yX1_symbolOf, Cond.code yX1_symbolOf cX1_symbolOf 4 (some .int), Cond.methodLink RX1 35 yX1_bitsBetween, Cond.instanceMethod yX1_bitsBetween, Cond.selects RX1 yX1_bitsBetween yX1_bitsBetween, Cond.code yX1_bitsBetween cX1_bitsBetween 3 (some .int), Cond.fieldLink RX1 9 "NestedCodes$InnerCode" "words" "[I", Cond.methodLink RX1 23 yJ6_bitCount_0f7a4, Cond.static yJ6_bitCount_0f7a4, Cond.initialized RJ6, Cond.code yJ6_bitCount_0f7a4 cJ6_bitCount_0f7a4 1 (some .int), Cond.constant RJ6 265 (1431655765), Cond.constant RJ6 266 (858993459), Cond.constant RJ6 267 (252645135), Cond.instanceMethod yX1_reliability, Cond.selects RX1 yX1_reliability yX1_reliability, Cond.code yX1_reliability cX1_reliability 2 (some .int), Cond.fieldLink RX1 15 "NestedCodes$InnerCode" "distance" "I", Cond.methodLink RX1 38 Lib.Math.max.name]
def wsX3_readBlock_r2 : List Cond := [Cond.static Lib.Math.max.name, Cond.initialized "java/lang/Math", Cond.code Lib.Math.max.name Lib.Math.max.code 2 (some .int)]
def wsX3_readBlock : List Cond := .code yX3_readBlock cX3_readBlock 5 none :: ((wsX3_readBlock_r1 ++ wsX3_readBlock_r2) ++ wsX40 ++ wsX30 ++ wsX10)
def wsX3_blocksBefore : List Cond := .code yX3_blocksBefore cX3_blocksBefore 4 (some .int) :: ([.fieldLink RX3 27 "NestedCodes$Reading" "length" "I", .fieldLink RX3 18 "NestedCodes$Reading" "reliabilities" "[I"] ++ wsX30)
def wsX3_read_r1 : List Cond := [Cond.fieldLink RX3 27 "NestedCodes$Reading" "length" "I", Cond.fieldLink RX3 35 "NestedCodes$Reading" "allBlocks" "J", Cond.fieldLink RX3 31 "NestedCodes$Reading" "packedSymbols" "J", Cond.fieldLink RX3 9 "NestedCodes$Reading" "symbols" "[I", Cond.fieldLink RX3 24 "NestedCodes$Reading" "places" "[I", Cond.fieldLink RX3 21 "NestedCodes$Reading" "order" "[I", Cond.static yX2_marks, Cond.initialized RX2, Cond.code yX2_marks cX2_marks 1 (some .long), Cond.constantLong RX2 19 (18764998447377), Cond.methodLink RX3 47 yX3_readBlock, Cond.instanceMethod yX3_readBlock, Cond.selects RX3 yX3_readBlock yX3_readBlock, Cond.initialized RX3, Cond.code yX3_readBlock cX3_readBlock 5 none, Cond.fieldLink RX3 15 "NestedCodes$Reading" "gaps" "[I", Cond.fieldLink RX3 18 "NestedCodes$Reading" "reliabilities" "[I", Cond.instanceMethod yX1_symbolOf, Cond.initialized RX1, Cond.selects RX1 yX1_symbolOf yX1_symbolOf, Cond.code yX1_symbolOf cX1_symbolOf 4 (some .int), Cond.methodLink RX1 35 yX1_bitsBetween, Cond.instanceMethod yX1_bitsBetween, Cond.selects RX1 yX1_bitsBetween yX1_bitsBetween]
def wsX3_read_r2 : List Cond := [Cond.code yX1_bitsBetween cX1_bitsBetween 3 (some .int), Cond.fieldLink RX1 9 "NestedCodes$InnerCode" "words" "[I", Cond.methodLink RX1 23 yJ6_bitCount_0f7a4, Cond.static yJ6_bitCount_0f7a4, Cond.initialized RJ6, Cond.code yJ6_bitCount_0f7a4 cJ6_bitCount_0f7a4 1 (some .int), Cond.constant RJ6 265 (1431655765), Cond.constant RJ6 266 (858993459), Cond.constant RJ6 267 (252645135), Cond.instanceMethod yX1_reliability, Cond.selects RX1 yX1_reliability yX1_reliability, Cond.code yX1_reliability cX1_reliability 2 (some .int), Cond.fieldLink RX1 15 "NestedCodes$InnerCode" "distance" "I", Cond.methodLink RX1 38 Lib.Math.max.name, Cond.static Lib.Math.max.name, Cond.initialized "java/lang/Math", Cond.code Lib.Math.max.name Lib.Math.max.code 2 (some .int), Cond.methodLink RX3 51 yX3_blocksBefore, Cond.instanceMethod yX3_blocksBefore, Cond.selects RX3 yX3_blocksBefore yX3_blocksBefore, Cond.code yX3_blocksBefore cX3_blocksBefore 4 (some .int)]
def wsX3_read : List Cond := .code yX3_read cX3_read 4 none :: ((wsX3_read_r1 ++ wsX3_read_r2) ++ wsX40 ++ wsX30 ++ wsX10)
def wsX3_keptBlocks : List Cond := .code yX3_keptBlocks cX3_keptBlocks 5 (some .long) :: ([.fieldLink RX3 35 "NestedCodes$Reading" "allBlocks" "J", .fieldLink RX3 27 "NestedCodes$Reading" "length" "I", .fieldLink RX3 21 "NestedCodes$Reading" "order" "[I", .constantLong RX3 74 (-1)] ++ wsX30)
def wsX3_differingBlocks : List Cond := .code yX3_differingBlocks cX3_differingBlocks 3 (some .long) :: ([.fieldLink RX3 31 "NestedCodes$Reading" "packedSymbols" "J", .fieldLink RX3 35 "NestedCodes$Reading" "allBlocks" "J", .static yX2_markSymbols, .initialized RX2, .code yX2_markSymbols cX2_markSymbols 4 (some .long), .constantLong RX2 19 (18764998447377)] ++ wsX30)
def wsX3_scoreOf : List Cond := .code yX3_scoreOf cX3_scoreOf 8 (some .int) :: ([.fieldLink RX3 27 "NestedCodes$Reading" "length" "I", .fieldLink RX3 18 "NestedCodes$Reading" "reliabilities" "[I", .methodLink RX3 80 yX3_differingBlocks, .instanceMethod yX3_differingBlocks, .selects RX3 yX3_differingBlocks yX3_differingBlocks, .initialized RX3, .code yX3_differingBlocks cX3_differingBlocks 3 (some .long), .fieldLink RX3 31 "NestedCodes$Reading" "packedSymbols" "J", .fieldLink RX3 35 "NestedCodes$Reading" "allBlocks" "J", .static yX2_markSymbols, .initialized RX2, .code yX2_markSymbols cX2_markSymbols 4 (some .long), .constantLong RX2 19 (18764998447377)] ++ wsX30)
def wsX4_clearBlocks : List Cond := .code yX4_clearBlocks cX4_clearBlocks 2 none :: ([.fieldLink RX4 32 "NestedCodes$State" "sentMessage" "I", .fieldLink RX4 25 "NestedCodes$State" "words" "[I", .fieldLink RX4 28 "NestedCodes$State" "lost" "[Z"] ++ wsX40)
def wsX4_outerDistance : List Cond := .code yX4_outerDistance cX4_outerDistance 1 (some .int) :: ([.fieldLink RX4 9 "NestedCodes$State" "length" "I", .fieldLink RX4 15 "NestedCodes$State" "dimension" "I"] ++ wsX40)
def wsX4_messages : List Cond := .code yX4_messages cX4_messages 1 (some .int) :: ([.fieldLink RX4 15 "NestedCodes$State" "dimension" "I"] ++ wsX40)
def wsX4_allBits : List Cond := .code yX4_allBits cX4_allBits 1 (some .int) :: ([.fieldLink RX4 18 "NestedCodes$State" "bits" "I"] ++ wsX40)
def wsX4_shiftedRound : List Cond := .code yX4_shiftedRound cX4_shiftedRound 2 (some .int) :: ([.fieldLink RX4 18 "NestedCodes$State" "bits" "I", .methodLink RX4 35 yX4_allBits, .instanceMethod yX4_allBits, .selects RX4 yX4_allBits yX4_allBits, .initialized RX4, .code yX4_allBits cX4_allBits 1 (some .int)] ++ wsX40)
def wsX5_readAgain_r1 : List Cond := [Cond.fieldLink RX5 26 "NestedCodes" "inner" "LNestedCodes$InnerCode;", Cond.fieldLink RX5 10 "NestedCodes" "state" "LNestedCodes$State;", Cond.fieldLink RX5 40 "NestedCodes" "reading" "LNestedCodes$Reading;", Cond.instanceMethod yX1_setGenerators, Cond.initialized RX1, Cond.selects RX1 yX1_setGenerators yX1_setGenerators, Cond.code yX1_setGenerators cX1_setGenerators 3 none, Cond.fieldLink RX1 15 "NestedCodes$InnerCode" "distance" "I", Cond.fieldLink RX1 9 "NestedCodes$InnerCode" "words" "[I", Cond.methodLink RX1 29 Lib.Math.min.name, Cond.static Lib.Math.min.name, Cond.initialized "java/lang/Math", Cond.code Lib.Math.min.name Lib.Math.min.code 2 (some .int), Cond.static yX5_generatedWord, Cond.initialized RX5, Cond.code yX5_generatedWord cX5_generatedWord 4 (some .int), Cond.methodLink RX1 23 yJ6_bitCount_0f7a4, Cond.static yJ6_bitCount_0f7a4, Cond.initialized RJ6, Cond.code yJ6_bitCount_0f7a4 cJ6_bitCount_0f7a4 1 (some .int), Cond.constant RJ6 265 (1431655765), Cond.constant RJ6 266 (858993459), Cond.constant RJ6 267 (252645135), Cond.instanceMethod yX3_read]
def wsX5_readAgain_r2 : List Cond := [Cond.initialized RX3, Cond.selects RX3 yX3_read yX3_read, Cond.code yX3_read cX3_read 4 none, Cond.fieldLink RX3 27 "NestedCodes$Reading" "length" "I", Cond.fieldLink RX3 35 "NestedCodes$Reading" "allBlocks" "J", Cond.fieldLink RX3 31 "NestedCodes$Reading" "packedSymbols" "J", Cond.fieldLink RX3 9 "NestedCodes$Reading" "symbols" "[I", Cond.fieldLink RX3 24 "NestedCodes$Reading" "places" "[I", Cond.fieldLink RX3 21 "NestedCodes$Reading" "order" "[I", Cond.static yX2_marks, Cond.initialized RX2, Cond.code yX2_marks cX2_marks 1 (some .long), Cond.constantLong RX2 19 (18764998447377), Cond.methodLink RX3 47 yX3_readBlock, Cond.instanceMethod yX3_readBlock, Cond.selects RX3 yX3_readBlock yX3_readBlock, Cond.code yX3_readBlock cX3_readBlock 5 none, Cond.fieldLink RX3 15 "NestedCodes$Reading" "gaps" "[I", Cond.fieldLink RX3 18 "NestedCodes$Reading" "reliabilities" "[I", Cond.instanceMethod yX1_symbolOf, Cond.selects RX1 yX1_symbolOf yX1_symbolOf, Cond.code yX1_symbolOf cX1_symbolOf 4 (some .int), Cond.methodLink RX1 35 yX1_bitsBetween, Cond.instanceMethod yX1_bitsBetween]
def wsX5_readAgain_r3 : List Cond := [Cond.selects RX1 yX1_bitsBetween yX1_bitsBetween, Cond.code yX1_bitsBetween cX1_bitsBetween 3 (some .int), Cond.instanceMethod yX1_reliability, Cond.selects RX1 yX1_reliability yX1_reliability, Cond.code yX1_reliability cX1_reliability 2 (some .int), Cond.methodLink RX1 38 Lib.Math.max.name, Cond.static Lib.Math.max.name, Cond.code Lib.Math.max.name Lib.Math.max.code 2 (some .int), Cond.methodLink RX3 51 yX3_blocksBefore, Cond.instanceMethod yX3_blocksBefore, Cond.selects RX3 yX3_blocksBefore yX3_blocksBefore, Cond.code yX3_blocksBefore cX3_blocksBefore 4 (some .int)]
def wsX5_readAgain : List Cond := .code yX5_readAgain cX5_readAgain 1 none :: ((wsX5_readAgain_r1 ++ (wsX5_readAgain_r2 ++ wsX5_readAgain_r3)) ++ wsX50 ++ wsX40 ++ wsX10 ++ wsX30)
def wsX5_init_r1 : List Cond := [Cond.methodLink RX5 1 objectInit, Cond.instanceMethod objectInit, Cond.code objectInit ⟨#[0xb1]⟩ 1 none, Cond.classLink RX5 7 RX4, Cond.instantiable RX4 7, Cond.initialized RX4, Cond.fieldLink RX5 10 "NestedCodes" "state" "LNestedCodes$State;", Cond.classLink RX5 16 RX0, Cond.instantiable RX0 2, Cond.initialized RX0, Cond.fieldLink RX5 19 "NestedCodes" "history" "LNestedCodes$History;", Cond.classLink RX5 23 RX1, Cond.instantiable RX1 2, Cond.initialized RX1, Cond.fieldLink RX5 26 "NestedCodes" "inner" "LNestedCodes$InnerCode;", Cond.classLink RX5 30 RX2, Cond.instantiable RX2 1, Cond.initialized RX2, Cond.fieldLink RX5 33 "NestedCodes" "outer" "LNestedCodes$OuterCode;", Cond.classLink RX5 37 RX3, Cond.instantiable RX3 8, Cond.initialized RX3, Cond.fieldLink RX5 40 "NestedCodes" "reading" "LNestedCodes$Reading;", Cond.arrayClass .int]
def wsX5_init_r2 : List Cond := [Cond.fieldLink RX5 44 "NestedCodes" "waiting" "[I", Cond.fieldLink RX5 48 "NestedCodes" "waitingCount" "I", Cond.instanceMethod yX4_init, Cond.code yX4_init cX4_init 1 none, Cond.methodLink RX4 3 objectInit, Cond.fieldLink RX4 9 "NestedCodes$State" "length" "I", Cond.fieldLink RX4 15 "NestedCodes$State" "dimension" "I", Cond.fieldLink RX4 18 "NestedCodes$State" "bits" "I", Cond.fieldLink RX4 21 "NestedCodes$State" "generators" "[I", Cond.fieldLink RX4 25 "NestedCodes$State" "words" "[I", Cond.arrayClass .boolean, Cond.fieldLink RX4 28 "NestedCodes$State" "lost" "[Z", Cond.fieldLink RX4 32 "NestedCodes$State" "sentMessage" "I", Cond.instanceMethod yX0_init, Cond.code yX0_init cX0_init 2 none, Cond.methodLink RX0 3 objectInit, Cond.classLink RX0 9 RX4, Cond.fieldLink RX0 11 "NestedCodes$History" "states" "[LNestedCodes$State;", Cond.fieldLink RX0 18 "NestedCodes$History" "size" "I", Cond.instanceMethod yX1_init, Cond.code yX1_init cX1_init 1 none, Cond.methodLink RX1 3 objectInit, Cond.fieldLink RX1 9 "NestedCodes$InnerCode" "words" "[I", Cond.fieldLink RX1 15 "NestedCodes$InnerCode" "distance" "I"]
def wsX5_init_r3 : List Cond := [Cond.instanceMethod yX2_init, Cond.code yX2_init cX2_init 5 none, Cond.methodLink RX2 3 objectInit, Cond.arrayClass .long, Cond.fieldLink RX2 9 "NestedCodes$OuterCode" "parts" "[J", Cond.static yX5_fieldProduct, Cond.initialized RX5, Cond.code yX5_fieldProduct cX5_fieldProduct 5 (some .int), Cond.instanceMethod yX3_init, Cond.code yX3_init cX3_init 1 none, Cond.methodLink RX3 3 objectInit, Cond.fieldLink RX3 9 "NestedCodes$Reading" "symbols" "[I", Cond.fieldLink RX3 15 "NestedCodes$Reading" "gaps" "[I", Cond.fieldLink RX3 18 "NestedCodes$Reading" "reliabilities" "[I", Cond.fieldLink RX3 21 "NestedCodes$Reading" "order" "[I", Cond.fieldLink RX3 24 "NestedCodes$Reading" "places" "[I", Cond.fieldLink RX3 27 "NestedCodes$Reading" "length" "I", Cond.fieldLink RX3 31 "NestedCodes$Reading" "packedSymbols" "J", Cond.fieldLink RX3 35 "NestedCodes$Reading" "allBlocks" "J", Cond.methodLink RX5 52 yX5_readAgain, Cond.instanceMethod yX5_readAgain, Cond.selects RX5 yX5_readAgain yX5_readAgain, Cond.code yX5_readAgain cX5_readAgain 1 none, Cond.instanceMethod yX1_setGenerators]
def wsX5_init_r4 : List Cond := [Cond.selects RX1 yX1_setGenerators yX1_setGenerators, Cond.code yX1_setGenerators cX1_setGenerators 3 none, Cond.methodLink RX1 29 Lib.Math.min.name, Cond.static Lib.Math.min.name, Cond.initialized "java/lang/Math", Cond.code Lib.Math.min.name Lib.Math.min.code 2 (some .int), Cond.static yX5_generatedWord, Cond.code yX5_generatedWord cX5_generatedWord 4 (some .int), Cond.methodLink RX1 23 yJ6_bitCount_0f7a4, Cond.static yJ6_bitCount_0f7a4, Cond.initialized RJ6, Cond.code yJ6_bitCount_0f7a4 cJ6_bitCount_0f7a4 1 (some .int), Cond.constant RJ6 265 (1431655765), Cond.constant RJ6 266 (858993459), Cond.constant RJ6 267 (252645135), Cond.instanceMethod yX3_read, Cond.selects RX3 yX3_read yX3_read, Cond.code yX3_read cX3_read 4 none, Cond.static yX2_marks, Cond.code yX2_marks cX2_marks 1 (some .long), Cond.constantLong RX2 19 (18764998447377), Cond.methodLink RX3 47 yX3_readBlock, Cond.instanceMethod yX3_readBlock, Cond.selects RX3 yX3_readBlock yX3_readBlock]
def wsX5_init_r5 : List Cond := [Cond.code yX3_readBlock cX3_readBlock 5 none, Cond.instanceMethod yX1_symbolOf, Cond.selects RX1 yX1_symbolOf yX1_symbolOf, Cond.code yX1_symbolOf cX1_symbolOf 4 (some .int), Cond.methodLink RX1 35 yX1_bitsBetween, Cond.instanceMethod yX1_bitsBetween, Cond.selects RX1 yX1_bitsBetween yX1_bitsBetween, Cond.code yX1_bitsBetween cX1_bitsBetween 3 (some .int), Cond.instanceMethod yX1_reliability, Cond.selects RX1 yX1_reliability yX1_reliability, Cond.code yX1_reliability cX1_reliability 2 (some .int), Cond.methodLink RX1 38 Lib.Math.max.name, Cond.static Lib.Math.max.name, Cond.code Lib.Math.max.name Lib.Math.max.code 2 (some .int), Cond.methodLink RX3 51 yX3_blocksBefore, Cond.instanceMethod yX3_blocksBefore, Cond.selects RX3 yX3_blocksBefore yX3_blocksBefore, Cond.code yX3_blocksBefore cX3_blocksBefore 4 (some .int)]
def wsX5_init : List Cond := .code yX5_init cX5_init 1 none :: ((wsX5_init_r1 ++ (wsX5_init_r2 ++ (wsX5_init_r3 ++ (wsX5_init_r4 ++ wsX5_init_r5)))) ++ wsX40 ++ wsX50 ++ wsX00 ++ wsX10 ++ wsX20 ++ wsX30)
def wsX5_setOuter_r1 : List Cond := [Cond.fieldLink RX5 10 "NestedCodes" "state" "LNestedCodes$State;", Cond.fieldLink RX5 19 "NestedCodes" "history" "LNestedCodes$History;", Cond.instanceMethod yX0_record, Cond.initialized RX0, Cond.selects RX0 yX0_record yX0_record, Cond.code yX0_record cX0_record 2 none, Cond.fieldLink RX0 18 "NestedCodes$History" "size" "I", Cond.fieldLink RX0 11 "NestedCodes$History" "states" "[LNestedCodes$State;", Cond.methodLink RX0 22 yX0_dropOldest, Cond.instanceMethod yX0_dropOldest, Cond.selects RX0 yX0_dropOldest yX0_dropOldest, Cond.code yX0_dropOldest cX0_dropOldest 3 none, Cond.instanceMethod yX4_copyFrom, Cond.initialized RX4, Cond.selects RX4 yX4_copyFrom yX4_copyFrom, Cond.code yX4_copyFrom cX4_copyFrom 3 none, Cond.fieldLink RX4 9 "NestedCodes$State" "length" "I", Cond.fieldLink RX4 15 "NestedCodes$State" "dimension" "I", Cond.fieldLink RX4 18 "NestedCodes$State" "bits" "I", Cond.fieldLink RX4 32 "NestedCodes$State" "sentMessage" "I", Cond.fieldLink RX4 21 "NestedCodes$State" "generators" "[I", Cond.fieldLink RX4 25 "NestedCodes$State" "words" "[I", Cond.fieldLink RX4 28 "NestedCodes$State" "lost" "[Z", Cond.instanceMethod yX4_clearBlocks]
def wsX5_setOuter_r2 : List Cond := [Cond.selects RX4 yX4_clearBlocks yX4_clearBlocks, Cond.code yX4_clearBlocks cX4_clearBlocks 2 none, Cond.methodLink RX5 52 yX5_readAgain, Cond.instanceMethod yX5_readAgain, Cond.selects RX5 yX5_readAgain yX5_readAgain, Cond.initialized RX5, Cond.code yX5_readAgain cX5_readAgain 1 none, Cond.fieldLink RX5 26 "NestedCodes" "inner" "LNestedCodes$InnerCode;", Cond.fieldLink RX5 40 "NestedCodes" "reading" "LNestedCodes$Reading;", Cond.instanceMethod yX1_setGenerators, Cond.initialized RX1, Cond.selects RX1 yX1_setGenerators yX1_setGenerators, Cond.code yX1_setGenerators cX1_setGenerators 3 none, Cond.fieldLink RX1 15 "NestedCodes$InnerCode" "distance" "I", Cond.fieldLink RX1 9 "NestedCodes$InnerCode" "words" "[I", Cond.methodLink RX1 29 Lib.Math.min.name, Cond.static Lib.Math.min.name, Cond.initialized "java/lang/Math", Cond.code Lib.Math.min.name Lib.Math.min.code 2 (some .int), Cond.static yX5_generatedWord, Cond.code yX5_generatedWord cX5_generatedWord 4 (some .int), Cond.methodLink RX1 23 yJ6_bitCount_0f7a4, Cond.static yJ6_bitCount_0f7a4, Cond.initialized RJ6]
def wsX5_setOuter_r3 : List Cond := [Cond.code yJ6_bitCount_0f7a4 cJ6_bitCount_0f7a4 1 (some .int), Cond.constant RJ6 265 (1431655765), Cond.constant RJ6 266 (858993459), Cond.constant RJ6 267 (252645135), Cond.instanceMethod yX3_read, Cond.initialized RX3, Cond.selects RX3 yX3_read yX3_read, Cond.code yX3_read cX3_read 4 none, Cond.fieldLink RX3 27 "NestedCodes$Reading" "length" "I", Cond.fieldLink RX3 35 "NestedCodes$Reading" "allBlocks" "J", Cond.fieldLink RX3 31 "NestedCodes$Reading" "packedSymbols" "J", Cond.fieldLink RX3 9 "NestedCodes$Reading" "symbols" "[I", Cond.fieldLink RX3 24 "NestedCodes$Reading" "places" "[I", Cond.fieldLink RX3 21 "NestedCodes$Reading" "order" "[I", Cond.static yX2_marks, Cond.initialized RX2, Cond.code yX2_marks cX2_marks 1 (some .long), Cond.constantLong RX2 19 (18764998447377), Cond.methodLink RX3 47 yX3_readBlock, Cond.instanceMethod yX3_readBlock, Cond.selects RX3 yX3_readBlock yX3_readBlock, Cond.code yX3_readBlock cX3_readBlock 5 none, Cond.fieldLink RX3 15 "NestedCodes$Reading" "gaps" "[I", Cond.fieldLink RX3 18 "NestedCodes$Reading" "reliabilities" "[I"]
def wsX5_setOuter_r4 : List Cond := [Cond.instanceMethod yX1_symbolOf, Cond.selects RX1 yX1_symbolOf yX1_symbolOf, Cond.code yX1_symbolOf cX1_symbolOf 4 (some .int), Cond.methodLink RX1 35 yX1_bitsBetween, Cond.instanceMethod yX1_bitsBetween, Cond.selects RX1 yX1_bitsBetween yX1_bitsBetween, Cond.code yX1_bitsBetween cX1_bitsBetween 3 (some .int), Cond.instanceMethod yX1_reliability, Cond.selects RX1 yX1_reliability yX1_reliability, Cond.code yX1_reliability cX1_reliability 2 (some .int), Cond.methodLink RX1 38 Lib.Math.max.name, Cond.static Lib.Math.max.name, Cond.code Lib.Math.max.name Lib.Math.max.code 2 (some .int), Cond.methodLink RX3 51 yX3_blocksBefore, Cond.instanceMethod yX3_blocksBefore, Cond.selects RX3 yX3_blocksBefore yX3_blocksBefore, Cond.code yX3_blocksBefore cX3_blocksBefore 4 (some .int)]
def wsX5_setOuter : List Cond := .code yX5_setOuter cX5_setOuter 4 (some .int) :: ((wsX5_setOuter_r1 ++ (wsX5_setOuter_r2 ++ (wsX5_setOuter_r3 ++ wsX5_setOuter_r4))) ++ wsX50 ++ wsX40 ++ wsX00 ++ wsX10 ++ wsX30)
def wsX5_generator : List Cond := .code yX5_generator cX5_generator 2 (some .int) :: ([.fieldLink RX5 48 "NestedCodes" "waitingCount" "I", .fieldLink RX5 44 "NestedCodes" "waiting" "[I"] ++ wsX50)
def wsX5_clearGenerators : List Cond := .code yX5_clearGenerators cX5_clearGenerators 2 (some .int) :: ([.fieldLink RX5 48 "NestedCodes" "waitingCount" "I"] ++ wsX50)
def wsX5_generateInnerCode : List Cond := .code yX5_generateInnerCode cX5_generateInnerCode 3 (some .boolean) :: ([.methodLink RX5 199 yX5_generatedWord, .static yX5_generatedWord, .initialized RX5, .code yX5_generatedWord cX5_generatedWord 4 (some .int)])
def wsX5_setInner_r1 : List Cond := [Cond.fieldLink RX5 48 "NestedCodes" "waitingCount" "I", Cond.fieldLink RX5 44 "NestedCodes" "waiting" "[I", Cond.fieldLink RX5 19 "NestedCodes" "history" "LNestedCodes$History;", Cond.fieldLink RX5 10 "NestedCodes" "state" "LNestedCodes$State;", Cond.fieldLink RX5 26 "NestedCodes" "inner" "LNestedCodes$InnerCode;", Cond.methodLink RX5 68 yX5_generateInnerCode, Cond.static yX5_generateInnerCode, Cond.initialized RX5, Cond.code yX5_generateInnerCode cX5_generateInnerCode 3 (some .boolean), Cond.methodLink RX5 199 yX5_generatedWord, Cond.static yX5_generatedWord, Cond.code yX5_generatedWord cX5_generatedWord 4 (some .int), Cond.instanceMethod yX0_record, Cond.initialized RX0, Cond.selects RX0 yX0_record yX0_record, Cond.code yX0_record cX0_record 2 none, Cond.fieldLink RX0 18 "NestedCodes$History" "size" "I", Cond.fieldLink RX0 11 "NestedCodes$History" "states" "[LNestedCodes$State;", Cond.methodLink RX0 22 yX0_dropOldest, Cond.instanceMethod yX0_dropOldest, Cond.selects RX0 yX0_dropOldest yX0_dropOldest, Cond.code yX0_dropOldest cX0_dropOldest 3 none, Cond.instanceMethod yX4_copyFrom, Cond.initialized RX4]
def wsX5_setInner_r2 : List Cond := [Cond.selects RX4 yX4_copyFrom yX4_copyFrom, Cond.code yX4_copyFrom cX4_copyFrom 3 none, Cond.fieldLink RX4 9 "NestedCodes$State" "length" "I", Cond.fieldLink RX4 15 "NestedCodes$State" "dimension" "I", Cond.fieldLink RX4 18 "NestedCodes$State" "bits" "I", Cond.fieldLink RX4 32 "NestedCodes$State" "sentMessage" "I", Cond.fieldLink RX4 21 "NestedCodes$State" "generators" "[I", Cond.fieldLink RX4 25 "NestedCodes$State" "words" "[I", Cond.fieldLink RX4 28 "NestedCodes$State" "lost" "[Z", Cond.instanceMethod yX4_clearBlocks, Cond.selects RX4 yX4_clearBlocks yX4_clearBlocks, Cond.code yX4_clearBlocks cX4_clearBlocks 2 none, Cond.methodLink RX5 52 yX5_readAgain, Cond.instanceMethod yX5_readAgain, Cond.selects RX5 yX5_readAgain yX5_readAgain, Cond.code yX5_readAgain cX5_readAgain 1 none, Cond.fieldLink RX5 40 "NestedCodes" "reading" "LNestedCodes$Reading;", Cond.instanceMethod yX1_setGenerators, Cond.initialized RX1, Cond.selects RX1 yX1_setGenerators yX1_setGenerators, Cond.code yX1_setGenerators cX1_setGenerators 3 none, Cond.fieldLink RX1 15 "NestedCodes$InnerCode" "distance" "I", Cond.fieldLink RX1 9 "NestedCodes$InnerCode" "words" "[I", Cond.methodLink RX1 29 Lib.Math.min.name]
def wsX5_setInner_r3 : List Cond := [Cond.static Lib.Math.min.name, Cond.initialized "java/lang/Math", Cond.code Lib.Math.min.name Lib.Math.min.code 2 (some .int), Cond.methodLink RX1 23 yJ6_bitCount_0f7a4, Cond.static yJ6_bitCount_0f7a4, Cond.initialized RJ6, Cond.code yJ6_bitCount_0f7a4 cJ6_bitCount_0f7a4 1 (some .int), Cond.constant RJ6 265 (1431655765), Cond.constant RJ6 266 (858993459), Cond.constant RJ6 267 (252645135), Cond.instanceMethod yX3_read, Cond.initialized RX3, Cond.selects RX3 yX3_read yX3_read, Cond.code yX3_read cX3_read 4 none, Cond.fieldLink RX3 27 "NestedCodes$Reading" "length" "I", Cond.fieldLink RX3 35 "NestedCodes$Reading" "allBlocks" "J", Cond.fieldLink RX3 31 "NestedCodes$Reading" "packedSymbols" "J", Cond.fieldLink RX3 9 "NestedCodes$Reading" "symbols" "[I", Cond.fieldLink RX3 24 "NestedCodes$Reading" "places" "[I", Cond.fieldLink RX3 21 "NestedCodes$Reading" "order" "[I", Cond.static yX2_marks, Cond.initialized RX2, Cond.code yX2_marks cX2_marks 1 (some .long), Cond.constantLong RX2 19 (18764998447377)]
def wsX5_setInner_r4 : List Cond := [Cond.methodLink RX3 47 yX3_readBlock, Cond.instanceMethod yX3_readBlock, Cond.selects RX3 yX3_readBlock yX3_readBlock, Cond.code yX3_readBlock cX3_readBlock 5 none, Cond.fieldLink RX3 15 "NestedCodes$Reading" "gaps" "[I", Cond.fieldLink RX3 18 "NestedCodes$Reading" "reliabilities" "[I", Cond.instanceMethod yX1_symbolOf, Cond.selects RX1 yX1_symbolOf yX1_symbolOf, Cond.code yX1_symbolOf cX1_symbolOf 4 (some .int), Cond.methodLink RX1 35 yX1_bitsBetween, Cond.instanceMethod yX1_bitsBetween, Cond.selects RX1 yX1_bitsBetween yX1_bitsBetween, Cond.code yX1_bitsBetween cX1_bitsBetween 3 (some .int), Cond.instanceMethod yX1_reliability, Cond.selects RX1 yX1_reliability yX1_reliability, Cond.code yX1_reliability cX1_reliability 2 (some .int), Cond.methodLink RX1 38 Lib.Math.max.name, Cond.static Lib.Math.max.name, Cond.code Lib.Math.max.name Lib.Math.max.code 2 (some .int), Cond.methodLink RX3 51 yX3_blocksBefore, Cond.instanceMethod yX3_blocksBefore, Cond.selects RX3 yX3_blocksBefore yX3_blocksBefore, Cond.code yX3_blocksBefore cX3_blocksBefore 4 (some .int)]
def wsX5_setInner : List Cond := .code yX5_setInner cX5_setInner 3 (some .int) :: ((wsX5_setInner_r1 ++ (wsX5_setInner_r2 ++ (wsX5_setInner_r3 ++ wsX5_setInner_r4))) ++ wsX50 ++ wsX40 ++ wsX10 ++ wsX00 ++ wsX30)
def wsX5_undo_r1 : List Cond := [Cond.fieldLink RX5 19 "NestedCodes" "history" "LNestedCodes$History;", Cond.fieldLink RX5 10 "NestedCodes" "state" "LNestedCodes$State;", Cond.instanceMethod yX0_restoreLatest, Cond.initialized RX0, Cond.selects RX0 yX0_restoreLatest yX0_restoreLatest, Cond.code yX0_restoreLatest cX0_restoreLatest 2 none, Cond.fieldLink RX0 18 "NestedCodes$History" "size" "I", Cond.fieldLink RX0 11 "NestedCodes$History" "states" "[LNestedCodes$State;", Cond.instanceMethod yX4_copyFrom, Cond.initialized RX4, Cond.selects RX4 yX4_copyFrom yX4_copyFrom, Cond.code yX4_copyFrom cX4_copyFrom 3 none, Cond.fieldLink RX4 9 "NestedCodes$State" "length" "I", Cond.fieldLink RX4 15 "NestedCodes$State" "dimension" "I", Cond.fieldLink RX4 18 "NestedCodes$State" "bits" "I", Cond.fieldLink RX4 32 "NestedCodes$State" "sentMessage" "I", Cond.fieldLink RX4 21 "NestedCodes$State" "generators" "[I", Cond.fieldLink RX4 25 "NestedCodes$State" "words" "[I", Cond.fieldLink RX4 28 "NestedCodes$State" "lost" "[Z", Cond.methodLink RX5 52 yX5_readAgain, Cond.instanceMethod yX5_readAgain, Cond.selects RX5 yX5_readAgain yX5_readAgain, Cond.initialized RX5, Cond.code yX5_readAgain cX5_readAgain 1 none]
def wsX5_undo_r2 : List Cond := [Cond.fieldLink RX5 26 "NestedCodes" "inner" "LNestedCodes$InnerCode;", Cond.fieldLink RX5 40 "NestedCodes" "reading" "LNestedCodes$Reading;", Cond.instanceMethod yX1_setGenerators, Cond.initialized RX1, Cond.selects RX1 yX1_setGenerators yX1_setGenerators, Cond.code yX1_setGenerators cX1_setGenerators 3 none, Cond.fieldLink RX1 15 "NestedCodes$InnerCode" "distance" "I", Cond.fieldLink RX1 9 "NestedCodes$InnerCode" "words" "[I", Cond.methodLink RX1 29 Lib.Math.min.name, Cond.static Lib.Math.min.name, Cond.initialized "java/lang/Math", Cond.code Lib.Math.min.name Lib.Math.min.code 2 (some .int), Cond.static yX5_generatedWord, Cond.code yX5_generatedWord cX5_generatedWord 4 (some .int), Cond.methodLink RX1 23 yJ6_bitCount_0f7a4, Cond.static yJ6_bitCount_0f7a4, Cond.initialized RJ6, Cond.code yJ6_bitCount_0f7a4 cJ6_bitCount_0f7a4 1 (some .int), Cond.constant RJ6 265 (1431655765), Cond.constant RJ6 266 (858993459), Cond.constant RJ6 267 (252645135), Cond.instanceMethod yX3_read, Cond.initialized RX3, Cond.selects RX3 yX3_read yX3_read]
def wsX5_undo_r3 : List Cond := [Cond.code yX3_read cX3_read 4 none, Cond.fieldLink RX3 27 "NestedCodes$Reading" "length" "I", Cond.fieldLink RX3 35 "NestedCodes$Reading" "allBlocks" "J", Cond.fieldLink RX3 31 "NestedCodes$Reading" "packedSymbols" "J", Cond.fieldLink RX3 9 "NestedCodes$Reading" "symbols" "[I", Cond.fieldLink RX3 24 "NestedCodes$Reading" "places" "[I", Cond.fieldLink RX3 21 "NestedCodes$Reading" "order" "[I", Cond.static yX2_marks, Cond.initialized RX2, Cond.code yX2_marks cX2_marks 1 (some .long), Cond.constantLong RX2 19 (18764998447377), Cond.methodLink RX3 47 yX3_readBlock, Cond.instanceMethod yX3_readBlock, Cond.selects RX3 yX3_readBlock yX3_readBlock, Cond.code yX3_readBlock cX3_readBlock 5 none, Cond.fieldLink RX3 15 "NestedCodes$Reading" "gaps" "[I", Cond.fieldLink RX3 18 "NestedCodes$Reading" "reliabilities" "[I", Cond.instanceMethod yX1_symbolOf, Cond.selects RX1 yX1_symbolOf yX1_symbolOf, Cond.code yX1_symbolOf cX1_symbolOf 4 (some .int), Cond.methodLink RX1 35 yX1_bitsBetween, Cond.instanceMethod yX1_bitsBetween, Cond.selects RX1 yX1_bitsBetween yX1_bitsBetween, Cond.code yX1_bitsBetween cX1_bitsBetween 3 (some .int)]
def wsX5_undo_r4 : List Cond := [Cond.instanceMethod yX1_reliability, Cond.selects RX1 yX1_reliability yX1_reliability, Cond.code yX1_reliability cX1_reliability 2 (some .int), Cond.methodLink RX1 38 Lib.Math.max.name, Cond.static Lib.Math.max.name, Cond.code Lib.Math.max.name Lib.Math.max.code 2 (some .int), Cond.methodLink RX3 51 yX3_blocksBefore, Cond.instanceMethod yX3_blocksBefore, Cond.selects RX3 yX3_blocksBefore yX3_blocksBefore, Cond.code yX3_blocksBefore cX3_blocksBefore 4 (some .int)]
def wsX5_undo : List Cond := .code yX5_undo cX5_undo 1 (some .int) :: ((wsX5_undo_r1 ++ (wsX5_undo_r2 ++ (wsX5_undo_r3 ++ wsX5_undo_r4))) ++ wsX50 ++ wsX00 ++ wsX40 ++ wsX10 ++ wsX30)
def wsX5_lostBlocks : List Cond := .code yX5_lostBlocks cX5_lostBlocks 3 (some .int) :: ([.fieldLink RX5 10 "NestedCodes" "state" "LNestedCodes$State;"] ++ wsX50 ++ wsX40)
def wsX5_symbolIn : List Cond := .code yX5_symbolIn cX5_symbolIn 3 (some .int) :: ([])
def wsX5_wordSentFor : List Cond := .code yX5_wordSentFor cX5_wordSentFor 3 (some .int) :: ([.fieldLink RX5 26 "NestedCodes" "inner" "LNestedCodes$InnerCode;", .fieldLink RX5 33 "NestedCodes" "outer" "LNestedCodes$OuterCode;", .instanceMethod yX2_codeword, .initialized RX2, .selects RX2 yX2_codeword yX2_codeword, .code yX2_codeword cX2_codeword 3 (some .long), .fieldLink RX2 9 "NestedCodes$OuterCode" "parts" "[J", .methodLink RX5 118 yX5_symbolIn, .static yX5_symbolIn, .initialized RX5, .code yX5_symbolIn cX5_symbolIn 3 (some .int)] ++ wsX50 ++ wsX10 ++ wsX20)
def wsX5_wrongBits : List Cond := .code yX5_wrongBits cX5_wrongBits 4 (some .int) :: ([.fieldLink RX5 10 "NestedCodes" "state" "LNestedCodes$State;", .methodLink RX5 125 yX5_wordSentFor, .instanceMethod yX5_wordSentFor, .selects RX5 yX5_wordSentFor yX5_wordSentFor, .initialized RX5, .code yX5_wordSentFor cX5_wordSentFor 3 (some .int), .fieldLink RX5 26 "NestedCodes" "inner" "LNestedCodes$InnerCode;", .fieldLink RX5 33 "NestedCodes" "outer" "LNestedCodes$OuterCode;", .instanceMethod yX2_codeword, .initialized RX2, .selects RX2 yX2_codeword yX2_codeword, .code yX2_codeword cX2_codeword 3 (some .long), .fieldLink RX2 9 "NestedCodes$OuterCode" "parts" "[J", .methodLink RX5 118 yX5_symbolIn, .static yX5_symbolIn, .code yX5_symbolIn cX5_symbolIn 3 (some .int), .methodLink RX5 129 yJ6_bitCount_0f7a4, .static yJ6_bitCount_0f7a4, .initialized RJ6, .code yJ6_bitCount_0f7a4 cJ6_bitCount_0f7a4 1 (some .int), .constant RJ6 265 (1431655765), .constant RJ6 266 (858993459), .constant RJ6 267 (252645135)] ++ wsX50 ++ wsX40 ++ wsX10 ++ wsX20)
def wsX5_count_r1 : List Cond := [Cond.fieldLink RX5 10 "NestedCodes" "state" "LNestedCodes$State;", Cond.fieldLink RX5 26 "NestedCodes" "inner" "LNestedCodes$InnerCode;", Cond.fieldLink RX5 48 "NestedCodes" "waitingCount" "I", Cond.fieldLink RX5 19 "NestedCodes" "history" "LNestedCodes$History;", Cond.instanceMethod yX4_outerDistance, Cond.initialized RX4, Cond.selects RX4 yX4_outerDistance yX4_outerDistance, Cond.code yX4_outerDistance cX4_outerDistance 1 (some .int), Cond.fieldLink RX4 9 "NestedCodes$State" "length" "I", Cond.fieldLink RX4 15 "NestedCodes$State" "dimension" "I", Cond.methodLink RX5 91 yX5_lostBlocks, Cond.instanceMethod yX5_lostBlocks, Cond.selects RX5 yX5_lostBlocks yX5_lostBlocks, Cond.initialized RX5, Cond.code yX5_lostBlocks cX5_lostBlocks 3 (some .int), Cond.methodLink RX5 94 yX5_wrongBits, Cond.instanceMethod yX5_wrongBits, Cond.selects RX5 yX5_wrongBits yX5_wrongBits, Cond.code yX5_wrongBits cX5_wrongBits 4 (some .int), Cond.methodLink RX5 125 yX5_wordSentFor, Cond.instanceMethod yX5_wordSentFor, Cond.selects RX5 yX5_wordSentFor yX5_wordSentFor, Cond.code yX5_wordSentFor cX5_wordSentFor 3 (some .int), Cond.fieldLink RX5 33 "NestedCodes" "outer" "LNestedCodes$OuterCode;"]
def wsX5_count_r2 : List Cond := [Cond.instanceMethod yX2_codeword, Cond.initialized RX2, Cond.selects RX2 yX2_codeword yX2_codeword, Cond.code yX2_codeword cX2_codeword 3 (some .long), Cond.fieldLink RX2 9 "NestedCodes$OuterCode" "parts" "[J", Cond.methodLink RX5 118 yX5_symbolIn, Cond.static yX5_symbolIn, Cond.code yX5_symbolIn cX5_symbolIn 3 (some .int), Cond.methodLink RX5 129 yJ6_bitCount_0f7a4, Cond.static yJ6_bitCount_0f7a4, Cond.initialized RJ6, Cond.code yJ6_bitCount_0f7a4 cJ6_bitCount_0f7a4 1 (some .int), Cond.constant RJ6 265 (1431655765), Cond.constant RJ6 266 (858993459), Cond.constant RJ6 267 (252645135)]
def wsX5_count : List Cond := .code yX5_count cX5_count 2 (some .int) :: ((wsX5_count_r1 ++ wsX5_count_r2) ++ wsX50 ++ wsX40 ++ wsX10 ++ wsX00 ++ wsX20)
def wsX5_isSymbol : List Cond := .code yX5_isSymbol cX5_isSymbol 1 (some .boolean) :: ([])
def wsX5_wordOf : List Cond := .code yX5_wordOf cX5_wordOf 2 (some .int) :: ([.fieldLink RX5 26 "NestedCodes" "inner" "LNestedCodes$InnerCode;", .methodLink RX5 97 yX5_isSymbol, .static yX5_isSymbol, .initialized RX5, .code yX5_isSymbol cX5_isSymbol 1 (some .boolean)] ++ wsX50 ++ wsX10)
def wsX5_product : List Cond := .code yX5_product cX5_product 3 (some .int) :: ([.methodLink RX5 97 yX5_isSymbol, .static yX5_isSymbol, .initialized RX5, .code yX5_isSymbol cX5_isSymbol 1 (some .boolean), .methodLink RX5 104 yX5_fieldProduct, .static yX5_fieldProduct, .code yX5_fieldProduct cX5_fieldProduct 5 (some .int)])
def wsX5_isMessage : List Cond := .code yX5_isMessage cX5_isMessage 2 (some .boolean) :: ([.fieldLink RX5 10 "NestedCodes" "state" "LNestedCodes$State;", .instanceMethod yX4_messages, .initialized RX4, .selects RX4 yX4_messages yX4_messages, .code yX4_messages cX4_messages 1 (some .int), .fieldLink RX4 15 "NestedCodes$State" "dimension" "I"] ++ wsX50 ++ wsX40)
def wsX5_isBlock : List Cond := .code yX5_isBlock cX5_isBlock 2 (some .boolean) :: ([.fieldLink RX5 10 "NestedCodes" "state" "LNestedCodes$State;"] ++ wsX50 ++ wsX40)
def wsX5_symbolFor : List Cond := .code yX5_symbolFor cX5_symbolFor 3 (some .int) :: ([.fieldLink RX5 33 "NestedCodes" "outer" "LNestedCodes$OuterCode;", .methodLink RX5 108 yX5_isMessage, .instanceMethod yX5_isMessage, .selects RX5 yX5_isMessage yX5_isMessage, .initialized RX5, .code yX5_isMessage cX5_isMessage 2 (some .boolean), .fieldLink RX5 10 "NestedCodes" "state" "LNestedCodes$State;", .instanceMethod yX4_messages, .initialized RX4, .selects RX4 yX4_messages yX4_messages, .code yX4_messages cX4_messages 1 (some .int), .fieldLink RX4 15 "NestedCodes$State" "dimension" "I", .methodLink RX5 111 yX5_isBlock, .instanceMethod yX5_isBlock, .selects RX5 yX5_isBlock yX5_isBlock, .code yX5_isBlock cX5_isBlock 2 (some .boolean), .instanceMethod yX2_codeword, .initialized RX2, .selects RX2 yX2_codeword yX2_codeword, .code yX2_codeword cX2_codeword 3 (some .long), .fieldLink RX2 9 "NestedCodes$OuterCode" "parts" "[J", .methodLink RX5 118 yX5_symbolIn, .static yX5_symbolIn, .code yX5_symbolIn cX5_symbolIn 3 (some .int)] ++ wsX50 ++ wsX40 ++ wsX20)
def wsX5_send_r1 : List Cond := [Cond.fieldLink RX5 19 "NestedCodes" "history" "LNestedCodes$History;", Cond.fieldLink RX5 10 "NestedCodes" "state" "LNestedCodes$State;", Cond.methodLink RX5 108 yX5_isMessage, Cond.instanceMethod yX5_isMessage, Cond.selects RX5 yX5_isMessage yX5_isMessage, Cond.initialized RX5, Cond.code yX5_isMessage cX5_isMessage 2 (some .boolean), Cond.instanceMethod yX4_messages, Cond.initialized RX4, Cond.selects RX4 yX4_messages yX4_messages, Cond.code yX4_messages cX4_messages 1 (some .int), Cond.fieldLink RX4 15 "NestedCodes$State" "dimension" "I", Cond.instanceMethod yX0_record, Cond.initialized RX0, Cond.selects RX0 yX0_record yX0_record, Cond.code yX0_record cX0_record 2 none, Cond.fieldLink RX0 18 "NestedCodes$History" "size" "I", Cond.fieldLink RX0 11 "NestedCodes$History" "states" "[LNestedCodes$State;", Cond.methodLink RX0 22 yX0_dropOldest, Cond.instanceMethod yX0_dropOldest, Cond.selects RX0 yX0_dropOldest yX0_dropOldest, Cond.code yX0_dropOldest cX0_dropOldest 3 none, Cond.instanceMethod yX4_copyFrom, Cond.selects RX4 yX4_copyFrom yX4_copyFrom]
def wsX5_send_r2 : List Cond := [Cond.code yX4_copyFrom cX4_copyFrom 3 none, Cond.fieldLink RX4 9 "NestedCodes$State" "length" "I", Cond.fieldLink RX4 18 "NestedCodes$State" "bits" "I", Cond.fieldLink RX4 32 "NestedCodes$State" "sentMessage" "I", Cond.fieldLink RX4 21 "NestedCodes$State" "generators" "[I", Cond.fieldLink RX4 25 "NestedCodes$State" "words" "[I", Cond.fieldLink RX4 28 "NestedCodes$State" "lost" "[Z", Cond.instanceMethod yX4_clearBlocks, Cond.selects RX4 yX4_clearBlocks yX4_clearBlocks, Cond.code yX4_clearBlocks cX4_clearBlocks 2 none, Cond.methodLink RX5 125 yX5_wordSentFor, Cond.instanceMethod yX5_wordSentFor, Cond.selects RX5 yX5_wordSentFor yX5_wordSentFor, Cond.code yX5_wordSentFor cX5_wordSentFor 3 (some .int), Cond.fieldLink RX5 26 "NestedCodes" "inner" "LNestedCodes$InnerCode;", Cond.fieldLink RX5 33 "NestedCodes" "outer" "LNestedCodes$OuterCode;", Cond.instanceMethod yX2_codeword, Cond.initialized RX2, Cond.selects RX2 yX2_codeword yX2_codeword, Cond.code yX2_codeword cX2_codeword 3 (some .long), Cond.fieldLink RX2 9 "NestedCodes$OuterCode" "parts" "[J", Cond.methodLink RX5 118 yX5_symbolIn, Cond.static yX5_symbolIn, Cond.code yX5_symbolIn cX5_symbolIn 3 (some .int)]
def wsX5_send_r3 : List Cond := [Cond.methodLink RX5 129 yJ6_bitCount_0f7a4, Cond.static yJ6_bitCount_0f7a4, Cond.initialized RJ6, Cond.code yJ6_bitCount_0f7a4 cJ6_bitCount_0f7a4 1 (some .int), Cond.constant RJ6 265 (1431655765), Cond.constant RJ6 266 (858993459), Cond.constant RJ6 267 (252645135), Cond.methodLink RX5 52 yX5_readAgain, Cond.instanceMethod yX5_readAgain, Cond.selects RX5 yX5_readAgain yX5_readAgain, Cond.code yX5_readAgain cX5_readAgain 1 none, Cond.fieldLink RX5 40 "NestedCodes" "reading" "LNestedCodes$Reading;", Cond.instanceMethod yX1_setGenerators, Cond.initialized RX1, Cond.selects RX1 yX1_setGenerators yX1_setGenerators, Cond.code yX1_setGenerators cX1_setGenerators 3 none, Cond.fieldLink RX1 15 "NestedCodes$InnerCode" "distance" "I", Cond.fieldLink RX1 9 "NestedCodes$InnerCode" "words" "[I", Cond.methodLink RX1 29 Lib.Math.min.name, Cond.static Lib.Math.min.name, Cond.initialized "java/lang/Math", Cond.code Lib.Math.min.name Lib.Math.min.code 2 (some .int), Cond.static yX5_generatedWord, Cond.code yX5_generatedWord cX5_generatedWord 4 (some .int)]
def wsX5_send_r4 : List Cond := [Cond.methodLink RX1 23 yJ6_bitCount_0f7a4, Cond.instanceMethod yX3_read, Cond.initialized RX3, Cond.selects RX3 yX3_read yX3_read, Cond.code yX3_read cX3_read 4 none, Cond.fieldLink RX3 27 "NestedCodes$Reading" "length" "I", Cond.fieldLink RX3 35 "NestedCodes$Reading" "allBlocks" "J", Cond.fieldLink RX3 31 "NestedCodes$Reading" "packedSymbols" "J", Cond.fieldLink RX3 9 "NestedCodes$Reading" "symbols" "[I", Cond.fieldLink RX3 24 "NestedCodes$Reading" "places" "[I", Cond.fieldLink RX3 21 "NestedCodes$Reading" "order" "[I", Cond.static yX2_marks, Cond.code yX2_marks cX2_marks 1 (some .long), Cond.constantLong RX2 19 (18764998447377), Cond.methodLink RX3 47 yX3_readBlock, Cond.instanceMethod yX3_readBlock, Cond.selects RX3 yX3_readBlock yX3_readBlock, Cond.code yX3_readBlock cX3_readBlock 5 none, Cond.fieldLink RX3 15 "NestedCodes$Reading" "gaps" "[I", Cond.fieldLink RX3 18 "NestedCodes$Reading" "reliabilities" "[I", Cond.instanceMethod yX1_symbolOf, Cond.selects RX1 yX1_symbolOf yX1_symbolOf, Cond.code yX1_symbolOf cX1_symbolOf 4 (some .int), Cond.methodLink RX1 35 yX1_bitsBetween]
def wsX5_send_r5 : List Cond := [Cond.instanceMethod yX1_bitsBetween, Cond.selects RX1 yX1_bitsBetween yX1_bitsBetween, Cond.code yX1_bitsBetween cX1_bitsBetween 3 (some .int), Cond.instanceMethod yX1_reliability, Cond.selects RX1 yX1_reliability yX1_reliability, Cond.code yX1_reliability cX1_reliability 2 (some .int), Cond.methodLink RX1 38 Lib.Math.max.name, Cond.static Lib.Math.max.name, Cond.code Lib.Math.max.name Lib.Math.max.code 2 (some .int), Cond.methodLink RX3 51 yX3_blocksBefore, Cond.instanceMethod yX3_blocksBefore, Cond.selects RX3 yX3_blocksBefore yX3_blocksBefore, Cond.code yX3_blocksBefore cX3_blocksBefore 4 (some .int)]
def wsX5_send : List Cond := .code yX5_send cX5_send 5 (some .int) :: ((wsX5_send_r1 ++ (wsX5_send_r2 ++ (wsX5_send_r3 ++ (wsX5_send_r4 ++ wsX5_send_r5)))) ++ wsX50 ++ wsX40 ++ wsX00 ++ wsX10 ++ wsX20 ++ wsX30)
def wsX5_flip_r1 : List Cond := [Cond.fieldLink RX5 10 "NestedCodes" "state" "LNestedCodes$State;", Cond.fieldLink RX5 19 "NestedCodes" "history" "LNestedCodes$History;", Cond.fieldLink RX5 40 "NestedCodes" "reading" "LNestedCodes$Reading;", Cond.methodLink RX5 111 yX5_isBlock, Cond.instanceMethod yX5_isBlock, Cond.selects RX5 yX5_isBlock yX5_isBlock, Cond.initialized RX5, Cond.code yX5_isBlock cX5_isBlock 2 (some .boolean), Cond.instanceMethod yX4_allBits, Cond.initialized RX4, Cond.selects RX4 yX4_allBits yX4_allBits, Cond.code yX4_allBits cX4_allBits 1 (some .int), Cond.fieldLink RX4 18 "NestedCodes$State" "bits" "I", Cond.instanceMethod yX0_record, Cond.initialized RX0, Cond.selects RX0 yX0_record yX0_record, Cond.code yX0_record cX0_record 2 none, Cond.fieldLink RX0 18 "NestedCodes$History" "size" "I", Cond.fieldLink RX0 11 "NestedCodes$History" "states" "[LNestedCodes$State;", Cond.methodLink RX0 22 yX0_dropOldest, Cond.instanceMethod yX0_dropOldest, Cond.selects RX0 yX0_dropOldest yX0_dropOldest, Cond.code yX0_dropOldest cX0_dropOldest 3 none, Cond.instanceMethod yX4_copyFrom]
def wsX5_flip_r2 : List Cond := [Cond.selects RX4 yX4_copyFrom yX4_copyFrom, Cond.code yX4_copyFrom cX4_copyFrom 3 none, Cond.fieldLink RX4 9 "NestedCodes$State" "length" "I", Cond.fieldLink RX4 15 "NestedCodes$State" "dimension" "I", Cond.fieldLink RX4 32 "NestedCodes$State" "sentMessage" "I", Cond.fieldLink RX4 21 "NestedCodes$State" "generators" "[I", Cond.fieldLink RX4 25 "NestedCodes$State" "words" "[I", Cond.fieldLink RX4 28 "NestedCodes$State" "lost" "[Z", Cond.methodLink RX5 52 yX5_readAgain, Cond.instanceMethod yX5_readAgain, Cond.selects RX5 yX5_readAgain yX5_readAgain, Cond.code yX5_readAgain cX5_readAgain 1 none, Cond.fieldLink RX5 26 "NestedCodes" "inner" "LNestedCodes$InnerCode;", Cond.instanceMethod yX1_setGenerators, Cond.initialized RX1, Cond.selects RX1 yX1_setGenerators yX1_setGenerators, Cond.code yX1_setGenerators cX1_setGenerators 3 none, Cond.fieldLink RX1 15 "NestedCodes$InnerCode" "distance" "I", Cond.fieldLink RX1 9 "NestedCodes$InnerCode" "words" "[I", Cond.methodLink RX1 29 Lib.Math.min.name, Cond.static Lib.Math.min.name, Cond.initialized "java/lang/Math", Cond.code Lib.Math.min.name Lib.Math.min.code 2 (some .int), Cond.static yX5_generatedWord]
def wsX5_flip_r3 : List Cond := [Cond.code yX5_generatedWord cX5_generatedWord 4 (some .int), Cond.methodLink RX1 23 yJ6_bitCount_0f7a4, Cond.static yJ6_bitCount_0f7a4, Cond.initialized RJ6, Cond.code yJ6_bitCount_0f7a4 cJ6_bitCount_0f7a4 1 (some .int), Cond.constant RJ6 265 (1431655765), Cond.constant RJ6 266 (858993459), Cond.constant RJ6 267 (252645135), Cond.instanceMethod yX3_read, Cond.initialized RX3, Cond.selects RX3 yX3_read yX3_read, Cond.code yX3_read cX3_read 4 none, Cond.fieldLink RX3 27 "NestedCodes$Reading" "length" "I", Cond.fieldLink RX3 35 "NestedCodes$Reading" "allBlocks" "J", Cond.fieldLink RX3 31 "NestedCodes$Reading" "packedSymbols" "J", Cond.fieldLink RX3 9 "NestedCodes$Reading" "symbols" "[I", Cond.fieldLink RX3 24 "NestedCodes$Reading" "places" "[I", Cond.fieldLink RX3 21 "NestedCodes$Reading" "order" "[I", Cond.static yX2_marks, Cond.initialized RX2, Cond.code yX2_marks cX2_marks 1 (some .long), Cond.constantLong RX2 19 (18764998447377), Cond.methodLink RX3 47 yX3_readBlock, Cond.instanceMethod yX3_readBlock]
def wsX5_flip_r4 : List Cond := [Cond.selects RX3 yX3_readBlock yX3_readBlock, Cond.code yX3_readBlock cX3_readBlock 5 none, Cond.fieldLink RX3 15 "NestedCodes$Reading" "gaps" "[I", Cond.fieldLink RX3 18 "NestedCodes$Reading" "reliabilities" "[I", Cond.instanceMethod yX1_symbolOf, Cond.selects RX1 yX1_symbolOf yX1_symbolOf, Cond.code yX1_symbolOf cX1_symbolOf 4 (some .int), Cond.methodLink RX1 35 yX1_bitsBetween, Cond.instanceMethod yX1_bitsBetween, Cond.selects RX1 yX1_bitsBetween yX1_bitsBetween, Cond.code yX1_bitsBetween cX1_bitsBetween 3 (some .int), Cond.instanceMethod yX1_reliability, Cond.selects RX1 yX1_reliability yX1_reliability, Cond.code yX1_reliability cX1_reliability 2 (some .int), Cond.methodLink RX1 38 Lib.Math.max.name, Cond.static Lib.Math.max.name, Cond.code Lib.Math.max.name Lib.Math.max.code 2 (some .int), Cond.methodLink RX3 51 yX3_blocksBefore, Cond.instanceMethod yX3_blocksBefore, Cond.selects RX3 yX3_blocksBefore yX3_blocksBefore, Cond.code yX3_blocksBefore cX3_blocksBefore 4 (some .int)]
def wsX5_flip : List Cond := .code yX5_flip cX5_flip 3 (some .int) :: ((wsX5_flip_r1 ++ (wsX5_flip_r2 ++ (wsX5_flip_r3 ++ wsX5_flip_r4))) ++ wsX50 ++ wsX40 ++ wsX30 ++ wsX00 ++ wsX10)
def wsX5_lose_r1 : List Cond := [Cond.fieldLink RX5 10 "NestedCodes" "state" "LNestedCodes$State;", Cond.fieldLink RX5 19 "NestedCodes" "history" "LNestedCodes$History;", Cond.methodLink RX5 111 yX5_isBlock, Cond.instanceMethod yX5_isBlock, Cond.selects RX5 yX5_isBlock yX5_isBlock, Cond.initialized RX5, Cond.code yX5_isBlock cX5_isBlock 2 (some .boolean), Cond.instanceMethod yX0_record, Cond.initialized RX0, Cond.selects RX0 yX0_record yX0_record, Cond.code yX0_record cX0_record 2 none, Cond.fieldLink RX0 18 "NestedCodes$History" "size" "I", Cond.fieldLink RX0 11 "NestedCodes$History" "states" "[LNestedCodes$State;", Cond.methodLink RX0 22 yX0_dropOldest, Cond.instanceMethod yX0_dropOldest, Cond.selects RX0 yX0_dropOldest yX0_dropOldest, Cond.code yX0_dropOldest cX0_dropOldest 3 none, Cond.instanceMethod yX4_copyFrom, Cond.initialized RX4, Cond.selects RX4 yX4_copyFrom yX4_copyFrom, Cond.code yX4_copyFrom cX4_copyFrom 3 none, Cond.fieldLink RX4 9 "NestedCodes$State" "length" "I", Cond.fieldLink RX4 15 "NestedCodes$State" "dimension" "I", Cond.fieldLink RX4 18 "NestedCodes$State" "bits" "I"]
def wsX5_lose_r2 : List Cond := [Cond.fieldLink RX4 32 "NestedCodes$State" "sentMessage" "I", Cond.fieldLink RX4 21 "NestedCodes$State" "generators" "[I", Cond.fieldLink RX4 25 "NestedCodes$State" "words" "[I", Cond.fieldLink RX4 28 "NestedCodes$State" "lost" "[Z", Cond.methodLink RX5 52 yX5_readAgain, Cond.instanceMethod yX5_readAgain, Cond.selects RX5 yX5_readAgain yX5_readAgain, Cond.code yX5_readAgain cX5_readAgain 1 none, Cond.fieldLink RX5 26 "NestedCodes" "inner" "LNestedCodes$InnerCode;", Cond.fieldLink RX5 40 "NestedCodes" "reading" "LNestedCodes$Reading;", Cond.instanceMethod yX1_setGenerators, Cond.initialized RX1, Cond.selects RX1 yX1_setGenerators yX1_setGenerators, Cond.code yX1_setGenerators cX1_setGenerators 3 none, Cond.fieldLink RX1 15 "NestedCodes$InnerCode" "distance" "I", Cond.fieldLink RX1 9 "NestedCodes$InnerCode" "words" "[I", Cond.methodLink RX1 29 Lib.Math.min.name, Cond.static Lib.Math.min.name, Cond.initialized "java/lang/Math", Cond.code Lib.Math.min.name Lib.Math.min.code 2 (some .int), Cond.static yX5_generatedWord, Cond.code yX5_generatedWord cX5_generatedWord 4 (some .int), Cond.methodLink RX1 23 yJ6_bitCount_0f7a4, Cond.static yJ6_bitCount_0f7a4]
def wsX5_lose_r3 : List Cond := [Cond.initialized RJ6, Cond.code yJ6_bitCount_0f7a4 cJ6_bitCount_0f7a4 1 (some .int), Cond.constant RJ6 265 (1431655765), Cond.constant RJ6 266 (858993459), Cond.constant RJ6 267 (252645135), Cond.instanceMethod yX3_read, Cond.initialized RX3, Cond.selects RX3 yX3_read yX3_read, Cond.code yX3_read cX3_read 4 none, Cond.fieldLink RX3 27 "NestedCodes$Reading" "length" "I", Cond.fieldLink RX3 35 "NestedCodes$Reading" "allBlocks" "J", Cond.fieldLink RX3 31 "NestedCodes$Reading" "packedSymbols" "J", Cond.fieldLink RX3 9 "NestedCodes$Reading" "symbols" "[I", Cond.fieldLink RX3 24 "NestedCodes$Reading" "places" "[I", Cond.fieldLink RX3 21 "NestedCodes$Reading" "order" "[I", Cond.static yX2_marks, Cond.initialized RX2, Cond.code yX2_marks cX2_marks 1 (some .long), Cond.constantLong RX2 19 (18764998447377), Cond.methodLink RX3 47 yX3_readBlock, Cond.instanceMethod yX3_readBlock, Cond.selects RX3 yX3_readBlock yX3_readBlock, Cond.code yX3_readBlock cX3_readBlock 5 none, Cond.fieldLink RX3 15 "NestedCodes$Reading" "gaps" "[I"]
def wsX5_lose_r4 : List Cond := [Cond.fieldLink RX3 18 "NestedCodes$Reading" "reliabilities" "[I", Cond.instanceMethod yX1_symbolOf, Cond.selects RX1 yX1_symbolOf yX1_symbolOf, Cond.code yX1_symbolOf cX1_symbolOf 4 (some .int), Cond.methodLink RX1 35 yX1_bitsBetween, Cond.instanceMethod yX1_bitsBetween, Cond.selects RX1 yX1_bitsBetween yX1_bitsBetween, Cond.code yX1_bitsBetween cX1_bitsBetween 3 (some .int), Cond.instanceMethod yX1_reliability, Cond.selects RX1 yX1_reliability yX1_reliability, Cond.code yX1_reliability cX1_reliability 2 (some .int), Cond.methodLink RX1 38 Lib.Math.max.name, Cond.static Lib.Math.max.name, Cond.code Lib.Math.max.name Lib.Math.max.code 2 (some .int), Cond.methodLink RX3 51 yX3_blocksBefore, Cond.instanceMethod yX3_blocksBefore, Cond.selects RX3 yX3_blocksBefore yX3_blocksBefore, Cond.code yX3_blocksBefore cX3_blocksBefore 4 (some .int)]
def wsX5_lose : List Cond := .code yX5_lose cX5_lose 4 (some .int) :: ((wsX5_lose_r1 ++ (wsX5_lose_r2 ++ (wsX5_lose_r3 ++ wsX5_lose_r4))) ++ wsX50 ++ wsX40 ++ wsX00 ++ wsX10 ++ wsX30)
def wsX5_burstMask : List Cond := .code yX5_burstMask cX5_burstMask 7 (some .int) :: ([.fieldLink RX5 10 "NestedCodes" "state" "LNestedCodes$State;", .methodLink RX5 211 Lib.Math.max.name, .static Lib.Math.max.name, .initialized "java/lang/Math", .code Lib.Math.max.name Lib.Math.max.code 2 (some .int), .methodLink RX5 216 Lib.Math.min.name, .static Lib.Math.min.name, .code Lib.Math.min.name Lib.Math.min.code 2 (some .int)] ++ wsX50 ++ wsX40)
def wsX5_burst_r1 : List Cond := [Cond.fieldLink RX5 10 "NestedCodes" "state" "LNestedCodes$State;", Cond.fieldLink RX5 19 "NestedCodes" "history" "LNestedCodes$History;", Cond.instanceMethod yX0_record, Cond.initialized RX0, Cond.selects RX0 yX0_record yX0_record, Cond.code yX0_record cX0_record 2 none, Cond.fieldLink RX0 18 "NestedCodes$History" "size" "I", Cond.fieldLink RX0 11 "NestedCodes$History" "states" "[LNestedCodes$State;", Cond.methodLink RX0 22 yX0_dropOldest, Cond.instanceMethod yX0_dropOldest, Cond.selects RX0 yX0_dropOldest yX0_dropOldest, Cond.code yX0_dropOldest cX0_dropOldest 3 none, Cond.instanceMethod yX4_copyFrom, Cond.initialized RX4, Cond.selects RX4 yX4_copyFrom yX4_copyFrom, Cond.code yX4_copyFrom cX4_copyFrom 3 none, Cond.fieldLink RX4 9 "NestedCodes$State" "length" "I", Cond.fieldLink RX4 15 "NestedCodes$State" "dimension" "I", Cond.fieldLink RX4 18 "NestedCodes$State" "bits" "I", Cond.fieldLink RX4 32 "NestedCodes$State" "sentMessage" "I", Cond.fieldLink RX4 21 "NestedCodes$State" "generators" "[I", Cond.fieldLink RX4 25 "NestedCodes$State" "words" "[I", Cond.fieldLink RX4 28 "NestedCodes$State" "lost" "[Z", Cond.methodLink RX5 145 yX5_burstMask]
def wsX5_burst_r2 : List Cond := [Cond.instanceMethod yX5_burstMask, Cond.selects RX5 yX5_burstMask yX5_burstMask, Cond.initialized RX5, Cond.code yX5_burstMask cX5_burstMask 7 (some .int), Cond.methodLink RX5 211 Lib.Math.max.name, Cond.static Lib.Math.max.name, Cond.initialized "java/lang/Math", Cond.code Lib.Math.max.name Lib.Math.max.code 2 (some .int), Cond.methodLink RX5 216 Lib.Math.min.name, Cond.static Lib.Math.min.name, Cond.code Lib.Math.min.name Lib.Math.min.code 2 (some .int), Cond.methodLink RX5 52 yX5_readAgain, Cond.instanceMethod yX5_readAgain, Cond.selects RX5 yX5_readAgain yX5_readAgain, Cond.code yX5_readAgain cX5_readAgain 1 none, Cond.fieldLink RX5 26 "NestedCodes" "inner" "LNestedCodes$InnerCode;", Cond.fieldLink RX5 40 "NestedCodes" "reading" "LNestedCodes$Reading;", Cond.instanceMethod yX1_setGenerators, Cond.initialized RX1, Cond.selects RX1 yX1_setGenerators yX1_setGenerators, Cond.code yX1_setGenerators cX1_setGenerators 3 none, Cond.fieldLink RX1 15 "NestedCodes$InnerCode" "distance" "I", Cond.fieldLink RX1 9 "NestedCodes$InnerCode" "words" "[I", Cond.methodLink RX1 29 Lib.Math.min.name]
def wsX5_burst_r3 : List Cond := [Cond.static yX5_generatedWord, Cond.code yX5_generatedWord cX5_generatedWord 4 (some .int), Cond.methodLink RX1 23 yJ6_bitCount_0f7a4, Cond.static yJ6_bitCount_0f7a4, Cond.initialized RJ6, Cond.code yJ6_bitCount_0f7a4 cJ6_bitCount_0f7a4 1 (some .int), Cond.constant RJ6 265 (1431655765), Cond.constant RJ6 266 (858993459), Cond.constant RJ6 267 (252645135), Cond.instanceMethod yX3_read, Cond.initialized RX3, Cond.selects RX3 yX3_read yX3_read, Cond.code yX3_read cX3_read 4 none, Cond.fieldLink RX3 27 "NestedCodes$Reading" "length" "I", Cond.fieldLink RX3 35 "NestedCodes$Reading" "allBlocks" "J", Cond.fieldLink RX3 31 "NestedCodes$Reading" "packedSymbols" "J", Cond.fieldLink RX3 9 "NestedCodes$Reading" "symbols" "[I", Cond.fieldLink RX3 24 "NestedCodes$Reading" "places" "[I", Cond.fieldLink RX3 21 "NestedCodes$Reading" "order" "[I", Cond.static yX2_marks, Cond.initialized RX2, Cond.code yX2_marks cX2_marks 1 (some .long), Cond.constantLong RX2 19 (18764998447377), Cond.methodLink RX3 47 yX3_readBlock]
def wsX5_burst_r4 : List Cond := [Cond.instanceMethod yX3_readBlock, Cond.selects RX3 yX3_readBlock yX3_readBlock, Cond.code yX3_readBlock cX3_readBlock 5 none, Cond.fieldLink RX3 15 "NestedCodes$Reading" "gaps" "[I", Cond.fieldLink RX3 18 "NestedCodes$Reading" "reliabilities" "[I", Cond.instanceMethod yX1_symbolOf, Cond.selects RX1 yX1_symbolOf yX1_symbolOf, Cond.code yX1_symbolOf cX1_symbolOf 4 (some .int), Cond.methodLink RX1 35 yX1_bitsBetween, Cond.instanceMethod yX1_bitsBetween, Cond.selects RX1 yX1_bitsBetween yX1_bitsBetween, Cond.code yX1_bitsBetween cX1_bitsBetween 3 (some .int), Cond.instanceMethod yX1_reliability, Cond.selects RX1 yX1_reliability yX1_reliability, Cond.code yX1_reliability cX1_reliability 2 (some .int), Cond.methodLink RX1 38 Lib.Math.max.name, Cond.methodLink RX3 51 yX3_blocksBefore, Cond.instanceMethod yX3_blocksBefore, Cond.selects RX3 yX3_blocksBefore yX3_blocksBefore, Cond.code yX3_blocksBefore cX3_blocksBefore 4 (some .int)]
def wsX5_burst : List Cond := .code yX5_burst cX5_burst 7 (some .int) :: ((wsX5_burst_r1 ++ (wsX5_burst_r2 ++ (wsX5_burst_r3 ++ wsX5_burst_r4))) ++ wsX50 ++ wsX40 ++ wsX00 ++ wsX10 ++ wsX30)
def wsX5_lawBound : List Cond := .code yX5_lawBound cX5_lawBound 1 (some .int) :: ([.fieldLink RX5 26 "NestedCodes" "inner" "LNestedCodes$InnerCode;", .fieldLink RX5 10 "NestedCodes" "state" "LNestedCodes$State;", .instanceMethod yX4_outerDistance, .initialized RX4, .selects RX4 yX4_outerDistance yX4_outerDistance, .code yX4_outerDistance cX4_outerDistance 1 (some .int), .fieldLink RX4 9 "NestedCodes$State" "length" "I", .fieldLink RX4 15 "NestedCodes$State" "dimension" "I"] ++ wsX50 ++ wsX10 ++ wsX40)
def wsJ13_bitCount_95d88 : List Cond := .code yJ13_bitCount_95d88 cJ13_bitCount_95d88 2 (some .int) :: ([.constantLong RJ13 314 (6148914691236517205), .constantLong RJ13 316 (3689348814741910323), .constantLong RJ13 318 (1085102592571150095)])
def wsX5_lawfulMessage_r1 : List Cond := [Cond.fieldLink RX5 10 "NestedCodes" "state" "LNestedCodes$State;", Cond.fieldLink RX5 33 "NestedCodes" "outer" "LNestedCodes$OuterCode;", Cond.fieldLink RX5 40 "NestedCodes" "reading" "LNestedCodes$Reading;", Cond.methodLink RX5 187 yX5_lawBound, Cond.instanceMethod yX5_lawBound, Cond.selects RX5 yX5_lawBound yX5_lawBound, Cond.initialized RX5, Cond.code yX5_lawBound cX5_lawBound 1 (some .int), Cond.fieldLink RX5 26 "NestedCodes" "inner" "LNestedCodes$InnerCode;", Cond.instanceMethod yX4_outerDistance, Cond.initialized RX4, Cond.selects RX4 yX4_outerDistance yX4_outerDistance, Cond.code yX4_outerDistance cX4_outerDistance 1 (some .int), Cond.fieldLink RX4 9 "NestedCodes$State" "length" "I", Cond.fieldLink RX4 15 "NestedCodes$State" "dimension" "I", Cond.instanceMethod yX4_messages, Cond.selects RX4 yX4_messages yX4_messages, Cond.code yX4_messages cX4_messages 1 (some .int), Cond.instanceMethod yX2_codeword, Cond.initialized RX2, Cond.selects RX2 yX2_codeword yX2_codeword, Cond.code yX2_codeword cX2_codeword 3 (some .long), Cond.fieldLink RX2 9 "NestedCodes$OuterCode" "parts" "[J", Cond.instanceMethod yX3_differingBlocks]
def wsX5_lawfulMessage_r2 : List Cond := [Cond.initialized RX3, Cond.selects RX3 yX3_differingBlocks yX3_differingBlocks, Cond.code yX3_differingBlocks cX3_differingBlocks 3 (some .long), Cond.fieldLink RX3 31 "NestedCodes$Reading" "packedSymbols" "J", Cond.fieldLink RX3 35 "NestedCodes$Reading" "allBlocks" "J", Cond.static yX2_markSymbols, Cond.code yX2_markSymbols cX2_markSymbols 4 (some .long), Cond.constantLong RX2 19 (18764998447377), Cond.methodLink RX5 223 yJ13_bitCount_95d88, Cond.static yJ13_bitCount_95d88, Cond.initialized RJ13, Cond.code yJ13_bitCount_95d88 cJ13_bitCount_95d88 2 (some .int), Cond.constantLong RJ13 314 (6148914691236517205), Cond.constantLong RJ13 316 (3689348814741910323), Cond.constantLong RJ13 318 (1085102592571150095), Cond.instanceMethod yX3_scoreOf, Cond.selects RX3 yX3_scoreOf yX3_scoreOf, Cond.code yX3_scoreOf cX3_scoreOf 8 (some .int), Cond.fieldLink RX3 27 "NestedCodes$Reading" "length" "I", Cond.fieldLink RX3 18 "NestedCodes$Reading" "reliabilities" "[I", Cond.methodLink RX3 80 yX3_differingBlocks]
def wsX5_lawfulMessage : List Cond := .code yX5_lawfulMessage cX5_lawfulMessage 7 (some .int) :: ((wsX5_lawfulMessage_r1 ++ wsX5_lawfulMessage_r2) ++ wsX50 ++ wsX10 ++ wsX40 ++ wsX20 ++ wsX30)
def wsX5_sendCascade_r1 : List Cond := [Cond.fieldLink RX5 19 "NestedCodes" "history" "LNestedCodes$History;", Cond.fieldLink RX5 10 "NestedCodes" "state" "LNestedCodes$State;", Cond.methodLink RX5 149 yX5_lawfulMessage, Cond.instanceMethod yX5_lawfulMessage, Cond.selects RX5 yX5_lawfulMessage yX5_lawfulMessage, Cond.initialized RX5, Cond.code yX5_lawfulMessage cX5_lawfulMessage 7 (some .int), Cond.fieldLink RX5 33 "NestedCodes" "outer" "LNestedCodes$OuterCode;", Cond.fieldLink RX5 40 "NestedCodes" "reading" "LNestedCodes$Reading;", Cond.methodLink RX5 187 yX5_lawBound, Cond.instanceMethod yX5_lawBound, Cond.selects RX5 yX5_lawBound yX5_lawBound, Cond.code yX5_lawBound cX5_lawBound 1 (some .int), Cond.fieldLink RX5 26 "NestedCodes" "inner" "LNestedCodes$InnerCode;", Cond.instanceMethod yX4_outerDistance, Cond.initialized RX4, Cond.selects RX4 yX4_outerDistance yX4_outerDistance, Cond.code yX4_outerDistance cX4_outerDistance 1 (some .int), Cond.fieldLink RX4 9 "NestedCodes$State" "length" "I", Cond.fieldLink RX4 15 "NestedCodes$State" "dimension" "I", Cond.instanceMethod yX4_messages, Cond.selects RX4 yX4_messages yX4_messages, Cond.code yX4_messages cX4_messages 1 (some .int), Cond.instanceMethod yX2_codeword]
def wsX5_sendCascade_r2 : List Cond := [Cond.initialized RX2, Cond.selects RX2 yX2_codeword yX2_codeword, Cond.code yX2_codeword cX2_codeword 3 (some .long), Cond.fieldLink RX2 9 "NestedCodes$OuterCode" "parts" "[J", Cond.instanceMethod yX3_differingBlocks, Cond.initialized RX3, Cond.selects RX3 yX3_differingBlocks yX3_differingBlocks, Cond.code yX3_differingBlocks cX3_differingBlocks 3 (some .long), Cond.fieldLink RX3 31 "NestedCodes$Reading" "packedSymbols" "J", Cond.fieldLink RX3 35 "NestedCodes$Reading" "allBlocks" "J", Cond.static yX2_markSymbols, Cond.code yX2_markSymbols cX2_markSymbols 4 (some .long), Cond.constantLong RX2 19 (18764998447377), Cond.methodLink RX5 223 yJ13_bitCount_95d88, Cond.static yJ13_bitCount_95d88, Cond.initialized RJ13, Cond.code yJ13_bitCount_95d88 cJ13_bitCount_95d88 2 (some .int), Cond.constantLong RJ13 314 (6148914691236517205), Cond.constantLong RJ13 316 (3689348814741910323), Cond.constantLong RJ13 318 (1085102592571150095), Cond.instanceMethod yX3_scoreOf, Cond.selects RX3 yX3_scoreOf yX3_scoreOf, Cond.code yX3_scoreOf cX3_scoreOf 8 (some .int), Cond.fieldLink RX3 27 "NestedCodes$Reading" "length" "I"]
def wsX5_sendCascade_r3 : List Cond := [Cond.fieldLink RX3 18 "NestedCodes$Reading" "reliabilities" "[I", Cond.methodLink RX3 80 yX3_differingBlocks, Cond.instanceMethod yX0_record, Cond.initialized RX0, Cond.selects RX0 yX0_record yX0_record, Cond.code yX0_record cX0_record 2 none, Cond.fieldLink RX0 18 "NestedCodes$History" "size" "I", Cond.fieldLink RX0 11 "NestedCodes$History" "states" "[LNestedCodes$State;", Cond.methodLink RX0 22 yX0_dropOldest, Cond.instanceMethod yX0_dropOldest, Cond.selects RX0 yX0_dropOldest yX0_dropOldest, Cond.code yX0_dropOldest cX0_dropOldest 3 none, Cond.instanceMethod yX4_copyFrom, Cond.selects RX4 yX4_copyFrom yX4_copyFrom, Cond.code yX4_copyFrom cX4_copyFrom 3 none, Cond.fieldLink RX4 18 "NestedCodes$State" "bits" "I", Cond.fieldLink RX4 32 "NestedCodes$State" "sentMessage" "I", Cond.fieldLink RX4 21 "NestedCodes$State" "generators" "[I", Cond.fieldLink RX4 25 "NestedCodes$State" "words" "[I", Cond.fieldLink RX4 28 "NestedCodes$State" "lost" "[Z", Cond.methodLink RX5 125 yX5_wordSentFor, Cond.instanceMethod yX5_wordSentFor, Cond.selects RX5 yX5_wordSentFor yX5_wordSentFor, Cond.code yX5_wordSentFor cX5_wordSentFor 3 (some .int)]
def wsX5_sendCascade_r4 : List Cond := [Cond.methodLink RX5 118 yX5_symbolIn, Cond.static yX5_symbolIn, Cond.code yX5_symbolIn cX5_symbolIn 3 (some .int), Cond.instanceMethod yX4_shiftedRound, Cond.selects RX4 yX4_shiftedRound yX4_shiftedRound, Cond.code yX4_shiftedRound cX4_shiftedRound 2 (some .int), Cond.methodLink RX4 35 yX4_allBits, Cond.instanceMethod yX4_allBits, Cond.selects RX4 yX4_allBits yX4_allBits, Cond.code yX4_allBits cX4_allBits 1 (some .int), Cond.methodLink RX5 129 yJ6_bitCount_0f7a4, Cond.static yJ6_bitCount_0f7a4, Cond.initialized RJ6, Cond.code yJ6_bitCount_0f7a4 cJ6_bitCount_0f7a4 1 (some .int), Cond.constant RJ6 265 (1431655765), Cond.constant RJ6 266 (858993459), Cond.constant RJ6 267 (252645135), Cond.methodLink RX5 52 yX5_readAgain, Cond.instanceMethod yX5_readAgain, Cond.selects RX5 yX5_readAgain yX5_readAgain, Cond.code yX5_readAgain cX5_readAgain 1 none, Cond.instanceMethod yX1_setGenerators, Cond.initialized RX1, Cond.selects RX1 yX1_setGenerators yX1_setGenerators]
def wsX5_sendCascade_r5 : List Cond := [Cond.code yX1_setGenerators cX1_setGenerators 3 none, Cond.fieldLink RX1 15 "NestedCodes$InnerCode" "distance" "I", Cond.fieldLink RX1 9 "NestedCodes$InnerCode" "words" "[I", Cond.methodLink RX1 29 Lib.Math.min.name, Cond.static Lib.Math.min.name, Cond.initialized "java/lang/Math", Cond.code Lib.Math.min.name Lib.Math.min.code 2 (some .int), Cond.static yX5_generatedWord, Cond.code yX5_generatedWord cX5_generatedWord 4 (some .int), Cond.methodLink RX1 23 yJ6_bitCount_0f7a4, Cond.instanceMethod yX3_read, Cond.selects RX3 yX3_read yX3_read, Cond.code yX3_read cX3_read 4 none, Cond.fieldLink RX3 9 "NestedCodes$Reading" "symbols" "[I", Cond.fieldLink RX3 24 "NestedCodes$Reading" "places" "[I", Cond.fieldLink RX3 21 "NestedCodes$Reading" "order" "[I", Cond.static yX2_marks, Cond.code yX2_marks cX2_marks 1 (some .long), Cond.methodLink RX3 47 yX3_readBlock, Cond.instanceMethod yX3_readBlock, Cond.selects RX3 yX3_readBlock yX3_readBlock, Cond.code yX3_readBlock cX3_readBlock 5 none, Cond.fieldLink RX3 15 "NestedCodes$Reading" "gaps" "[I", Cond.instanceMethod yX1_symbolOf]
def wsX5_sendCascade_r6 : List Cond := [Cond.selects RX1 yX1_symbolOf yX1_symbolOf, Cond.code yX1_symbolOf cX1_symbolOf 4 (some .int), Cond.methodLink RX1 35 yX1_bitsBetween, Cond.instanceMethod yX1_bitsBetween, Cond.selects RX1 yX1_bitsBetween yX1_bitsBetween, Cond.code yX1_bitsBetween cX1_bitsBetween 3 (some .int), Cond.instanceMethod yX1_reliability, Cond.selects RX1 yX1_reliability yX1_reliability, Cond.code yX1_reliability cX1_reliability 2 (some .int), Cond.methodLink RX1 38 Lib.Math.max.name, Cond.static Lib.Math.max.name, Cond.code Lib.Math.max.name Lib.Math.max.code 2 (some .int), Cond.methodLink RX3 51 yX3_blocksBefore, Cond.instanceMethod yX3_blocksBefore, Cond.selects RX3 yX3_blocksBefore yX3_blocksBefore, Cond.code yX3_blocksBefore cX3_blocksBefore 4 (some .int)]
def wsX5_sendCascade : List Cond := .code yX5_sendCascade cX5_sendCascade 6 (some .int) :: ((wsX5_sendCascade_r1 ++ (wsX5_sendCascade_r2 ++ (wsX5_sendCascade_r3 ++ (wsX5_sendCascade_r4 ++ (wsX5_sendCascade_r5 ++ wsX5_sendCascade_r6))))) ++ wsX50 ++ wsX40 ++ wsX10 ++ wsX20 ++ wsX30 ++ wsX00)
def wsX5_received : List Cond := .code yX5_received cX5_received 2 (some .int) :: ([.fieldLink RX5 10 "NestedCodes" "state" "LNestedCodes$State;", .methodLink RX5 111 yX5_isBlock, .instanceMethod yX5_isBlock, .selects RX5 yX5_isBlock yX5_isBlock, .initialized RX5, .code yX5_isBlock cX5_isBlock 2 (some .boolean)] ++ wsX50 ++ wsX40)
def wsX5_sent : List Cond := .code yX5_sent cX5_sent 1 (some .int) :: ([.fieldLink RX5 10 "NestedCodes" "state" "LNestedCodes$State;"] ++ wsX50 ++ wsX40)
def wsX5_sentSymbol : List Cond := .code yX5_sentSymbol cX5_sentSymbol 2 (some .int) :: ([.fieldLink RX5 33 "NestedCodes" "outer" "LNestedCodes$OuterCode;", .fieldLink RX5 10 "NestedCodes" "state" "LNestedCodes$State;", .instanceMethod yX2_codeword, .initialized RX2, .selects RX2 yX2_codeword yX2_codeword, .code yX2_codeword cX2_codeword 3 (some .long), .fieldLink RX2 9 "NestedCodes$OuterCode" "parts" "[J", .methodLink RX5 118 yX5_symbolIn, .static yX5_symbolIn, .initialized RX5, .code yX5_symbolIn cX5_symbolIn 3 (some .int)] ++ wsX50 ++ wsX40 ++ wsX20)
def wsX5_block : List Cond := .code yX5_block cX5_block 3 (some .int) :: ([.fieldLink RX5 40 "NestedCodes" "reading" "LNestedCodes$Reading;", .methodLink RX5 111 yX5_isBlock, .instanceMethod yX5_isBlock, .selects RX5 yX5_isBlock yX5_isBlock, .initialized RX5, .code yX5_isBlock cX5_isBlock 2 (some .boolean), .fieldLink RX5 10 "NestedCodes" "state" "LNestedCodes$State;", .methodLink RX5 164 yX5_sentSymbol, .instanceMethod yX5_sentSymbol, .selects RX5 yX5_sentSymbol yX5_sentSymbol, .code yX5_sentSymbol cX5_sentSymbol 2 (some .int), .fieldLink RX5 33 "NestedCodes" "outer" "LNestedCodes$OuterCode;", .instanceMethod yX2_codeword, .initialized RX2, .selects RX2 yX2_codeword yX2_codeword, .code yX2_codeword cX2_codeword 3 (some .long), .fieldLink RX2 9 "NestedCodes$OuterCode" "parts" "[J", .methodLink RX5 118 yX5_symbolIn, .static yX5_symbolIn, .code yX5_symbolIn cX5_symbolIn 3 (some .int)] ++ wsX50 ++ wsX30 ++ wsX40 ++ wsX20)
def wsX5_blockAt : List Cond := .code yX5_blockAt cX5_blockAt 2 (some .int) :: ([.fieldLink RX5 40 "NestedCodes" "reading" "LNestedCodes$Reading;", .methodLink RX5 111 yX5_isBlock, .instanceMethod yX5_isBlock, .selects RX5 yX5_isBlock yX5_isBlock, .initialized RX5, .code yX5_isBlock cX5_isBlock 2 (some .boolean), .fieldLink RX5 10 "NestedCodes" "state" "LNestedCodes$State;"] ++ wsX50 ++ wsX30 ++ wsX40)
def wsX5_strength_r1 : List Cond := [Cond.fieldLink RX5 10 "NestedCodes" "state" "LNestedCodes$State;", Cond.fieldLink RX5 26 "NestedCodes" "inner" "LNestedCodes$InnerCode;", Cond.methodLink RX5 111 yX5_isBlock, Cond.instanceMethod yX5_isBlock, Cond.selects RX5 yX5_isBlock yX5_isBlock, Cond.initialized RX5, Cond.code yX5_isBlock cX5_isBlock 2 (some .boolean), Cond.instanceMethod yX1_bitsToAnotherSymbol, Cond.initialized RX1, Cond.selects RX1 yX1_bitsToAnotherSymbol yX1_bitsToAnotherSymbol, Cond.code yX1_bitsToAnotherSymbol cX1_bitsToAnotherSymbol 8 (some .int), Cond.methodLink RX1 29 Lib.Math.min.name, Cond.static Lib.Math.min.name, Cond.initialized "java/lang/Math", Cond.code Lib.Math.min.name Lib.Math.min.code 2 (some .int), Cond.methodLink RX1 41 yX1_symbolOf, Cond.instanceMethod yX1_symbolOf, Cond.selects RX1 yX1_symbolOf yX1_symbolOf, Cond.code yX1_symbolOf cX1_symbolOf 4 (some .int), Cond.methodLink RX1 35 yX1_bitsBetween, Cond.instanceMethod yX1_bitsBetween, Cond.selects RX1 yX1_bitsBetween yX1_bitsBetween, Cond.code yX1_bitsBetween cX1_bitsBetween 3 (some .int), Cond.fieldLink RX1 9 "NestedCodes$InnerCode" "words" "[I"]
def wsX5_strength_r2 : List Cond := [Cond.methodLink RX1 23 yJ6_bitCount_0f7a4, Cond.static yJ6_bitCount_0f7a4, Cond.initialized RJ6, Cond.code yJ6_bitCount_0f7a4 cJ6_bitCount_0f7a4 1 (some .int), Cond.constant RJ6 265 (1431655765), Cond.constant RJ6 266 (858993459), Cond.constant RJ6 267 (252645135)]
def wsX5_strength : List Cond := .code yX5_strength cX5_strength 2 (some .int) :: ((wsX5_strength_r1 ++ wsX5_strength_r2) ++ wsX50 ++ wsX40 ++ wsX10)
def wsX5_isResult_r1 : List Cond := [Cond.fieldLink RX5 40 "NestedCodes" "reading" "LNestedCodes$Reading;", Cond.fieldLink RX5 10 "NestedCodes" "state" "LNestedCodes$State;", Cond.instanceMethod yX3_differingBlocks, Cond.initialized RX3, Cond.selects RX3 yX3_differingBlocks yX3_differingBlocks, Cond.code yX3_differingBlocks cX3_differingBlocks 3 (some .long), Cond.fieldLink RX3 31 "NestedCodes$Reading" "packedSymbols" "J", Cond.fieldLink RX3 35 "NestedCodes$Reading" "allBlocks" "J", Cond.static yX2_markSymbols, Cond.initialized RX2, Cond.code yX2_markSymbols cX2_markSymbols 4 (some .long), Cond.constantLong RX2 19 (18764998447377), Cond.methodLink RX5 223 yJ13_bitCount_95d88, Cond.static yJ13_bitCount_95d88, Cond.initialized RJ13, Cond.code yJ13_bitCount_95d88 cJ13_bitCount_95d88 2 (some .int), Cond.constantLong RJ13 314 (6148914691236517205), Cond.constantLong RJ13 316 (3689348814741910323), Cond.constantLong RJ13 318 (1085102592571150095), Cond.instanceMethod yX4_outerDistance, Cond.initialized RX4, Cond.selects RX4 yX4_outerDistance yX4_outerDistance, Cond.code yX4_outerDistance cX4_outerDistance 1 (some .int), Cond.fieldLink RX4 9 "NestedCodes$State" "length" "I"]
def wsX5_isResult_r2 : List Cond := [Cond.fieldLink RX4 15 "NestedCodes$State" "dimension" "I"]
def wsX5_isResult : List Cond := .code yX5_isResult cX5_isResult 7 (some .boolean) :: ((wsX5_isResult_r1 ++ wsX5_isResult_r2) ++ wsX50 ++ wsX30 ++ wsX40)
def wsX5_trial_r1 : List Cond := [Cond.fieldLink RX5 10 "NestedCodes" "state" "LNestedCodes$State;", Cond.fieldLink RX5 40 "NestedCodes" "reading" "LNestedCodes$Reading;", Cond.fieldLink RX5 33 "NestedCodes" "outer" "LNestedCodes$OuterCode;", Cond.instanceMethod yX4_outerDistance, Cond.initialized RX4, Cond.selects RX4 yX4_outerDistance yX4_outerDistance, Cond.code yX4_outerDistance cX4_outerDistance 1 (some .int), Cond.fieldLink RX4 9 "NestedCodes$State" "length" "I", Cond.fieldLink RX4 15 "NestedCodes$State" "dimension" "I", Cond.instanceMethod yX3_keptBlocks, Cond.initialized RX3, Cond.selects RX3 yX3_keptBlocks yX3_keptBlocks, Cond.code yX3_keptBlocks cX3_keptBlocks 5 (some .long), Cond.fieldLink RX3 35 "NestedCodes$Reading" "allBlocks" "J", Cond.fieldLink RX3 27 "NestedCodes$Reading" "length" "I", Cond.fieldLink RX3 21 "NestedCodes$Reading" "order" "[I", Cond.constantLong RX3 74 (-1), Cond.instanceMethod yX4_messages, Cond.selects RX4 yX4_messages yX4_messages, Cond.code yX4_messages cX4_messages 1 (some .int), Cond.instanceMethod yX2_codeword, Cond.initialized RX2, Cond.selects RX2 yX2_codeword yX2_codeword, Cond.code yX2_codeword cX2_codeword 3 (some .long)]
def wsX5_trial_r2 : List Cond := [Cond.fieldLink RX2 9 "NestedCodes$OuterCode" "parts" "[J", Cond.methodLink RX5 179 yX5_isResult, Cond.instanceMethod yX5_isResult, Cond.selects RX5 yX5_isResult yX5_isResult, Cond.initialized RX5, Cond.code yX5_isResult cX5_isResult 7 (some .boolean), Cond.instanceMethod yX3_differingBlocks, Cond.selects RX3 yX3_differingBlocks yX3_differingBlocks, Cond.code yX3_differingBlocks cX3_differingBlocks 3 (some .long), Cond.fieldLink RX3 31 "NestedCodes$Reading" "packedSymbols" "J", Cond.static yX2_markSymbols, Cond.code yX2_markSymbols cX2_markSymbols 4 (some .long), Cond.constantLong RX2 19 (18764998447377), Cond.methodLink RX5 223 yJ13_bitCount_95d88, Cond.static yJ13_bitCount_95d88, Cond.initialized RJ13, Cond.code yJ13_bitCount_95d88 cJ13_bitCount_95d88 2 (some .int), Cond.constantLong RJ13 314 (6148914691236517205), Cond.constantLong RJ13 316 (3689348814741910323), Cond.constantLong RJ13 318 (1085102592571150095)]
def wsX5_trial : List Cond := .code yX5_trial cX5_trial 6 (some .int) :: ((wsX5_trial_r1 ++ wsX5_trial_r2) ++ wsX50 ++ wsX40 ++ wsX30 ++ wsX20)
def wsX5_score_r1 : List Cond := [Cond.fieldLink RX5 40 "NestedCodes" "reading" "LNestedCodes$Reading;", Cond.fieldLink RX5 33 "NestedCodes" "outer" "LNestedCodes$OuterCode;", Cond.methodLink RX5 108 yX5_isMessage, Cond.instanceMethod yX5_isMessage, Cond.selects RX5 yX5_isMessage yX5_isMessage, Cond.initialized RX5, Cond.code yX5_isMessage cX5_isMessage 2 (some .boolean), Cond.fieldLink RX5 10 "NestedCodes" "state" "LNestedCodes$State;", Cond.instanceMethod yX4_messages, Cond.initialized RX4, Cond.selects RX4 yX4_messages yX4_messages, Cond.code yX4_messages cX4_messages 1 (some .int), Cond.fieldLink RX4 15 "NestedCodes$State" "dimension" "I", Cond.instanceMethod yX2_codeword, Cond.initialized RX2, Cond.selects RX2 yX2_codeword yX2_codeword, Cond.code yX2_codeword cX2_codeword 3 (some .long), Cond.fieldLink RX2 9 "NestedCodes$OuterCode" "parts" "[J", Cond.instanceMethod yX3_scoreOf, Cond.initialized RX3, Cond.selects RX3 yX3_scoreOf yX3_scoreOf, Cond.code yX3_scoreOf cX3_scoreOf 8 (some .int), Cond.fieldLink RX3 27 "NestedCodes$Reading" "length" "I", Cond.fieldLink RX3 18 "NestedCodes$Reading" "reliabilities" "[I"]
def wsX5_score_r2 : List Cond := [Cond.methodLink RX3 80 yX3_differingBlocks, Cond.instanceMethod yX3_differingBlocks, Cond.selects RX3 yX3_differingBlocks yX3_differingBlocks, Cond.code yX3_differingBlocks cX3_differingBlocks 3 (some .long), Cond.fieldLink RX3 31 "NestedCodes$Reading" "packedSymbols" "J", Cond.fieldLink RX3 35 "NestedCodes$Reading" "allBlocks" "J", Cond.static yX2_markSymbols, Cond.code yX2_markSymbols cX2_markSymbols 4 (some .long), Cond.constantLong RX2 19 (18764998447377)]
def wsX5_score : List Cond := .code yX5_score cX5_score 2 (some .int) :: ((wsX5_score_r1 ++ wsX5_score_r2) ++ wsX50 ++ wsX40 ++ wsX20 ++ wsX30)
def wsX5_lawful_r1 : List Cond := [Cond.methodLink RX5 149 yX5_lawfulMessage, Cond.instanceMethod yX5_lawfulMessage, Cond.selects RX5 yX5_lawfulMessage yX5_lawfulMessage, Cond.initialized RX5, Cond.code yX5_lawfulMessage cX5_lawfulMessage 7 (some .int), Cond.fieldLink RX5 10 "NestedCodes" "state" "LNestedCodes$State;", Cond.fieldLink RX5 33 "NestedCodes" "outer" "LNestedCodes$OuterCode;", Cond.fieldLink RX5 40 "NestedCodes" "reading" "LNestedCodes$Reading;", Cond.methodLink RX5 187 yX5_lawBound, Cond.instanceMethod yX5_lawBound, Cond.selects RX5 yX5_lawBound yX5_lawBound, Cond.code yX5_lawBound cX5_lawBound 1 (some .int), Cond.fieldLink RX5 26 "NestedCodes" "inner" "LNestedCodes$InnerCode;", Cond.instanceMethod yX4_outerDistance, Cond.initialized RX4, Cond.selects RX4 yX4_outerDistance yX4_outerDistance, Cond.code yX4_outerDistance cX4_outerDistance 1 (some .int), Cond.fieldLink RX4 9 "NestedCodes$State" "length" "I", Cond.fieldLink RX4 15 "NestedCodes$State" "dimension" "I", Cond.instanceMethod yX4_messages, Cond.selects RX4 yX4_messages yX4_messages, Cond.code yX4_messages cX4_messages 1 (some .int), Cond.instanceMethod yX2_codeword, Cond.initialized RX2]
def wsX5_lawful_r2 : List Cond := [Cond.selects RX2 yX2_codeword yX2_codeword, Cond.code yX2_codeword cX2_codeword 3 (some .long), Cond.fieldLink RX2 9 "NestedCodes$OuterCode" "parts" "[J", Cond.instanceMethod yX3_differingBlocks, Cond.initialized RX3, Cond.selects RX3 yX3_differingBlocks yX3_differingBlocks, Cond.code yX3_differingBlocks cX3_differingBlocks 3 (some .long), Cond.fieldLink RX3 31 "NestedCodes$Reading" "packedSymbols" "J", Cond.fieldLink RX3 35 "NestedCodes$Reading" "allBlocks" "J", Cond.static yX2_markSymbols, Cond.code yX2_markSymbols cX2_markSymbols 4 (some .long), Cond.constantLong RX2 19 (18764998447377), Cond.methodLink RX5 223 yJ13_bitCount_95d88, Cond.static yJ13_bitCount_95d88, Cond.initialized RJ13, Cond.code yJ13_bitCount_95d88 cJ13_bitCount_95d88 2 (some .int), Cond.constantLong RJ13 314 (6148914691236517205), Cond.constantLong RJ13 316 (3689348814741910323), Cond.constantLong RJ13 318 (1085102592571150095), Cond.instanceMethod yX3_scoreOf, Cond.selects RX3 yX3_scoreOf yX3_scoreOf, Cond.code yX3_scoreOf cX3_scoreOf 8 (some .int), Cond.fieldLink RX3 27 "NestedCodes$Reading" "length" "I", Cond.fieldLink RX3 18 "NestedCodes$Reading" "reliabilities" "[I"]
def wsX5_lawful_r3 : List Cond := [Cond.methodLink RX3 80 yX3_differingBlocks]
def wsX5_lawful : List Cond := .code yX5_lawful cX5_lawful 1 (some .int) :: ((wsX5_lawful_r1 ++ (wsX5_lawful_r2 ++ wsX5_lawful_r3)) ++ wsX50 ++ wsX10 ++ wsX40 ++ wsX20 ++ wsX30)
def wsX5_decode_r1 : List Cond := [Cond.methodLink RX5 149 yX5_lawfulMessage, Cond.instanceMethod yX5_lawfulMessage, Cond.selects RX5 yX5_lawfulMessage yX5_lawfulMessage, Cond.initialized RX5, Cond.code yX5_lawfulMessage cX5_lawfulMessage 7 (some .int), Cond.fieldLink RX5 10 "NestedCodes" "state" "LNestedCodes$State;", Cond.fieldLink RX5 33 "NestedCodes" "outer" "LNestedCodes$OuterCode;", Cond.fieldLink RX5 40 "NestedCodes" "reading" "LNestedCodes$Reading;", Cond.methodLink RX5 187 yX5_lawBound, Cond.instanceMethod yX5_lawBound, Cond.selects RX5 yX5_lawBound yX5_lawBound, Cond.code yX5_lawBound cX5_lawBound 1 (some .int), Cond.fieldLink RX5 26 "NestedCodes" "inner" "LNestedCodes$InnerCode;", Cond.instanceMethod yX4_outerDistance, Cond.initialized RX4, Cond.selects RX4 yX4_outerDistance yX4_outerDistance, Cond.code yX4_outerDistance cX4_outerDistance 1 (some .int), Cond.fieldLink RX4 9 "NestedCodes$State" "length" "I", Cond.fieldLink RX4 15 "NestedCodes$State" "dimension" "I", Cond.instanceMethod yX4_messages, Cond.selects RX4 yX4_messages yX4_messages, Cond.code yX4_messages cX4_messages 1 (some .int), Cond.instanceMethod yX2_codeword, Cond.initialized RX2]
def wsX5_decode_r2 : List Cond := [Cond.selects RX2 yX2_codeword yX2_codeword, Cond.code yX2_codeword cX2_codeword 3 (some .long), Cond.fieldLink RX2 9 "NestedCodes$OuterCode" "parts" "[J", Cond.instanceMethod yX3_differingBlocks, Cond.initialized RX3, Cond.selects RX3 yX3_differingBlocks yX3_differingBlocks, Cond.code yX3_differingBlocks cX3_differingBlocks 3 (some .long), Cond.fieldLink RX3 31 "NestedCodes$Reading" "packedSymbols" "J", Cond.fieldLink RX3 35 "NestedCodes$Reading" "allBlocks" "J", Cond.static yX2_markSymbols, Cond.code yX2_markSymbols cX2_markSymbols 4 (some .long), Cond.constantLong RX2 19 (18764998447377), Cond.methodLink RX5 223 yJ13_bitCount_95d88, Cond.static yJ13_bitCount_95d88, Cond.initialized RJ13, Cond.code yJ13_bitCount_95d88 cJ13_bitCount_95d88 2 (some .int), Cond.constantLong RJ13 314 (6148914691236517205), Cond.constantLong RJ13 316 (3689348814741910323), Cond.constantLong RJ13 318 (1085102592571150095), Cond.instanceMethod yX3_scoreOf, Cond.selects RX3 yX3_scoreOf yX3_scoreOf, Cond.code yX3_scoreOf cX3_scoreOf 8 (some .int), Cond.fieldLink RX3 27 "NestedCodes$Reading" "length" "I", Cond.fieldLink RX3 18 "NestedCodes$Reading" "reliabilities" "[I"]
def wsX5_decode_r3 : List Cond := [Cond.methodLink RX3 80 yX3_differingBlocks]
def wsX5_decode : List Cond := .code yX5_decode cX5_decode 2 (some .int) :: ((wsX5_decode_r1 ++ (wsX5_decode_r2 ++ wsX5_decode_r3)) ++ wsX50 ++ wsX10 ++ wsX40 ++ wsX20 ++ wsX30)
def wsX5_decidingTrial_r1 : List Cond := [Cond.fieldLink RX5 10 "NestedCodes" "state" "LNestedCodes$State;", Cond.fieldLink RX5 33 "NestedCodes" "outer" "LNestedCodes$OuterCode;", Cond.fieldLink RX5 40 "NestedCodes" "reading" "LNestedCodes$Reading;", Cond.methodLink RX5 149 yX5_lawfulMessage, Cond.instanceMethod yX5_lawfulMessage, Cond.selects RX5 yX5_lawfulMessage yX5_lawfulMessage, Cond.initialized RX5, Cond.code yX5_lawfulMessage cX5_lawfulMessage 7 (some .int), Cond.methodLink RX5 187 yX5_lawBound, Cond.instanceMethod yX5_lawBound, Cond.selects RX5 yX5_lawBound yX5_lawBound, Cond.code yX5_lawBound cX5_lawBound 1 (some .int), Cond.fieldLink RX5 26 "NestedCodes" "inner" "LNestedCodes$InnerCode;", Cond.instanceMethod yX4_outerDistance, Cond.initialized RX4, Cond.selects RX4 yX4_outerDistance yX4_outerDistance, Cond.code yX4_outerDistance cX4_outerDistance 1 (some .int), Cond.fieldLink RX4 9 "NestedCodes$State" "length" "I", Cond.fieldLink RX4 15 "NestedCodes$State" "dimension" "I", Cond.instanceMethod yX4_messages, Cond.selects RX4 yX4_messages yX4_messages, Cond.code yX4_messages cX4_messages 1 (some .int), Cond.instanceMethod yX2_codeword, Cond.initialized RX2]
def wsX5_decidingTrial_r2 : List Cond := [Cond.selects RX2 yX2_codeword yX2_codeword, Cond.code yX2_codeword cX2_codeword 3 (some .long), Cond.fieldLink RX2 9 "NestedCodes$OuterCode" "parts" "[J", Cond.instanceMethod yX3_differingBlocks, Cond.initialized RX3, Cond.selects RX3 yX3_differingBlocks yX3_differingBlocks, Cond.code yX3_differingBlocks cX3_differingBlocks 3 (some .long), Cond.fieldLink RX3 31 "NestedCodes$Reading" "packedSymbols" "J", Cond.fieldLink RX3 35 "NestedCodes$Reading" "allBlocks" "J", Cond.static yX2_markSymbols, Cond.code yX2_markSymbols cX2_markSymbols 4 (some .long), Cond.constantLong RX2 19 (18764998447377), Cond.methodLink RX5 223 yJ13_bitCount_95d88, Cond.static yJ13_bitCount_95d88, Cond.initialized RJ13, Cond.code yJ13_bitCount_95d88 cJ13_bitCount_95d88 2 (some .int), Cond.constantLong RJ13 314 (6148914691236517205), Cond.constantLong RJ13 316 (3689348814741910323), Cond.constantLong RJ13 318 (1085102592571150095), Cond.instanceMethod yX3_scoreOf, Cond.selects RX3 yX3_scoreOf yX3_scoreOf, Cond.code yX3_scoreOf cX3_scoreOf 8 (some .int), Cond.fieldLink RX3 27 "NestedCodes$Reading" "length" "I", Cond.fieldLink RX3 18 "NestedCodes$Reading" "reliabilities" "[I"]
def wsX5_decidingTrial_r3 : List Cond := [Cond.methodLink RX3 80 yX3_differingBlocks, Cond.instanceMethod yX3_keptBlocks, Cond.selects RX3 yX3_keptBlocks yX3_keptBlocks, Cond.code yX3_keptBlocks cX3_keptBlocks 5 (some .long), Cond.fieldLink RX3 21 "NestedCodes$Reading" "order" "[I", Cond.constantLong RX3 74 (-1), Cond.methodLink RX5 179 yX5_isResult, Cond.instanceMethod yX5_isResult, Cond.selects RX5 yX5_isResult yX5_isResult, Cond.code yX5_isResult cX5_isResult 7 (some .boolean)]
def wsX5_decidingTrial : List Cond := .code yX5_decidingTrial cX5_decidingTrial 3 (some .int) :: ((wsX5_decidingTrial_r1 ++ (wsX5_decidingTrial_r2 ++ wsX5_decidingTrial_r3)) ++ wsX50 ++ wsX10 ++ wsX40 ++ wsX20 ++ wsX30)
def wsX5_margin_r1 : List Cond := [Cond.fieldLink RX5 40 "NestedCodes" "reading" "LNestedCodes$Reading;", Cond.fieldLink RX5 33 "NestedCodes" "outer" "LNestedCodes$OuterCode;", Cond.methodLink RX5 149 yX5_lawfulMessage, Cond.instanceMethod yX5_lawfulMessage, Cond.selects RX5 yX5_lawfulMessage yX5_lawfulMessage, Cond.initialized RX5, Cond.code yX5_lawfulMessage cX5_lawfulMessage 7 (some .int), Cond.fieldLink RX5 10 "NestedCodes" "state" "LNestedCodes$State;", Cond.methodLink RX5 187 yX5_lawBound, Cond.instanceMethod yX5_lawBound, Cond.selects RX5 yX5_lawBound yX5_lawBound, Cond.code yX5_lawBound cX5_lawBound 1 (some .int), Cond.fieldLink RX5 26 "NestedCodes" "inner" "LNestedCodes$InnerCode;", Cond.instanceMethod yX4_outerDistance, Cond.initialized RX4, Cond.selects RX4 yX4_outerDistance yX4_outerDistance, Cond.code yX4_outerDistance cX4_outerDistance 1 (some .int), Cond.fieldLink RX4 9 "NestedCodes$State" "length" "I", Cond.fieldLink RX4 15 "NestedCodes$State" "dimension" "I", Cond.instanceMethod yX4_messages, Cond.selects RX4 yX4_messages yX4_messages, Cond.code yX4_messages cX4_messages 1 (some .int), Cond.instanceMethod yX2_codeword, Cond.initialized RX2]
def wsX5_margin_r2 : List Cond := [Cond.selects RX2 yX2_codeword yX2_codeword, Cond.code yX2_codeword cX2_codeword 3 (some .long), Cond.fieldLink RX2 9 "NestedCodes$OuterCode" "parts" "[J", Cond.instanceMethod yX3_differingBlocks, Cond.initialized RX3, Cond.selects RX3 yX3_differingBlocks yX3_differingBlocks, Cond.code yX3_differingBlocks cX3_differingBlocks 3 (some .long), Cond.fieldLink RX3 31 "NestedCodes$Reading" "packedSymbols" "J", Cond.fieldLink RX3 35 "NestedCodes$Reading" "allBlocks" "J", Cond.static yX2_markSymbols, Cond.code yX2_markSymbols cX2_markSymbols 4 (some .long), Cond.constantLong RX2 19 (18764998447377), Cond.methodLink RX5 223 yJ13_bitCount_95d88, Cond.static yJ13_bitCount_95d88, Cond.initialized RJ13, Cond.code yJ13_bitCount_95d88 cJ13_bitCount_95d88 2 (some .int), Cond.constantLong RJ13 314 (6148914691236517205), Cond.constantLong RJ13 316 (3689348814741910323), Cond.constantLong RJ13 318 (1085102592571150095), Cond.instanceMethod yX3_scoreOf, Cond.selects RX3 yX3_scoreOf yX3_scoreOf, Cond.code yX3_scoreOf cX3_scoreOf 8 (some .int), Cond.fieldLink RX3 27 "NestedCodes$Reading" "length" "I", Cond.fieldLink RX3 18 "NestedCodes$Reading" "reliabilities" "[I"]
def wsX5_margin_r3 : List Cond := [Cond.methodLink RX3 80 yX3_differingBlocks]
def wsX5_margin : List Cond := .code yX5_margin cX5_margin 2 (some .int) :: ((wsX5_margin_r1 ++ (wsX5_margin_r2 ++ wsX5_margin_r3)) ++ wsX50 ++ wsX10 ++ wsX40 ++ wsX20 ++ wsX30)
def wsX5_wastedTrials_r1 : List Cond := [Cond.fieldLink RX5 10 "NestedCodes" "state" "LNestedCodes$State;", Cond.fieldLink RX5 33 "NestedCodes" "outer" "LNestedCodes$OuterCode;", Cond.fieldLink RX5 40 "NestedCodes" "reading" "LNestedCodes$Reading;", Cond.instanceMethod yX4_outerDistance, Cond.initialized RX4, Cond.selects RX4 yX4_outerDistance yX4_outerDistance, Cond.code yX4_outerDistance cX4_outerDistance 1 (some .int), Cond.fieldLink RX4 9 "NestedCodes$State" "length" "I", Cond.fieldLink RX4 15 "NestedCodes$State" "dimension" "I", Cond.methodLink RX5 149 yX5_lawfulMessage, Cond.instanceMethod yX5_lawfulMessage, Cond.selects RX5 yX5_lawfulMessage yX5_lawfulMessage, Cond.initialized RX5, Cond.code yX5_lawfulMessage cX5_lawfulMessage 7 (some .int), Cond.methodLink RX5 187 yX5_lawBound, Cond.instanceMethod yX5_lawBound, Cond.selects RX5 yX5_lawBound yX5_lawBound, Cond.code yX5_lawBound cX5_lawBound 1 (some .int), Cond.fieldLink RX5 26 "NestedCodes" "inner" "LNestedCodes$InnerCode;", Cond.instanceMethod yX4_messages, Cond.selects RX4 yX4_messages yX4_messages, Cond.code yX4_messages cX4_messages 1 (some .int), Cond.instanceMethod yX2_codeword, Cond.initialized RX2]
def wsX5_wastedTrials_r2 : List Cond := [Cond.selects RX2 yX2_codeword yX2_codeword, Cond.code yX2_codeword cX2_codeword 3 (some .long), Cond.fieldLink RX2 9 "NestedCodes$OuterCode" "parts" "[J", Cond.instanceMethod yX3_differingBlocks, Cond.initialized RX3, Cond.selects RX3 yX3_differingBlocks yX3_differingBlocks, Cond.code yX3_differingBlocks cX3_differingBlocks 3 (some .long), Cond.fieldLink RX3 31 "NestedCodes$Reading" "packedSymbols" "J", Cond.fieldLink RX3 35 "NestedCodes$Reading" "allBlocks" "J", Cond.static yX2_markSymbols, Cond.code yX2_markSymbols cX2_markSymbols 4 (some .long), Cond.constantLong RX2 19 (18764998447377), Cond.methodLink RX5 223 yJ13_bitCount_95d88, Cond.static yJ13_bitCount_95d88, Cond.initialized RJ13, Cond.code yJ13_bitCount_95d88 cJ13_bitCount_95d88 2 (some .int), Cond.constantLong RJ13 314 (6148914691236517205), Cond.constantLong RJ13 316 (3689348814741910323), Cond.constantLong RJ13 318 (1085102592571150095), Cond.instanceMethod yX3_scoreOf, Cond.selects RX3 yX3_scoreOf yX3_scoreOf, Cond.code yX3_scoreOf cX3_scoreOf 8 (some .int), Cond.fieldLink RX3 27 "NestedCodes$Reading" "length" "I", Cond.fieldLink RX3 18 "NestedCodes$Reading" "reliabilities" "[I"]
def wsX5_wastedTrials_r3 : List Cond := [Cond.methodLink RX3 80 yX3_differingBlocks, Cond.instanceMethod yX3_keptBlocks, Cond.selects RX3 yX3_keptBlocks yX3_keptBlocks, Cond.code yX3_keptBlocks cX3_keptBlocks 5 (some .long), Cond.fieldLink RX3 21 "NestedCodes$Reading" "order" "[I", Cond.constantLong RX3 74 (-1), Cond.methodLink RX5 179 yX5_isResult, Cond.instanceMethod yX5_isResult, Cond.selects RX5 yX5_isResult yX5_isResult, Cond.code yX5_isResult cX5_isResult 7 (some .boolean)]
def wsX5_wastedTrials : List Cond := .code yX5_wastedTrials cX5_wastedTrials 5 (some .int) :: ((wsX5_wastedTrials_r1 ++ (wsX5_wastedTrials_r2 ++ wsX5_wastedTrials_r3)) ++ wsX50 ++ wsX40 ++ wsX10 ++ wsX20 ++ wsX30)
def wsX5_isGuaranteed_r1 : List Cond := [Cond.fieldLink RX5 26 "NestedCodes" "inner" "LNestedCodes$InnerCode;", Cond.fieldLink RX5 10 "NestedCodes" "state" "LNestedCodes$State;", Cond.methodLink RX5 94 yX5_wrongBits, Cond.instanceMethod yX5_wrongBits, Cond.selects RX5 yX5_wrongBits yX5_wrongBits, Cond.initialized RX5, Cond.code yX5_wrongBits cX5_wrongBits 4 (some .int), Cond.methodLink RX5 125 yX5_wordSentFor, Cond.instanceMethod yX5_wordSentFor, Cond.selects RX5 yX5_wordSentFor yX5_wordSentFor, Cond.code yX5_wordSentFor cX5_wordSentFor 3 (some .int), Cond.fieldLink RX5 33 "NestedCodes" "outer" "LNestedCodes$OuterCode;", Cond.instanceMethod yX2_codeword, Cond.initialized RX2, Cond.selects RX2 yX2_codeword yX2_codeword, Cond.code yX2_codeword cX2_codeword 3 (some .long), Cond.fieldLink RX2 9 "NestedCodes$OuterCode" "parts" "[J", Cond.methodLink RX5 118 yX5_symbolIn, Cond.static yX5_symbolIn, Cond.code yX5_symbolIn cX5_symbolIn 3 (some .int), Cond.methodLink RX5 129 yJ6_bitCount_0f7a4, Cond.static yJ6_bitCount_0f7a4, Cond.initialized RJ6, Cond.code yJ6_bitCount_0f7a4 cJ6_bitCount_0f7a4 1 (some .int)]
def wsX5_isGuaranteed_r2 : List Cond := [Cond.constant RJ6 265 (1431655765), Cond.constant RJ6 266 (858993459), Cond.constant RJ6 267 (252645135), Cond.methodLink RX5 91 yX5_lostBlocks, Cond.instanceMethod yX5_lostBlocks, Cond.selects RX5 yX5_lostBlocks yX5_lostBlocks, Cond.code yX5_lostBlocks cX5_lostBlocks 3 (some .int), Cond.instanceMethod yX4_outerDistance, Cond.initialized RX4, Cond.selects RX4 yX4_outerDistance yX4_outerDistance, Cond.code yX4_outerDistance cX4_outerDistance 1 (some .int), Cond.fieldLink RX4 9 "NestedCodes$State" "length" "I", Cond.fieldLink RX4 15 "NestedCodes$State" "dimension" "I"]
def wsX5_isGuaranteed : List Cond := .code yX5_isGuaranteed cX5_isGuaranteed 2 (some .int) :: ((wsX5_isGuaranteed_r1 ++ wsX5_isGuaranteed_r2) ++ wsX50 ++ wsX10 ++ wsX40 ++ wsX20)
def wsX5_partInSentScore : List Cond := .code yX5_partInSentScore cX5_partInSentScore 3 (some .int) :: ([.fieldLink RX5 40 "NestedCodes" "reading" "LNestedCodes$Reading;", .methodLink RX5 164 yX5_sentSymbol, .instanceMethod yX5_sentSymbol, .selects RX5 yX5_sentSymbol yX5_sentSymbol, .initialized RX5, .code yX5_sentSymbol cX5_sentSymbol 2 (some .int), .fieldLink RX5 33 "NestedCodes" "outer" "LNestedCodes$OuterCode;", .fieldLink RX5 10 "NestedCodes" "state" "LNestedCodes$State;", .instanceMethod yX2_codeword, .initialized RX2, .selects RX2 yX2_codeword yX2_codeword, .code yX2_codeword cX2_codeword 3 (some .long), .fieldLink RX2 9 "NestedCodes$OuterCode" "parts" "[J", .methodLink RX5 118 yX5_symbolIn, .static yX5_symbolIn, .code yX5_symbolIn cX5_symbolIn 3 (some .int)] ++ wsX50 ++ wsX30 ++ wsX40 ++ wsX20)
def wsX5_fragileBitsOf_r1 : List Cond := [Cond.fieldLink RX5 40 "NestedCodes" "reading" "LNestedCodes$Reading;", Cond.fieldLink RX5 33 "NestedCodes" "outer" "LNestedCodes$OuterCode;", Cond.fieldLink RX5 10 "NestedCodes" "state" "LNestedCodes$State;", Cond.fieldLink RX5 26 "NestedCodes" "inner" "LNestedCodes$InnerCode;", Cond.methodLink RX5 164 yX5_sentSymbol, Cond.instanceMethod yX5_sentSymbol, Cond.selects RX5 yX5_sentSymbol yX5_sentSymbol, Cond.initialized RX5, Cond.code yX5_sentSymbol cX5_sentSymbol 2 (some .int), Cond.instanceMethod yX2_codeword, Cond.initialized RX2, Cond.selects RX2 yX2_codeword yX2_codeword, Cond.code yX2_codeword cX2_codeword 3 (some .long), Cond.fieldLink RX2 9 "NestedCodes$OuterCode" "parts" "[J", Cond.methodLink RX5 118 yX5_symbolIn, Cond.static yX5_symbolIn, Cond.code yX5_symbolIn cX5_symbolIn 3 (some .int), Cond.instanceMethod yX3_scoreOf, Cond.initialized RX3, Cond.selects RX3 yX3_scoreOf yX3_scoreOf, Cond.code yX3_scoreOf cX3_scoreOf 8 (some .int), Cond.fieldLink RX3 27 "NestedCodes$Reading" "length" "I", Cond.fieldLink RX3 18 "NestedCodes$Reading" "reliabilities" "[I", Cond.methodLink RX3 80 yX3_differingBlocks]
def wsX5_fragileBitsOf_r2 : List Cond := [Cond.instanceMethod yX3_differingBlocks, Cond.selects RX3 yX3_differingBlocks yX3_differingBlocks, Cond.code yX3_differingBlocks cX3_differingBlocks 3 (some .long), Cond.fieldLink RX3 31 "NestedCodes$Reading" "packedSymbols" "J", Cond.fieldLink RX3 35 "NestedCodes$Reading" "allBlocks" "J", Cond.static yX2_markSymbols, Cond.code yX2_markSymbols cX2_markSymbols 4 (some .long), Cond.constantLong RX2 19 (18764998447377), Cond.methodLink RX5 193 yX5_partInSentScore, Cond.instanceMethod yX5_partInSentScore, Cond.selects RX5 yX5_partInSentScore yX5_partInSentScore, Cond.code yX5_partInSentScore cX5_partInSentScore 3 (some .int), Cond.instanceMethod yX1_symbolOf, Cond.initialized RX1, Cond.selects RX1 yX1_symbolOf yX1_symbolOf, Cond.code yX1_symbolOf cX1_symbolOf 4 (some .int), Cond.methodLink RX1 35 yX1_bitsBetween, Cond.instanceMethod yX1_bitsBetween, Cond.selects RX1 yX1_bitsBetween yX1_bitsBetween, Cond.code yX1_bitsBetween cX1_bitsBetween 3 (some .int), Cond.fieldLink RX1 9 "NestedCodes$InnerCode" "words" "[I", Cond.methodLink RX1 23 yJ6_bitCount_0f7a4, Cond.static yJ6_bitCount_0f7a4, Cond.initialized RJ6]
def wsX5_fragileBitsOf_r3 : List Cond := [Cond.code yJ6_bitCount_0f7a4 cJ6_bitCount_0f7a4 1 (some .int), Cond.constant RJ6 265 (1431655765), Cond.constant RJ6 266 (858993459), Cond.constant RJ6 267 (252645135), Cond.instanceMethod yX1_reliability, Cond.selects RX1 yX1_reliability yX1_reliability, Cond.code yX1_reliability cX1_reliability 2 (some .int), Cond.fieldLink RX1 15 "NestedCodes$InnerCode" "distance" "I", Cond.methodLink RX1 38 Lib.Math.max.name, Cond.static Lib.Math.max.name, Cond.initialized "java/lang/Math", Cond.code Lib.Math.max.name Lib.Math.max.code 2 (some .int), Cond.methodLink RX5 187 yX5_lawBound, Cond.instanceMethod yX5_lawBound, Cond.selects RX5 yX5_lawBound yX5_lawBound, Cond.code yX5_lawBound cX5_lawBound 1 (some .int), Cond.instanceMethod yX4_outerDistance, Cond.initialized RX4, Cond.selects RX4 yX4_outerDistance yX4_outerDistance, Cond.code yX4_outerDistance cX4_outerDistance 1 (some .int), Cond.fieldLink RX4 9 "NestedCodes$State" "length" "I", Cond.fieldLink RX4 15 "NestedCodes$State" "dimension" "I"]
def wsX5_fragileBitsOf : List Cond := .code yX5_fragileBitsOf cX5_fragileBitsOf 10 (some .int) :: ((wsX5_fragileBitsOf_r1 ++ (wsX5_fragileBitsOf_r2 ++ wsX5_fragileBitsOf_r3)) ++ wsX50 ++ wsX40 ++ wsX20 ++ wsX30 ++ wsX10)
def wsX5_fragileBits_r1 : List Cond := [Cond.fieldLink RX5 10 "NestedCodes" "state" "LNestedCodes$State;", Cond.methodLink RX5 190 yX5_fragileBitsOf, Cond.instanceMethod yX5_fragileBitsOf, Cond.selects RX5 yX5_fragileBitsOf yX5_fragileBitsOf, Cond.initialized RX5, Cond.code yX5_fragileBitsOf cX5_fragileBitsOf 10 (some .int), Cond.fieldLink RX5 40 "NestedCodes" "reading" "LNestedCodes$Reading;", Cond.fieldLink RX5 33 "NestedCodes" "outer" "LNestedCodes$OuterCode;", Cond.fieldLink RX5 26 "NestedCodes" "inner" "LNestedCodes$InnerCode;", Cond.methodLink RX5 164 yX5_sentSymbol, Cond.instanceMethod yX5_sentSymbol, Cond.selects RX5 yX5_sentSymbol yX5_sentSymbol, Cond.code yX5_sentSymbol cX5_sentSymbol 2 (some .int), Cond.instanceMethod yX2_codeword, Cond.initialized RX2, Cond.selects RX2 yX2_codeword yX2_codeword, Cond.code yX2_codeword cX2_codeword 3 (some .long), Cond.fieldLink RX2 9 "NestedCodes$OuterCode" "parts" "[J", Cond.methodLink RX5 118 yX5_symbolIn, Cond.static yX5_symbolIn, Cond.code yX5_symbolIn cX5_symbolIn 3 (some .int), Cond.instanceMethod yX3_scoreOf, Cond.initialized RX3, Cond.selects RX3 yX3_scoreOf yX3_scoreOf]
def wsX5_fragileBits_r2 : List Cond := [Cond.code yX3_scoreOf cX3_scoreOf 8 (some .int), Cond.fieldLink RX3 27 "NestedCodes$Reading" "length" "I", Cond.fieldLink RX3 18 "NestedCodes$Reading" "reliabilities" "[I", Cond.methodLink RX3 80 yX3_differingBlocks, Cond.instanceMethod yX3_differingBlocks, Cond.selects RX3 yX3_differingBlocks yX3_differingBlocks, Cond.code yX3_differingBlocks cX3_differingBlocks 3 (some .long), Cond.fieldLink RX3 31 "NestedCodes$Reading" "packedSymbols" "J", Cond.fieldLink RX3 35 "NestedCodes$Reading" "allBlocks" "J", Cond.static yX2_markSymbols, Cond.code yX2_markSymbols cX2_markSymbols 4 (some .long), Cond.constantLong RX2 19 (18764998447377), Cond.methodLink RX5 193 yX5_partInSentScore, Cond.instanceMethod yX5_partInSentScore, Cond.selects RX5 yX5_partInSentScore yX5_partInSentScore, Cond.code yX5_partInSentScore cX5_partInSentScore 3 (some .int), Cond.instanceMethod yX1_symbolOf, Cond.initialized RX1, Cond.selects RX1 yX1_symbolOf yX1_symbolOf, Cond.code yX1_symbolOf cX1_symbolOf 4 (some .int), Cond.methodLink RX1 35 yX1_bitsBetween, Cond.instanceMethod yX1_bitsBetween, Cond.selects RX1 yX1_bitsBetween yX1_bitsBetween, Cond.code yX1_bitsBetween cX1_bitsBetween 3 (some .int)]
def wsX5_fragileBits_r3 : List Cond := [Cond.fieldLink RX1 9 "NestedCodes$InnerCode" "words" "[I", Cond.methodLink RX1 23 yJ6_bitCount_0f7a4, Cond.static yJ6_bitCount_0f7a4, Cond.initialized RJ6, Cond.code yJ6_bitCount_0f7a4 cJ6_bitCount_0f7a4 1 (some .int), Cond.constant RJ6 265 (1431655765), Cond.constant RJ6 266 (858993459), Cond.constant RJ6 267 (252645135), Cond.instanceMethod yX1_reliability, Cond.selects RX1 yX1_reliability yX1_reliability, Cond.code yX1_reliability cX1_reliability 2 (some .int), Cond.fieldLink RX1 15 "NestedCodes$InnerCode" "distance" "I", Cond.methodLink RX1 38 Lib.Math.max.name, Cond.static Lib.Math.max.name, Cond.initialized "java/lang/Math", Cond.code Lib.Math.max.name Lib.Math.max.code 2 (some .int), Cond.methodLink RX5 187 yX5_lawBound, Cond.instanceMethod yX5_lawBound, Cond.selects RX5 yX5_lawBound yX5_lawBound, Cond.code yX5_lawBound cX5_lawBound 1 (some .int), Cond.instanceMethod yX4_outerDistance, Cond.initialized RX4, Cond.selects RX4 yX4_outerDistance yX4_outerDistance, Cond.code yX4_outerDistance cX4_outerDistance 1 (some .int)]
def wsX5_fragileBits_r4 : List Cond := [Cond.fieldLink RX4 9 "NestedCodes$State" "length" "I", Cond.fieldLink RX4 15 "NestedCodes$State" "dimension" "I"]
def wsX5_fragileBits : List Cond := .code yX5_fragileBits cX5_fragileBits 3 (some .int) :: ((wsX5_fragileBits_r1 ++ (wsX5_fragileBits_r2 ++ (wsX5_fragileBits_r3 ++ wsX5_fragileBits_r4))) ++ wsX50 ++ wsX40 ++ wsX20 ++ wsX30 ++ wsX10)
def wsX5_fragileBlocks_r1 : List Cond := [Cond.fieldLink RX5 40 "NestedCodes" "reading" "LNestedCodes$Reading;", Cond.fieldLink RX5 33 "NestedCodes" "outer" "LNestedCodes$OuterCode;", Cond.fieldLink RX5 10 "NestedCodes" "state" "LNestedCodes$State;", Cond.instanceMethod yX2_codeword, Cond.initialized RX2, Cond.selects RX2 yX2_codeword yX2_codeword, Cond.code yX2_codeword cX2_codeword 3 (some .long), Cond.fieldLink RX2 9 "NestedCodes$OuterCode" "parts" "[J", Cond.instanceMethod yX3_scoreOf, Cond.initialized RX3, Cond.selects RX3 yX3_scoreOf yX3_scoreOf, Cond.code yX3_scoreOf cX3_scoreOf 8 (some .int), Cond.fieldLink RX3 27 "NestedCodes$Reading" "length" "I", Cond.fieldLink RX3 18 "NestedCodes$Reading" "reliabilities" "[I", Cond.methodLink RX3 80 yX3_differingBlocks, Cond.instanceMethod yX3_differingBlocks, Cond.selects RX3 yX3_differingBlocks yX3_differingBlocks, Cond.code yX3_differingBlocks cX3_differingBlocks 3 (some .long), Cond.fieldLink RX3 31 "NestedCodes$Reading" "packedSymbols" "J", Cond.fieldLink RX3 35 "NestedCodes$Reading" "allBlocks" "J", Cond.static yX2_markSymbols, Cond.code yX2_markSymbols cX2_markSymbols 4 (some .long), Cond.constantLong RX2 19 (18764998447377), Cond.methodLink RX5 193 yX5_partInSentScore]
def wsX5_fragileBlocks_r2 : List Cond := [Cond.instanceMethod yX5_partInSentScore, Cond.selects RX5 yX5_partInSentScore yX5_partInSentScore, Cond.initialized RX5, Cond.code yX5_partInSentScore cX5_partInSentScore 3 (some .int), Cond.methodLink RX5 164 yX5_sentSymbol, Cond.instanceMethod yX5_sentSymbol, Cond.selects RX5 yX5_sentSymbol yX5_sentSymbol, Cond.code yX5_sentSymbol cX5_sentSymbol 2 (some .int), Cond.methodLink RX5 118 yX5_symbolIn, Cond.static yX5_symbolIn, Cond.code yX5_symbolIn cX5_symbolIn 3 (some .int), Cond.methodLink RX5 187 yX5_lawBound, Cond.instanceMethod yX5_lawBound, Cond.selects RX5 yX5_lawBound yX5_lawBound, Cond.code yX5_lawBound cX5_lawBound 1 (some .int), Cond.fieldLink RX5 26 "NestedCodes" "inner" "LNestedCodes$InnerCode;", Cond.instanceMethod yX4_outerDistance, Cond.initialized RX4, Cond.selects RX4 yX4_outerDistance yX4_outerDistance, Cond.code yX4_outerDistance cX4_outerDistance 1 (some .int), Cond.fieldLink RX4 9 "NestedCodes$State" "length" "I", Cond.fieldLink RX4 15 "NestedCodes$State" "dimension" "I"]
def wsX5_fragileBlocks : List Cond := .code yX5_fragileBlocks cX5_fragileBlocks 4 (some .int) :: ((wsX5_fragileBlocks_r1 ++ wsX5_fragileBlocks_r2) ++ wsX50 ++ wsX40 ++ wsX20 ++ wsX30 ++ wsX10)
def wsX5_nearestMessage_r1 : List Cond := [Cond.fieldLink RX5 33 "NestedCodes" "outer" "LNestedCodes$OuterCode;", Cond.fieldLink RX5 10 "NestedCodes" "state" "LNestedCodes$State;", Cond.instanceMethod yX2_codeword, Cond.initialized RX2, Cond.selects RX2 yX2_codeword yX2_codeword, Cond.code yX2_codeword cX2_codeword 3 (some .long), Cond.fieldLink RX2 9 "NestedCodes$OuterCode" "parts" "[J", Cond.instanceMethod yX4_messages, Cond.initialized RX4, Cond.selects RX4 yX4_messages yX4_messages, Cond.code yX4_messages cX4_messages 1 (some .int), Cond.fieldLink RX4 15 "NestedCodes$State" "dimension" "I", Cond.static yX2_markSymbols, Cond.code yX2_markSymbols cX2_markSymbols 4 (some .long), Cond.constantLong RX2 19 (18764998447377), Cond.static yX2_marks, Cond.code yX2_marks cX2_marks 1 (some .long), Cond.methodLink RX5 223 yJ13_bitCount_95d88, Cond.static yJ13_bitCount_95d88, Cond.initialized RJ13, Cond.code yJ13_bitCount_95d88 cJ13_bitCount_95d88 2 (some .int), Cond.constantLong RJ13 314 (6148914691236517205), Cond.constantLong RJ13 316 (3689348814741910323), Cond.constantLong RJ13 318 (1085102592571150095)]
def wsX5_nearestMessage_r2 : List Cond := [Cond.instanceMethod yX4_outerDistance, Cond.selects RX4 yX4_outerDistance yX4_outerDistance, Cond.code yX4_outerDistance cX4_outerDistance 1 (some .int), Cond.fieldLink RX4 9 "NestedCodes$State" "length" "I"]
def wsX5_nearestMessage : List Cond := .code yX5_nearestMessage cX5_nearestMessage 9 (some .int) :: ((wsX5_nearestMessage_r1 ++ wsX5_nearestMessage_r2) ++ wsX50 ++ wsX40 ++ wsX20)
def wsX5_nearest_r1 : List Cond := [Cond.fieldLink RX5 10 "NestedCodes" "state" "LNestedCodes$State;", Cond.methodLink RX5 149 yX5_lawfulMessage, Cond.instanceMethod yX5_lawfulMessage, Cond.selects RX5 yX5_lawfulMessage yX5_lawfulMessage, Cond.initialized RX5, Cond.code yX5_lawfulMessage cX5_lawfulMessage 7 (some .int), Cond.fieldLink RX5 33 "NestedCodes" "outer" "LNestedCodes$OuterCode;", Cond.fieldLink RX5 40 "NestedCodes" "reading" "LNestedCodes$Reading;", Cond.methodLink RX5 187 yX5_lawBound, Cond.instanceMethod yX5_lawBound, Cond.selects RX5 yX5_lawBound yX5_lawBound, Cond.code yX5_lawBound cX5_lawBound 1 (some .int), Cond.fieldLink RX5 26 "NestedCodes" "inner" "LNestedCodes$InnerCode;", Cond.instanceMethod yX4_outerDistance, Cond.initialized RX4, Cond.selects RX4 yX4_outerDistance yX4_outerDistance, Cond.code yX4_outerDistance cX4_outerDistance 1 (some .int), Cond.fieldLink RX4 9 "NestedCodes$State" "length" "I", Cond.fieldLink RX4 15 "NestedCodes$State" "dimension" "I", Cond.instanceMethod yX4_messages, Cond.selects RX4 yX4_messages yX4_messages, Cond.code yX4_messages cX4_messages 1 (some .int), Cond.instanceMethod yX2_codeword, Cond.initialized RX2]
def wsX5_nearest_r2 : List Cond := [Cond.selects RX2 yX2_codeword yX2_codeword, Cond.code yX2_codeword cX2_codeword 3 (some .long), Cond.fieldLink RX2 9 "NestedCodes$OuterCode" "parts" "[J", Cond.instanceMethod yX3_differingBlocks, Cond.initialized RX3, Cond.selects RX3 yX3_differingBlocks yX3_differingBlocks, Cond.code yX3_differingBlocks cX3_differingBlocks 3 (some .long), Cond.fieldLink RX3 31 "NestedCodes$Reading" "packedSymbols" "J", Cond.fieldLink RX3 35 "NestedCodes$Reading" "allBlocks" "J", Cond.static yX2_markSymbols, Cond.code yX2_markSymbols cX2_markSymbols 4 (some .long), Cond.constantLong RX2 19 (18764998447377), Cond.methodLink RX5 223 yJ13_bitCount_95d88, Cond.static yJ13_bitCount_95d88, Cond.initialized RJ13, Cond.code yJ13_bitCount_95d88 cJ13_bitCount_95d88 2 (some .int), Cond.constantLong RJ13 314 (6148914691236517205), Cond.constantLong RJ13 316 (3689348814741910323), Cond.constantLong RJ13 318 (1085102592571150095), Cond.instanceMethod yX3_scoreOf, Cond.selects RX3 yX3_scoreOf yX3_scoreOf, Cond.code yX3_scoreOf cX3_scoreOf 8 (some .int), Cond.fieldLink RX3 27 "NestedCodes$Reading" "length" "I", Cond.fieldLink RX3 18 "NestedCodes$Reading" "reliabilities" "[I"]
def wsX5_nearest_r3 : List Cond := [Cond.methodLink RX3 80 yX3_differingBlocks, Cond.methodLink RX5 196 yX5_nearestMessage, Cond.instanceMethod yX5_nearestMessage, Cond.selects RX5 yX5_nearestMessage yX5_nearestMessage, Cond.code yX5_nearestMessage cX5_nearestMessage 9 (some .int), Cond.static yX2_marks, Cond.code yX2_marks cX2_marks 1 (some .long)]
def wsX5_nearest : List Cond := .code yX5_nearest cX5_nearest 3 (some .int) :: ((wsX5_nearest_r1 ++ (wsX5_nearest_r2 ++ wsX5_nearest_r3)) ++ wsX50 ++ wsX10 ++ wsX40 ++ wsX20 ++ wsX30)
def wsX6_multiplied : List Cond := .code yX6_multiplied cX6_multiplied 4 (some .int) :: ([])
def wsX6_ones : List Cond := .code yX6_ones cX6_ones 3 (some .int) :: ([])
def wsX6_prepares : List Cond := .code yX6_prepares cX6_prepares 4 none :: ([.fieldLink RX6 55 "NestedCodesModel" "least" "I", .fieldLink RX6 27 "NestedCodesModel" "word" "[I", .fieldLink RX6 7 "NestedCodesModel" "d" "[I", .fieldLink RX6 33 "NestedCodesModel" "gap" "[I", .fieldLink RX6 30 "NestedCodesModel" "symbol" "[I", .methodLink RX6 59 yX6_ones, .static yX6_ones, .initialized RX6, .code yX6_ones cX6_ones 3 (some .int)] ++ wsX60)
def wsX6_init_r1 : List Cond := [Cond.methodLink RX6 1 objectInit, Cond.instanceMethod objectInit, Cond.code objectInit ⟨#[0xb1]⟩ 1 none, Cond.arrayClass .int, Cond.fieldLink RX6 7 "NestedCodesModel" "d" "[I", Cond.fieldLink RX6 13 "NestedCodesModel" "was" "[I", Cond.fieldLink RX6 16 "NestedCodesModel" "waiting" "[I", Cond.fieldLink RX6 19 "NestedCodesModel" "times" "[I", Cond.constant RX6 22 (49152), Cond.arrayClass .byte, Cond.fieldLink RX6 23 "NestedCodesModel" "code" "[B", Cond.fieldLink RX6 27 "NestedCodesModel" "word" "[I", Cond.fieldLink RX6 30 "NestedCodesModel" "symbol" "[I", Cond.fieldLink RX6 33 "NestedCodesModel" "gap" "[I", Cond.fieldLink RX6 36 "NestedCodesModel" "its" "[I", Cond.fieldLink RX6 39 "NestedCodesModel" "far" "[I", Cond.fieldLink RX6 42 "NestedCodesModel" "trust" "[I", Cond.fieldLink RX6 45 "NestedCodesModel" "order" "[I", Cond.methodLink RX6 48 yX6_multiplied, Cond.static yX6_multiplied, Cond.initialized RX6, Cond.code yX6_multiplied cX6_multiplied 4 (some .int), Cond.methodLink RX6 52 yX6_prepares, Cond.instanceMethod yX6_prepares]
def wsX6_init_r2 : List Cond := [Cond.selects RX6 yX6_prepares yX6_prepares, Cond.code yX6_prepares cX6_prepares 4 none, Cond.fieldLink RX6 55 "NestedCodesModel" "least" "I", Cond.methodLink RX6 59 yX6_ones, Cond.static yX6_ones, Cond.code yX6_ones cX6_ones 3 (some .int)]
def wsX6_init : List Cond := .code yX6_init cX6_init 4 none :: ((wsX6_init_r1 ++ wsX6_init_r2) ++ wsX60)
def wsX6_in : List Cond := .code yX6_in cX6_in 3 (some .boolean) :: ([])
def wsX6_isBlock : List Cond := .code yX6_isBlock cX6_isBlock 2 (some .boolean) :: ([.fieldLink RX6 7 "NestedCodesModel" "d" "[I", .methodLink RX6 63 yX6_in, .static yX6_in, .initialized RX6, .code yX6_in cX6_in 3 (some .boolean)] ++ wsX60)
def wsX6_isLost : List Cond := .code yX6_isLost cX6_isLost 2 (some .boolean) :: ([.fieldLink RX6 7 "NestedCodesModel" "d" "[I"] ++ wsX60)
def wsX6_messages : List Cond := .code yX6_messages cX6_messages 1 (some .int) :: ([.fieldLink RX6 7 "NestedCodesModel" "d" "[I"] ++ wsX60)
def wsX6_isMessage : List Cond := .code yX6_isMessage cX6_isMessage 2 (some .boolean) :: ([.methodLink RX6 67 yX6_messages, .instanceMethod yX6_messages, .selects RX6 yX6_messages yX6_messages, .initialized RX6, .code yX6_messages cX6_messages 1 (some .int), .fieldLink RX6 7 "NestedCodesModel" "d" "[I", .methodLink RX6 63 yX6_in, .static yX6_in, .code yX6_in cX6_in 3 (some .boolean)] ++ wsX60)
def wsX6_distance : List Cond := .code yX6_distance cX6_distance 1 (some .int) :: ([.fieldLink RX6 7 "NestedCodesModel" "d" "[I"] ++ wsX60)
def wsX6_records : List Cond := .code yX6_records cX6_records 2 none :: ([.fieldLink RX6 71 "NestedCodesModel" "states" "I", .fieldLink RX6 13 "NestedCodesModel" "was" "[I", .fieldLink RX6 7 "NestedCodesModel" "d" "[I"] ++ wsX60)
def wsX6_empties : List Cond := .code yX6_empties cX6_empties 2 none :: ([.fieldLink RX6 7 "NestedCodesModel" "d" "[I"] ++ wsX60)
def wsX6_setOuter : List Cond := .code yX6_setOuter cX6_setOuter 4 (some .int) :: ([.fieldLink RX6 7 "NestedCodesModel" "d" "[I", .methodLink RX6 63 yX6_in, .static yX6_in, .initialized RX6, .code yX6_in cX6_in 3 (some .boolean), .methodLink RX6 74 yX6_records, .instanceMethod yX6_records, .selects RX6 yX6_records yX6_records, .code yX6_records cX6_records 2 none, .fieldLink RX6 71 "NestedCodesModel" "states" "I", .fieldLink RX6 13 "NestedCodesModel" "was" "[I", .methodLink RX6 77 yX6_empties, .instanceMethod yX6_empties, .selects RX6 yX6_empties yX6_empties, .code yX6_empties cX6_empties 2 none] ++ wsX60)
def wsX6_generator : List Cond := .code yX6_generator cX6_generator 2 (some .int) :: ([.fieldLink RX6 80 "NestedCodesModel" "waits" "I", .fieldLink RX6 16 "NestedCodesModel" "waiting" "[I", .methodLink RX6 63 yX6_in, .static yX6_in, .initialized RX6, .code yX6_in cX6_in 3 (some .boolean)] ++ wsX60)
def wsX6_clearGenerators : List Cond := .code yX6_clearGenerators cX6_clearGenerators 2 (some .int) :: ([.fieldLink RX6 80 "NestedCodesModel" "waits" "I"] ++ wsX60)
def wsX6_areGenerators : List Cond := .code yX6_areGenerators cX6_areGenerators 6 (some .boolean) :: ([.fieldLink RX6 80 "NestedCodesModel" "waits" "I", .fieldLink RX6 16 "NestedCodesModel" "waiting" "[I"] ++ wsX60)
def wsX6_setInner_r1 : List Cond := [Cond.fieldLink RX6 7 "NestedCodesModel" "d" "[I", Cond.fieldLink RX6 16 "NestedCodesModel" "waiting" "[I", Cond.fieldLink RX6 80 "NestedCodesModel" "waits" "I", Cond.fieldLink RX6 55 "NestedCodesModel" "least" "I", Cond.methodLink RX6 63 yX6_in, Cond.static yX6_in, Cond.initialized RX6, Cond.code yX6_in cX6_in 3 (some .boolean), Cond.methodLink RX6 83 yX6_areGenerators, Cond.instanceMethod yX6_areGenerators, Cond.selects RX6 yX6_areGenerators yX6_areGenerators, Cond.code yX6_areGenerators cX6_areGenerators 6 (some .boolean), Cond.methodLink RX6 74 yX6_records, Cond.instanceMethod yX6_records, Cond.selects RX6 yX6_records yX6_records, Cond.code yX6_records cX6_records 2 none, Cond.fieldLink RX6 71 "NestedCodesModel" "states" "I", Cond.fieldLink RX6 13 "NestedCodesModel" "was" "[I", Cond.methodLink RX6 77 yX6_empties, Cond.instanceMethod yX6_empties, Cond.selects RX6 yX6_empties yX6_empties, Cond.code yX6_empties cX6_empties 2 none, Cond.methodLink RX6 52 yX6_prepares, Cond.instanceMethod yX6_prepares]
def wsX6_setInner_r2 : List Cond := [Cond.selects RX6 yX6_prepares yX6_prepares, Cond.code yX6_prepares cX6_prepares 4 none, Cond.fieldLink RX6 27 "NestedCodesModel" "word" "[I", Cond.fieldLink RX6 33 "NestedCodesModel" "gap" "[I", Cond.fieldLink RX6 30 "NestedCodesModel" "symbol" "[I", Cond.methodLink RX6 59 yX6_ones, Cond.static yX6_ones, Cond.code yX6_ones cX6_ones 3 (some .int)]
def wsX6_setInner : List Cond := .code yX6_setInner cX6_setInner 3 (some .int) :: ((wsX6_setInner_r1 ++ wsX6_setInner_r2) ++ wsX60)
def wsX6_undo : List Cond := .code yX6_undo cX6_undo 2 (some .int) :: ([.fieldLink RX6 71 "NestedCodesModel" "states" "I", .fieldLink RX6 7 "NestedCodesModel" "d" "[I", .fieldLink RX6 13 "NestedCodesModel" "was" "[I", .methodLink RX6 52 yX6_prepares, .instanceMethod yX6_prepares, .selects RX6 yX6_prepares yX6_prepares, .initialized RX6, .code yX6_prepares cX6_prepares 4 none, .fieldLink RX6 55 "NestedCodesModel" "least" "I", .fieldLink RX6 27 "NestedCodesModel" "word" "[I", .fieldLink RX6 33 "NestedCodesModel" "gap" "[I", .fieldLink RX6 30 "NestedCodesModel" "symbol" "[I", .methodLink RX6 59 yX6_ones, .static yX6_ones, .code yX6_ones cX6_ones 3 (some .int)] ++ wsX60)
def wsX6_wrongBits : List Cond := .code yX6_wrongBits cX6_wrongBits 3 (some .int) :: ([.fieldLink RX6 7 "NestedCodesModel" "d" "[I", .fieldLink RX6 27 "NestedCodesModel" "word" "[I", .fieldLink RX6 23 "NestedCodesModel" "code" "[B", .methodLink RX6 87 yX6_isLost, .instanceMethod yX6_isLost, .selects RX6 yX6_isLost yX6_isLost, .initialized RX6, .code yX6_isLost cX6_isLost 2 (some .boolean), .methodLink RX6 59 yX6_ones, .static yX6_ones, .code yX6_ones cX6_ones 3 (some .int)] ++ wsX60)
def wsX6_count : List Cond := .code yX6_count cX6_count 2 (some .int) :: ([.fieldLink RX6 7 "NestedCodesModel" "d" "[I", .fieldLink RX6 55 "NestedCodesModel" "least" "I", .fieldLink RX6 80 "NestedCodesModel" "waits" "I", .fieldLink RX6 71 "NestedCodesModel" "states" "I", .methodLink RX6 90 yX6_distance, .instanceMethod yX6_distance, .selects RX6 yX6_distance yX6_distance, .initialized RX6, .code yX6_distance cX6_distance 1 (some .int), .methodLink RX6 59 yX6_ones, .static yX6_ones, .code yX6_ones cX6_ones 3 (some .int), .methodLink RX6 93 yX6_wrongBits, .instanceMethod yX6_wrongBits, .selects RX6 yX6_wrongBits yX6_wrongBits, .code yX6_wrongBits cX6_wrongBits 3 (some .int), .fieldLink RX6 27 "NestedCodesModel" "word" "[I", .fieldLink RX6 23 "NestedCodesModel" "code" "[B", .methodLink RX6 87 yX6_isLost, .instanceMethod yX6_isLost, .selects RX6 yX6_isLost yX6_isLost, .code yX6_isLost cX6_isLost 2 (some .boolean)] ++ wsX60)
def wsX6_wordOf : List Cond := .code yX6_wordOf cX6_wordOf 2 (some .int) :: ([.fieldLink RX6 27 "NestedCodesModel" "word" "[I", .methodLink RX6 63 yX6_in, .static yX6_in, .initialized RX6, .code yX6_in cX6_in 3 (some .boolean)] ++ wsX60)
def wsX6_product : List Cond := .code yX6_product cX6_product 3 (some .int) :: ([.fieldLink RX6 19 "NestedCodesModel" "times" "[I", .methodLink RX6 63 yX6_in, .static yX6_in, .initialized RX6, .code yX6_in cX6_in 3 (some .boolean)] ++ wsX60)
def wsX6_symbolFor : List Cond := .code yX6_symbolFor cX6_symbolFor 3 (some .int) :: ([.fieldLink RX6 23 "NestedCodesModel" "code" "[B", .methodLink RX6 96 yX6_isMessage, .instanceMethod yX6_isMessage, .selects RX6 yX6_isMessage yX6_isMessage, .initialized RX6, .code yX6_isMessage cX6_isMessage 2 (some .boolean), .methodLink RX6 67 yX6_messages, .instanceMethod yX6_messages, .selects RX6 yX6_messages yX6_messages, .code yX6_messages cX6_messages 1 (some .int), .fieldLink RX6 7 "NestedCodesModel" "d" "[I", .methodLink RX6 63 yX6_in, .static yX6_in, .code yX6_in cX6_in 3 (some .boolean), .methodLink RX6 99 yX6_isBlock, .instanceMethod yX6_isBlock, .selects RX6 yX6_isBlock yX6_isBlock, .code yX6_isBlock cX6_isBlock 2 (some .boolean)] ++ wsX60)
def wsX6_send_r1 : List Cond := [Cond.fieldLink RX6 7 "NestedCodesModel" "d" "[I", Cond.fieldLink RX6 27 "NestedCodesModel" "word" "[I", Cond.fieldLink RX6 23 "NestedCodesModel" "code" "[B", Cond.methodLink RX6 96 yX6_isMessage, Cond.instanceMethod yX6_isMessage, Cond.selects RX6 yX6_isMessage yX6_isMessage, Cond.initialized RX6, Cond.code yX6_isMessage cX6_isMessage 2 (some .boolean), Cond.methodLink RX6 67 yX6_messages, Cond.instanceMethod yX6_messages, Cond.selects RX6 yX6_messages yX6_messages, Cond.code yX6_messages cX6_messages 1 (some .int), Cond.methodLink RX6 63 yX6_in, Cond.static yX6_in, Cond.code yX6_in cX6_in 3 (some .boolean), Cond.methodLink RX6 74 yX6_records, Cond.instanceMethod yX6_records, Cond.selects RX6 yX6_records yX6_records, Cond.code yX6_records cX6_records 2 none, Cond.fieldLink RX6 71 "NestedCodesModel" "states" "I", Cond.fieldLink RX6 13 "NestedCodesModel" "was" "[I", Cond.methodLink RX6 77 yX6_empties, Cond.instanceMethod yX6_empties, Cond.selects RX6 yX6_empties yX6_empties]
def wsX6_send_r2 : List Cond := [Cond.code yX6_empties cX6_empties 2 none, Cond.methodLink RX6 59 yX6_ones, Cond.static yX6_ones, Cond.code yX6_ones cX6_ones 3 (some .int)]
def wsX6_send : List Cond := .code yX6_send cX6_send 4 (some .int) :: ((wsX6_send_r1 ++ wsX6_send_r2) ++ wsX60)
def wsX6_flip : List Cond := .code yX6_flip cX6_flip 3 (some .int) :: ([.fieldLink RX6 7 "NestedCodesModel" "d" "[I", .fieldLink RX6 33 "NestedCodesModel" "gap" "[I", .methodLink RX6 99 yX6_isBlock, .instanceMethod yX6_isBlock, .selects RX6 yX6_isBlock yX6_isBlock, .initialized RX6, .code yX6_isBlock cX6_isBlock 2 (some .boolean), .methodLink RX6 63 yX6_in, .static yX6_in, .code yX6_in cX6_in 3 (some .boolean), .methodLink RX6 87 yX6_isLost, .instanceMethod yX6_isLost, .selects RX6 yX6_isLost yX6_isLost, .code yX6_isLost cX6_isLost 2 (some .boolean), .methodLink RX6 74 yX6_records, .instanceMethod yX6_records, .selects RX6 yX6_records yX6_records, .code yX6_records cX6_records 2 none, .fieldLink RX6 71 "NestedCodesModel" "states" "I", .fieldLink RX6 13 "NestedCodesModel" "was" "[I"] ++ wsX60)
def wsX6_lose : List Cond := .code yX6_lose cX6_lose 4 (some .int) :: ([.fieldLink RX6 7 "NestedCodesModel" "d" "[I", .methodLink RX6 99 yX6_isBlock, .instanceMethod yX6_isBlock, .selects RX6 yX6_isBlock yX6_isBlock, .initialized RX6, .code yX6_isBlock cX6_isBlock 2 (some .boolean), .methodLink RX6 63 yX6_in, .static yX6_in, .code yX6_in cX6_in 3 (some .boolean), .methodLink RX6 74 yX6_records, .instanceMethod yX6_records, .selects RX6 yX6_records yX6_records, .code yX6_records cX6_records 2 none, .fieldLink RX6 71 "NestedCodesModel" "states" "I", .fieldLink RX6 13 "NestedCodesModel" "was" "[I"] ++ wsX60)
def wsX6_burst : List Cond := .code yX6_burst cX6_burst 5 (some .int) :: ([.fieldLink RX6 7 "NestedCodesModel" "d" "[I", .methodLink RX6 63 yX6_in, .static yX6_in, .initialized RX6, .code yX6_in cX6_in 3 (some .boolean), .methodLink RX6 74 yX6_records, .instanceMethod yX6_records, .selects RX6 yX6_records yX6_records, .code yX6_records cX6_records 2 none, .fieldLink RX6 71 "NestedCodesModel" "states" "I", .fieldLink RX6 13 "NestedCodesModel" "was" "[I"] ++ wsX60)
def wsX6_judges : List Cond := .code yX6_judges cX6_judges 3 none :: ([.fieldLink RX6 7 "NestedCodesModel" "d" "[I", .fieldLink RX6 36 "NestedCodesModel" "its" "[I", .fieldLink RX6 30 "NestedCodesModel" "symbol" "[I", .fieldLink RX6 39 "NestedCodesModel" "far" "[I", .fieldLink RX6 33 "NestedCodesModel" "gap" "[I", .fieldLink RX6 42 "NestedCodesModel" "trust" "[I", .fieldLink RX6 55 "NestedCodesModel" "least" "I", .fieldLink RX6 45 "NestedCodesModel" "order" "[I", .methodLink RX6 87 yX6_isLost, .instanceMethod yX6_isLost, .selects RX6 yX6_isLost yX6_isLost, .initialized RX6, .code yX6_isLost cX6_isLost 2 (some .boolean)] ++ wsX60)
def wsX6_scoreOf : List Cond := .code yX6_scoreOf cX6_scoreOf 4 (some .int) :: ([.fieldLink RX6 7 "NestedCodesModel" "d" "[I", .fieldLink RX6 36 "NestedCodesModel" "its" "[I", .fieldLink RX6 23 "NestedCodesModel" "code" "[B", .fieldLink RX6 42 "NestedCodesModel" "trust" "[I"] ++ wsX60)
def wsX6_bar : List Cond := .code yX6_bar cX6_bar 1 (some .int) :: ([.fieldLink RX6 55 "NestedCodesModel" "least" "I", .fieldLink RX6 7 "NestedCodesModel" "d" "[I", .methodLink RX6 90 yX6_distance, .instanceMethod yX6_distance, .selects RX6 yX6_distance yX6_distance, .initialized RX6, .code yX6_distance cX6_distance 1 (some .int)] ++ wsX60)
def wsX6_isResult : List Cond := .code yX6_isResult cX6_isResult 5 (some .boolean) :: ([.fieldLink RX6 7 "NestedCodesModel" "d" "[I", .fieldLink RX6 36 "NestedCodesModel" "its" "[I", .fieldLink RX6 45 "NestedCodesModel" "order" "[I", .fieldLink RX6 23 "NestedCodesModel" "code" "[B", .methodLink RX6 90 yX6_distance, .instanceMethod yX6_distance, .selects RX6 yX6_distance yX6_distance, .initialized RX6, .code yX6_distance cX6_distance 1 (some .int)] ++ wsX60)
def wsX6_trialOf : List Cond := .code yX6_trialOf cX6_trialOf 3 (some .int) :: ([.methodLink RX6 90 yX6_distance, .instanceMethod yX6_distance, .selects RX6 yX6_distance yX6_distance, .initialized RX6, .code yX6_distance cX6_distance 1 (some .int), .fieldLink RX6 7 "NestedCodesModel" "d" "[I", .methodLink RX6 111 yX6_isResult, .instanceMethod yX6_isResult, .selects RX6 yX6_isResult yX6_isResult, .code yX6_isResult cX6_isResult 5 (some .boolean), .fieldLink RX6 36 "NestedCodesModel" "its" "[I", .fieldLink RX6 45 "NestedCodesModel" "order" "[I", .fieldLink RX6 23 "NestedCodesModel" "code" "[B"] ++ wsX60)
def wsX6_decodes_r1 : List Cond := [Cond.fieldLink RX6 115 "NestedCodesModel" "found" "I", Cond.fieldLink RX6 118 "NestedCodesModel" "deciding" "I", Cond.methodLink RX6 105 yX6_judges, Cond.instanceMethod yX6_judges, Cond.selects RX6 yX6_judges yX6_judges, Cond.initialized RX6, Cond.code yX6_judges cX6_judges 3 none, Cond.fieldLink RX6 7 "NestedCodesModel" "d" "[I", Cond.fieldLink RX6 36 "NestedCodesModel" "its" "[I", Cond.fieldLink RX6 30 "NestedCodesModel" "symbol" "[I", Cond.fieldLink RX6 39 "NestedCodesModel" "far" "[I", Cond.fieldLink RX6 33 "NestedCodesModel" "gap" "[I", Cond.fieldLink RX6 42 "NestedCodesModel" "trust" "[I", Cond.fieldLink RX6 55 "NestedCodesModel" "least" "I", Cond.fieldLink RX6 45 "NestedCodesModel" "order" "[I", Cond.methodLink RX6 87 yX6_isLost, Cond.instanceMethod yX6_isLost, Cond.selects RX6 yX6_isLost yX6_isLost, Cond.code yX6_isLost cX6_isLost 2 (some .boolean), Cond.methodLink RX6 67 yX6_messages, Cond.instanceMethod yX6_messages, Cond.selects RX6 yX6_messages yX6_messages, Cond.code yX6_messages cX6_messages 1 (some .int), Cond.methodLink RX6 121 yX6_scoreOf]
def wsX6_decodes_r2 : List Cond := [Cond.instanceMethod yX6_scoreOf, Cond.selects RX6 yX6_scoreOf yX6_scoreOf, Cond.code yX6_scoreOf cX6_scoreOf 4 (some .int), Cond.fieldLink RX6 23 "NestedCodesModel" "code" "[B", Cond.methodLink RX6 124 yX6_bar, Cond.instanceMethod yX6_bar, Cond.selects RX6 yX6_bar yX6_bar, Cond.code yX6_bar cX6_bar 1 (some .int), Cond.methodLink RX6 90 yX6_distance, Cond.instanceMethod yX6_distance, Cond.selects RX6 yX6_distance yX6_distance, Cond.code yX6_distance cX6_distance 1 (some .int), Cond.methodLink RX6 127 yX6_trialOf, Cond.instanceMethod yX6_trialOf, Cond.selects RX6 yX6_trialOf yX6_trialOf, Cond.code yX6_trialOf cX6_trialOf 3 (some .int), Cond.methodLink RX6 111 yX6_isResult, Cond.instanceMethod yX6_isResult, Cond.selects RX6 yX6_isResult yX6_isResult, Cond.code yX6_isResult cX6_isResult 5 (some .boolean)]
def wsX6_decodes : List Cond := .code yX6_decodes cX6_decodes 3 none :: ((wsX6_decodes_r1 ++ wsX6_decodes_r2) ++ wsX60)
def wsX6_decode_r1 : List Cond := [Cond.fieldLink RX6 115 "NestedCodesModel" "found" "I", Cond.methodLink RX6 130 yX6_decodes, Cond.instanceMethod yX6_decodes, Cond.selects RX6 yX6_decodes yX6_decodes, Cond.initialized RX6, Cond.code yX6_decodes cX6_decodes 3 none, Cond.fieldLink RX6 118 "NestedCodesModel" "deciding" "I", Cond.methodLink RX6 105 yX6_judges, Cond.instanceMethod yX6_judges, Cond.selects RX6 yX6_judges yX6_judges, Cond.code yX6_judges cX6_judges 3 none, Cond.fieldLink RX6 7 "NestedCodesModel" "d" "[I", Cond.fieldLink RX6 36 "NestedCodesModel" "its" "[I", Cond.fieldLink RX6 30 "NestedCodesModel" "symbol" "[I", Cond.fieldLink RX6 39 "NestedCodesModel" "far" "[I", Cond.fieldLink RX6 33 "NestedCodesModel" "gap" "[I", Cond.fieldLink RX6 42 "NestedCodesModel" "trust" "[I", Cond.fieldLink RX6 55 "NestedCodesModel" "least" "I", Cond.fieldLink RX6 45 "NestedCodesModel" "order" "[I", Cond.methodLink RX6 87 yX6_isLost, Cond.instanceMethod yX6_isLost, Cond.selects RX6 yX6_isLost yX6_isLost, Cond.code yX6_isLost cX6_isLost 2 (some .boolean), Cond.methodLink RX6 67 yX6_messages]
def wsX6_decode_r2 : List Cond := [Cond.instanceMethod yX6_messages, Cond.selects RX6 yX6_messages yX6_messages, Cond.code yX6_messages cX6_messages 1 (some .int), Cond.methodLink RX6 121 yX6_scoreOf, Cond.instanceMethod yX6_scoreOf, Cond.selects RX6 yX6_scoreOf yX6_scoreOf, Cond.code yX6_scoreOf cX6_scoreOf 4 (some .int), Cond.fieldLink RX6 23 "NestedCodesModel" "code" "[B", Cond.methodLink RX6 124 yX6_bar, Cond.instanceMethod yX6_bar, Cond.selects RX6 yX6_bar yX6_bar, Cond.code yX6_bar cX6_bar 1 (some .int), Cond.methodLink RX6 90 yX6_distance, Cond.instanceMethod yX6_distance, Cond.selects RX6 yX6_distance yX6_distance, Cond.code yX6_distance cX6_distance 1 (some .int), Cond.methodLink RX6 127 yX6_trialOf, Cond.instanceMethod yX6_trialOf, Cond.selects RX6 yX6_trialOf yX6_trialOf, Cond.code yX6_trialOf cX6_trialOf 3 (some .int), Cond.methodLink RX6 111 yX6_isResult, Cond.instanceMethod yX6_isResult, Cond.selects RX6 yX6_isResult yX6_isResult, Cond.code yX6_isResult cX6_isResult 5 (some .boolean)]
def wsX6_decode : List Cond := .code yX6_decode cX6_decode 1 (some .int) :: ((wsX6_decode_r1 ++ wsX6_decode_r2) ++ wsX60)
def wsX6_sendCascade_r1 : List Cond := [Cond.fieldLink RX6 7 "NestedCodesModel" "d" "[I", Cond.fieldLink RX6 27 "NestedCodesModel" "word" "[I", Cond.fieldLink RX6 23 "NestedCodesModel" "code" "[B", Cond.methodLink RX6 102 yX6_decode, Cond.instanceMethod yX6_decode, Cond.selects RX6 yX6_decode yX6_decode, Cond.initialized RX6, Cond.code yX6_decode cX6_decode 1 (some .int), Cond.fieldLink RX6 115 "NestedCodesModel" "found" "I", Cond.methodLink RX6 130 yX6_decodes, Cond.instanceMethod yX6_decodes, Cond.selects RX6 yX6_decodes yX6_decodes, Cond.code yX6_decodes cX6_decodes 3 none, Cond.fieldLink RX6 118 "NestedCodesModel" "deciding" "I", Cond.methodLink RX6 105 yX6_judges, Cond.instanceMethod yX6_judges, Cond.selects RX6 yX6_judges yX6_judges, Cond.code yX6_judges cX6_judges 3 none, Cond.fieldLink RX6 36 "NestedCodesModel" "its" "[I", Cond.fieldLink RX6 30 "NestedCodesModel" "symbol" "[I", Cond.fieldLink RX6 39 "NestedCodesModel" "far" "[I", Cond.fieldLink RX6 33 "NestedCodesModel" "gap" "[I", Cond.fieldLink RX6 42 "NestedCodesModel" "trust" "[I", Cond.fieldLink RX6 55 "NestedCodesModel" "least" "I"]
def wsX6_sendCascade_r2 : List Cond := [Cond.fieldLink RX6 45 "NestedCodesModel" "order" "[I", Cond.methodLink RX6 87 yX6_isLost, Cond.instanceMethod yX6_isLost, Cond.selects RX6 yX6_isLost yX6_isLost, Cond.code yX6_isLost cX6_isLost 2 (some .boolean), Cond.methodLink RX6 67 yX6_messages, Cond.instanceMethod yX6_messages, Cond.selects RX6 yX6_messages yX6_messages, Cond.code yX6_messages cX6_messages 1 (some .int), Cond.methodLink RX6 121 yX6_scoreOf, Cond.instanceMethod yX6_scoreOf, Cond.selects RX6 yX6_scoreOf yX6_scoreOf, Cond.code yX6_scoreOf cX6_scoreOf 4 (some .int), Cond.methodLink RX6 124 yX6_bar, Cond.instanceMethod yX6_bar, Cond.selects RX6 yX6_bar yX6_bar, Cond.code yX6_bar cX6_bar 1 (some .int), Cond.methodLink RX6 90 yX6_distance, Cond.instanceMethod yX6_distance, Cond.selects RX6 yX6_distance yX6_distance, Cond.code yX6_distance cX6_distance 1 (some .int), Cond.methodLink RX6 127 yX6_trialOf, Cond.instanceMethod yX6_trialOf, Cond.selects RX6 yX6_trialOf yX6_trialOf]
def wsX6_sendCascade_r3 : List Cond := [Cond.code yX6_trialOf cX6_trialOf 3 (some .int), Cond.methodLink RX6 111 yX6_isResult, Cond.instanceMethod yX6_isResult, Cond.selects RX6 yX6_isResult yX6_isResult, Cond.code yX6_isResult cX6_isResult 5 (some .boolean), Cond.methodLink RX6 74 yX6_records, Cond.instanceMethod yX6_records, Cond.selects RX6 yX6_records yX6_records, Cond.code yX6_records cX6_records 2 none, Cond.fieldLink RX6 71 "NestedCodesModel" "states" "I", Cond.fieldLink RX6 13 "NestedCodesModel" "was" "[I", Cond.methodLink RX6 59 yX6_ones, Cond.static yX6_ones, Cond.code yX6_ones cX6_ones 3 (some .int)]
def wsX6_sendCascade : List Cond := .code yX6_sendCascade cX6_sendCascade 7 (some .int) :: ((wsX6_sendCascade_r1 ++ (wsX6_sendCascade_r2 ++ wsX6_sendCascade_r3)) ++ wsX60)
def wsX6_received : List Cond := .code yX6_received cX6_received 2 (some .int) :: ([.fieldLink RX6 7 "NestedCodesModel" "d" "[I", .methodLink RX6 99 yX6_isBlock, .instanceMethod yX6_isBlock, .selects RX6 yX6_isBlock yX6_isBlock, .initialized RX6, .code yX6_isBlock cX6_isBlock 2 (some .boolean), .methodLink RX6 63 yX6_in, .static yX6_in, .code yX6_in cX6_in 3 (some .boolean), .methodLink RX6 87 yX6_isLost, .instanceMethod yX6_isLost, .selects RX6 yX6_isLost yX6_isLost, .code yX6_isLost cX6_isLost 2 (some .boolean)] ++ wsX60)
def wsX6_sent : List Cond := .code yX6_sent cX6_sent 1 (some .int) :: ([.fieldLink RX6 7 "NestedCodesModel" "d" "[I"] ++ wsX60)
def wsX6_placeOf : List Cond := .code yX6_placeOf cX6_placeOf 3 (some .int) :: ([.fieldLink RX6 45 "NestedCodesModel" "order" "[I"] ++ wsX60)
def wsX6_block_r1 : List Cond := [Cond.fieldLink RX6 36 "NestedCodesModel" "its" "[I", Cond.fieldLink RX6 39 "NestedCodesModel" "far" "[I", Cond.fieldLink RX6 42 "NestedCodesModel" "trust" "[I", Cond.fieldLink RX6 23 "NestedCodesModel" "code" "[B", Cond.fieldLink RX6 7 "NestedCodesModel" "d" "[I", Cond.methodLink RX6 99 yX6_isBlock, Cond.instanceMethod yX6_isBlock, Cond.selects RX6 yX6_isBlock yX6_isBlock, Cond.initialized RX6, Cond.code yX6_isBlock cX6_isBlock 2 (some .boolean), Cond.methodLink RX6 63 yX6_in, Cond.static yX6_in, Cond.code yX6_in cX6_in 3 (some .boolean), Cond.methodLink RX6 105 yX6_judges, Cond.instanceMethod yX6_judges, Cond.selects RX6 yX6_judges yX6_judges, Cond.code yX6_judges cX6_judges 3 none, Cond.fieldLink RX6 30 "NestedCodesModel" "symbol" "[I", Cond.fieldLink RX6 33 "NestedCodesModel" "gap" "[I", Cond.fieldLink RX6 55 "NestedCodesModel" "least" "I", Cond.fieldLink RX6 45 "NestedCodesModel" "order" "[I", Cond.methodLink RX6 87 yX6_isLost, Cond.instanceMethod yX6_isLost, Cond.selects RX6 yX6_isLost yX6_isLost]
def wsX6_block_r2 : List Cond := [Cond.code yX6_isLost cX6_isLost 2 (some .boolean), Cond.methodLink RX6 108 yX6_placeOf, Cond.instanceMethod yX6_placeOf, Cond.selects RX6 yX6_placeOf yX6_placeOf, Cond.code yX6_placeOf cX6_placeOf 3 (some .int)]
def wsX6_block : List Cond := .code yX6_block cX6_block 3 (some .int) :: ((wsX6_block_r1 ++ wsX6_block_r2) ++ wsX60)
def wsX6_blockAt : List Cond := .code yX6_blockAt cX6_blockAt 2 (some .int) :: ([.fieldLink RX6 45 "NestedCodesModel" "order" "[I", .methodLink RX6 99 yX6_isBlock, .instanceMethod yX6_isBlock, .selects RX6 yX6_isBlock yX6_isBlock, .initialized RX6, .code yX6_isBlock cX6_isBlock 2 (some .boolean), .fieldLink RX6 7 "NestedCodesModel" "d" "[I", .methodLink RX6 63 yX6_in, .static yX6_in, .code yX6_in cX6_in 3 (some .boolean), .methodLink RX6 105 yX6_judges, .instanceMethod yX6_judges, .selects RX6 yX6_judges yX6_judges, .code yX6_judges cX6_judges 3 none, .fieldLink RX6 36 "NestedCodesModel" "its" "[I", .fieldLink RX6 30 "NestedCodesModel" "symbol" "[I", .fieldLink RX6 39 "NestedCodesModel" "far" "[I", .fieldLink RX6 33 "NestedCodesModel" "gap" "[I", .fieldLink RX6 42 "NestedCodesModel" "trust" "[I", .fieldLink RX6 55 "NestedCodesModel" "least" "I", .methodLink RX6 87 yX6_isLost, .instanceMethod yX6_isLost, .selects RX6 yX6_isLost yX6_isLost, .code yX6_isLost cX6_isLost 2 (some .boolean)] ++ wsX60)
def wsX6_strength : List Cond := .code yX6_strength cX6_strength 5 (some .int) :: ([.fieldLink RX6 7 "NestedCodesModel" "d" "[I", .fieldLink RX6 30 "NestedCodesModel" "symbol" "[I", .methodLink RX6 99 yX6_isBlock, .instanceMethod yX6_isBlock, .selects RX6 yX6_isBlock yX6_isBlock, .initialized RX6, .code yX6_isBlock cX6_isBlock 2 (some .boolean), .methodLink RX6 63 yX6_in, .static yX6_in, .code yX6_in cX6_in 3 (some .boolean), .methodLink RX6 87 yX6_isLost, .instanceMethod yX6_isLost, .selects RX6 yX6_isLost yX6_isLost, .code yX6_isLost cX6_isLost 2 (some .boolean), .methodLink RX6 59 yX6_ones, .static yX6_ones, .code yX6_ones cX6_ones 3 (some .int)] ++ wsX60)
def wsX6_trial_r1 : List Cond := [Cond.methodLink RX6 90 yX6_distance, Cond.instanceMethod yX6_distance, Cond.selects RX6 yX6_distance yX6_distance, Cond.initialized RX6, Cond.code yX6_distance cX6_distance 1 (some .int), Cond.fieldLink RX6 7 "NestedCodesModel" "d" "[I", Cond.methodLink RX6 63 yX6_in, Cond.static yX6_in, Cond.code yX6_in cX6_in 3 (some .boolean), Cond.methodLink RX6 105 yX6_judges, Cond.instanceMethod yX6_judges, Cond.selects RX6 yX6_judges yX6_judges, Cond.code yX6_judges cX6_judges 3 none, Cond.fieldLink RX6 36 "NestedCodesModel" "its" "[I", Cond.fieldLink RX6 30 "NestedCodesModel" "symbol" "[I", Cond.fieldLink RX6 39 "NestedCodesModel" "far" "[I", Cond.fieldLink RX6 33 "NestedCodesModel" "gap" "[I", Cond.fieldLink RX6 42 "NestedCodesModel" "trust" "[I", Cond.fieldLink RX6 55 "NestedCodesModel" "least" "I", Cond.fieldLink RX6 45 "NestedCodesModel" "order" "[I", Cond.methodLink RX6 87 yX6_isLost, Cond.instanceMethod yX6_isLost, Cond.selects RX6 yX6_isLost yX6_isLost, Cond.code yX6_isLost cX6_isLost 2 (some .boolean)]
def wsX6_trial_r2 : List Cond := [Cond.methodLink RX6 67 yX6_messages, Cond.instanceMethod yX6_messages, Cond.selects RX6 yX6_messages yX6_messages, Cond.code yX6_messages cX6_messages 1 (some .int), Cond.methodLink RX6 111 yX6_isResult, Cond.instanceMethod yX6_isResult, Cond.selects RX6 yX6_isResult yX6_isResult, Cond.code yX6_isResult cX6_isResult 5 (some .boolean), Cond.fieldLink RX6 23 "NestedCodesModel" "code" "[B"]
def wsX6_trial : List Cond := .code yX6_trial cX6_trial 3 (some .int) :: ((wsX6_trial_r1 ++ wsX6_trial_r2) ++ wsX60)
def wsX6_score_r1 : List Cond := [Cond.methodLink RX6 96 yX6_isMessage, Cond.instanceMethod yX6_isMessage, Cond.selects RX6 yX6_isMessage yX6_isMessage, Cond.initialized RX6, Cond.code yX6_isMessage cX6_isMessage 2 (some .boolean), Cond.methodLink RX6 67 yX6_messages, Cond.instanceMethod yX6_messages, Cond.selects RX6 yX6_messages yX6_messages, Cond.code yX6_messages cX6_messages 1 (some .int), Cond.fieldLink RX6 7 "NestedCodesModel" "d" "[I", Cond.methodLink RX6 63 yX6_in, Cond.static yX6_in, Cond.code yX6_in cX6_in 3 (some .boolean), Cond.methodLink RX6 105 yX6_judges, Cond.instanceMethod yX6_judges, Cond.selects RX6 yX6_judges yX6_judges, Cond.code yX6_judges cX6_judges 3 none, Cond.fieldLink RX6 36 "NestedCodesModel" "its" "[I", Cond.fieldLink RX6 30 "NestedCodesModel" "symbol" "[I", Cond.fieldLink RX6 39 "NestedCodesModel" "far" "[I", Cond.fieldLink RX6 33 "NestedCodesModel" "gap" "[I", Cond.fieldLink RX6 42 "NestedCodesModel" "trust" "[I", Cond.fieldLink RX6 55 "NestedCodesModel" "least" "I", Cond.fieldLink RX6 45 "NestedCodesModel" "order" "[I"]
def wsX6_score_r2 : List Cond := [Cond.methodLink RX6 87 yX6_isLost, Cond.instanceMethod yX6_isLost, Cond.selects RX6 yX6_isLost yX6_isLost, Cond.code yX6_isLost cX6_isLost 2 (some .boolean), Cond.methodLink RX6 121 yX6_scoreOf, Cond.instanceMethod yX6_scoreOf, Cond.selects RX6 yX6_scoreOf yX6_scoreOf, Cond.code yX6_scoreOf cX6_scoreOf 4 (some .int), Cond.fieldLink RX6 23 "NestedCodesModel" "code" "[B"]
def wsX6_score : List Cond := .code yX6_score cX6_score 2 (some .int) :: ((wsX6_score_r1 ++ wsX6_score_r2) ++ wsX60)
def wsX6_lawful_r1 : List Cond := [Cond.methodLink RX6 105 yX6_judges, Cond.instanceMethod yX6_judges, Cond.selects RX6 yX6_judges yX6_judges, Cond.initialized RX6, Cond.code yX6_judges cX6_judges 3 none, Cond.fieldLink RX6 7 "NestedCodesModel" "d" "[I", Cond.fieldLink RX6 36 "NestedCodesModel" "its" "[I", Cond.fieldLink RX6 30 "NestedCodesModel" "symbol" "[I", Cond.fieldLink RX6 39 "NestedCodesModel" "far" "[I", Cond.fieldLink RX6 33 "NestedCodesModel" "gap" "[I", Cond.fieldLink RX6 42 "NestedCodesModel" "trust" "[I", Cond.fieldLink RX6 55 "NestedCodesModel" "least" "I", Cond.fieldLink RX6 45 "NestedCodesModel" "order" "[I", Cond.methodLink RX6 87 yX6_isLost, Cond.instanceMethod yX6_isLost, Cond.selects RX6 yX6_isLost yX6_isLost, Cond.code yX6_isLost cX6_isLost 2 (some .boolean), Cond.methodLink RX6 67 yX6_messages, Cond.instanceMethod yX6_messages, Cond.selects RX6 yX6_messages yX6_messages, Cond.code yX6_messages cX6_messages 1 (some .int), Cond.methodLink RX6 121 yX6_scoreOf, Cond.instanceMethod yX6_scoreOf, Cond.selects RX6 yX6_scoreOf yX6_scoreOf]
def wsX6_lawful_r2 : List Cond := [Cond.code yX6_scoreOf cX6_scoreOf 4 (some .int), Cond.fieldLink RX6 23 "NestedCodesModel" "code" "[B", Cond.methodLink RX6 124 yX6_bar, Cond.instanceMethod yX6_bar, Cond.selects RX6 yX6_bar yX6_bar, Cond.code yX6_bar cX6_bar 1 (some .int), Cond.methodLink RX6 90 yX6_distance, Cond.instanceMethod yX6_distance, Cond.selects RX6 yX6_distance yX6_distance, Cond.code yX6_distance cX6_distance 1 (some .int)]
def wsX6_lawful : List Cond := .code yX6_lawful cX6_lawful 3 (some .int) :: ((wsX6_lawful_r1 ++ wsX6_lawful_r2) ++ wsX60)
def wsX6_decidingTrial_r1 : List Cond := [Cond.fieldLink RX6 118 "NestedCodesModel" "deciding" "I", Cond.methodLink RX6 130 yX6_decodes, Cond.instanceMethod yX6_decodes, Cond.selects RX6 yX6_decodes yX6_decodes, Cond.initialized RX6, Cond.code yX6_decodes cX6_decodes 3 none, Cond.fieldLink RX6 115 "NestedCodesModel" "found" "I", Cond.methodLink RX6 105 yX6_judges, Cond.instanceMethod yX6_judges, Cond.selects RX6 yX6_judges yX6_judges, Cond.code yX6_judges cX6_judges 3 none, Cond.fieldLink RX6 7 "NestedCodesModel" "d" "[I", Cond.fieldLink RX6 36 "NestedCodesModel" "its" "[I", Cond.fieldLink RX6 30 "NestedCodesModel" "symbol" "[I", Cond.fieldLink RX6 39 "NestedCodesModel" "far" "[I", Cond.fieldLink RX6 33 "NestedCodesModel" "gap" "[I", Cond.fieldLink RX6 42 "NestedCodesModel" "trust" "[I", Cond.fieldLink RX6 55 "NestedCodesModel" "least" "I", Cond.fieldLink RX6 45 "NestedCodesModel" "order" "[I", Cond.methodLink RX6 87 yX6_isLost, Cond.instanceMethod yX6_isLost, Cond.selects RX6 yX6_isLost yX6_isLost, Cond.code yX6_isLost cX6_isLost 2 (some .boolean), Cond.methodLink RX6 67 yX6_messages]
def wsX6_decidingTrial_r2 : List Cond := [Cond.instanceMethod yX6_messages, Cond.selects RX6 yX6_messages yX6_messages, Cond.code yX6_messages cX6_messages 1 (some .int), Cond.methodLink RX6 121 yX6_scoreOf, Cond.instanceMethod yX6_scoreOf, Cond.selects RX6 yX6_scoreOf yX6_scoreOf, Cond.code yX6_scoreOf cX6_scoreOf 4 (some .int), Cond.fieldLink RX6 23 "NestedCodesModel" "code" "[B", Cond.methodLink RX6 124 yX6_bar, Cond.instanceMethod yX6_bar, Cond.selects RX6 yX6_bar yX6_bar, Cond.code yX6_bar cX6_bar 1 (some .int), Cond.methodLink RX6 90 yX6_distance, Cond.instanceMethod yX6_distance, Cond.selects RX6 yX6_distance yX6_distance, Cond.code yX6_distance cX6_distance 1 (some .int), Cond.methodLink RX6 127 yX6_trialOf, Cond.instanceMethod yX6_trialOf, Cond.selects RX6 yX6_trialOf yX6_trialOf, Cond.code yX6_trialOf cX6_trialOf 3 (some .int), Cond.methodLink RX6 111 yX6_isResult, Cond.instanceMethod yX6_isResult, Cond.selects RX6 yX6_isResult yX6_isResult, Cond.code yX6_isResult cX6_isResult 5 (some .boolean)]
def wsX6_decidingTrial : List Cond := .code yX6_decidingTrial cX6_decidingTrial 1 (some .int) :: ((wsX6_decidingTrial_r1 ++ wsX6_decidingTrial_r2) ++ wsX60)
def wsX6_margin_r1 : List Cond := [Cond.fieldLink RX6 115 "NestedCodesModel" "found" "I", Cond.methodLink RX6 130 yX6_decodes, Cond.instanceMethod yX6_decodes, Cond.selects RX6 yX6_decodes yX6_decodes, Cond.initialized RX6, Cond.code yX6_decodes cX6_decodes 3 none, Cond.fieldLink RX6 118 "NestedCodesModel" "deciding" "I", Cond.methodLink RX6 105 yX6_judges, Cond.instanceMethod yX6_judges, Cond.selects RX6 yX6_judges yX6_judges, Cond.code yX6_judges cX6_judges 3 none, Cond.fieldLink RX6 7 "NestedCodesModel" "d" "[I", Cond.fieldLink RX6 36 "NestedCodesModel" "its" "[I", Cond.fieldLink RX6 30 "NestedCodesModel" "symbol" "[I", Cond.fieldLink RX6 39 "NestedCodesModel" "far" "[I", Cond.fieldLink RX6 33 "NestedCodesModel" "gap" "[I", Cond.fieldLink RX6 42 "NestedCodesModel" "trust" "[I", Cond.fieldLink RX6 55 "NestedCodesModel" "least" "I", Cond.fieldLink RX6 45 "NestedCodesModel" "order" "[I", Cond.methodLink RX6 87 yX6_isLost, Cond.instanceMethod yX6_isLost, Cond.selects RX6 yX6_isLost yX6_isLost, Cond.code yX6_isLost cX6_isLost 2 (some .boolean), Cond.methodLink RX6 67 yX6_messages]
def wsX6_margin_r2 : List Cond := [Cond.instanceMethod yX6_messages, Cond.selects RX6 yX6_messages yX6_messages, Cond.code yX6_messages cX6_messages 1 (some .int), Cond.methodLink RX6 121 yX6_scoreOf, Cond.instanceMethod yX6_scoreOf, Cond.selects RX6 yX6_scoreOf yX6_scoreOf, Cond.code yX6_scoreOf cX6_scoreOf 4 (some .int), Cond.fieldLink RX6 23 "NestedCodesModel" "code" "[B", Cond.methodLink RX6 124 yX6_bar, Cond.instanceMethod yX6_bar, Cond.selects RX6 yX6_bar yX6_bar, Cond.code yX6_bar cX6_bar 1 (some .int), Cond.methodLink RX6 90 yX6_distance, Cond.instanceMethod yX6_distance, Cond.selects RX6 yX6_distance yX6_distance, Cond.code yX6_distance cX6_distance 1 (some .int), Cond.methodLink RX6 127 yX6_trialOf, Cond.instanceMethod yX6_trialOf, Cond.selects RX6 yX6_trialOf yX6_trialOf, Cond.code yX6_trialOf cX6_trialOf 3 (some .int), Cond.methodLink RX6 111 yX6_isResult, Cond.instanceMethod yX6_isResult, Cond.selects RX6 yX6_isResult yX6_isResult, Cond.code yX6_isResult cX6_isResult 5 (some .boolean)]
def wsX6_margin : List Cond := .code yX6_margin cX6_margin 1 (some .int) :: ((wsX6_margin_r1 ++ wsX6_margin_r2) ++ wsX60)
def wsX6_wastedTrials_r1 : List Cond := [Cond.methodLink RX6 105 yX6_judges, Cond.instanceMethod yX6_judges, Cond.selects RX6 yX6_judges yX6_judges, Cond.initialized RX6, Cond.code yX6_judges cX6_judges 3 none, Cond.fieldLink RX6 7 "NestedCodesModel" "d" "[I", Cond.fieldLink RX6 36 "NestedCodesModel" "its" "[I", Cond.fieldLink RX6 30 "NestedCodesModel" "symbol" "[I", Cond.fieldLink RX6 39 "NestedCodesModel" "far" "[I", Cond.fieldLink RX6 33 "NestedCodesModel" "gap" "[I", Cond.fieldLink RX6 42 "NestedCodesModel" "trust" "[I", Cond.fieldLink RX6 55 "NestedCodesModel" "least" "I", Cond.fieldLink RX6 45 "NestedCodesModel" "order" "[I", Cond.methodLink RX6 87 yX6_isLost, Cond.instanceMethod yX6_isLost, Cond.selects RX6 yX6_isLost yX6_isLost, Cond.code yX6_isLost cX6_isLost 2 (some .boolean), Cond.methodLink RX6 90 yX6_distance, Cond.instanceMethod yX6_distance, Cond.selects RX6 yX6_distance yX6_distance, Cond.code yX6_distance cX6_distance 1 (some .int), Cond.methodLink RX6 67 yX6_messages, Cond.instanceMethod yX6_messages, Cond.selects RX6 yX6_messages yX6_messages]
def wsX6_wastedTrials_r2 : List Cond := [Cond.code yX6_messages cX6_messages 1 (some .int), Cond.methodLink RX6 121 yX6_scoreOf, Cond.instanceMethod yX6_scoreOf, Cond.selects RX6 yX6_scoreOf yX6_scoreOf, Cond.code yX6_scoreOf cX6_scoreOf 4 (some .int), Cond.fieldLink RX6 23 "NestedCodesModel" "code" "[B", Cond.methodLink RX6 124 yX6_bar, Cond.instanceMethod yX6_bar, Cond.selects RX6 yX6_bar yX6_bar, Cond.code yX6_bar cX6_bar 1 (some .int), Cond.methodLink RX6 111 yX6_isResult, Cond.instanceMethod yX6_isResult, Cond.selects RX6 yX6_isResult yX6_isResult, Cond.code yX6_isResult cX6_isResult 5 (some .boolean)]
def wsX6_wastedTrials : List Cond := .code yX6_wastedTrials cX6_wastedTrials 4 (some .int) :: ((wsX6_wastedTrials_r1 ++ wsX6_wastedTrials_r2) ++ wsX60)
def wsX6_isGuaranteed : List Cond := .code yX6_isGuaranteed cX6_isGuaranteed 1 (some .int) :: ([.fieldLink RX6 55 "NestedCodesModel" "least" "I", .fieldLink RX6 7 "NestedCodesModel" "d" "[I", .methodLink RX6 93 yX6_wrongBits, .instanceMethod yX6_wrongBits, .selects RX6 yX6_wrongBits yX6_wrongBits, .initialized RX6, .code yX6_wrongBits cX6_wrongBits 3 (some .int), .fieldLink RX6 27 "NestedCodesModel" "word" "[I", .fieldLink RX6 23 "NestedCodesModel" "code" "[B", .methodLink RX6 87 yX6_isLost, .instanceMethod yX6_isLost, .selects RX6 yX6_isLost yX6_isLost, .code yX6_isLost cX6_isLost 2 (some .boolean), .methodLink RX6 59 yX6_ones, .static yX6_ones, .code yX6_ones cX6_ones 3 (some .int), .methodLink RX6 90 yX6_distance, .instanceMethod yX6_distance, .selects RX6 yX6_distance yX6_distance, .code yX6_distance cX6_distance 1 (some .int)] ++ wsX60)
def wsX6_isRight_r1 : List Cond := [Cond.fieldLink RX6 115 "NestedCodesModel" "found" "I", Cond.fieldLink RX6 7 "NestedCodesModel" "d" "[I", Cond.methodLink RX6 130 yX6_decodes, Cond.instanceMethod yX6_decodes, Cond.selects RX6 yX6_decodes yX6_decodes, Cond.initialized RX6, Cond.code yX6_decodes cX6_decodes 3 none, Cond.fieldLink RX6 118 "NestedCodesModel" "deciding" "I", Cond.methodLink RX6 105 yX6_judges, Cond.instanceMethod yX6_judges, Cond.selects RX6 yX6_judges yX6_judges, Cond.code yX6_judges cX6_judges 3 none, Cond.fieldLink RX6 36 "NestedCodesModel" "its" "[I", Cond.fieldLink RX6 30 "NestedCodesModel" "symbol" "[I", Cond.fieldLink RX6 39 "NestedCodesModel" "far" "[I", Cond.fieldLink RX6 33 "NestedCodesModel" "gap" "[I", Cond.fieldLink RX6 42 "NestedCodesModel" "trust" "[I", Cond.fieldLink RX6 55 "NestedCodesModel" "least" "I", Cond.fieldLink RX6 45 "NestedCodesModel" "order" "[I", Cond.methodLink RX6 87 yX6_isLost, Cond.instanceMethod yX6_isLost, Cond.selects RX6 yX6_isLost yX6_isLost, Cond.code yX6_isLost cX6_isLost 2 (some .boolean), Cond.methodLink RX6 67 yX6_messages]
def wsX6_isRight_r2 : List Cond := [Cond.instanceMethod yX6_messages, Cond.selects RX6 yX6_messages yX6_messages, Cond.code yX6_messages cX6_messages 1 (some .int), Cond.methodLink RX6 121 yX6_scoreOf, Cond.instanceMethod yX6_scoreOf, Cond.selects RX6 yX6_scoreOf yX6_scoreOf, Cond.code yX6_scoreOf cX6_scoreOf 4 (some .int), Cond.fieldLink RX6 23 "NestedCodesModel" "code" "[B", Cond.methodLink RX6 124 yX6_bar, Cond.instanceMethod yX6_bar, Cond.selects RX6 yX6_bar yX6_bar, Cond.code yX6_bar cX6_bar 1 (some .int), Cond.methodLink RX6 90 yX6_distance, Cond.instanceMethod yX6_distance, Cond.selects RX6 yX6_distance yX6_distance, Cond.code yX6_distance cX6_distance 1 (some .int), Cond.methodLink RX6 127 yX6_trialOf, Cond.instanceMethod yX6_trialOf, Cond.selects RX6 yX6_trialOf yX6_trialOf, Cond.code yX6_trialOf cX6_trialOf 3 (some .int), Cond.methodLink RX6 111 yX6_isResult, Cond.instanceMethod yX6_isResult, Cond.selects RX6 yX6_isResult yX6_isResult, Cond.code yX6_isResult cX6_isResult 5 (some .boolean)]
def wsX6_isRight : List Cond := .code yX6_isRight cX6_isRight 1 (some .boolean) :: ((wsX6_isRight_r1 ++ wsX6_isRight_r2) ++ wsX60)
def wsX6_fragileBits_r1 : List Cond := [Cond.fieldLink RX6 7 "NestedCodesModel" "d" "[I", Cond.methodLink RX6 87 yX6_isLost, Cond.instanceMethod yX6_isLost, Cond.selects RX6 yX6_isLost yX6_isLost, Cond.initialized RX6, Cond.code yX6_isLost cX6_isLost 2 (some .boolean), Cond.methodLink RX6 133 yX6_isRight, Cond.instanceMethod yX6_isRight, Cond.selects RX6 yX6_isRight yX6_isRight, Cond.code yX6_isRight cX6_isRight 1 (some .boolean), Cond.fieldLink RX6 115 "NestedCodesModel" "found" "I", Cond.methodLink RX6 130 yX6_decodes, Cond.instanceMethod yX6_decodes, Cond.selects RX6 yX6_decodes yX6_decodes, Cond.code yX6_decodes cX6_decodes 3 none, Cond.fieldLink RX6 118 "NestedCodesModel" "deciding" "I", Cond.methodLink RX6 105 yX6_judges, Cond.instanceMethod yX6_judges, Cond.selects RX6 yX6_judges yX6_judges, Cond.code yX6_judges cX6_judges 3 none, Cond.fieldLink RX6 36 "NestedCodesModel" "its" "[I", Cond.fieldLink RX6 30 "NestedCodesModel" "symbol" "[I", Cond.fieldLink RX6 39 "NestedCodesModel" "far" "[I", Cond.fieldLink RX6 33 "NestedCodesModel" "gap" "[I"]
def wsX6_fragileBits_r2 : List Cond := [Cond.fieldLink RX6 42 "NestedCodesModel" "trust" "[I", Cond.fieldLink RX6 55 "NestedCodesModel" "least" "I", Cond.fieldLink RX6 45 "NestedCodesModel" "order" "[I", Cond.methodLink RX6 67 yX6_messages, Cond.instanceMethod yX6_messages, Cond.selects RX6 yX6_messages yX6_messages, Cond.code yX6_messages cX6_messages 1 (some .int), Cond.methodLink RX6 121 yX6_scoreOf, Cond.instanceMethod yX6_scoreOf, Cond.selects RX6 yX6_scoreOf yX6_scoreOf, Cond.code yX6_scoreOf cX6_scoreOf 4 (some .int), Cond.fieldLink RX6 23 "NestedCodesModel" "code" "[B", Cond.methodLink RX6 124 yX6_bar, Cond.instanceMethod yX6_bar, Cond.selects RX6 yX6_bar yX6_bar, Cond.code yX6_bar cX6_bar 1 (some .int), Cond.methodLink RX6 90 yX6_distance, Cond.instanceMethod yX6_distance, Cond.selects RX6 yX6_distance yX6_distance, Cond.code yX6_distance cX6_distance 1 (some .int), Cond.methodLink RX6 127 yX6_trialOf, Cond.instanceMethod yX6_trialOf, Cond.selects RX6 yX6_trialOf yX6_trialOf, Cond.code yX6_trialOf cX6_trialOf 3 (some .int)]
def wsX6_fragileBits_r3 : List Cond := [Cond.methodLink RX6 111 yX6_isResult, Cond.instanceMethod yX6_isResult, Cond.selects RX6 yX6_isResult yX6_isResult, Cond.code yX6_isResult cX6_isResult 5 (some .boolean)]
def wsX6_fragileBits : List Cond := .code yX6_fragileBits cX6_fragileBits 4 (some .int) :: ((wsX6_fragileBits_r1 ++ (wsX6_fragileBits_r2 ++ wsX6_fragileBits_r3)) ++ wsX60)
def wsX6_fragileBlocks_r1 : List Cond := [Cond.fieldLink RX6 7 "NestedCodesModel" "d" "[I", Cond.methodLink RX6 133 yX6_isRight, Cond.instanceMethod yX6_isRight, Cond.selects RX6 yX6_isRight yX6_isRight, Cond.initialized RX6, Cond.code yX6_isRight cX6_isRight 1 (some .boolean), Cond.fieldLink RX6 115 "NestedCodesModel" "found" "I", Cond.methodLink RX6 130 yX6_decodes, Cond.instanceMethod yX6_decodes, Cond.selects RX6 yX6_decodes yX6_decodes, Cond.code yX6_decodes cX6_decodes 3 none, Cond.fieldLink RX6 118 "NestedCodesModel" "deciding" "I", Cond.methodLink RX6 105 yX6_judges, Cond.instanceMethod yX6_judges, Cond.selects RX6 yX6_judges yX6_judges, Cond.code yX6_judges cX6_judges 3 none, Cond.fieldLink RX6 36 "NestedCodesModel" "its" "[I", Cond.fieldLink RX6 30 "NestedCodesModel" "symbol" "[I", Cond.fieldLink RX6 39 "NestedCodesModel" "far" "[I", Cond.fieldLink RX6 33 "NestedCodesModel" "gap" "[I", Cond.fieldLink RX6 42 "NestedCodesModel" "trust" "[I", Cond.fieldLink RX6 55 "NestedCodesModel" "least" "I", Cond.fieldLink RX6 45 "NestedCodesModel" "order" "[I", Cond.methodLink RX6 87 yX6_isLost]
def wsX6_fragileBlocks_r2 : List Cond := [Cond.instanceMethod yX6_isLost, Cond.selects RX6 yX6_isLost yX6_isLost, Cond.code yX6_isLost cX6_isLost 2 (some .boolean), Cond.methodLink RX6 67 yX6_messages, Cond.instanceMethod yX6_messages, Cond.selects RX6 yX6_messages yX6_messages, Cond.code yX6_messages cX6_messages 1 (some .int), Cond.methodLink RX6 121 yX6_scoreOf, Cond.instanceMethod yX6_scoreOf, Cond.selects RX6 yX6_scoreOf yX6_scoreOf, Cond.code yX6_scoreOf cX6_scoreOf 4 (some .int), Cond.fieldLink RX6 23 "NestedCodesModel" "code" "[B", Cond.methodLink RX6 124 yX6_bar, Cond.instanceMethod yX6_bar, Cond.selects RX6 yX6_bar yX6_bar, Cond.code yX6_bar cX6_bar 1 (some .int), Cond.methodLink RX6 90 yX6_distance, Cond.instanceMethod yX6_distance, Cond.selects RX6 yX6_distance yX6_distance, Cond.code yX6_distance cX6_distance 1 (some .int), Cond.methodLink RX6 127 yX6_trialOf, Cond.instanceMethod yX6_trialOf, Cond.selects RX6 yX6_trialOf yX6_trialOf, Cond.code yX6_trialOf cX6_trialOf 3 (some .int)]
def wsX6_fragileBlocks_r3 : List Cond := [Cond.methodLink RX6 111 yX6_isResult, Cond.instanceMethod yX6_isResult, Cond.selects RX6 yX6_isResult yX6_isResult, Cond.code yX6_isResult cX6_isResult 5 (some .boolean)]
def wsX6_fragileBlocks : List Cond := .code yX6_fragileBlocks cX6_fragileBlocks 4 (some .int) :: ((wsX6_fragileBlocks_r1 ++ (wsX6_fragileBlocks_r2 ++ wsX6_fragileBlocks_r3)) ++ wsX60)
def wsX6_nearest_r1 : List Cond := [Cond.fieldLink RX6 115 "NestedCodesModel" "found" "I", Cond.fieldLink RX6 7 "NestedCodesModel" "d" "[I", Cond.fieldLink RX6 23 "NestedCodesModel" "code" "[B", Cond.methodLink RX6 63 yX6_in, Cond.static yX6_in, Cond.initialized RX6, Cond.code yX6_in cX6_in 3 (some .boolean), Cond.methodLink RX6 130 yX6_decodes, Cond.instanceMethod yX6_decodes, Cond.selects RX6 yX6_decodes yX6_decodes, Cond.code yX6_decodes cX6_decodes 3 none, Cond.fieldLink RX6 118 "NestedCodesModel" "deciding" "I", Cond.methodLink RX6 105 yX6_judges, Cond.instanceMethod yX6_judges, Cond.selects RX6 yX6_judges yX6_judges, Cond.code yX6_judges cX6_judges 3 none, Cond.fieldLink RX6 36 "NestedCodesModel" "its" "[I", Cond.fieldLink RX6 30 "NestedCodesModel" "symbol" "[I", Cond.fieldLink RX6 39 "NestedCodesModel" "far" "[I", Cond.fieldLink RX6 33 "NestedCodesModel" "gap" "[I", Cond.fieldLink RX6 42 "NestedCodesModel" "trust" "[I", Cond.fieldLink RX6 55 "NestedCodesModel" "least" "I", Cond.fieldLink RX6 45 "NestedCodesModel" "order" "[I", Cond.methodLink RX6 87 yX6_isLost]
def wsX6_nearest_r2 : List Cond := [Cond.instanceMethod yX6_isLost, Cond.selects RX6 yX6_isLost yX6_isLost, Cond.code yX6_isLost cX6_isLost 2 (some .boolean), Cond.methodLink RX6 67 yX6_messages, Cond.instanceMethod yX6_messages, Cond.selects RX6 yX6_messages yX6_messages, Cond.code yX6_messages cX6_messages 1 (some .int), Cond.methodLink RX6 121 yX6_scoreOf, Cond.instanceMethod yX6_scoreOf, Cond.selects RX6 yX6_scoreOf yX6_scoreOf, Cond.code yX6_scoreOf cX6_scoreOf 4 (some .int), Cond.methodLink RX6 124 yX6_bar, Cond.instanceMethod yX6_bar, Cond.selects RX6 yX6_bar yX6_bar, Cond.code yX6_bar cX6_bar 1 (some .int), Cond.methodLink RX6 90 yX6_distance, Cond.instanceMethod yX6_distance, Cond.selects RX6 yX6_distance yX6_distance, Cond.code yX6_distance cX6_distance 1 (some .int), Cond.methodLink RX6 127 yX6_trialOf, Cond.instanceMethod yX6_trialOf, Cond.selects RX6 yX6_trialOf yX6_trialOf, Cond.code yX6_trialOf cX6_trialOf 3 (some .int), Cond.methodLink RX6 111 yX6_isResult]
def wsX6_nearest_r3 : List Cond := [Cond.instanceMethod yX6_isResult, Cond.selects RX6 yX6_isResult yX6_isResult, Cond.code yX6_isResult cX6_isResult 5 (some .boolean)]
def wsX6_nearest : List Cond := .code yX6_nearest cX6_nearest 7 (some .int) :: ((wsX6_nearest_r1 ++ (wsX6_nearest_r2 ++ wsX6_nearest_r3)) ++ wsX60)
def wsJ9_max_7cf53 : List Cond := .code yJ9_max_7cf53 cJ9_max_7cf53 2 (some .int) :: ([])
def wsJ9_min_7cf53 : List Cond := .code yJ9_min_7cf53 cJ9_min_7cf53 2 (some .int) :: ([])
def wsL_law_r1 : List Cond := [Cond.classLink RL 7 RX5, Cond.instantiable RX5 7, Cond.initialized RX5, Cond.classLink RL 10 RX6, Cond.instantiable RX6 17, Cond.initialized RX6, Cond.methodLink RL 9 yX5_init, Cond.instanceMethod yX5_init, Cond.code yX5_init cX5_init 1 none, Cond.methodLink RX5 1 objectInit, Cond.instanceMethod objectInit, Cond.code objectInit ⟨#[0xb1]⟩ 1 none, Cond.classLink RX5 7 RX4, Cond.instantiable RX4 7, Cond.initialized RX4, Cond.fieldLink RX5 10 "NestedCodes" "state" "LNestedCodes$State;", Cond.classLink RX5 16 RX0, Cond.instantiable RX0 2, Cond.initialized RX0, Cond.fieldLink RX5 19 "NestedCodes" "history" "LNestedCodes$History;", Cond.classLink RX5 23 RX1, Cond.instantiable RX1 2, Cond.initialized RX1, Cond.fieldLink RX5 26 "NestedCodes" "inner" "LNestedCodes$InnerCode;"]
def wsL_law_r2 : List Cond := [Cond.classLink RX5 30 RX2, Cond.instantiable RX2 1, Cond.initialized RX2, Cond.fieldLink RX5 33 "NestedCodes" "outer" "LNestedCodes$OuterCode;", Cond.classLink RX5 37 RX3, Cond.instantiable RX3 8, Cond.initialized RX3, Cond.fieldLink RX5 40 "NestedCodes" "reading" "LNestedCodes$Reading;", Cond.arrayClass .int, Cond.fieldLink RX5 44 "NestedCodes" "waiting" "[I", Cond.fieldLink RX5 48 "NestedCodes" "waitingCount" "I", Cond.instanceMethod yX4_init, Cond.code yX4_init cX4_init 1 none, Cond.methodLink RX4 3 objectInit, Cond.fieldLink RX4 9 "NestedCodes$State" "length" "I", Cond.fieldLink RX4 15 "NestedCodes$State" "dimension" "I", Cond.fieldLink RX4 18 "NestedCodes$State" "bits" "I", Cond.fieldLink RX4 21 "NestedCodes$State" "generators" "[I", Cond.fieldLink RX4 25 "NestedCodes$State" "words" "[I", Cond.arrayClass .boolean, Cond.fieldLink RX4 28 "NestedCodes$State" "lost" "[Z", Cond.fieldLink RX4 32 "NestedCodes$State" "sentMessage" "I", Cond.instanceMethod yX0_init, Cond.code yX0_init cX0_init 2 none]
def wsL_law_r3 : List Cond := [Cond.methodLink RX0 3 objectInit, Cond.classLink RX0 9 RX4, Cond.fieldLink RX0 11 "NestedCodes$History" "states" "[LNestedCodes$State;", Cond.fieldLink RX0 18 "NestedCodes$History" "size" "I", Cond.instanceMethod yX1_init, Cond.code yX1_init cX1_init 1 none, Cond.methodLink RX1 3 objectInit, Cond.fieldLink RX1 9 "NestedCodes$InnerCode" "words" "[I", Cond.fieldLink RX1 15 "NestedCodes$InnerCode" "distance" "I", Cond.instanceMethod yX2_init, Cond.code yX2_init cX2_init 5 none, Cond.methodLink RX2 3 objectInit, Cond.arrayClass .long, Cond.fieldLink RX2 9 "NestedCodes$OuterCode" "parts" "[J", Cond.static yX5_fieldProduct, Cond.code yX5_fieldProduct cX5_fieldProduct 5 (some .int), Cond.instanceMethod yX3_init, Cond.code yX3_init cX3_init 1 none, Cond.methodLink RX3 3 objectInit, Cond.fieldLink RX3 9 "NestedCodes$Reading" "symbols" "[I", Cond.fieldLink RX3 15 "NestedCodes$Reading" "gaps" "[I", Cond.fieldLink RX3 18 "NestedCodes$Reading" "reliabilities" "[I", Cond.fieldLink RX3 21 "NestedCodes$Reading" "order" "[I", Cond.fieldLink RX3 24 "NestedCodes$Reading" "places" "[I"]
def wsL_law_r4 : List Cond := [Cond.fieldLink RX3 27 "NestedCodes$Reading" "length" "I", Cond.fieldLink RX3 31 "NestedCodes$Reading" "packedSymbols" "J", Cond.fieldLink RX3 35 "NestedCodes$Reading" "allBlocks" "J", Cond.methodLink RX5 52 yX5_readAgain, Cond.instanceMethod yX5_readAgain, Cond.selects RX5 yX5_readAgain yX5_readAgain, Cond.code yX5_readAgain cX5_readAgain 1 none, Cond.instanceMethod yX1_setGenerators, Cond.selects RX1 yX1_setGenerators yX1_setGenerators, Cond.code yX1_setGenerators cX1_setGenerators 3 none, Cond.methodLink RX1 29 Lib.Math.min.name, Cond.static Lib.Math.min.name, Cond.initialized "java/lang/Math", Cond.code Lib.Math.min.name Lib.Math.min.code 2 (some .int), Cond.static yX5_generatedWord, Cond.code yX5_generatedWord cX5_generatedWord 4 (some .int), Cond.methodLink RX1 23 yJ6_bitCount_0f7a4, Cond.static yJ6_bitCount_0f7a4, Cond.initialized RJ6, Cond.code yJ6_bitCount_0f7a4 cJ6_bitCount_0f7a4 1 (some .int), Cond.constant RJ6 265 (1431655765), Cond.constant RJ6 266 (858993459), Cond.constant RJ6 267 (252645135), Cond.instanceMethod yX3_read]
def wsL_law_r5 : List Cond := [Cond.selects RX3 yX3_read yX3_read, Cond.code yX3_read cX3_read 4 none, Cond.static yX2_marks, Cond.code yX2_marks cX2_marks 1 (some .long), Cond.constantLong RX2 19 (18764998447377), Cond.methodLink RX3 47 yX3_readBlock, Cond.instanceMethod yX3_readBlock, Cond.selects RX3 yX3_readBlock yX3_readBlock, Cond.code yX3_readBlock cX3_readBlock 5 none, Cond.instanceMethod yX1_symbolOf, Cond.selects RX1 yX1_symbolOf yX1_symbolOf, Cond.code yX1_symbolOf cX1_symbolOf 4 (some .int), Cond.methodLink RX1 35 yX1_bitsBetween, Cond.instanceMethod yX1_bitsBetween, Cond.selects RX1 yX1_bitsBetween yX1_bitsBetween, Cond.code yX1_bitsBetween cX1_bitsBetween 3 (some .int), Cond.instanceMethod yX1_reliability, Cond.selects RX1 yX1_reliability yX1_reliability, Cond.code yX1_reliability cX1_reliability 2 (some .int), Cond.methodLink RX1 38 Lib.Math.max.name, Cond.static Lib.Math.max.name, Cond.code Lib.Math.max.name Lib.Math.max.code 2 (some .int), Cond.methodLink RX3 51 yX3_blocksBefore, Cond.instanceMethod yX3_blocksBefore]
def wsL_law_r6 : List Cond := [Cond.selects RX3 yX3_blocksBefore yX3_blocksBefore, Cond.code yX3_blocksBefore cX3_blocksBefore 4 (some .int), Cond.methodLink RL 12 yX6_init, Cond.instanceMethod yX6_init, Cond.code yX6_init cX6_init 4 none, Cond.methodLink RX6 1 objectInit, Cond.fieldLink RX6 7 "NestedCodesModel" "d" "[I", Cond.fieldLink RX6 13 "NestedCodesModel" "was" "[I", Cond.fieldLink RX6 16 "NestedCodesModel" "waiting" "[I", Cond.fieldLink RX6 19 "NestedCodesModel" "times" "[I", Cond.constant RX6 22 (49152), Cond.arrayClass .byte, Cond.fieldLink RX6 23 "NestedCodesModel" "code" "[B", Cond.fieldLink RX6 27 "NestedCodesModel" "word" "[I", Cond.fieldLink RX6 30 "NestedCodesModel" "symbol" "[I", Cond.fieldLink RX6 33 "NestedCodesModel" "gap" "[I", Cond.fieldLink RX6 36 "NestedCodesModel" "its" "[I", Cond.fieldLink RX6 39 "NestedCodesModel" "far" "[I", Cond.fieldLink RX6 42 "NestedCodesModel" "trust" "[I", Cond.fieldLink RX6 45 "NestedCodesModel" "order" "[I", Cond.methodLink RX6 48 yX6_multiplied, Cond.static yX6_multiplied, Cond.code yX6_multiplied cX6_multiplied 4 (some .int), Cond.methodLink RX6 52 yX6_prepares]
def wsL_law_r7 : List Cond := [Cond.instanceMethod yX6_prepares, Cond.selects RX6 yX6_prepares yX6_prepares, Cond.code yX6_prepares cX6_prepares 4 none, Cond.fieldLink RX6 55 "NestedCodesModel" "least" "I", Cond.methodLink RX6 59 yX6_ones, Cond.static yX6_ones, Cond.code yX6_ones cX6_ones 3 (some .int), Cond.methodLink RL 13 yX5_setOuter, Cond.instanceMethod yX5_setOuter, Cond.selects RX5 yX5_setOuter yX5_setOuter, Cond.code yX5_setOuter cX5_setOuter 4 (some .int), Cond.instanceMethod yX0_record, Cond.selects RX0 yX0_record yX0_record, Cond.code yX0_record cX0_record 2 none, Cond.methodLink RX0 22 yX0_dropOldest, Cond.instanceMethod yX0_dropOldest, Cond.selects RX0 yX0_dropOldest yX0_dropOldest, Cond.code yX0_dropOldest cX0_dropOldest 3 none, Cond.instanceMethod yX4_copyFrom, Cond.selects RX4 yX4_copyFrom yX4_copyFrom, Cond.code yX4_copyFrom cX4_copyFrom 3 none, Cond.instanceMethod yX4_clearBlocks, Cond.selects RX4 yX4_clearBlocks yX4_clearBlocks, Cond.code yX4_clearBlocks cX4_clearBlocks 2 none]
def wsL_law_r8 : List Cond := [Cond.methodLink RL 17 yX6_setOuter, Cond.instanceMethod yX6_setOuter, Cond.selects RX6 yX6_setOuter yX6_setOuter, Cond.code yX6_setOuter cX6_setOuter 4 (some .int), Cond.methodLink RX6 63 yX6_in, Cond.static yX6_in, Cond.code yX6_in cX6_in 3 (some .boolean), Cond.methodLink RX6 74 yX6_records, Cond.instanceMethod yX6_records, Cond.selects RX6 yX6_records yX6_records, Cond.code yX6_records cX6_records 2 none, Cond.fieldLink RX6 71 "NestedCodesModel" "states" "I", Cond.methodLink RX6 77 yX6_empties, Cond.instanceMethod yX6_empties, Cond.selects RX6 yX6_empties yX6_empties, Cond.code yX6_empties cX6_empties 2 none, Cond.methodLink RL 18 yX5_generator, Cond.instanceMethod yX5_generator, Cond.selects RX5 yX5_generator yX5_generator, Cond.code yX5_generator cX5_generator 2 (some .int), Cond.methodLink RL 22 yX6_generator, Cond.instanceMethod yX6_generator, Cond.selects RX6 yX6_generator yX6_generator, Cond.code yX6_generator cX6_generator 2 (some .int)]
def wsL_law_r9 : List Cond := [Cond.fieldLink RX6 80 "NestedCodesModel" "waits" "I", Cond.methodLink RL 23 yX5_clearGenerators, Cond.instanceMethod yX5_clearGenerators, Cond.selects RX5 yX5_clearGenerators yX5_clearGenerators, Cond.code yX5_clearGenerators cX5_clearGenerators 2 (some .int), Cond.methodLink RL 27 yX6_clearGenerators, Cond.instanceMethod yX6_clearGenerators, Cond.selects RX6 yX6_clearGenerators yX6_clearGenerators, Cond.code yX6_clearGenerators cX6_clearGenerators 2 (some .int), Cond.methodLink RL 28 yX5_setInner, Cond.instanceMethod yX5_setInner, Cond.selects RX5 yX5_setInner yX5_setInner, Cond.code yX5_setInner cX5_setInner 3 (some .int), Cond.methodLink RX5 68 yX5_generateInnerCode, Cond.static yX5_generateInnerCode, Cond.code yX5_generateInnerCode cX5_generateInnerCode 3 (some .boolean), Cond.methodLink RX5 199 yX5_generatedWord, Cond.methodLink RL 31 yX6_setInner, Cond.instanceMethod yX6_setInner, Cond.selects RX6 yX6_setInner yX6_setInner, Cond.code yX6_setInner cX6_setInner 3 (some .int), Cond.methodLink RX6 83 yX6_areGenerators, Cond.instanceMethod yX6_areGenerators, Cond.selects RX6 yX6_areGenerators yX6_areGenerators]
def wsL_law_r10 : List Cond := [Cond.code yX6_areGenerators cX6_areGenerators 6 (some .boolean), Cond.methodLink RL 32 yX5_undo, Cond.instanceMethod yX5_undo, Cond.selects RX5 yX5_undo yX5_undo, Cond.code yX5_undo cX5_undo 1 (some .int), Cond.instanceMethod yX0_restoreLatest, Cond.selects RX0 yX0_restoreLatest yX0_restoreLatest, Cond.code yX0_restoreLatest cX0_restoreLatest 2 none, Cond.methodLink RL 35 yX6_undo, Cond.instanceMethod yX6_undo, Cond.selects RX6 yX6_undo yX6_undo, Cond.code yX6_undo cX6_undo 2 (some .int), Cond.methodLink RL 36 yX5_count, Cond.instanceMethod yX5_count, Cond.selects RX5 yX5_count yX5_count, Cond.code yX5_count cX5_count 2 (some .int), Cond.instanceMethod yX4_outerDistance, Cond.selects RX4 yX4_outerDistance yX4_outerDistance, Cond.code yX4_outerDistance cX4_outerDistance 1 (some .int), Cond.methodLink RX5 91 yX5_lostBlocks, Cond.instanceMethod yX5_lostBlocks, Cond.selects RX5 yX5_lostBlocks yX5_lostBlocks, Cond.code yX5_lostBlocks cX5_lostBlocks 3 (some .int), Cond.methodLink RX5 94 yX5_wrongBits]
def wsL_law_r11 : List Cond := [Cond.instanceMethod yX5_wrongBits, Cond.selects RX5 yX5_wrongBits yX5_wrongBits, Cond.code yX5_wrongBits cX5_wrongBits 4 (some .int), Cond.methodLink RX5 125 yX5_wordSentFor, Cond.instanceMethod yX5_wordSentFor, Cond.selects RX5 yX5_wordSentFor yX5_wordSentFor, Cond.code yX5_wordSentFor cX5_wordSentFor 3 (some .int), Cond.instanceMethod yX2_codeword, Cond.selects RX2 yX2_codeword yX2_codeword, Cond.code yX2_codeword cX2_codeword 3 (some .long), Cond.methodLink RX5 118 yX5_symbolIn, Cond.static yX5_symbolIn, Cond.code yX5_symbolIn cX5_symbolIn 3 (some .int), Cond.methodLink RX5 129 yJ6_bitCount_0f7a4, Cond.methodLink RL 39 yX6_count, Cond.instanceMethod yX6_count, Cond.selects RX6 yX6_count yX6_count, Cond.code yX6_count cX6_count 2 (some .int), Cond.methodLink RX6 90 yX6_distance, Cond.instanceMethod yX6_distance, Cond.selects RX6 yX6_distance yX6_distance, Cond.code yX6_distance cX6_distance 1 (some .int), Cond.methodLink RX6 93 yX6_wrongBits, Cond.instanceMethod yX6_wrongBits]
def wsL_law_r12 : List Cond := [Cond.selects RX6 yX6_wrongBits yX6_wrongBits, Cond.code yX6_wrongBits cX6_wrongBits 3 (some .int), Cond.methodLink RX6 87 yX6_isLost, Cond.instanceMethod yX6_isLost, Cond.selects RX6 yX6_isLost yX6_isLost, Cond.code yX6_isLost cX6_isLost 2 (some .boolean), Cond.methodLink RL 40 yX5_wordOf, Cond.instanceMethod yX5_wordOf, Cond.selects RX5 yX5_wordOf yX5_wordOf, Cond.code yX5_wordOf cX5_wordOf 2 (some .int), Cond.methodLink RX5 97 yX5_isSymbol, Cond.static yX5_isSymbol, Cond.code yX5_isSymbol cX5_isSymbol 1 (some .boolean), Cond.methodLink RL 43 yX6_wordOf, Cond.instanceMethod yX6_wordOf, Cond.selects RX6 yX6_wordOf yX6_wordOf, Cond.code yX6_wordOf cX6_wordOf 2 (some .int), Cond.methodLink RL 44 yX5_product, Cond.instanceMethod yX5_product, Cond.selects RX5 yX5_product yX5_product, Cond.code yX5_product cX5_product 3 (some .int), Cond.methodLink RX5 104 yX5_fieldProduct, Cond.methodLink RL 47 yX6_product, Cond.instanceMethod yX6_product]
def wsL_law_r13 : List Cond := [Cond.selects RX6 yX6_product yX6_product, Cond.code yX6_product cX6_product 3 (some .int), Cond.methodLink RL 48 yX5_symbolFor, Cond.instanceMethod yX5_symbolFor, Cond.selects RX5 yX5_symbolFor yX5_symbolFor, Cond.code yX5_symbolFor cX5_symbolFor 3 (some .int), Cond.methodLink RX5 108 yX5_isMessage, Cond.instanceMethod yX5_isMessage, Cond.selects RX5 yX5_isMessage yX5_isMessage, Cond.code yX5_isMessage cX5_isMessage 2 (some .boolean), Cond.instanceMethod yX4_messages, Cond.selects RX4 yX4_messages yX4_messages, Cond.code yX4_messages cX4_messages 1 (some .int), Cond.methodLink RX5 111 yX5_isBlock, Cond.instanceMethod yX5_isBlock, Cond.selects RX5 yX5_isBlock yX5_isBlock, Cond.code yX5_isBlock cX5_isBlock 2 (some .boolean), Cond.methodLink RL 51 yX6_symbolFor, Cond.instanceMethod yX6_symbolFor, Cond.selects RX6 yX6_symbolFor yX6_symbolFor, Cond.code yX6_symbolFor cX6_symbolFor 3 (some .int), Cond.methodLink RX6 96 yX6_isMessage, Cond.instanceMethod yX6_isMessage, Cond.selects RX6 yX6_isMessage yX6_isMessage]
def wsL_law_r14 : List Cond := [Cond.code yX6_isMessage cX6_isMessage 2 (some .boolean), Cond.methodLink RX6 67 yX6_messages, Cond.instanceMethod yX6_messages, Cond.selects RX6 yX6_messages yX6_messages, Cond.code yX6_messages cX6_messages 1 (some .int), Cond.methodLink RX6 99 yX6_isBlock, Cond.instanceMethod yX6_isBlock, Cond.selects RX6 yX6_isBlock yX6_isBlock, Cond.code yX6_isBlock cX6_isBlock 2 (some .boolean), Cond.methodLink RL 52 yX5_send, Cond.instanceMethod yX5_send, Cond.selects RX5 yX5_send yX5_send, Cond.code yX5_send cX5_send 5 (some .int), Cond.methodLink RL 55 yX6_send, Cond.instanceMethod yX6_send, Cond.selects RX6 yX6_send yX6_send, Cond.code yX6_send cX6_send 4 (some .int), Cond.methodLink RL 56 yX5_flip, Cond.instanceMethod yX5_flip, Cond.selects RX5 yX5_flip yX5_flip, Cond.code yX5_flip cX5_flip 3 (some .int), Cond.instanceMethod yX4_allBits, Cond.selects RX4 yX4_allBits yX4_allBits, Cond.code yX4_allBits cX4_allBits 1 (some .int)]
def wsL_law_r15 : List Cond := [Cond.methodLink RL 59 yX6_flip, Cond.instanceMethod yX6_flip, Cond.selects RX6 yX6_flip yX6_flip, Cond.code yX6_flip cX6_flip 3 (some .int), Cond.methodLink RL 60 yX5_lose, Cond.instanceMethod yX5_lose, Cond.selects RX5 yX5_lose yX5_lose, Cond.code yX5_lose cX5_lose 4 (some .int), Cond.methodLink RL 63 yX6_lose, Cond.instanceMethod yX6_lose, Cond.selects RX6 yX6_lose yX6_lose, Cond.code yX6_lose cX6_lose 4 (some .int), Cond.methodLink RL 64 yX5_burst, Cond.instanceMethod yX5_burst, Cond.selects RX5 yX5_burst yX5_burst, Cond.code yX5_burst cX5_burst 7 (some .int), Cond.methodLink RX5 145 yX5_burstMask, Cond.instanceMethod yX5_burstMask, Cond.selects RX5 yX5_burstMask yX5_burstMask, Cond.code yX5_burstMask cX5_burstMask 7 (some .int), Cond.methodLink RX5 211 Lib.Math.max.name, Cond.methodLink RX5 216 Lib.Math.min.name, Cond.methodLink RL 67 yX6_burst, Cond.instanceMethod yX6_burst]
def wsL_law_r16 : List Cond := [Cond.selects RX6 yX6_burst yX6_burst, Cond.code yX6_burst cX6_burst 5 (some .int), Cond.methodLink RL 68 yX5_sendCascade, Cond.instanceMethod yX5_sendCascade, Cond.selects RX5 yX5_sendCascade yX5_sendCascade, Cond.code yX5_sendCascade cX5_sendCascade 6 (some .int), Cond.methodLink RX5 149 yX5_lawfulMessage, Cond.instanceMethod yX5_lawfulMessage, Cond.selects RX5 yX5_lawfulMessage yX5_lawfulMessage, Cond.code yX5_lawfulMessage cX5_lawfulMessage 7 (some .int), Cond.methodLink RX5 187 yX5_lawBound, Cond.instanceMethod yX5_lawBound, Cond.selects RX5 yX5_lawBound yX5_lawBound, Cond.code yX5_lawBound cX5_lawBound 1 (some .int), Cond.instanceMethod yX3_differingBlocks, Cond.selects RX3 yX3_differingBlocks yX3_differingBlocks, Cond.code yX3_differingBlocks cX3_differingBlocks 3 (some .long), Cond.static yX2_markSymbols, Cond.code yX2_markSymbols cX2_markSymbols 4 (some .long), Cond.methodLink RX5 223 yJ13_bitCount_95d88, Cond.static yJ13_bitCount_95d88, Cond.initialized RJ13, Cond.code yJ13_bitCount_95d88 cJ13_bitCount_95d88 2 (some .int), Cond.constantLong RJ13 314 (6148914691236517205)]
def wsL_law_r17 : List Cond := [Cond.constantLong RJ13 316 (3689348814741910323), Cond.constantLong RJ13 318 (1085102592571150095), Cond.instanceMethod yX3_scoreOf, Cond.selects RX3 yX3_scoreOf yX3_scoreOf, Cond.code yX3_scoreOf cX3_scoreOf 8 (some .int), Cond.methodLink RX3 80 yX3_differingBlocks, Cond.instanceMethod yX4_shiftedRound, Cond.selects RX4 yX4_shiftedRound yX4_shiftedRound, Cond.code yX4_shiftedRound cX4_shiftedRound 2 (some .int), Cond.methodLink RX4 35 yX4_allBits, Cond.methodLink RL 71 yX6_sendCascade, Cond.instanceMethod yX6_sendCascade, Cond.selects RX6 yX6_sendCascade yX6_sendCascade, Cond.code yX6_sendCascade cX6_sendCascade 7 (some .int), Cond.methodLink RX6 102 yX6_decode, Cond.instanceMethod yX6_decode, Cond.selects RX6 yX6_decode yX6_decode, Cond.code yX6_decode cX6_decode 1 (some .int), Cond.fieldLink RX6 115 "NestedCodesModel" "found" "I", Cond.methodLink RX6 130 yX6_decodes, Cond.instanceMethod yX6_decodes, Cond.selects RX6 yX6_decodes yX6_decodes, Cond.code yX6_decodes cX6_decodes 3 none, Cond.fieldLink RX6 118 "NestedCodesModel" "deciding" "I"]
def wsL_law_r18 : List Cond := [Cond.methodLink RX6 105 yX6_judges, Cond.instanceMethod yX6_judges, Cond.selects RX6 yX6_judges yX6_judges, Cond.code yX6_judges cX6_judges 3 none, Cond.methodLink RX6 121 yX6_scoreOf, Cond.instanceMethod yX6_scoreOf, Cond.selects RX6 yX6_scoreOf yX6_scoreOf, Cond.code yX6_scoreOf cX6_scoreOf 4 (some .int), Cond.methodLink RX6 124 yX6_bar, Cond.instanceMethod yX6_bar, Cond.selects RX6 yX6_bar yX6_bar, Cond.code yX6_bar cX6_bar 1 (some .int), Cond.methodLink RX6 127 yX6_trialOf, Cond.instanceMethod yX6_trialOf, Cond.selects RX6 yX6_trialOf yX6_trialOf, Cond.code yX6_trialOf cX6_trialOf 3 (some .int), Cond.methodLink RX6 111 yX6_isResult, Cond.instanceMethod yX6_isResult, Cond.selects RX6 yX6_isResult yX6_isResult, Cond.code yX6_isResult cX6_isResult 5 (some .boolean), Cond.methodLink RL 72 yX5_received, Cond.instanceMethod yX5_received, Cond.selects RX5 yX5_received yX5_received, Cond.code yX5_received cX5_received 2 (some .int)]
def wsL_law_r19 : List Cond := [Cond.methodLink RL 75 yX6_received, Cond.instanceMethod yX6_received, Cond.selects RX6 yX6_received yX6_received, Cond.code yX6_received cX6_received 2 (some .int), Cond.methodLink RL 76 yX5_sent, Cond.instanceMethod yX5_sent, Cond.selects RX5 yX5_sent yX5_sent, Cond.code yX5_sent cX5_sent 1 (some .int), Cond.methodLink RL 79 yX6_sent, Cond.instanceMethod yX6_sent, Cond.selects RX6 yX6_sent yX6_sent, Cond.code yX6_sent cX6_sent 1 (some .int), Cond.methodLink RL 80 yX5_block, Cond.instanceMethod yX5_block, Cond.selects RX5 yX5_block yX5_block, Cond.code yX5_block cX5_block 3 (some .int), Cond.methodLink RX5 164 yX5_sentSymbol, Cond.instanceMethod yX5_sentSymbol, Cond.selects RX5 yX5_sentSymbol yX5_sentSymbol, Cond.code yX5_sentSymbol cX5_sentSymbol 2 (some .int), Cond.methodLink RL 83 yX6_block, Cond.instanceMethod yX6_block, Cond.selects RX6 yX6_block yX6_block, Cond.code yX6_block cX6_block 3 (some .int)]
def wsL_law_r20 : List Cond := [Cond.methodLink RX6 108 yX6_placeOf, Cond.instanceMethod yX6_placeOf, Cond.selects RX6 yX6_placeOf yX6_placeOf, Cond.code yX6_placeOf cX6_placeOf 3 (some .int), Cond.methodLink RL 84 yX5_blockAt, Cond.instanceMethod yX5_blockAt, Cond.selects RX5 yX5_blockAt yX5_blockAt, Cond.code yX5_blockAt cX5_blockAt 2 (some .int), Cond.methodLink RL 87 yX6_blockAt, Cond.instanceMethod yX6_blockAt, Cond.selects RX6 yX6_blockAt yX6_blockAt, Cond.code yX6_blockAt cX6_blockAt 2 (some .int), Cond.methodLink RL 88 yX5_strength, Cond.instanceMethod yX5_strength, Cond.selects RX5 yX5_strength yX5_strength, Cond.code yX5_strength cX5_strength 2 (some .int), Cond.instanceMethod yX1_bitsToAnotherSymbol, Cond.selects RX1 yX1_bitsToAnotherSymbol yX1_bitsToAnotherSymbol, Cond.code yX1_bitsToAnotherSymbol cX1_bitsToAnotherSymbol 8 (some .int), Cond.methodLink RX1 41 yX1_symbolOf, Cond.methodLink RL 91 yX6_strength, Cond.instanceMethod yX6_strength, Cond.selects RX6 yX6_strength yX6_strength, Cond.code yX6_strength cX6_strength 5 (some .int)]
def wsL_law_r21 : List Cond := [Cond.methodLink RL 92 yX5_trial, Cond.instanceMethod yX5_trial, Cond.selects RX5 yX5_trial yX5_trial, Cond.code yX5_trial cX5_trial 6 (some .int), Cond.instanceMethod yX3_keptBlocks, Cond.selects RX3 yX3_keptBlocks yX3_keptBlocks, Cond.code yX3_keptBlocks cX3_keptBlocks 5 (some .long), Cond.constantLong RX3 74 (-1), Cond.methodLink RX5 179 yX5_isResult, Cond.instanceMethod yX5_isResult, Cond.selects RX5 yX5_isResult yX5_isResult, Cond.code yX5_isResult cX5_isResult 7 (some .boolean), Cond.methodLink RL 95 yX6_trial, Cond.instanceMethod yX6_trial, Cond.selects RX6 yX6_trial yX6_trial, Cond.code yX6_trial cX6_trial 3 (some .int), Cond.methodLink RL 96 yX5_score, Cond.instanceMethod yX5_score, Cond.selects RX5 yX5_score yX5_score, Cond.code yX5_score cX5_score 2 (some .int), Cond.methodLink RL 99 yX6_score, Cond.instanceMethod yX6_score, Cond.selects RX6 yX6_score yX6_score, Cond.code yX6_score cX6_score 2 (some .int)]
def wsL_law_r22 : List Cond := [Cond.methodLink RL 100 yX5_lawful, Cond.instanceMethod yX5_lawful, Cond.selects RX5 yX5_lawful yX5_lawful, Cond.code yX5_lawful cX5_lawful 1 (some .int), Cond.methodLink RL 103 yX6_lawful, Cond.instanceMethod yX6_lawful, Cond.selects RX6 yX6_lawful yX6_lawful, Cond.code yX6_lawful cX6_lawful 3 (some .int), Cond.methodLink RL 104 yX5_decode, Cond.instanceMethod yX5_decode, Cond.selects RX5 yX5_decode yX5_decode, Cond.code yX5_decode cX5_decode 2 (some .int), Cond.methodLink RL 107 yX6_decode, Cond.methodLink RL 108 yX5_decidingTrial, Cond.instanceMethod yX5_decidingTrial, Cond.selects RX5 yX5_decidingTrial yX5_decidingTrial, Cond.code yX5_decidingTrial cX5_decidingTrial 3 (some .int), Cond.methodLink RL 111 yX6_decidingTrial, Cond.instanceMethod yX6_decidingTrial, Cond.selects RX6 yX6_decidingTrial yX6_decidingTrial, Cond.code yX6_decidingTrial cX6_decidingTrial 1 (some .int), Cond.methodLink RL 112 yX5_margin, Cond.instanceMethod yX5_margin, Cond.selects RX5 yX5_margin yX5_margin]
def wsL_law_r23 : List Cond := [Cond.code yX5_margin cX5_margin 2 (some .int), Cond.methodLink RL 115 yX6_margin, Cond.instanceMethod yX6_margin, Cond.selects RX6 yX6_margin yX6_margin, Cond.code yX6_margin cX6_margin 1 (some .int), Cond.methodLink RL 116 yX5_wastedTrials, Cond.instanceMethod yX5_wastedTrials, Cond.selects RX5 yX5_wastedTrials yX5_wastedTrials, Cond.code yX5_wastedTrials cX5_wastedTrials 5 (some .int), Cond.methodLink RL 119 yX6_wastedTrials, Cond.instanceMethod yX6_wastedTrials, Cond.selects RX6 yX6_wastedTrials yX6_wastedTrials, Cond.code yX6_wastedTrials cX6_wastedTrials 4 (some .int), Cond.methodLink RL 120 yX5_isGuaranteed, Cond.instanceMethod yX5_isGuaranteed, Cond.selects RX5 yX5_isGuaranteed yX5_isGuaranteed, Cond.code yX5_isGuaranteed cX5_isGuaranteed 2 (some .int), Cond.methodLink RL 123 yX6_isGuaranteed, Cond.instanceMethod yX6_isGuaranteed, Cond.selects RX6 yX6_isGuaranteed yX6_isGuaranteed, Cond.code yX6_isGuaranteed cX6_isGuaranteed 1 (some .int), Cond.methodLink RL 124 yX5_fragileBits, Cond.instanceMethod yX5_fragileBits, Cond.selects RX5 yX5_fragileBits yX5_fragileBits]
def wsL_law_r24 : List Cond := [Cond.code yX5_fragileBits cX5_fragileBits 3 (some .int), Cond.methodLink RX5 190 yX5_fragileBitsOf, Cond.instanceMethod yX5_fragileBitsOf, Cond.selects RX5 yX5_fragileBitsOf yX5_fragileBitsOf, Cond.code yX5_fragileBitsOf cX5_fragileBitsOf 10 (some .int), Cond.methodLink RX5 193 yX5_partInSentScore, Cond.instanceMethod yX5_partInSentScore, Cond.selects RX5 yX5_partInSentScore yX5_partInSentScore, Cond.code yX5_partInSentScore cX5_partInSentScore 3 (some .int), Cond.methodLink RL 127 yX6_fragileBits, Cond.instanceMethod yX6_fragileBits, Cond.selects RX6 yX6_fragileBits yX6_fragileBits, Cond.code yX6_fragileBits cX6_fragileBits 4 (some .int), Cond.methodLink RX6 133 yX6_isRight, Cond.instanceMethod yX6_isRight, Cond.selects RX6 yX6_isRight yX6_isRight, Cond.code yX6_isRight cX6_isRight 1 (some .boolean), Cond.methodLink RL 128 yX5_fragileBlocks, Cond.instanceMethod yX5_fragileBlocks, Cond.selects RX5 yX5_fragileBlocks yX5_fragileBlocks, Cond.code yX5_fragileBlocks cX5_fragileBlocks 4 (some .int), Cond.methodLink RL 131 yX6_fragileBlocks, Cond.instanceMethod yX6_fragileBlocks, Cond.selects RX6 yX6_fragileBlocks yX6_fragileBlocks]
def wsL_law_r25 : List Cond := [Cond.code yX6_fragileBlocks cX6_fragileBlocks 4 (some .int), Cond.methodLink RL 132 yX5_nearest, Cond.instanceMethod yX5_nearest, Cond.selects RX5 yX5_nearest yX5_nearest, Cond.code yX5_nearest cX5_nearest 3 (some .int), Cond.methodLink RX5 196 yX5_nearestMessage, Cond.instanceMethod yX5_nearestMessage, Cond.selects RX5 yX5_nearestMessage yX5_nearestMessage, Cond.code yX5_nearestMessage cX5_nearestMessage 9 (some .int), Cond.methodLink RL 135 yX6_nearest, Cond.instanceMethod yX6_nearest, Cond.selects RX6 yX6_nearest yX6_nearest, Cond.code yX6_nearest cX6_nearest 7 (some .int)]
def wsL_law : List Cond := (wsL_law_r1 ++ (wsL_law_r2 ++ (wsL_law_r3 ++ (wsL_law_r4 ++ (wsL_law_r5 ++ (wsL_law_r6 ++ (wsL_law_r7 ++ (wsL_law_r8 ++ (wsL_law_r9 ++ (wsL_law_r10 ++ (wsL_law_r11 ++ (wsL_law_r12 ++ (wsL_law_r13 ++ (wsL_law_r14 ++ (wsL_law_r15 ++ (wsL_law_r16 ++ (wsL_law_r17 ++ (wsL_law_r18 ++ (wsL_law_r19 ++ (wsL_law_r20 ++ (wsL_law_r21 ++ (wsL_law_r22 ++ (wsL_law_r23 ++ (wsL_law_r24 ++ wsL_law_r25)))))))))))))))))))))))) ++ wsX50 ++ wsX60 ++ wsX40 ++ wsX00 ++ wsX10 ++ wsX20 ++ wsX30 ++ ([] : List Cond)
abbrev vwCl : List vw_C := [(RX0, TX0, 2), (RX1, TX1, 2), (RX2, TX2, 1), (RX3, TX3, 8), (RX4, TX4, 7), (RX5, TX5, 7), (RX6, TX6, 17)]
end
section
def zFw (q : String × Nat × String × String × String × String) : Cond := .fieldLinkNest q.1 q.2.1 q.2.2.1 q.2.2.2.1 q.2.2.2.2.1 q.2.2.2.2.2
def zMw (q : String × Nat × MethodName × String) : Cond := .methodLinkNest q.1 q.2.1 q.2.2.1 q.2.2.2
def zNF : List (String × Nat × String × String × String × String) := [("NestedCodes$Reading", 38, "NestedCodes$State", "length", "I", "NestedCodes"), ("NestedCodes", 55, "NestedCodes$State", "length", "I", "NestedCodes"), ("NestedCodes", 58, "NestedCodes$State", "dimension", "I", "NestedCodes"), ("NestedCodes", 72, "NestedCodes$State", "bits", "I", "NestedCodes"), ("NestedCodes", 75, "NestedCodes$State", "generators", "[I", "NestedCodes"), ("NestedCodes$Reading", 59, "NestedCodes$State", "words", "[I", "NestedCodes"), ("NestedCodes", 128, "NestedCodes$State", "words", "[I", "NestedCodes"), ("NestedCodes$Reading", 55, "NestedCodes$State", "lost", "[Z", "NestedCodes"), ("NestedCodes", 138, "NestedCodes$State", "lost", "[Z", "NestedCodes"), ("NestedCodes", 122, "NestedCodes$State", "sentMessage", "I", "NestedCodes"), ("NestedCodes", 81, "NestedCodes$History", "size", "I", "NestedCodes"), ("NestedCodes", 101, "NestedCodes$InnerCode", "words", "[I", "NestedCodes"), ("NestedCodes", 78, "NestedCodes$InnerCode", "distance", "I", "NestedCodes"), ("NestedCodes", 155, "NestedCodes$Reading", "symbols", "[I", "NestedCodes"), ("NestedCodes", 142, "NestedCodes$Reading", "gaps", "[I", "NestedCodes"), ("NestedCodes", 158, "NestedCodes$Reading", "reliabilities", "[I", "NestedCodes"), ("NestedCodes", 167, "NestedCodes$Reading", "order", "[I", "NestedCodes"), ("NestedCodes", 161, "NestedCodes$Reading", "places", "[I", "NestedCodes")]
def zNM : List (String × Nat × MethodName × String) := [("NestedCodes", 9, ⟨"NestedCodes$State", "<init>", "()V"⟩, "NestedCodes"), ("NestedCodes", 18, ⟨"NestedCodes$History", "<init>", "()V"⟩, "NestedCodes"), ("NestedCodes$History", 17, ⟨"NestedCodes$State", "<init>", "()V"⟩, "NestedCodes"), ("NestedCodes", 25, ⟨"NestedCodes$InnerCode", "<init>", "()V"⟩, "NestedCodes"), ("NestedCodes", 32, ⟨"NestedCodes$OuterCode", "<init>", "()V"⟩, "NestedCodes"), ("NestedCodes$OuterCode", 15, ⟨"NestedCodes", "fieldProduct", "(II)I"⟩, "NestedCodes"), ("NestedCodes", 39, ⟨"NestedCodes$Reading", "<init>", "()V"⟩, "NestedCodes"), ("NestedCodes", 203, ⟨"NestedCodes$InnerCode", "setGenerators", "([I)V"⟩, "NestedCodes"), ("NestedCodes$InnerCode", 19, ⟨"NestedCodes", "generatedWord", "([II)I"⟩, "NestedCodes"), ("NestedCodes", 207, ⟨"NestedCodes$Reading", "read", "(LNestedCodes$State;LNestedCodes$InnerCode;)V"⟩, "NestedCodes"), ("NestedCodes$Reading", 41, ⟨"NestedCodes$OuterCode", "marks", "(I)J"⟩, "NestedCodes"), ("NestedCodes$Reading", 62, ⟨"NestedCodes$InnerCode", "symbolOf", "(I)I"⟩, "NestedCodes"), ("NestedCodes$Reading", 67, ⟨"NestedCodes$InnerCode", "bitsBetween", "(II)I"⟩, "NestedCodes"), ("NestedCodes$Reading", 71, ⟨"NestedCodes$InnerCode", "reliability", "(I)I"⟩, "NestedCodes"), ("NestedCodes", 61, ⟨"NestedCodes$History", "record", "(LNestedCodes$State;)V"⟩, "NestedCodes"), ("NestedCodes$History", 25, ⟨"NestedCodes$State", "copyFrom", "(LNestedCodes$State;)V"⟩, "NestedCodes"), ("NestedCodes", 65, ⟨"NestedCodes$State", "clearBlocks", "()V"⟩, "NestedCodes"), ("NestedCodes", 84, ⟨"NestedCodes$History", "restoreLatest", "(LNestedCodes$State;)V"⟩, "NestedCodes"), ("NestedCodes", 87, ⟨"NestedCodes$State", "outerDistance", "()I"⟩, "NestedCodes"), ("NestedCodes", 114, ⟨"NestedCodes$OuterCode", "codeword", "(I)J"⟩, "NestedCodes"), ("NestedCodes", 176, ⟨"NestedCodes$State", "messages", "()I"⟩, "NestedCodes"), ("NestedCodes", 135, ⟨"NestedCodes$State", "allBits", "()I"⟩, "NestedCodes"), ("NestedCodes", 219, ⟨"NestedCodes$Reading", "differingBlocks", "(J)J"⟩, "NestedCodes"), ("NestedCodes$Reading", 76, ⟨"NestedCodes$OuterCode", "markSymbols", "(J)J"⟩, "NestedCodes"), ("NestedCodes", 183, ⟨"NestedCodes$Reading", "scoreOf", "(J)I"⟩, "NestedCodes"), ("NestedCodes", 152, ⟨"NestedCodes$State", "shiftedRound", "(I)I"⟩, "NestedCodes"), ("NestedCodes", 170, ⟨"NestedCodes$InnerCode", "bitsToAnotherSymbol", "(I)I"⟩, "NestedCodes"), ("NestedCodes", 173, ⟨"NestedCodes$Reading", "keptBlocks", "(I)J"⟩, "NestedCodes"), ("NestedCodes", 227, ⟨"NestedCodes$InnerCode", "symbolOf", "(I)I"⟩, "NestedCodes"), ("NestedCodes", 230, ⟨"NestedCodes$InnerCode", "bitsBetween", "(II)I"⟩, "NestedCodes"), ("NestedCodes", 233, ⟨"NestedCodes$InnerCode", "reliability", "(I)I"⟩, "NestedCodes"), ("NestedCodes", 236, ⟨"NestedCodes$OuterCode", "markSymbols", "(J)J"⟩, "NestedCodes"), ("NestedCodes", 239, ⟨"NestedCodes$OuterCode", "marks", "(I)J"⟩, "NestedCodes")]
abbrev zT (Y : Nat → ClassId) : List (ClassId × FieldType) := [(Y 0, .int), (Y 1, .boolean), (Y 2, .long), (Y 3, .byte), (Y 4, .object "NestedCodes$State")]
/-- the links between nest mates, as the tables have them -/
def zNw (U : State) : Prop := (∀ q ∈ zNF, va_Nw (zFw q) U) ∧ ∀ q ∈ zNM, va_Nw (zMw q) U
theorem zNw.same {u U : State} (h : u.vm = U.vm) (hN : zNw u) : zNw U := ⟨fun q hq => va_Nw.same rfl h (hN.1 q hq), fun q hq => va_Nw.same rfl h (hN.2 q hq)⟩
theorem zNw.warm {s U : State} (hW : s.WarmedH U.vm) (hN : zNw s) : zNw U := ⟨fun q hq => va_Nw.warmF hW (hN.1 q hq), fun q hq => va_Nw.warmM hW (hN.2 q hq)⟩
def zB (D : va_G) (Y : Nat → ClassId) (ws : va_W) (U : State) : Prop := va_P D vwCl ws U.heap ∧ va_K D vwCl (zT Y) U ∧ zNw U
def zBw (D : va_G) (Y : Nat → ClassId) (ws : va_W) (U : State) : Prop := zB D Y ws U ∧ va_D (fun _ => True) ws
theorem zB_blind {D : va_G} {Y : Nat → ClassId} {av : List Value} {ws : va_W} : FrameBlind (va_Pc av (zB D Y ws)) := fun a U g mk q => by
  obtain ⟨q0, q1, q2, q3⟩ := q
  exact ⟨q0, q1, va_K.moved (u := U) (U := U.calling g mk a) (Vm.Alike.refl U.vm) q2, zNw.same (u := U) (U := U.calling g mk a) rfl q3⟩
theorem zBw_blind {D : va_G} {Y : Nat → ClassId} {av : List Value} {ws : va_W} : FrameBlind (va_Pc av (zBw D Y ws)) := fun a U g mk q => by
  obtain ⟨q0, ⟨q1, q2, q3⟩, q4⟩ := q
  exact ⟨q0, ⟨q1, va_K.moved (u := U) (U := U.calling g mk a) (Vm.Alike.refl U.vm) q2, zNw.same (u := U) (U := U.calling g mk a) rfl q3⟩, q4⟩
/-- a method that reads: its answer, and nothing is written -/
abbrev zR (v : Value) : Array Value → State → Outcome → State → Prop := va_Sr (fun _ => True) (fun _ => v)
/-- the addresses of a world -/
def zA (ws : va_W) : Nat → Prop := fun q => ∃ (k : Nat) (e : va_E), ws[k]? = some (q, e)
/-- a method that writes: its answer, its world behind it, nothing else changed -/
def zW (v : Option Value) (D : va_G) (w1 : va_W) (A : Nat → Prop) : Array Value → State → Outcome → State → Prop := fun _ st oc t => oc = .returned v ∧ va_P D vwCl w1 t.heap ∧ va_F A st t
theorem zA_of {A : Nat → Prop} {ws : va_W} (hD : va_D A ws) : ∀ q, zA ws q → A q := fun q h => by
  obtain ⟨k, e, hk⟩ := h
  exact hD.2 k _ hk
theorem zD_self {A : Nat → Prop} {ws : va_W} (hD : va_D A ws) : va_D (zA ws) ws := ⟨hD.1, fun k q h => ⟨k, q.2, h⟩⟩
theorem zD_same {A : Nat → Prop} {ws w1 : va_W} (hD : va_D A ws) (h : w1.map Prod.fst = ws.map Prod.fst) : va_D A w1 := by
  have hk : ∀ (k : Nat) (q : Nat × va_E), w1[k]? = some q → ∃ q' : Nat × va_E, ws[k]? = some q' ∧ q'.1 = q.1 := fun k q hq => by
    have h1 : (w1.map Prod.fst)[k]? = some q.1 := by rw [List.getElem?_map, hq]; rfl
    rw [h, List.getElem?_map] at h1
    cases h2 : ws[k]? with
    | none => rw [h2] at h1; cases h1
    | some q' => rw [h2] at h1; exact ⟨q', rfl, Option.some.inj h1⟩
  refine ⟨fun i j p q hi hj e => ?_, fun k q hq => ?_⟩
  · obtain ⟨p', hp', e1⟩ := hk i p hi
    obtain ⟨q', hq', e2⟩ := hk j q hj
    exact hD.1 i j p' q' hp' hq' (by rw [e1, e2, e])
  · obtain ⟨q', hq', e1⟩ := hk k q hq
    rw [← e1]; exact hD.2 k q' hq'
theorem zP_app {D : va_G} {cl : List vw_C} {a b : va_W} {H : Heap} (h1 : va_P D cl a H) (h2 : va_P D cl b H) : va_P D cl (a ++ b) H := h1.app h2
theorem zP_left {D : va_G} {cl : List vw_C} {a b : va_W} {H : Heap} (h : va_P D cl (a ++ b) H) : va_P D cl a H := fun k q hk => h k q (by
  rw [List.getElem?_append_left (List.getElem?_eq_some_iff.mp hk).1]; exact hk)
theorem zP_right {D : va_G} {cl : List vw_C} {a b : va_W} {H : Heap} (h : va_P D cl (a ++ b) H) : va_P D cl b H := fun k q hk => h (a.length + k) q (by
  rw [List.getElem?_append_right (Nat.le_add_right _ _), Nat.add_sub_cancel_left]; exact hk)
theorem zD_left {A : Nat → Prop} {a b : va_W} (h : va_D A (a ++ b)) : va_D A a := ⟨fun i j p q hi hj e => h.1 i j p q (by rw [List.getElem?_append_left (List.getElem?_eq_some_iff.mp hi).1]; exact hi) (by rw [List.getElem?_append_left (List.getElem?_eq_some_iff.mp hj).1]; exact hj) e, fun k q hk => h.2 k q (by rw [List.getElem?_append_left (List.getElem?_eq_some_iff.mp hk).1]; exact hk)⟩
theorem zD_right {A : Nat → Prop} {a b : va_W} (h : va_D A (a ++ b)) : va_D A b := ⟨fun i j p q hi hj e => by
    have h1 := h.1 (a.length + i) (a.length + j) p q (by rw [List.getElem?_append_right (Nat.le_add_right _ _), Nat.add_sub_cancel_left]; exact hi) (by rw [List.getElem?_append_right (Nat.le_add_right _ _), Nat.add_sub_cancel_left]; exact hj) e
    omega, fun k q hk => h.2 (a.length + k) q (by rw [List.getElem?_append_right (Nat.le_add_right _ _), Nat.add_sub_cancel_left]; exact hk)⟩
theorem zD_off {A : Nat → Prop} {a b : va_W} (h : va_D A (a ++ b)) {q : Nat} (ha : zA a q) : ¬ zA b q := fun hb => by
  obtain ⟨i, e, hi⟩ := ha
  obtain ⟨j, f, hj⟩ := hb
  have h1 := h.1 i (a.length + j) (q, e) (q, f) (by rw [List.getElem?_append_left (List.getElem?_eq_some_iff.mp hi).1]; exact hi) (by rw [List.getElem?_append_right (Nat.le_add_right _ _), Nat.add_sub_cancel_left]; exact hj) rfl
  have h2 := (List.getElem?_eq_some_iff.mp hi).1
  omega
/-- a world stays where its addresses were not written -/
theorem zP_kept {D : va_G} {cl : List vw_C} {ws : va_W} {H H1 : Heap} {B : Nat → Prop} (h : va_P D cl ws H) (hlt : ∀ q, zA ws q → q < H.size) (hk : ∀ q : Nat, q < H.size → ¬ B q → H1[q]? = H[q]?) (hB : ∀ q, zA ws q → ¬ B q) : va_P D cl ws H1 :=
  h.kept (fun k q hq => hk q.1 (hlt q.1 ⟨k, q.2, hq⟩) (hB q.1 ⟨k, q.2, hq⟩))
theorem zP_lt {D : va_G} {cl : List vw_C} {ws : va_W} {H : Heap} (h : va_P D cl ws H) : ∀ q, zA ws q → q < H.size := fun q hq => by
  obtain ⟨k, e, hk⟩ := hq
  have h1 := h k _ hk
  have h2 : ∃ cell : Cell, H[q]? = some cell := by
    rcases e with a | o
    · exact ⟨_, h1⟩
    · obtain ⟨r, -, cell, hc, -⟩ := h1
      exact ⟨cell, hc⟩
  obtain ⟨cell, hc⟩ := h2
  exact (Array.getElem?_eq_some_iff.mp hc).1
/-- an int array says nothing beyond its length -/
theorem z_cellI {cA : ClassId} {n : Nat} {f g : Nat → Int32} (h : ∀ j, j < n → f j = g j) : vp_cell cA (n, .inl f) = vp_cell cA (n, .inl g) := by
  rw [vp_cell_i, vp_cell_i]
  have e : (fun j : Fin n => Value.int (f j.val)) = (fun j : Fin n => Value.int (g j.val)) := funext fun j => by rw [h j.val j.isLt]
  unfold arrV
  rw [e]
theorem z_cellL {cA : ClassId} {n : Nat} {f g : Nat → Int64} (h : ∀ j, j < n → f j = g j) : vp_cell cA (n, .inr (.inl f)) = vp_cell cA (n, .inr (.inl g)) := by
  rw [vp_cell_l, vp_cell_l]
  have e : (fun j : Fin n => Value.long (f j.val)) = (fun j : Fin n => Value.long (g j.val)) := funext fun j => by rw [h j.val j.isLt]
  unfold arrV
  rw [e]
theorem zP_cell {D : va_G} {cl : List vw_C} {ws : va_W} {H : Heap} {k a : Nat} {cA : ClassId} {x y : vp_A} (h : va_P D cl ws H) (hk : ws[k]? = some (a, .inl (cA, x))) (e : vp_cell cA x = vp_cell cA y) : va_P D cl (ws.set k (a, .inl (cA, y))) H := fun j q hj => by
  have hkl := (List.getElem?_eq_some_iff.mp hk).1
  rw [List.getElem?_set] at hj
  by_cases hjk : k = j
  · subst hjk
    rw [if_pos rfl, if_pos hkl] at hj
    cases hj
    have h1 : H[a]? = some (vp_cell cA x) := h k _ hk
    show H[a]? = some (vp_cell cA y)
    rw [h1, e]
  · rw [if_neg hjk] at hj
    exact h j q hj
theorem zP_arrI {D : va_G} {cl : List vw_C} {ws : va_W} {H : Heap} (k : Nat) {a n : Nat} {cA : ClassId} {f : Nat → Int32} (g : Nat → Int32) (h : va_P D cl ws H) (hk : ws[k]? = some (a, .inl (cA, n, .inl f))) (e : ∀ j, j < n → f j = g j) : va_P D cl (ws.set k (a, .inl (cA, n, .inl g))) H := zP_cell h hk (z_cellI e)
theorem zP_arrL {D : va_G} {cl : List vw_C} {ws : va_W} {H : Heap} (k : Nat) {a n : Nat} {cA : ClassId} {f : Nat → Int64} (g : Nat → Int64) (h : va_P D cl ws H) (hk : ws[k]? = some (a, .inl (cA, n, .inr (.inl f)))) (e : ∀ j, j < n → f j = g j) : va_P D cl (ws.set k (a, .inl (cA, n, .inr (.inl g)))) H := zP_cell h hk (z_cellL e)
/-! a method's contract out of its walk -/
theorem zr_of {l : Launch} {y : MethodName} {ws ws' : List Cond} {rm : Room} {D : va_G} {Y : Nat → ClassId} {av : List Value} {wc : va_W} {v : Value} {cc : ByteArray} {maxL : Nat} {ret : Option FieldType} (hy : plainName y.cls = true) (hw : ws = Cond.code y cc maxL ret :: ws') (hL : (lg_sl av).length ≤ maxL)
    (body : ∀ (p : Program) (e : Env) (s : State) (m : MethodId) (below : List Frame) (meth : Method) (c : Code) (R : Room) (args : Array Value) (Q : State → Prop), R = rm → p.tables.exec = Jvm.exec → c.code = cc → c.maxLocals = maxL → meth.sig.returnType = ret → meth.locks = false → s.vm.findClass y.cls = some m.cls → (∀ w ∈ ws, w.before args s = true) → va_K D vwCl (zT Y) s → zNw s → va_P D vwCl wc s.heap → Q = MQ below (zR v) args s 0 0 (fun _ => False) → ∀ ls : Array Slot, lv_has ls maxL (lv_args 0 av) → W p l e R s m args below meth c s.heap [] 0 0 Q (F0 m 0 ls [])) :
    Met l y ws rm (va_Pc av (zB D Y wc)) (zR v) 0 0 (fun _ => False) := by
  refine Met.ofW (cc := cc) (maxL := maxL) (ret := ret) hy hw ?_
  intro p e s m args below meth c s₁ B hml hv
  obtain ⟨rfl, hP, hK, hN⟩ := hv
  have hl := lv_entry av (n := maxL) hL
  rw [lg_entry_eq]
  generalize (lg_sl av ++ List.replicate (maxL - (lg_sl av).length) Slot.unset).toArray = ls at hl ⊢
  exact body p e s m below meth c _ _ _ rfl B.exec B.bytes hml B.returns B.notSynchronized (findClass_of_methodNamed B.named) (atoms_spec (ws := ws) B.pre) hK hN hP rfl ls hl
theorem zw_of {l : Launch} {y : MethodName} {ws ws' : List Cond} {rm : Room} {D : va_G} {Y : Nat → ClassId} {av : List Value} {wc w1 : va_W} {v : Option Value} {cc : ByteArray} {maxL : Nat} {ret : Option FieldType} (hy : plainName y.cls = true) (hw : ws = Cond.code y cc maxL ret :: ws') (hL : (lg_sl av).length ≤ maxL)
    (body : ∀ (p : Program) (e : Env) (s : State) (m : MethodId) (below : List Frame) (meth : Method) (c : Code) (R : Room) (args : Array Value) (Q : State → Prop) (A : Nat → Prop), R = rm → p.tables.exec = Jvm.exec → c.code = cc → c.maxLocals = maxL → meth.sig.returnType = ret → meth.locks = false → s.vm.findClass y.cls = some m.cls → (∀ w ∈ ws, w.before args s = true) → va_K D vwCl (zT Y) s → zNw s → Q = MQ below (zW v D w1 A) args s 0 0 A → va_P D vwCl wc s.heap → va_D A wc → va_S A s.heap s.heap [] → ∀ ls : Array Slot, lv_has ls maxL (lv_args 0 av) → W p l e R s m args below meth c s.heap [] 0 0 Q (F0 m 0 ls [])) :
    Met l y ws rm (va_Pc av (zBw D Y wc)) (zW v D w1 (zA wc)) 0 0 (zA wc) := by
  refine Met.ofW (cc := cc) (maxL := maxL) (ret := ret) hy hw ?_
  intro p e s m args below meth c s₁ B hml hv
  obtain ⟨rfl, ⟨hP, hK, hN⟩, hD⟩ := hv
  have hl := lv_entry av (n := maxL) hL
  rw [lg_entry_eq]
  generalize (lg_sl av ++ List.replicate (maxL - (lg_sl av).length) Slot.unset).toArray = ls at hl ⊢
  exact body p e s m below meth c _ _ _ (zA wc) rfl B.exec B.bytes hml B.returns B.notSynchronized (findClass_of_methodNamed B.named) (atoms_spec (ws := ws) B.pre) hK hN rfl hP (zD_self hD) va_S.rf ls hl
section ZROWS
variable {p : Program} {l : Launch} {e : Env} {R : Room} {s : State} {m : MethodId} {args : Array Value} {below : List Frame} {meth : Method} {c : Code} {H : Heap} {locs : List Loc} {cells slots : Nat} {Q : State → Prop} {cc : ByteArray} {pc : Nat} {ls : Array Slot} {rest : List Value} {A : Nat → Prop} {H0 : Heap} {D : va_G} {Y : Nat → ClassId} {ws w1 : va_W} {a : Nat}
/-! ends -/
theorem zr_i {v r : Int32} (hx : p.tables.exec = Jvm.exec) (hb : c.code = cc) (hr : meth.sig.returnType = some .int) (hlk : meth.locks = false) (hQ : Q = MQ below (zR (.int v)) args s 0 0 (fun _ => False)) (hdg : decode cc pc = .ok (.ireturn, 1)) (hv : r = v) : W p l e R s m args below meth c s.heap [] 0 0 Q (F0 m pc ls [.int r]) := by
  subst hQ; subst hv
  exact W.iret hx hb hr (fun t ht hW => ⟨0, rfl, trivial, ht⟩) (fun q hq => absurd hq List.not_mem_nil) hdg hlk
theorem zr_z {v r : Int32} (hx : p.tables.exec = Jvm.exec) (hb : c.code = cc) (hr : meth.sig.returnType = some .boolean) (hlk : meth.locks = false) (hQ : Q = MQ below (zR (.int v)) args s 0 0 (fun _ => False)) (hdg : decode cc pc = .ok (.ireturn, 1)) (hv : r = v) (hn : r = 0 ∨ r = 1) : W p l e R s m args below meth c s.heap [] 0 0 Q (F0 m pc ls [.int r]) := by
  subst hQ; subst hv
  exact W.zret hx hb hr (by rcases hn with rfl | rfl <;> rfl) (fun t ht hW => ⟨0, rfl, trivial, ht⟩) (fun q hq => absurd hq List.not_mem_nil) hdg hlk
theorem zr_l {v r : Int64} (hx : p.tables.exec = Jvm.exec) (hb : c.code = cc) (hr : meth.sig.returnType = some .long) (hlk : meth.locks = false) (hQ : Q = MQ below (zR (.long v)) args s 0 0 (fun _ => False)) (hdg : decode cc pc = .ok (.lreturn, 1)) (hv : r = v) : W p l e R s m args below meth c s.heap [] 0 0 Q (F0 m pc ls [.long r]) := by
  subst hQ; subst hv
  exact W.lret hx hb hr (fun t ht hW => ⟨0, rfl, trivial, ht⟩) (fun q hq => absurd hq List.not_mem_nil) hdg hlk
theorem zw_i {v r : Int32} (hx : p.tables.exec = Jvm.exec) (hb : c.code = cc) (hr : meth.sig.returnType = some .int) (hlk : meth.locks = false) (hQ : Q = MQ below (zW (some (.int v)) D w1 A) args s 0 0 A) (hS : va_S A s.heap H locs) (hdg : decode cc pc = .ok (.ireturn, 1)) (hv : r = v) (hP : va_P D vwCl w1 H) : W p l e R s m args below meth c H locs 0 0 Q (F0 m pc ls [.int r]) := by
  subst hQ; subst hv
  exact W.iret hx hb hr (fun t ht hW => ⟨rfl, by rw [ht]; exact hP, hS.F ht⟩) hS.2.2 hdg hlk
theorem zw_z {v r : Int32} (hx : p.tables.exec = Jvm.exec) (hb : c.code = cc) (hr : meth.sig.returnType = some .boolean) (hlk : meth.locks = false) (hQ : Q = MQ below (zW (some (.int v)) D w1 A) args s 0 0 A) (hS : va_S A s.heap H locs) (hdg : decode cc pc = .ok (.ireturn, 1)) (hv : r = v) (hn : r = 0 ∨ r = 1) (hP : va_P D vwCl w1 H) : W p l e R s m args below meth c H locs 0 0 Q (F0 m pc ls [.int r]) := by
  subst hQ; subst hv
  exact W.zret hx hb hr (by rcases hn with rfl | rfl <;> rfl) (fun t ht hW => ⟨rfl, by rw [ht]; exact hP, hS.F ht⟩) hS.2.2 hdg hlk
theorem zw_v (hx : p.tables.exec = Jvm.exec) (hb : c.code = cc) (hr : meth.sig.returnType = none) (hlk : meth.locks = false) (hQ : Q = MQ below (zW none D w1 A) args s 0 0 A) (hS : va_S A s.heap H locs) (hdg : decode cc pc = .ok (.return_, 1)) (hP : va_P D vwCl w1 H) : W p l e R s m args below meth c H locs 0 0 Q (F0 m pc ls []) := by
  subst hQ
  exact W.vret hx hb hr (fun t ht hW => ⟨rfl, by rw [ht]; exact hP, hS.F ht⟩) hS.2.2 hdg hlk
/-! calls -/
theorem zc_r {v : Value} {st : List Value} {aa : Array Value} (hr : CallRun p l e R s m args below meth c H locs cells slots 0 0 (F0 m pc ls st) rest (zR v aa) (fun _ => False)) (kk : W p l e R s m args below meth c H locs cells slots Q (F0 m (pc + 3) ls (v :: rest))) : W p l e R s m args below meth c H locs cells slots Q (F0 m pc ls st) :=
  va_csr hr (fun _ _ => kk)
theorem zc_w {v : Option Value} {st : List Value} {aa : Array Value} {wc : va_W} (hr : CallRun p l e R s m args below meth c H locs cells slots 0 0 (F0 m pc ls st) rest (zW v D w1 (zA wc) aa) (zA wc)) (hS : va_S A H0 H locs) (hf : ∀ q, zA wc q → A q)
    (kk : ∀ (H1 : Heap) (locs1 : List Loc), va_P D vwCl w1 H1 → H.size ≤ H1.size → (∀ q : Nat, q < H.size → ¬ zA wc q → H1[q]? = H[q]?) → va_S A H0 H1 locs1 → W p l e R s m args below meth c H1 locs1 cells slots Q (F0 m (pc + 3) ls (v.toList ++ rest))) : W p l e R s m args below meth c H locs cells slots Q (F0 m pc ls st) := by
  intro T hT X
  obtain ⟨v', st₀, t, T', L, h0, X', hL, e1, ⟨hv, hp, hz, hk⟩, st'⟩ := hr T hT X
  cases hv
  rw [h0] at hz hk
  obtain ⟨t2, a1, b1⟩ := kk T'.heap (locs ++ L) (by rw [e1]; exact hp) (by rw [e1]; exact hz) (fun q h1 h2 => by rw [e1]; exact hk q h1 h2)
    ⟨Nat.le_trans hS.1 (by rw [e1]; exact hz), fun q h1 h2 => by rw [e1, hk q (Nat.lt_of_lt_of_le h1 hS.1) (fun z => h2 (hf q z))]; exact hS.2.1 q h1 h2, fun q hq => by
      rcases List.mem_append.mp hq with h | h
      · exact hS.2.2 q h
      · exact hf _ (hL q h)⟩ T' rfl X'
  exact ⟨t2, st' t2 a1, b1⟩
theorem zp_r {v : List Value} {H : Heap} {wc : va_W} (hP : va_P D vwCl wc H) (hK : va_K D vwCl (zT Y) s) (hN : zNw s) : ∀ U : State, U.heap = H → s.WarmedH U.vm → va_Pc v (zB D Y wc) v.toArray U := fun U hU hW => ⟨rfl, by rw [hU]; exact hP, va_K.moved hW.alike hK, zNw.warm hW hN⟩
theorem zp_w {v : List Value} {H : Heap} {wc : va_W} (hP : va_P D vwCl wc H) (hD : va_D A wc) (hK : va_K D vwCl (zT Y) s) (hN : zNw s) : ∀ U : State, U.heap = H → s.WarmedH U.vm → va_Pc v (zBw D Y wc) v.toArray U := fun U hU hW => ⟨rfl, ⟨by rw [hU]; exact hP, va_K.moved hW.alike hK, zNw.warm hW hN⟩, hD.weaken (fun _ _ _ _ => trivial)⟩
end ZROWS
end
section
def bt (x : Int32) (i : Nat) : Bool := x.toBitVec.getLsbD i
theorem b_ext {x y : Int32} (h : ∀ i, i < 32 → bt x i = bt y i) : x = y := Int32.toBitVec_inj.mp (BitVec.eq_of_getLsbD_eq (fun i hi => h i hi))
theorem b_or (x y : Int32) (i : Nat) : bt (x ||| y) i = (bt x i || bt y i) := by unfold bt; rw [Int32.toBitVec_or, BitVec.getLsbD_or]
theorem b_and (x y : Int32) (i : Nat) : bt (x &&& y) i = (bt x i && bt y i) := by unfold bt; rw [Int32.toBitVec_and, BitVec.getLsbD_and]
theorem b_xor (x y : Int32) (i : Nat) : bt (x ^^^ y) i = (bt x i ^^ bt y i) := by unfold bt; rw [Int32.toBitVec_xor, BitVec.getLsbD_xor]
theorem s_l : ∀ n, n < 32 → ((nI n &&& 31).toBitVec.smod 32).toNat = n := by decide +kernel
theorem s_u : ∀ n, n < 32 → (((nI n).toUInt32 &&& Int32.toUInt32 31).toBitVec % 32).toNat = n := by decide +kernel
theorem nx_and (a b : Nat) : nI a &&& nI b = nI (a &&& b) := by
  apply Int32.toBitVec_inj.1
  show BitVec.ofNat 32 a &&& BitVec.ofNat 32 b = BitVec.ofNat 32 (a &&& b)
  apply BitVec.eq_of_getLsbD_eq
  intro i hi
  simp [hi]
theorem nx_xor (a b : Nat) : nI a ^^^ nI b = nI (a ^^^ b) := by
  apply Int32.toBitVec_inj.1
  show BitVec.ofNat 32 a ^^^ BitVec.ofNat 32 b = BitVec.ofNat 32 (a ^^^ b)
  apply BitVec.eq_of_getLsbD_eq
  intro i hi
  simp [hi]
theorem wb_tb (n : Nat) : (lN n).toBitVec = BitVec.ofNat 64 n := rfl
theorem wb_inj {a b : Int64} (h : a.toBitVec = b.toBitVec) : a = b := Int64.toBitVec_inj.mp h
theorem wb_tn {n : Nat} (h : n < 2 ^ 64) : (lN n).toBitVec.toNat = n := by rw [wb_tb, BitVec.toNat_ofNat, Nat.mod_eq_of_lt h]
theorem wb_c : ∀ k, k < 64 → ((nI k).toInt64 &&& 63) = lN k := by decide +kernel
theorem wb_cu : ∀ k, k < 64 → ((nI k).toInt64.toUInt64 &&& Int64.toUInt64 63) = UInt64.ofNat k := by decide +kernel
theorem wb_sm : ∀ k, k < 64 → (BitVec.ofNat 64 k).smod 64 = BitVec.ofNat 64 k := by decide +kernel
theorem wb_pw {a b : Nat} (h : a ≤ b) : 2 ^ b = 2 ^ a * 2 ^ (b - a) := by rw [← Nat.pow_add]; congr 1; omega
theorem wb_lt2 {a b : Nat} (h : a < b) : 2 ^ a < 2 ^ b := Nat.pow_lt_pow_right (by decide) h
theorem wb_mod (n : Nat) : lN n = lN (n % 2 ^ 64) := wb_inj (by rw [wb_tb, wb_tb]; apply BitVec.eq_of_toNat_eq; rw [BitVec.toNat_ofNat, BitVec.toNat_ofNat, Nat.mod_mod])
theorem wb_shr {n k : Nat} (hn : n < 2 ^ 64) (hk : k < 64) : ((lN n).toUInt64 >>> ((nI k).toInt64.toUInt64 &&& Int64.toUInt64 63)).toInt64 = lN (n / 2 ^ k) := by
  rw [wb_cu k hk]
  apply wb_inj
  apply BitVec.eq_of_toNat_eq
  show ((lN n).toUInt64 >>> UInt64.ofNat k).toNat = (BitVec.ofNat 64 _).toNat
  have h1 : (UInt64.ofNat k).toNat = k := by
    show (BitVec.ofNat 64 k).toNat = k
    rw [BitVec.toNat_ofNat, Nat.mod_eq_of_lt (by omega)]
  have h2 : (lN n).toUInt64.toNat = n := wb_tn hn
  rw [UInt64.toNat_shiftRight, h1, h2, Nat.mod_eq_of_lt hk, Nat.shiftRight_eq_div_pow, BitVec.toNat_ofNat, Nat.mod_eq_of_lt (Nat.lt_of_le_of_lt (Nat.div_le_self _ _) hn)]
theorem wb_shl (n : Nat) {k : Nat} (hk : k < 64) : lN n <<< ((nI k).toInt64 &&& 63) = lN (n * 2 ^ k) := by
  rw [wb_c k hk]
  apply wb_inj
  rw [Int64.toBitVec_shiftLeft, wb_tb, wb_tb, wb_tb, wb_sm k hk]
  apply BitVec.eq_of_toNat_eq
  rw [BitVec.shiftLeft_eq', BitVec.toNat_shiftLeft, BitVec.toNat_ofNat, BitVec.toNat_ofNat, BitVec.toNat_ofNat, Nat.mod_eq_of_lt (show k < 2 ^ 64 by omega), Nat.shiftLeft_eq, Nat.mul_mod, Nat.mod_mod, ← Nat.mul_mod]
theorem fa_lt (a b : Int32) : a < b ↔ a.toInt < b.toInt := Int32.lt_iff_toInt_lt
theorem fa_le (a b : Int32) : a ≤ b ↔ a.toInt ≤ b.toInt := Int32.le_iff_toInt_le
theorem fa_eq (a b : Int32) : a = b ↔ a.toInt = b.toInt := Int32.toInt_inj.symm
theorem fa_lit (n : Nat) : (OfNat.ofNat n : Int32) = nI n := rfl
theorem fa_litL (n : Nat) : (OfNat.ofNat n : Int64) = lN n := rfl
theorem fa_or (a b : Nat) : nI a ||| nI b = nI (a ||| b) := by
  apply Int32.toBitVec_inj.1
  show BitVec.ofNat 32 a ||| BitVec.ofNat 32 b = BitVec.ofNat 32 (a ||| b)
  apply BitVec.eq_of_getLsbD_eq
  intro i hi
  simp [hi]
theorem fa_byte_small {n : Nat} (h : n < 128) : (nI n).toInt8.toInt32 = nI n := by
  have : ∀ j : Fin 128, (nI j.val).toInt8.toInt32 = nI j.val := by decide +kernel
  exact this ⟨n, h⟩
theorem fb_andL (a b : Nat) : lN a &&& lN b = lN (a &&& b) := by
  apply Int64.toBitVec_inj.1
  show BitVec.ofNat 64 a &&& BitVec.ofNat 64 b = BitVec.ofNat 64 (a &&& b)
  apply BitVec.eq_of_getLsbD_eq
  intro i hi
  simp [hi]
theorem fb_orL (a b : Nat) : lN a ||| lN b = lN (a ||| b) := by
  apply Int64.toBitVec_inj.1
  show BitVec.ofNat 64 a ||| BitVec.ofNat 64 b = BitVec.ofNat 64 (a ||| b)
  apply BitVec.eq_of_getLsbD_eq
  intro i hi
  simp [hi]
theorem fb_xorL (a b : Nat) : lN a ^^^ lN b = lN (a ^^^ b) := by
  apply Int64.toBitVec_inj.1
  show BitVec.ofNat 64 a ^^^ BitVec.ofNat 64 b = BitVec.ofNat 64 (a ^^^ b)
  apply BitVec.eq_of_getLsbD_eq
  intro i hi
  simp [hi]
theorem fb_rng (x : Int32) : -2147483648 ≤ x.toInt ∧ x.toInt < 2147483648 := by
  have h1 := Int32.le_toInt x
  have h2 := Int32.toInt_lt x
  omega
theorem fb_bmod {z : Int} (h1 : -2147483648 ≤ z) (h2 : z < 2147483648) : z.bmod (2 ^ 32) = z := by
  rw [Int.bmod_eq_of_le (by omega) (by omega)]
theorem fb_ofI {z : Int} (h1 : -2147483648 ≤ z) (h2 : z < 2147483648) : (Int32.ofInt z).toInt = z := by
  rw [Int32.toInt_ofInt, fb_bmod h1 h2]
def zI (z : Int) : Int32 := Int32.ofInt z
theorem zI_toInt {z : Int} (h1 : -2147483648 ≤ z) (h2 : z < 2147483648) : (zI z).toInt = z := fb_ofI h1 h2
theorem zI_nat (n : Nat) : nI n = zI (n : Int) := by
  apply Int32.toBitVec_inj.mp
  apply BitVec.eq_of_toInt_eq
  simp [nI, zI]
theorem zI_add (a b : Int) : zI a + zI b = zI (a + b) := (Int32.ofInt_add a b).symm
theorem zI_sub (a b : Int) : zI a - zI b = zI (a - b) := (Int32.ofInt_sub a b).symm
theorem zI_neg (a : Int) : -zI a = zI (-a) := (Int32.ofInt_neg a).symm
def zq (P : Prop) [Decidable P] : Int32 := if P then 1 else 0
theorem zq_or (P : Prop) [Decidable P] : zq P = 0 ∨ zq P = 1 := by unfold zq; by_cases h : P <;> simp [h]
theorem zq_0 (P : Prop) [Decidable P] : zq P = 0 ↔ ¬ P := by unfold zq; by_cases h : P <;> simp [h]
theorem zq_t {P : Prop} [Decidable P] (h : P) : (1 : Int32) = zq P := by unfold zq; rw [if_pos h]
theorem zq_f {P : Prop} [Decidable P] (h : ¬ P) : (0 : Int32) = zq P := by unfold zq; rw [if_neg h]
theorem zq_nt {P : Prop} [Decidable P] (h : P) : nI 1 = zq P := by unfold zq; rw [if_pos h]; rfl
theorem zq_nf {P : Prop} [Decidable P] (h : ¬ P) : nI 0 = zq P := by unfold zq; rw [if_neg h]; rfl
theorem zShl {a s : Nat} (hs : s < 32) (h : a * 2 ^ s < 4294967296) : nI a <<< (nI s &&& 31) = nI (a * 2 ^ s) := pk_shlN _ s (s_l s hs) h
theorem zShr {a s : Nat} (hs : s < 32) (h : a < 2147483648) : nI a >>> (nI s &&& 31) = nI (a / 2 ^ s) := pk_shrN h _ s (s_l s hs)
theorem zUshr {a s : Nat} (hs : s < 32) (h : a < 4294967296) : ((nI a).toUInt32 >>> ((nI s).toUInt32 &&& Int32.toUInt32 31)).toInt32 = nI (a / 2 ^ s) := pk_ushrN h _ s (s_u s hs)
theorem zinc (a : Nat) : nI a + Int32.ofInt 1 = nI (a + 1) := by rw [show Int32.ofInt 1 = (1 : Int32) from by decide]; exact nI_1 a
theorem zdec {a : Nat} (h : 0 < a) : nI a + Int32.ofInt (-1) = nI (a - 1) := by
  obtain ⟨b, rfl⟩ : ∃ b, a = b + 1 := ⟨a - 1, by omega⟩
  rw [show Int32.ofInt (-1) = (-1 : Int32) from by decide, pk_m1]; rfl
theorem zdiv {a d : Nat} (ha : a < 2147483648) (h0 : 0 < d) (hd : d < 2147483648) : nI a / nI d = nI (a / d) := pk_div ha h0 hd
theorem zrem {a d : Nat} (ha : a < 2147483648) (h0 : 0 < d) (hd : d < 2147483648) : nI a - nI a / nI d * nI d = nI (a % d) := pk_rem ha h0 hd
theorem zt_n {n : Nat} (h : n < 2147483648) : (nI n).toInt = (n : Int) := nI_toInt h
theorem zmax0 {a b : Nat} (ha : a < 1073741824) (hb : b < 1073741824) : (if nI a - nI b < nI 0 then nI 0 else nI a - nI b) = nI (a - b) := by
  by_cases h : b ≤ a
  · rw [pk_sub h, if_neg (by rw [nI_ltI (by omega) (by omega)]; omega)]
  · have hn : nI a - nI b < nI 0 := pk_sneg (a := a) (b := b) hb (by omega)
    rw [if_pos hn, show a - b = 0 from by omega]
theorem zmax {a b : Nat} (ha : a < 2147483648) (hb : b < 2147483648) : (if nI a < nI b then nI b else nI a) = nI (max a b) := by
  by_cases h : a < b
  · rw [if_pos ((nI_ltI ha hb).mpr h), Nat.max_eq_right (by omega)]
  · rw [if_neg (fun c => h ((nI_ltI ha hb).mp c)), Nat.max_eq_left (by omega)]
theorem zmin {a b : Nat} (ha : a < 2147483648) (hb : b < 2147483648) : (if nI b < nI a then nI b else nI a) = nI (min a b) := by
  by_cases h : b < a
  · rw [if_pos ((nI_ltI hb ha).mpr h), Nat.min_eq_right (by omega)]
  · rw [if_neg (fun c => h ((nI_ltI hb ha).mp c)), Nat.min_eq_left (by omega)]
theorem zcmp {a b : Nat} (ha : a < 9223372036854775808) (hb : b < 9223372036854775808) : lg_cmp (lN a) (lN b) = 0 ↔ a = b := by
  rw [← pk_lEQ ha hb]
  unfold lg_cmp
  by_cases h1 : lN a > lN b
  · have h2 : ¬ lN a = lN b := fun h => by rw [h] at h1; exact absurd h1 (Int64.lt_irrefl)
    simp [h1, h2]
  · by_cases h2 : lN a = lN b
    · simp [h1, h2]
    · simp [h1, h2]
theorem zupd (W : Nat → Nat) (i v : Nat) : upd (fun j => nI (W j)) i (nI v) = fun j => nI (va_up W i v j) := by
  funext j
  unfold upd va_up
  by_cases h : j = i <;> simp [h]
theorem zupdL (W : Nat → Nat) (i v : Nat) : vp_updL (fun j => lN (W j)) i (lN v) = fun j => lN (va_up W i v j) := by
  funext j
  unfold vp_updL va_up
  by_cases h : j = i <;> simp [h]
section ZROW2
variable {p : Program} {l : Launch} {e : Env} {R : Room} {s : State} {m : MethodId} {args : Array Value} {below : List Frame} {meth : Method} {c : Code} {H : Heap} {locs : List Loc} {cells slots : Nat} {Q : State → Prop} {cc : ByteArray} {pc : Nat} {ls : Array Slot} {rest : List Value} {A : Nat → Prop} {H0 : Heap} {D : va_G} {Y : Nat → ClassId} {ws : va_W} {a : Nat}
theorem zv_iadd (hx : p.tables.exec = Jvm.exec) (hb : c.code = cc) {x y v : Int32} (hdg : decode cc pc = .ok (.iadd, 1)) (hv : x + y = v) (k : W p l e R s m args below meth c H locs cells slots Q (F0 m (pc + 1) ls (.int v :: rest))) : W p l e R s m args below meth c H locs cells slots Q (F0 m pc ls (.int y :: .int x :: rest)) := lv_iadd hx hb hdg (by rw [hv]; exact k)
theorem zv_isub (hx : p.tables.exec = Jvm.exec) (hb : c.code = cc) {x y v : Int32} (hdg : decode cc pc = .ok (.isub, 1)) (hv : x - y = v) (k : W p l e R s m args below meth c H locs cells slots Q (F0 m (pc + 1) ls (.int v :: rest))) : W p l e R s m args below meth c H locs cells slots Q (F0 m pc ls (.int y :: .int x :: rest)) := lv_isub hx hb hdg (by rw [hv]; exact k)
theorem zv_imul (hx : p.tables.exec = Jvm.exec) (hb : c.code = cc) {x y v : Int32} (hdg : decode cc pc = .ok (.imul, 1)) (hv : x * y = v) (k : W p l e R s m args below meth c H locs cells slots Q (F0 m (pc + 1) ls (.int v :: rest))) : W p l e R s m args below meth c H locs cells slots Q (F0 m pc ls (.int y :: .int x :: rest)) := lv_imul hx hb hdg (by rw [hv]; exact k)
theorem zv_iand (hx : p.tables.exec = Jvm.exec) (hb : c.code = cc) {x y v : Int32} (hdg : decode cc pc = .ok (.iand, 1)) (hv : x &&& y = v) (k : W p l e R s m args below meth c H locs cells slots Q (F0 m (pc + 1) ls (.int v :: rest))) : W p l e R s m args below meth c H locs cells slots Q (F0 m pc ls (.int y :: .int x :: rest)) := lv_iand hx hb hdg (by rw [hv]; exact k)
theorem zv_ior (hx : p.tables.exec = Jvm.exec) (hb : c.code = cc) {x y v : Int32} (hdg : decode cc pc = .ok (.ior, 1)) (hv : x ||| y = v) (k : W p l e R s m args below meth c H locs cells slots Q (F0 m (pc + 1) ls (.int v :: rest))) : W p l e R s m args below meth c H locs cells slots Q (F0 m pc ls (.int y :: .int x :: rest)) := lv_ior hx hb hdg (by rw [hv]; exact k)
theorem zv_ixor (hx : p.tables.exec = Jvm.exec) (hb : c.code = cc) {x y v : Int32} (hdg : decode cc pc = .ok (.ixor, 1)) (hv : x ^^^ y = v) (k : W p l e R s m args below meth c H locs cells slots Q (F0 m (pc + 1) ls (.int v :: rest))) : W p l e R s m args below meth c H locs cells slots Q (F0 m pc ls (.int y :: .int x :: rest)) := lv_ixor hx hb hdg (by rw [hv]; exact k)
theorem zv_ishl (hx : p.tables.exec = Jvm.exec) (hb : c.code = cc) {x y v : Int32} (hdg : decode cc pc = .ok (.ishl, 1)) (hv : x <<< (y &&& 31) = v) (k : W p l e R s m args below meth c H locs cells slots Q (F0 m (pc + 1) ls (.int v :: rest))) : W p l e R s m args below meth c H locs cells slots Q (F0 m pc ls (.int y :: .int x :: rest)) := lv_ishl hx hb hdg (by rw [hv]; exact k)
theorem zv_ishr (hx : p.tables.exec = Jvm.exec) (hb : c.code = cc) {x y v : Int32} (hdg : decode cc pc = .ok (.ishr, 1)) (hv : x >>> (y &&& 31) = v) (k : W p l e R s m args below meth c H locs cells slots Q (F0 m (pc + 1) ls (.int v :: rest))) : W p l e R s m args below meth c H locs cells slots Q (F0 m pc ls (.int y :: .int x :: rest)) := lv_ishr hx hb hdg (by rw [hv]; exact k)
theorem zv_idiv (hx : p.tables.exec = Jvm.exec) (hb : c.code = cc) {x v : Int32} {d : Nat} (hdg : decode cc pc = .ok (.idiv, 1)) (h0 : 0 < d) (hd : d < 2147483648) (hv : x / nI d = v) (k : W p l e R s m args below meth c H locs cells slots Q (F0 m (pc + 1) ls (.int v :: rest))) : W p l e R s m args below meth c H locs cells slots Q (F0 m pc ls (.int (nI d) :: .int x :: rest)) := lv_idiv hx hb hdg (nI_ne0 h0 hd) (by rw [hv]; exact k)
theorem zv_irem (hx : p.tables.exec = Jvm.exec) (hb : c.code = cc) {x v : Int32} {d : Nat} (hdg : decode cc pc = .ok (.irem, 1)) (h0 : 0 < d) (hd : d < 2147483648) (hv : x - x / nI d * nI d = v) (k : W p l e R s m args below meth c H locs cells slots Q (F0 m (pc + 1) ls (.int v :: rest))) : W p l e R s m args below meth c H locs cells slots Q (F0 m pc ls (.int (nI d) :: .int x :: rest)) := lv_irem hx hb hdg (nI_ne0 h0 hd) (by rw [hv]; exact k)
theorem zv_ineg (hx : p.tables.exec = Jvm.exec) (hb : c.code = cc) {x v : Int32} (hdg : decode cc pc = .ok (.ineg, 1)) (hv : -x = v) (k : W p l e R s m args below meth c H locs cells slots Q (F0 m (pc + 1) ls (.int v :: rest))) : W p l e R s m args below meth c H locs cells slots Q (F0 m pc ls (.int x :: rest)) := lv_ineg hx hb hdg (by rw [hv]; exact k)
theorem zv_ladd (hx : p.tables.exec = Jvm.exec) (hb : c.code = cc) {x y v : Int64} (hdg : decode cc pc = .ok (.ladd, 1)) (hv : x + y = v) (k : W p l e R s m args below meth c H locs cells slots Q (F0 m (pc + 1) ls (.long v :: rest))) : W p l e R s m args below meth c H locs cells slots Q (F0 m pc ls (.long y :: .long x :: rest)) := lv_ladd hx hb hdg (by rw [hv]; exact k)
theorem zv_lsub (hx : p.tables.exec = Jvm.exec) (hb : c.code = cc) {x y v : Int64} (hdg : decode cc pc = .ok (.lsub, 1)) (hv : x - y = v) (k : W p l e R s m args below meth c H locs cells slots Q (F0 m (pc + 1) ls (.long v :: rest))) : W p l e R s m args below meth c H locs cells slots Q (F0 m pc ls (.long y :: .long x :: rest)) := lv_lsub hx hb hdg (by rw [hv]; exact k)
theorem zv_land (hx : p.tables.exec = Jvm.exec) (hb : c.code = cc) {x y v : Int64} (hdg : decode cc pc = .ok (.land, 1)) (hv : x &&& y = v) (k : W p l e R s m args below meth c H locs cells slots Q (F0 m (pc + 1) ls (.long v :: rest))) : W p l e R s m args below meth c H locs cells slots Q (F0 m pc ls (.long y :: .long x :: rest)) := lv_land hx hb hdg (by rw [hv]; exact k)
theorem zv_lor (hx : p.tables.exec = Jvm.exec) (hb : c.code = cc) {x y v : Int64} (hdg : decode cc pc = .ok (.lor, 1)) (hv : x ||| y = v) (k : W p l e R s m args below meth c H locs cells slots Q (F0 m (pc + 1) ls (.long v :: rest))) : W p l e R s m args below meth c H locs cells slots Q (F0 m pc ls (.long y :: .long x :: rest)) := lv_lor hx hb hdg (by rw [hv]; exact k)
theorem zv_lxor (hx : p.tables.exec = Jvm.exec) (hb : c.code = cc) {x y v : Int64} (hdg : decode cc pc = .ok (.lxor, 1)) (hv : x ^^^ y = v) (k : W p l e R s m args below meth c H locs cells slots Q (F0 m (pc + 1) ls (.long v :: rest))) : W p l e R s m args below meth c H locs cells slots Q (F0 m pc ls (.long y :: .long x :: rest)) := lv_lxor hx hb hdg (by rw [hv]; exact k)
theorem zn_icmp_eq (hx : p.tables.exec = Jvm.exec) (hb : c.code = cc) {a b : Nat} {off : Int} {tgt : Nat} (hdg : decode cc pc = .ok (.if_icmp .eq off, 3)) (ht : (pc : Int) + off = (tgt : Int)) (h1 : a < 2147483648) (h2 : b < 2147483648) (kt : a = b → W p l e R s m args below meth c H locs cells slots Q (F0 m tgt ls (rest))) (kf : ¬ a = b → W p l e R s m args below meth c H locs cells slots Q (F0 m (pc + 3) ls (rest))) : W p l e R s m args below meth c H locs cells slots Q (F0 m pc ls (.int (nI b) :: .int (nI a) :: rest)) := lv_icmp_eq hx hb hdg ht (fun q => kt ((nI_eq h1 h2).mp q)) (fun q => kf (fun z => q ((nI_eq h1 h2).mpr z)))
theorem zz_icmp_eq (hx : p.tables.exec = Jvm.exec) (hb : c.code = cc) {x y : Int32} {a b : Int} {off : Int} {tgt : Nat} (hdg : decode cc pc = .ok (.if_icmp .eq off, 3)) (ht : (pc : Int) + off = (tgt : Int)) (h1 : x.toInt = a) (h2 : y.toInt = b) (kt : a = b → W p l e R s m args below meth c H locs cells slots Q (F0 m tgt ls (rest))) (kf : ¬ a = b → W p l e R s m args below meth c H locs cells slots Q (F0 m (pc + 3) ls (rest))) : W p l e R s m args below meth c H locs cells slots Q (F0 m pc ls (.int y :: .int x :: rest)) := by
  subst h1; subst h2
  exact lv_icmp_eq hx hb hdg ht (fun q => kt (by rw [← fa_eq]; exact q)) (fun q => kf (by rw [← fa_eq]; exact q))
theorem zn_if_eq (hx : p.tables.exec = Jvm.exec) (hb : c.code = cc) {a : Nat} {off : Int} {tgt : Nat} (hdg : decode cc pc = .ok (.ifCond .eq off, 3)) (ht : (pc : Int) + off = (tgt : Int)) (h1 : a < 2147483648) (kt : a = 0 → W p l e R s m args below meth c H locs cells slots Q (F0 m tgt ls (rest))) (kf : ¬ a = 0 → W p l e R s m args below meth c H locs cells slots Q (F0 m (pc + 3) ls (rest))) : W p l e R s m args below meth c H locs cells slots Q (F0 m pc ls (.int (nI a) :: rest)) := by
  have h2 : 0 < 2147483648 := by decide
  have e0 : (0 : Int32) = nI 0 := rfl
  exact lv_if_eq hx hb hdg ht (fun q => kt (by rw [e0] at q; exact (nI_eq h1 h2).mp q)) (fun q => kf (by rw [e0] at q; exact fun z => q ((nI_eq h1 h2).mpr z)))
theorem zz_if_eq (hx : p.tables.exec = Jvm.exec) (hb : c.code = cc) {x : Int32} {a : Int} {off : Int} {tgt : Nat} (hdg : decode cc pc = .ok (.ifCond .eq off, 3)) (ht : (pc : Int) + off = (tgt : Int)) (h1 : x.toInt = a) (kt : a = 0 → W p l e R s m args below meth c H locs cells slots Q (F0 m tgt ls (rest))) (kf : ¬ a = 0 → W p l e R s m args below meth c H locs cells slots Q (F0 m (pc + 3) ls (rest))) : W p l e R s m args below meth c H locs cells slots Q (F0 m pc ls (.int x :: rest)) := by
  subst h1
  have e0 : (0 : Int32).toInt = 0 := by decide
  exact lv_if_eq hx hb hdg ht (fun q => kt (by rw [← e0, ← fa_eq]; exact q)) (fun q => kf (by rw [← e0, ← fa_eq]; exact q))
theorem zn_icmp_ne (hx : p.tables.exec = Jvm.exec) (hb : c.code = cc) {a b : Nat} {off : Int} {tgt : Nat} (hdg : decode cc pc = .ok (.if_icmp .ne off, 3)) (ht : (pc : Int) + off = (tgt : Int)) (h1 : a < 2147483648) (h2 : b < 2147483648) (kt : ¬ a = b → W p l e R s m args below meth c H locs cells slots Q (F0 m tgt ls (rest))) (kf : a = b → W p l e R s m args below meth c H locs cells slots Q (F0 m (pc + 3) ls (rest))) : W p l e R s m args below meth c H locs cells slots Q (F0 m pc ls (.int (nI b) :: .int (nI a) :: rest)) := lv_icmp_ne hx hb hdg ht (fun q => kt (fun z => q ((nI_eq h1 h2).mpr z))) (fun q => kf ((nI_eq h1 h2).mp q))
theorem zz_icmp_ne (hx : p.tables.exec = Jvm.exec) (hb : c.code = cc) {x y : Int32} {a b : Int} {off : Int} {tgt : Nat} (hdg : decode cc pc = .ok (.if_icmp .ne off, 3)) (ht : (pc : Int) + off = (tgt : Int)) (h1 : x.toInt = a) (h2 : y.toInt = b) (kt : ¬ a = b → W p l e R s m args below meth c H locs cells slots Q (F0 m tgt ls (rest))) (kf : a = b → W p l e R s m args below meth c H locs cells slots Q (F0 m (pc + 3) ls (rest))) : W p l e R s m args below meth c H locs cells slots Q (F0 m pc ls (.int y :: .int x :: rest)) := by
  subst h1; subst h2
  exact lv_icmp_ne hx hb hdg ht (fun q => kt (by rw [← fa_eq]; exact q)) (fun q => kf (by rw [← fa_eq]; exact q))
theorem zn_if_ne (hx : p.tables.exec = Jvm.exec) (hb : c.code = cc) {a : Nat} {off : Int} {tgt : Nat} (hdg : decode cc pc = .ok (.ifCond .ne off, 3)) (ht : (pc : Int) + off = (tgt : Int)) (h1 : a < 2147483648) (kt : ¬ a = 0 → W p l e R s m args below meth c H locs cells slots Q (F0 m tgt ls (rest))) (kf : a = 0 → W p l e R s m args below meth c H locs cells slots Q (F0 m (pc + 3) ls (rest))) : W p l e R s m args below meth c H locs cells slots Q (F0 m pc ls (.int (nI a) :: rest)) := by
  have h2 : 0 < 2147483648 := by decide
  have e0 : (0 : Int32) = nI 0 := rfl
  exact lv_if_ne hx hb hdg ht (fun q => kt (by rw [e0] at q; exact fun z => q ((nI_eq h1 h2).mpr z))) (fun q => kf (by rw [e0] at q; exact (nI_eq h1 h2).mp q))
theorem zz_if_ne (hx : p.tables.exec = Jvm.exec) (hb : c.code = cc) {x : Int32} {a : Int} {off : Int} {tgt : Nat} (hdg : decode cc pc = .ok (.ifCond .ne off, 3)) (ht : (pc : Int) + off = (tgt : Int)) (h1 : x.toInt = a) (kt : ¬ a = 0 → W p l e R s m args below meth c H locs cells slots Q (F0 m tgt ls (rest))) (kf : a = 0 → W p l e R s m args below meth c H locs cells slots Q (F0 m (pc + 3) ls (rest))) : W p l e R s m args below meth c H locs cells slots Q (F0 m pc ls (.int x :: rest)) := by
  subst h1
  have e0 : (0 : Int32).toInt = 0 := by decide
  exact lv_if_ne hx hb hdg ht (fun q => kt (by rw [← e0, ← fa_eq]; exact q)) (fun q => kf (by rw [← e0, ← fa_eq]; exact q))
theorem zn_icmp_lt (hx : p.tables.exec = Jvm.exec) (hb : c.code = cc) {a b : Nat} {off : Int} {tgt : Nat} (hdg : decode cc pc = .ok (.if_icmp .lt off, 3)) (ht : (pc : Int) + off = (tgt : Int)) (h1 : a < 2147483648) (h2 : b < 2147483648) (kt : a < b → W p l e R s m args below meth c H locs cells slots Q (F0 m tgt ls (rest))) (kf : ¬ a < b → W p l e R s m args below meth c H locs cells slots Q (F0 m (pc + 3) ls (rest))) : W p l e R s m args below meth c H locs cells slots Q (F0 m pc ls (.int (nI b) :: .int (nI a) :: rest)) := lv_icmp_lt hx hb hdg ht (fun q => kt ((nI_ltI h1 h2).mp q)) (fun q => kf (fun z => q ((nI_ltI h1 h2).mpr z)))
theorem zz_icmp_lt (hx : p.tables.exec = Jvm.exec) (hb : c.code = cc) {x y : Int32} {a b : Int} {off : Int} {tgt : Nat} (hdg : decode cc pc = .ok (.if_icmp .lt off, 3)) (ht : (pc : Int) + off = (tgt : Int)) (h1 : x.toInt = a) (h2 : y.toInt = b) (kt : a < b → W p l e R s m args below meth c H locs cells slots Q (F0 m tgt ls (rest))) (kf : ¬ a < b → W p l e R s m args below meth c H locs cells slots Q (F0 m (pc + 3) ls (rest))) : W p l e R s m args below meth c H locs cells slots Q (F0 m pc ls (.int y :: .int x :: rest)) := by
  subst h1; subst h2
  exact lv_icmp_lt hx hb hdg ht (fun q => kt (by rw [← fa_lt]; exact q)) (fun q => kf (by rw [← fa_lt]; exact q))
theorem zn_if_lt (hx : p.tables.exec = Jvm.exec) (hb : c.code = cc) {a : Nat} {off : Int} {tgt : Nat} (hdg : decode cc pc = .ok (.ifCond .lt off, 3)) (ht : (pc : Int) + off = (tgt : Int)) (h1 : a < 2147483648) (kt : a < 0 → W p l e R s m args below meth c H locs cells slots Q (F0 m tgt ls (rest))) (kf : ¬ a < 0 → W p l e R s m args below meth c H locs cells slots Q (F0 m (pc + 3) ls (rest))) : W p l e R s m args below meth c H locs cells slots Q (F0 m pc ls (.int (nI a) :: rest)) := by
  have h2 : 0 < 2147483648 := by decide
  have e0 : (0 : Int32) = nI 0 := rfl
  exact lv_if_lt hx hb hdg ht (fun q => kt (by rw [e0] at q; exact (nI_ltI h1 h2).mp q)) (fun q => kf (by rw [e0] at q; exact fun z => q ((nI_ltI h1 h2).mpr z)))
theorem zz_if_lt (hx : p.tables.exec = Jvm.exec) (hb : c.code = cc) {x : Int32} {a : Int} {off : Int} {tgt : Nat} (hdg : decode cc pc = .ok (.ifCond .lt off, 3)) (ht : (pc : Int) + off = (tgt : Int)) (h1 : x.toInt = a) (kt : a < 0 → W p l e R s m args below meth c H locs cells slots Q (F0 m tgt ls (rest))) (kf : ¬ a < 0 → W p l e R s m args below meth c H locs cells slots Q (F0 m (pc + 3) ls (rest))) : W p l e R s m args below meth c H locs cells slots Q (F0 m pc ls (.int x :: rest)) := by
  subst h1
  have e0 : (0 : Int32).toInt = 0 := by decide
  exact lv_if_lt hx hb hdg ht (fun q => kt (by rw [← e0, ← fa_lt]; exact q)) (fun q => kf (by rw [← e0, ← fa_lt]; exact q))
theorem zn_icmp_ge (hx : p.tables.exec = Jvm.exec) (hb : c.code = cc) {a b : Nat} {off : Int} {tgt : Nat} (hdg : decode cc pc = .ok (.if_icmp .ge off, 3)) (ht : (pc : Int) + off = (tgt : Int)) (h1 : a < 2147483648) (h2 : b < 2147483648) (kt : b ≤ a → W p l e R s m args below meth c H locs cells slots Q (F0 m tgt ls (rest))) (kf : ¬ b ≤ a → W p l e R s m args below meth c H locs cells slots Q (F0 m (pc + 3) ls (rest))) : W p l e R s m args below meth c H locs cells slots Q (F0 m pc ls (.int (nI b) :: .int (nI a) :: rest)) := lv_icmp_ge hx hb hdg ht (fun q => kt ((nI_leI h2 h1).mp q)) (fun q => kf (fun z => q ((nI_leI h2 h1).mpr z)))
theorem zz_icmp_ge (hx : p.tables.exec = Jvm.exec) (hb : c.code = cc) {x y : Int32} {a b : Int} {off : Int} {tgt : Nat} (hdg : decode cc pc = .ok (.if_icmp .ge off, 3)) (ht : (pc : Int) + off = (tgt : Int)) (h1 : x.toInt = a) (h2 : y.toInt = b) (kt : b ≤ a → W p l e R s m args below meth c H locs cells slots Q (F0 m tgt ls (rest))) (kf : ¬ b ≤ a → W p l e R s m args below meth c H locs cells slots Q (F0 m (pc + 3) ls (rest))) : W p l e R s m args below meth c H locs cells slots Q (F0 m pc ls (.int y :: .int x :: rest)) := by
  subst h1; subst h2
  exact lv_icmp_ge hx hb hdg ht (fun q => kt (by rw [← fa_le]; exact q)) (fun q => kf (by rw [← fa_le]; exact q))
theorem zn_if_ge (hx : p.tables.exec = Jvm.exec) (hb : c.code = cc) {a : Nat} {off : Int} {tgt : Nat} (hdg : decode cc pc = .ok (.ifCond .ge off, 3)) (ht : (pc : Int) + off = (tgt : Int)) (h1 : a < 2147483648) (kt : 0 ≤ a → W p l e R s m args below meth c H locs cells slots Q (F0 m tgt ls (rest))) (kf : ¬ 0 ≤ a → W p l e R s m args below meth c H locs cells slots Q (F0 m (pc + 3) ls (rest))) : W p l e R s m args below meth c H locs cells slots Q (F0 m pc ls (.int (nI a) :: rest)) := by
  have h2 : 0 < 2147483648 := by decide
  have e0 : (0 : Int32) = nI 0 := rfl
  exact lv_if_ge hx hb hdg ht (fun q => kt (by rw [e0] at q; exact (nI_leI h2 h1).mp q)) (fun q => kf (by rw [e0] at q; exact fun z => q ((nI_leI h2 h1).mpr z)))
theorem zz_if_ge (hx : p.tables.exec = Jvm.exec) (hb : c.code = cc) {x : Int32} {a : Int} {off : Int} {tgt : Nat} (hdg : decode cc pc = .ok (.ifCond .ge off, 3)) (ht : (pc : Int) + off = (tgt : Int)) (h1 : x.toInt = a) (kt : 0 ≤ a → W p l e R s m args below meth c H locs cells slots Q (F0 m tgt ls (rest))) (kf : ¬ 0 ≤ a → W p l e R s m args below meth c H locs cells slots Q (F0 m (pc + 3) ls (rest))) : W p l e R s m args below meth c H locs cells slots Q (F0 m pc ls (.int x :: rest)) := by
  subst h1
  have e0 : (0 : Int32).toInt = 0 := by decide
  exact lv_if_ge hx hb hdg ht (fun q => kt (by rw [← e0, ← fa_le]; exact q)) (fun q => kf (by rw [← e0, ← fa_le]; exact q))
theorem zn_icmp_gt (hx : p.tables.exec = Jvm.exec) (hb : c.code = cc) {a b : Nat} {off : Int} {tgt : Nat} (hdg : decode cc pc = .ok (.if_icmp .gt off, 3)) (ht : (pc : Int) + off = (tgt : Int)) (h1 : a < 2147483648) (h2 : b < 2147483648) (kt : b < a → W p l e R s m args below meth c H locs cells slots Q (F0 m tgt ls (rest))) (kf : ¬ b < a → W p l e R s m args below meth c H locs cells slots Q (F0 m (pc + 3) ls (rest))) : W p l e R s m args below meth c H locs cells slots Q (F0 m pc ls (.int (nI b) :: .int (nI a) :: rest)) := lv_icmp_gt hx hb hdg ht (fun q => kt ((nI_ltI h2 h1).mp q)) (fun q => kf (fun z => q ((nI_ltI h2 h1).mpr z)))
theorem zz_icmp_gt (hx : p.tables.exec = Jvm.exec) (hb : c.code = cc) {x y : Int32} {a b : Int} {off : Int} {tgt : Nat} (hdg : decode cc pc = .ok (.if_icmp .gt off, 3)) (ht : (pc : Int) + off = (tgt : Int)) (h1 : x.toInt = a) (h2 : y.toInt = b) (kt : b < a → W p l e R s m args below meth c H locs cells slots Q (F0 m tgt ls (rest))) (kf : ¬ b < a → W p l e R s m args below meth c H locs cells slots Q (F0 m (pc + 3) ls (rest))) : W p l e R s m args below meth c H locs cells slots Q (F0 m pc ls (.int y :: .int x :: rest)) := by
  subst h1; subst h2
  exact lv_icmp_gt hx hb hdg ht (fun q => kt (by rw [← fa_lt]; exact q)) (fun q => kf (by rw [← fa_lt]; exact q))
theorem zn_if_gt (hx : p.tables.exec = Jvm.exec) (hb : c.code = cc) {a : Nat} {off : Int} {tgt : Nat} (hdg : decode cc pc = .ok (.ifCond .gt off, 3)) (ht : (pc : Int) + off = (tgt : Int)) (h1 : a < 2147483648) (kt : 0 < a → W p l e R s m args below meth c H locs cells slots Q (F0 m tgt ls (rest))) (kf : ¬ 0 < a → W p l e R s m args below meth c H locs cells slots Q (F0 m (pc + 3) ls (rest))) : W p l e R s m args below meth c H locs cells slots Q (F0 m pc ls (.int (nI a) :: rest)) := by
  have h2 : 0 < 2147483648 := by decide
  have e0 : (0 : Int32) = nI 0 := rfl
  exact lv_if_gt hx hb hdg ht (fun q => kt (by rw [e0] at q; exact (nI_ltI h2 h1).mp q)) (fun q => kf (by rw [e0] at q; exact fun z => q ((nI_ltI h2 h1).mpr z)))
theorem zz_if_gt (hx : p.tables.exec = Jvm.exec) (hb : c.code = cc) {x : Int32} {a : Int} {off : Int} {tgt : Nat} (hdg : decode cc pc = .ok (.ifCond .gt off, 3)) (ht : (pc : Int) + off = (tgt : Int)) (h1 : x.toInt = a) (kt : 0 < a → W p l e R s m args below meth c H locs cells slots Q (F0 m tgt ls (rest))) (kf : ¬ 0 < a → W p l e R s m args below meth c H locs cells slots Q (F0 m (pc + 3) ls (rest))) : W p l e R s m args below meth c H locs cells slots Q (F0 m pc ls (.int x :: rest)) := by
  subst h1
  have e0 : (0 : Int32).toInt = 0 := by decide
  exact lv_if_gt hx hb hdg ht (fun q => kt (by rw [← e0, ← fa_lt]; exact q)) (fun q => kf (by rw [← e0, ← fa_lt]; exact q))
theorem zn_icmp_le (hx : p.tables.exec = Jvm.exec) (hb : c.code = cc) {a b : Nat} {off : Int} {tgt : Nat} (hdg : decode cc pc = .ok (.if_icmp .le off, 3)) (ht : (pc : Int) + off = (tgt : Int)) (h1 : a < 2147483648) (h2 : b < 2147483648) (kt : a ≤ b → W p l e R s m args below meth c H locs cells slots Q (F0 m tgt ls (rest))) (kf : ¬ a ≤ b → W p l e R s m args below meth c H locs cells slots Q (F0 m (pc + 3) ls (rest))) : W p l e R s m args below meth c H locs cells slots Q (F0 m pc ls (.int (nI b) :: .int (nI a) :: rest)) := lv_icmp_le hx hb hdg ht (fun q => kt ((nI_leI h1 h2).mp q)) (fun q => kf (fun z => q ((nI_leI h1 h2).mpr z)))
theorem zz_icmp_le (hx : p.tables.exec = Jvm.exec) (hb : c.code = cc) {x y : Int32} {a b : Int} {off : Int} {tgt : Nat} (hdg : decode cc pc = .ok (.if_icmp .le off, 3)) (ht : (pc : Int) + off = (tgt : Int)) (h1 : x.toInt = a) (h2 : y.toInt = b) (kt : a ≤ b → W p l e R s m args below meth c H locs cells slots Q (F0 m tgt ls (rest))) (kf : ¬ a ≤ b → W p l e R s m args below meth c H locs cells slots Q (F0 m (pc + 3) ls (rest))) : W p l e R s m args below meth c H locs cells slots Q (F0 m pc ls (.int y :: .int x :: rest)) := by
  subst h1; subst h2
  exact lv_icmp_le hx hb hdg ht (fun q => kt (by rw [← fa_le]; exact q)) (fun q => kf (by rw [← fa_le]; exact q))
theorem zn_if_le (hx : p.tables.exec = Jvm.exec) (hb : c.code = cc) {a : Nat} {off : Int} {tgt : Nat} (hdg : decode cc pc = .ok (.ifCond .le off, 3)) (ht : (pc : Int) + off = (tgt : Int)) (h1 : a < 2147483648) (kt : a ≤ 0 → W p l e R s m args below meth c H locs cells slots Q (F0 m tgt ls (rest))) (kf : ¬ a ≤ 0 → W p l e R s m args below meth c H locs cells slots Q (F0 m (pc + 3) ls (rest))) : W p l e R s m args below meth c H locs cells slots Q (F0 m pc ls (.int (nI a) :: rest)) := by
  have h2 : 0 < 2147483648 := by decide
  have e0 : (0 : Int32) = nI 0 := rfl
  exact lv_if_le hx hb hdg ht (fun q => kt (by rw [e0] at q; exact (nI_leI h1 h2).mp q)) (fun q => kf (by rw [e0] at q; exact fun z => q ((nI_leI h1 h2).mpr z)))
theorem zz_if_le (hx : p.tables.exec = Jvm.exec) (hb : c.code = cc) {x : Int32} {a : Int} {off : Int} {tgt : Nat} (hdg : decode cc pc = .ok (.ifCond .le off, 3)) (ht : (pc : Int) + off = (tgt : Int)) (h1 : x.toInt = a) (kt : a ≤ 0 → W p l e R s m args below meth c H locs cells slots Q (F0 m tgt ls (rest))) (kf : ¬ a ≤ 0 → W p l e R s m args below meth c H locs cells slots Q (F0 m (pc + 3) ls (rest))) : W p l e R s m args below meth c H locs cells slots Q (F0 m pc ls (.int x :: rest)) := by
  subst h1
  have e0 : (0 : Int32).toInt = 0 := by decide
  exact lv_if_le hx hb hdg ht (fun q => kt (by rw [← e0, ← fa_le]; exact q)) (fun q => kf (by rw [← e0, ← fa_le]; exact q))
theorem zb_if_eq (hx : p.tables.exec = Jvm.exec) (hb : c.code = cc) {P : Prop} [Decidable P] {off : Int} {tgt : Nat} (hdg : decode cc pc = .ok (.ifCond .eq off, 3)) (ht : (pc : Int) + off = (tgt : Int)) (kt : ¬ P → W p l e R s m args below meth c H locs cells slots Q (F0 m tgt ls (rest))) (kf : P → W p l e R s m args below meth c H locs cells slots Q (F0 m (pc + 3) ls (rest))) : W p l e R s m args below meth c H locs cells slots Q (F0 m pc ls (.int (zq P) :: rest)) := lv_if_eq hx hb hdg ht (fun q => kt ((zq_0 P).mp q)) (fun q => kf (Decidable.not_not.mp (fun z => q ((zq_0 P).mpr z))))
theorem zb_if_ne (hx : p.tables.exec = Jvm.exec) (hb : c.code = cc) {P : Prop} [Decidable P] {off : Int} {tgt : Nat} (hdg : decode cc pc = .ok (.ifCond .ne off, 3)) (ht : (pc : Int) + off = (tgt : Int)) (kt : P → W p l e R s m args below meth c H locs cells slots Q (F0 m tgt ls (rest))) (kf : ¬ P → W p l e R s m args below meth c H locs cells slots Q (F0 m (pc + 3) ls (rest))) : W p l e R s m args below meth c H locs cells slots Q (F0 m pc ls (.int (zq P) :: rest)) := lv_if_ne hx hb hdg ht (fun q => kt (Decidable.not_not.mp (fun z => q ((zq_0 P).mpr z)))) (fun q => kf ((zq_0 P).mp q))
theorem zc_if_eq (hx : p.tables.exec = Jvm.exec) (hb : c.code = cc) {a b : Nat} {off : Int} {tgt : Nat} (hdg : decode cc pc = .ok (.ifCond .eq off, 3)) (ht : (pc : Int) + off = (tgt : Int)) (h1 : a < 9223372036854775808) (h2 : b < 9223372036854775808) (kt : a = b → W p l e R s m args below meth c H locs cells slots Q (F0 m tgt ls (rest))) (kf : ¬ a = b → W p l e R s m args below meth c H locs cells slots Q (F0 m (pc + 3) ls (rest))) : W p l e R s m args below meth c H locs cells slots Q (F0 m pc ls (.int (lg_cmp (lN a) (lN b)) :: rest)) := lv_if_eq hx hb hdg ht (fun q => kt ((zcmp h1 h2).mp q)) (fun q => kf (fun z => q ((zcmp h1 h2).mpr z)))
theorem zc_if_ne (hx : p.tables.exec = Jvm.exec) (hb : c.code = cc) {a b : Nat} {off : Int} {tgt : Nat} (hdg : decode cc pc = .ok (.ifCond .ne off, 3)) (ht : (pc : Int) + off = (tgt : Int)) (h1 : a < 9223372036854775808) (h2 : b < 9223372036854775808) (kt : ¬ a = b → W p l e R s m args below meth c H locs cells slots Q (F0 m tgt ls (rest))) (kf : a = b → W p l e R s m args below meth c H locs cells slots Q (F0 m (pc + 3) ls (rest))) : W p l e R s m args below meth c H locs cells slots Q (F0 m pc ls (.int (lg_cmp (lN a) (lN b)) :: rest)) := lv_if_ne hx hb hdg ht (fun q => kt (fun z => q ((zcmp h1 h2).mpr z))) (fun q => kf ((zcmp h1 h2).mp q))
theorem zt_i {x v : Int32} (hv : x = v) (k : W p l e R s m args below meth c H locs cells slots Q (F0 m pc ls (.int v :: rest))) : W p l e R s m args below meth c H locs cells slots Q (F0 m pc ls (.int x :: rest)) := by rw [hv]; exact k
theorem zt_l {x v : Int64} (hv : x = v) (k : W p l e R s m args below meth c H locs cells slots Q (F0 m pc ls (.long v :: rest))) : W p l e R s m args below meth c H locs cells slots Q (F0 m pc ls (.long x :: rest)) := by rw [hv]; exact k
theorem za_i (hx : p.tables.exec = Jvm.exec) (hb : c.code = cc) (hK : va_K D vwCl (zT Y) s) (hP : va_P D vwCl ws H) (q0 : Nat) {n N : Nat} {f : Nat → Int32} {v : Int32} (ha : ws[q0]? = some (a, .inl (Y 0, N, .inl f))) (hn : n < N) (hN : N < 2147483648) (hdg : decode cc pc = .ok (.iaload, 1)) (hv : f n = v) (k : W p l e R s m args below meth c H locs cells slots Q (F0 m (pc + 1) ls (.int v :: rest))) : W p l e R s m args below meth c H locs cells slots Q (F0 m pc ls (.int (nI n) :: .ref a :: rest)) := va_iald hx hb hK hP q0 0 ha rfl (vp_in_nI hn hN) hdg (by rw [nI_clamp (by omega), hv]; exact k)
theorem za_z (hx : p.tables.exec = Jvm.exec) (hb : c.code = cc) (hK : va_K D vwCl (zT Y) s) (hP : va_P D vwCl ws H) (q0 : Nat) {n N : Nat} {f : Nat → Int32} {v : Int32} (ha : ws[q0]? = some (a, .inl (Y 1, N, .inl f))) (hn : n < N) (hN : N < 2147483648) (hdg : decode cc pc = .ok (.baload, 1)) (hv : f n = v) (k : W p l e R s m args below meth c H locs cells slots Q (F0 m (pc + 1) ls (.int v :: rest))) : W p l e R s m args below meth c H locs cells slots Q (F0 m pc ls (.int (nI n) :: .ref a :: rest)) := va_zald hx hb hK hP q0 1 ha rfl (vp_in_nI hn hN) hdg (by rw [nI_clamp (by omega), hv]; exact k)
theorem za_b (hx : p.tables.exec = Jvm.exec) (hb : c.code = cc) (hK : va_K D vwCl (zT Y) s) (hP : va_P D vwCl ws H) (q0 : Nat) {n N : Nat} {f : Nat → Int32} {v : Int32} (ha : ws[q0]? = some (a, .inl (Y 3, N, .inl f))) (hn : n < N) (hN : N < 2147483648) (hdg : decode cc pc = .ok (.baload, 1)) (hv : f n = v) (k : W p l e R s m args below meth c H locs cells slots Q (F0 m (pc + 1) ls (.int v :: rest))) : W p l e R s m args below meth c H locs cells slots Q (F0 m pc ls (.int (nI n) :: .ref a :: rest)) := va_bald hx hb hK hP q0 3 ha rfl (vp_in_nI hn hN) hdg (by rw [nI_clamp (by omega), hv]; exact k)
theorem za_l (hx : p.tables.exec = Jvm.exec) (hb : c.code = cc) (hK : va_K D vwCl (zT Y) s) (hP : va_P D vwCl ws H) (q0 : Nat) {n N : Nat} {f : Nat → Int64} {v : Int64} (ha : ws[q0]? = some (a, .inl (Y 2, N, .inr (.inl f)))) (hn : n < N) (hN : N < 2147483648) (hdg : decode cc pc = .ok (.laload, 1)) (hv : f n = v) (k : W p l e R s m args below meth c H locs cells slots Q (F0 m (pc + 1) ls (.long v :: rest))) : W p l e R s m args below meth c H locs cells slots Q (F0 m pc ls (.int (nI n) :: .ref a :: rest)) := va_lald hx hb hK hP q0 2 ha rfl (vp_in_nI hn hN) hdg (by rw [nI_clamp (by omega), hv]; exact k)
theorem zs_i (hx : p.tables.exec = Jvm.exec) (hb : c.code = cc) (hK : va_K D vwCl (zT Y) s) (hP : va_P D vwCl ws H) (hD : va_D A ws) (hS : va_S A H0 H locs) (q0 : Nat) {n N : Nat} {f : Nat → Int32} {x : Int32} (ha : ws[q0]? = some (a, .inl (Y 0, N, .inl f))) (hn : n < N) (hN : N < 2147483648) (hdg : decode cc pc = .ok (.iastore, 1)) (k : ∀ (H1 : Heap) (locs1 : List Loc), va_P D vwCl (ws.set q0 (a, .inl (Y 0, N, .inl (upd f n x)))) H1 → va_D A (ws.set q0 (a, .inl (Y 0, N, .inl (upd f n x)))) → va_S A H0 H1 locs1 → W p l e R s m args below meth c H1 locs1 cells slots Q (F0 m (pc + 1) ls (rest))) : W p l e R s m args below meth c H locs cells slots Q (F0 m pc ls (.int x :: .int (nI n) :: .ref a :: rest)) := va_iast hx hb hK hP hD hS q0 0 ha rfl (vp_in_nI hn hN) hdg (by rw [nI_clamp (by omega)]; exact k)
theorem zs_z (hx : p.tables.exec = Jvm.exec) (hb : c.code = cc) (hK : va_K D vwCl (zT Y) s) (hP : va_P D vwCl ws H) (hD : va_D A ws) (hS : va_S A H0 H locs) (q0 : Nat) {n N : Nat} {f : Nat → Int32} {x : Int32} (ha : ws[q0]? = some (a, .inl (Y 1, N, .inl f))) (hn : n < N) (hN : N < 2147483648) (hdg : decode cc pc = .ok (.bastore, 1)) (k : ∀ (H1 : Heap) (locs1 : List Loc), va_P D vwCl (ws.set q0 (a, .inl (Y 1, N, .inl (upd f n (vp_nar .boolean x))))) H1 → va_D A (ws.set q0 (a, .inl (Y 1, N, .inl (upd f n (vp_nar .boolean x))))) → va_S A H0 H1 locs1 → W p l e R s m args below meth c H1 locs1 cells slots Q (F0 m (pc + 1) ls (rest))) : W p l e R s m args below meth c H locs cells slots Q (F0 m pc ls (.int x :: .int (nI n) :: .ref a :: rest)) := va_zast hx hb hK hP hD hS q0 1 ha rfl (vp_in_nI hn hN) hdg (by rw [nI_clamp (by omega)]; exact k)
theorem zs_b (hx : p.tables.exec = Jvm.exec) (hb : c.code = cc) (hK : va_K D vwCl (zT Y) s) (hP : va_P D vwCl ws H) (hD : va_D A ws) (hS : va_S A H0 H locs) (q0 : Nat) {n N : Nat} {f : Nat → Int32} {x : Int32} (ha : ws[q0]? = some (a, .inl (Y 3, N, .inl f))) (hn : n < N) (hN : N < 2147483648) (hdg : decode cc pc = .ok (.bastore, 1)) (k : ∀ (H1 : Heap) (locs1 : List Loc), va_P D vwCl (ws.set q0 (a, .inl (Y 3, N, .inl (upd f n (vp_nar .byte x))))) H1 → va_D A (ws.set q0 (a, .inl (Y 3, N, .inl (upd f n (vp_nar .byte x))))) → va_S A H0 H1 locs1 → W p l e R s m args below meth c H1 locs1 cells slots Q (F0 m (pc + 1) ls (rest))) : W p l e R s m args below meth c H locs cells slots Q (F0 m pc ls (.int x :: .int (nI n) :: .ref a :: rest)) := va_bast hx hb hK hP hD hS q0 3 ha rfl (vp_in_nI hn hN) hdg (by rw [nI_clamp (by omega)]; exact k)
theorem zs_l (hx : p.tables.exec = Jvm.exec) (hb : c.code = cc) (hK : va_K D vwCl (zT Y) s) (hP : va_P D vwCl ws H) (hD : va_D A ws) (hS : va_S A H0 H locs) (q0 : Nat) {n N : Nat} {f : Nat → Int64} {x : Int64} (ha : ws[q0]? = some (a, .inl (Y 2, N, .inr (.inl f)))) (hn : n < N) (hN : N < 2147483648) (hdg : decode cc pc = .ok (.lastore, 1)) (k : ∀ (H1 : Heap) (locs1 : List Loc), va_P D vwCl (ws.set q0 (a, .inl (Y 2, N, .inr (.inl (vp_updL f n x))))) H1 → va_D A (ws.set q0 (a, .inl (Y 2, N, .inr (.inl (vp_updL f n x))))) → va_S A H0 H1 locs1 → W p l e R s m args below meth c H1 locs1 cells slots Q (F0 m (pc + 1) ls (rest))) : W p l e R s m args below meth c H locs cells slots Q (F0 m pc ls (.long x :: .int (nI n) :: .ref a :: rest)) := va_last hx hb hK hP hD hS q0 2 ha rfl (vp_in_nI hn hN) hdg (by rw [nI_clamp (by omega)]; exact k)
end ZROW2
end
section
theorem dJ6_bitCount_0f7a4_0 : decode cJ6_bitCount_0f7a4 0 = .ok (.iload_n 0, 1) := by decide +kernel
theorem dJ6_bitCount_0f7a4_1 : decode cJ6_bitCount_0f7a4 1 = .ok (.iload_n 0, 1) := by decide +kernel
theorem dJ6_bitCount_0f7a4_2 : decode cJ6_bitCount_0f7a4 2 = .ok (.iconst 1, 1) := by decide +kernel
theorem dJ6_bitCount_0f7a4_3 : decode cJ6_bitCount_0f7a4 3 = .ok (.iushr, 1) := by decide +kernel
theorem dJ6_bitCount_0f7a4_4 : decode cJ6_bitCount_0f7a4 4 = .ok (.ldc_w 265, 3) := by decide +kernel
theorem dJ6_bitCount_0f7a4_7 : decode cJ6_bitCount_0f7a4 7 = .ok (.iand, 1) := by decide +kernel
theorem dJ6_bitCount_0f7a4_8 : decode cJ6_bitCount_0f7a4 8 = .ok (.isub, 1) := by decide +kernel
theorem dJ6_bitCount_0f7a4_9 : decode cJ6_bitCount_0f7a4 9 = .ok (.istore_n 0, 1) := by decide +kernel
theorem dJ6_bitCount_0f7a4_10 : decode cJ6_bitCount_0f7a4 10 = .ok (.iload_n 0, 1) := by decide +kernel
theorem dJ6_bitCount_0f7a4_11 : decode cJ6_bitCount_0f7a4 11 = .ok (.ldc_w 266, 3) := by decide +kernel
theorem dJ6_bitCount_0f7a4_14 : decode cJ6_bitCount_0f7a4 14 = .ok (.iand, 1) := by decide +kernel
theorem dJ6_bitCount_0f7a4_15 : decode cJ6_bitCount_0f7a4 15 = .ok (.iload_n 0, 1) := by decide +kernel
theorem dJ6_bitCount_0f7a4_16 : decode cJ6_bitCount_0f7a4 16 = .ok (.iconst 2, 1) := by decide +kernel
theorem dJ6_bitCount_0f7a4_17 : decode cJ6_bitCount_0f7a4 17 = .ok (.iushr, 1) := by decide +kernel
theorem dJ6_bitCount_0f7a4_18 : decode cJ6_bitCount_0f7a4 18 = .ok (.ldc_w 266, 3) := by decide +kernel
theorem dJ6_bitCount_0f7a4_21 : decode cJ6_bitCount_0f7a4 21 = .ok (.iand, 1) := by decide +kernel
theorem dJ6_bitCount_0f7a4_22 : decode cJ6_bitCount_0f7a4 22 = .ok (.iadd, 1) := by decide +kernel
theorem dJ6_bitCount_0f7a4_23 : decode cJ6_bitCount_0f7a4 23 = .ok (.istore_n 0, 1) := by decide +kernel
theorem dJ6_bitCount_0f7a4_24 : decode cJ6_bitCount_0f7a4 24 = .ok (.iload_n 0, 1) := by decide +kernel
theorem dJ6_bitCount_0f7a4_25 : decode cJ6_bitCount_0f7a4 25 = .ok (.iload_n 0, 1) := by decide +kernel
theorem dJ6_bitCount_0f7a4_26 : decode cJ6_bitCount_0f7a4 26 = .ok (.iconst 4, 1) := by decide +kernel
theorem dJ6_bitCount_0f7a4_27 : decode cJ6_bitCount_0f7a4 27 = .ok (.iushr, 1) := by decide +kernel
theorem dJ6_bitCount_0f7a4_28 : decode cJ6_bitCount_0f7a4 28 = .ok (.iadd, 1) := by decide +kernel
theorem dJ6_bitCount_0f7a4_29 : decode cJ6_bitCount_0f7a4 29 = .ok (.ldc_w 267, 3) := by decide +kernel
theorem dJ6_bitCount_0f7a4_32 : decode cJ6_bitCount_0f7a4 32 = .ok (.iand, 1) := by decide +kernel
theorem dJ6_bitCount_0f7a4_33 : decode cJ6_bitCount_0f7a4 33 = .ok (.istore_n 0, 1) := by decide +kernel
theorem dJ6_bitCount_0f7a4_34 : decode cJ6_bitCount_0f7a4 34 = .ok (.iload_n 0, 1) := by decide +kernel
theorem dJ6_bitCount_0f7a4_35 : decode cJ6_bitCount_0f7a4 35 = .ok (.iload_n 0, 1) := by decide +kernel
theorem dJ6_bitCount_0f7a4_36 : decode cJ6_bitCount_0f7a4 36 = .ok (.bipush 8, 2) := by decide +kernel
theorem dJ6_bitCount_0f7a4_38 : decode cJ6_bitCount_0f7a4 38 = .ok (.iushr, 1) := by decide +kernel
theorem dJ6_bitCount_0f7a4_39 : decode cJ6_bitCount_0f7a4 39 = .ok (.iadd, 1) := by decide +kernel
theorem dJ6_bitCount_0f7a4_40 : decode cJ6_bitCount_0f7a4 40 = .ok (.istore_n 0, 1) := by decide +kernel
theorem dJ6_bitCount_0f7a4_41 : decode cJ6_bitCount_0f7a4 41 = .ok (.iload_n 0, 1) := by decide +kernel
theorem dJ6_bitCount_0f7a4_42 : decode cJ6_bitCount_0f7a4 42 = .ok (.iload_n 0, 1) := by decide +kernel
theorem dJ6_bitCount_0f7a4_43 : decode cJ6_bitCount_0f7a4 43 = .ok (.bipush 16, 2) := by decide +kernel
theorem dJ6_bitCount_0f7a4_45 : decode cJ6_bitCount_0f7a4 45 = .ok (.iushr, 1) := by decide +kernel
theorem dJ6_bitCount_0f7a4_46 : decode cJ6_bitCount_0f7a4 46 = .ok (.iadd, 1) := by decide +kernel
theorem dJ6_bitCount_0f7a4_47 : decode cJ6_bitCount_0f7a4 47 = .ok (.istore_n 0, 1) := by decide +kernel
theorem dJ6_bitCount_0f7a4_48 : decode cJ6_bitCount_0f7a4 48 = .ok (.iload_n 0, 1) := by decide +kernel
theorem dJ6_bitCount_0f7a4_49 : decode cJ6_bitCount_0f7a4 49 = .ok (.bipush 63, 2) := by decide +kernel
theorem dJ6_bitCount_0f7a4_51 : decode cJ6_bitCount_0f7a4 51 = .ok (.iand, 1) := by decide +kernel
theorem dJ6_bitCount_0f7a4_52 : decode cJ6_bitCount_0f7a4 52 = .ok (.ireturn, 1) := by decide +kernel
theorem dJ13_bitCount_95d88_0 : decode cJ13_bitCount_95d88 0 = .ok (.lload_n 0, 1) := by decide +kernel
theorem dJ13_bitCount_95d88_1 : decode cJ13_bitCount_95d88 1 = .ok (.lload_n 0, 1) := by decide +kernel
theorem dJ13_bitCount_95d88_2 : decode cJ13_bitCount_95d88 2 = .ok (.iconst 1, 1) := by decide +kernel
theorem dJ13_bitCount_95d88_3 : decode cJ13_bitCount_95d88 3 = .ok (.lushr, 1) := by decide +kernel
theorem dJ13_bitCount_95d88_4 : decode cJ13_bitCount_95d88 4 = .ok (.ldc2_w 314, 3) := by decide +kernel
theorem dJ13_bitCount_95d88_7 : decode cJ13_bitCount_95d88 7 = .ok (.land, 1) := by decide +kernel
theorem dJ13_bitCount_95d88_8 : decode cJ13_bitCount_95d88 8 = .ok (.lsub, 1) := by decide +kernel
theorem dJ13_bitCount_95d88_9 : decode cJ13_bitCount_95d88 9 = .ok (.lstore_n 0, 1) := by decide +kernel
theorem dJ13_bitCount_95d88_10 : decode cJ13_bitCount_95d88 10 = .ok (.lload_n 0, 1) := by decide +kernel
theorem dJ13_bitCount_95d88_11 : decode cJ13_bitCount_95d88 11 = .ok (.ldc2_w 316, 3) := by decide +kernel
theorem dJ13_bitCount_95d88_14 : decode cJ13_bitCount_95d88 14 = .ok (.land, 1) := by decide +kernel
theorem dJ13_bitCount_95d88_15 : decode cJ13_bitCount_95d88 15 = .ok (.lload_n 0, 1) := by decide +kernel
theorem dJ13_bitCount_95d88_16 : decode cJ13_bitCount_95d88 16 = .ok (.iconst 2, 1) := by decide +kernel
theorem dJ13_bitCount_95d88_17 : decode cJ13_bitCount_95d88 17 = .ok (.lushr, 1) := by decide +kernel
theorem dJ13_bitCount_95d88_18 : decode cJ13_bitCount_95d88 18 = .ok (.ldc2_w 316, 3) := by decide +kernel
theorem dJ13_bitCount_95d88_21 : decode cJ13_bitCount_95d88 21 = .ok (.land, 1) := by decide +kernel
theorem dJ13_bitCount_95d88_22 : decode cJ13_bitCount_95d88 22 = .ok (.ladd, 1) := by decide +kernel
theorem dJ13_bitCount_95d88_23 : decode cJ13_bitCount_95d88 23 = .ok (.lstore_n 0, 1) := by decide +kernel
theorem dJ13_bitCount_95d88_24 : decode cJ13_bitCount_95d88 24 = .ok (.lload_n 0, 1) := by decide +kernel
theorem dJ13_bitCount_95d88_25 : decode cJ13_bitCount_95d88 25 = .ok (.lload_n 0, 1) := by decide +kernel
theorem dJ13_bitCount_95d88_26 : decode cJ13_bitCount_95d88 26 = .ok (.iconst 4, 1) := by decide +kernel
theorem dJ13_bitCount_95d88_27 : decode cJ13_bitCount_95d88 27 = .ok (.lushr, 1) := by decide +kernel
theorem dJ13_bitCount_95d88_28 : decode cJ13_bitCount_95d88 28 = .ok (.ladd, 1) := by decide +kernel
theorem dJ13_bitCount_95d88_29 : decode cJ13_bitCount_95d88 29 = .ok (.ldc2_w 318, 3) := by decide +kernel
theorem dJ13_bitCount_95d88_32 : decode cJ13_bitCount_95d88 32 = .ok (.land, 1) := by decide +kernel
theorem dJ13_bitCount_95d88_33 : decode cJ13_bitCount_95d88 33 = .ok (.lstore_n 0, 1) := by decide +kernel
theorem dJ13_bitCount_95d88_34 : decode cJ13_bitCount_95d88 34 = .ok (.lload_n 0, 1) := by decide +kernel
theorem dJ13_bitCount_95d88_35 : decode cJ13_bitCount_95d88 35 = .ok (.lload_n 0, 1) := by decide +kernel
theorem dJ13_bitCount_95d88_36 : decode cJ13_bitCount_95d88 36 = .ok (.bipush 8, 2) := by decide +kernel
theorem dJ13_bitCount_95d88_38 : decode cJ13_bitCount_95d88 38 = .ok (.lushr, 1) := by decide +kernel
theorem dJ13_bitCount_95d88_39 : decode cJ13_bitCount_95d88 39 = .ok (.ladd, 1) := by decide +kernel
theorem dJ13_bitCount_95d88_40 : decode cJ13_bitCount_95d88 40 = .ok (.lstore_n 0, 1) := by decide +kernel
theorem dJ13_bitCount_95d88_41 : decode cJ13_bitCount_95d88 41 = .ok (.lload_n 0, 1) := by decide +kernel
theorem dJ13_bitCount_95d88_42 : decode cJ13_bitCount_95d88 42 = .ok (.lload_n 0, 1) := by decide +kernel
theorem dJ13_bitCount_95d88_43 : decode cJ13_bitCount_95d88 43 = .ok (.bipush 16, 2) := by decide +kernel
theorem dJ13_bitCount_95d88_45 : decode cJ13_bitCount_95d88 45 = .ok (.lushr, 1) := by decide +kernel
theorem dJ13_bitCount_95d88_46 : decode cJ13_bitCount_95d88 46 = .ok (.ladd, 1) := by decide +kernel
theorem dJ13_bitCount_95d88_47 : decode cJ13_bitCount_95d88 47 = .ok (.lstore_n 0, 1) := by decide +kernel
theorem dJ13_bitCount_95d88_48 : decode cJ13_bitCount_95d88 48 = .ok (.lload_n 0, 1) := by decide +kernel
theorem dJ13_bitCount_95d88_49 : decode cJ13_bitCount_95d88 49 = .ok (.lload_n 0, 1) := by decide +kernel
theorem dJ13_bitCount_95d88_50 : decode cJ13_bitCount_95d88 50 = .ok (.bipush 32, 2) := by decide +kernel
theorem dJ13_bitCount_95d88_52 : decode cJ13_bitCount_95d88 52 = .ok (.lushr, 1) := by decide +kernel
theorem dJ13_bitCount_95d88_53 : decode cJ13_bitCount_95d88 53 = .ok (.ladd, 1) := by decide +kernel
theorem dJ13_bitCount_95d88_54 : decode cJ13_bitCount_95d88 54 = .ok (.lstore_n 0, 1) := by decide +kernel
theorem dJ13_bitCount_95d88_55 : decode cJ13_bitCount_95d88 55 = .ok (.lload_n 0, 1) := by decide +kernel
theorem dJ13_bitCount_95d88_56 : decode cJ13_bitCount_95d88 56 = .ok (.l2i, 1) := by decide +kernel
theorem dJ13_bitCount_95d88_57 : decode cJ13_bitCount_95d88 57 = .ok (.bipush 127, 2) := by decide +kernel
theorem dJ13_bitCount_95d88_59 : decode cJ13_bitCount_95d88 59 = .ok (.iand, 1) := by decide +kernel
theorem dJ13_bitCount_95d88_60 : decode cJ13_bitCount_95d88 60 = .ok (.ireturn, 1) := by decide +kernel
theorem dJ9_max_7cf53_0 : decode cJ9_max_7cf53 0 = .ok (.iload_n 0, 1) := by decide +kernel
theorem dJ9_max_7cf53_1 : decode cJ9_max_7cf53 1 = .ok (.iload_n 1, 1) := by decide +kernel
theorem dJ9_max_7cf53_2 : decode cJ9_max_7cf53 2 = .ok (.if_icmp .lt 7, 3) := by decide +kernel
theorem dJ9_max_7cf53_5 : decode cJ9_max_7cf53 5 = .ok (.iload_n 0, 1) := by decide +kernel
theorem dJ9_max_7cf53_6 : decode cJ9_max_7cf53 6 = .ok (.goto 4, 3) := by decide +kernel
theorem dJ9_max_7cf53_9 : decode cJ9_max_7cf53 9 = .ok (.iload_n 1, 1) := by decide +kernel
theorem dJ9_max_7cf53_10 : decode cJ9_max_7cf53 10 = .ok (.ireturn, 1) := by decide +kernel
theorem dJ9_min_7cf53_0 : decode cJ9_min_7cf53 0 = .ok (.iload_n 0, 1) := by decide +kernel
theorem dJ9_min_7cf53_1 : decode cJ9_min_7cf53 1 = .ok (.iload_n 1, 1) := by decide +kernel
theorem dJ9_min_7cf53_2 : decode cJ9_min_7cf53 2 = .ok (.if_icmp .gt 7, 3) := by decide +kernel
theorem dJ9_min_7cf53_5 : decode cJ9_min_7cf53 5 = .ok (.iload_n 0, 1) := by decide +kernel
theorem dJ9_min_7cf53_6 : decode cJ9_min_7cf53 6 = .ok (.goto 4, 3) := by decide +kernel
theorem dJ9_min_7cf53_9 : decode cJ9_min_7cf53 9 = .ok (.iload_n 1, 1) := by decide +kernel
theorem dJ9_min_7cf53_10 : decode cJ9_min_7cf53 10 = .ok (.ireturn, 1) := by decide +kernel
end
section
set_option maxRecDepth 20000 in
theorem ggX0_init_X4_init : GoodIn wsX0_init wsX4_init := goodIn_r _ [10, 11, 2, 3, 12, 13, 14, 15, 16, 17, 18, 19, 20, 23, 24, 25, 26, 27, 28, 29] (by decide +kernel) (by decide +kernel)
set_option maxRecDepth 20000 in
theorem gX0_init_X4_init_n17 : GoodIn wsX0_init (wsX4_init) := ggX0_init_X4_init
theorem dX0_init_0 : decode cX0_init 0 = .ok (.aload_n 0, 1) := by decide +kernel
theorem dX0_init_1 : decode cX0_init 1 = .ok (.invokespecial 3, 3) := by decide +kernel
theorem dX0_init_4 : decode cX0_init 4 = .ok (.aload_n 0, 1) := by decide +kernel
theorem dX0_init_5 : decode cX0_init 5 = .ok (.bipush 6, 2) := by decide +kernel
theorem dX0_init_7 : decode cX0_init 7 = .ok (.anewarray 9, 3) := by decide +kernel
theorem dX0_init_10 : decode cX0_init 10 = .ok (.putfield 11, 3) := by decide +kernel
theorem dX0_init_13 : decode cX0_init 13 = .ok (.iconst 0, 1) := by decide +kernel
theorem dX0_init_14 : decode cX0_init 14 = .ok (.istore_n 1, 1) := by decide +kernel
theorem dX0_init_15 : decode cX0_init 15 = .ok (.iload_n 1, 1) := by decide +kernel
theorem dX0_init_16 : decode cX0_init 16 = .ok (.bipush 6, 2) := by decide +kernel
theorem dX0_init_18 : decode cX0_init 18 = .ok (.if_icmp .ge 22, 3) := by decide +kernel
theorem dX0_init_21 : decode cX0_init 21 = .ok (.aload_n 0, 1) := by decide +kernel
theorem dX0_init_22 : decode cX0_init 22 = .ok (.getfield 11, 3) := by decide +kernel
theorem dX0_init_25 : decode cX0_init 25 = .ok (.iload_n 1, 1) := by decide +kernel
theorem dX0_init_26 : decode cX0_init 26 = .ok (.new 9, 3) := by decide +kernel
theorem dX0_init_29 : decode cX0_init 29 = .ok (.dup, 1) := by decide +kernel
theorem dX0_init_30 : decode cX0_init 30 = .ok (.invokespecial 17, 3) := by decide +kernel
theorem dX0_init_33 : decode cX0_init 33 = .ok (.aastore, 1) := by decide +kernel
theorem dX0_init_34 : decode cX0_init 34 = .ok (.iinc 1 1, 3) := by decide +kernel
theorem dX0_init_37 : decode cX0_init 37 = .ok (.goto (-22), 3) := by decide +kernel
theorem dX0_init_40 : decode cX0_init 40 = .ok (.aload_n 0, 1) := by decide +kernel
theorem dX0_init_41 : decode cX0_init 41 = .ok (.iconst 0, 1) := by decide +kernel
theorem dX0_init_42 : decode cX0_init 42 = .ok (.putfield 18, 3) := by decide +kernel
theorem dX0_init_45 : decode cX0_init 45 = .ok (.return_, 1) := by decide +kernel
set_option maxRecDepth 20000 in
theorem ggX0_record_X0_dropOldest : GoodIn wsX0_record wsX0_dropOldest := goodIn_r _ [7, 2, 1, 19, 20] (by decide +kernel) (by decide +kernel)
set_option maxRecDepth 20000 in
theorem gX0_record_X0_dropOldest : GoodIn wsX0_record (wsV RX0 22 RX0 yX0_dropOldest wsX0_dropOldest) := goodIn_app (goodIn_of _ (by decide +kernel)) ggX0_record_X0_dropOldest
set_option maxRecDepth 20000 in
theorem ggX0_record_X4_copyFrom : GoodIn wsX0_record wsX4_copyFrom := goodIn_r _ [11, 12, 13, 14, 15, 16, 17, 18, 21, 22, 23, 24, 25, 26, 27] (by decide +kernel) (by decide +kernel)
set_option maxRecDepth 20000 in
theorem gX0_record_X4_copyFrom_n25 : GoodIn wsX0_record (wsX4_copyFrom) := ggX0_record_X4_copyFrom
theorem dX0_record_0 : decode cX0_record 0 = .ok (.aload_n 0, 1) := by decide +kernel
theorem dX0_record_1 : decode cX0_record 1 = .ok (.getfield 18, 3) := by decide +kernel
theorem dX0_record_4 : decode cX0_record 4 = .ok (.bipush 6, 2) := by decide +kernel
theorem dX0_record_6 : decode cX0_record 6 = .ok (.if_icmp .lt 7, 3) := by decide +kernel
theorem dX0_record_9 : decode cX0_record 9 = .ok (.aload_n 0, 1) := by decide +kernel
theorem dX0_record_10 : decode cX0_record 10 = .ok (.invokevirtual 22, 3) := by decide +kernel
theorem dX0_record_13 : decode cX0_record 13 = .ok (.aload_n 0, 1) := by decide +kernel
theorem dX0_record_14 : decode cX0_record 14 = .ok (.getfield 11, 3) := by decide +kernel
theorem dX0_record_17 : decode cX0_record 17 = .ok (.aload_n 0, 1) := by decide +kernel
theorem dX0_record_18 : decode cX0_record 18 = .ok (.getfield 18, 3) := by decide +kernel
theorem dX0_record_21 : decode cX0_record 21 = .ok (.aaload, 1) := by decide +kernel
theorem dX0_record_22 : decode cX0_record 22 = .ok (.aload_n 1, 1) := by decide +kernel
theorem dX0_record_23 : decode cX0_record 23 = .ok (.invokevirtual 25, 3) := by decide +kernel
theorem dX0_record_26 : decode cX0_record 26 = .ok (.aload_n 0, 1) := by decide +kernel
theorem dX0_record_27 : decode cX0_record 27 = .ok (.dup, 1) := by decide +kernel
theorem dX0_record_28 : decode cX0_record 28 = .ok (.getfield 18, 3) := by decide +kernel
theorem dX0_record_31 : decode cX0_record 31 = .ok (.iconst 1, 1) := by decide +kernel
theorem dX0_record_32 : decode cX0_record 32 = .ok (.iadd, 1) := by decide +kernel
theorem dX0_record_33 : decode cX0_record 33 = .ok (.putfield 18, 3) := by decide +kernel
theorem dX0_record_36 : decode cX0_record 36 = .ok (.return_, 1) := by decide +kernel
theorem dX0_dropOldest_0 : decode cX0_dropOldest 0 = .ok (.aload_n 0, 1) := by decide +kernel
theorem dX0_dropOldest_1 : decode cX0_dropOldest 1 = .ok (.getfield 11, 3) := by decide +kernel
theorem dX0_dropOldest_4 : decode cX0_dropOldest 4 = .ok (.iconst 0, 1) := by decide +kernel
theorem dX0_dropOldest_5 : decode cX0_dropOldest 5 = .ok (.aaload, 1) := by decide +kernel
theorem dX0_dropOldest_6 : decode cX0_dropOldest 6 = .ok (.astore_n 1, 1) := by decide +kernel
theorem dX0_dropOldest_7 : decode cX0_dropOldest 7 = .ok (.iconst 1, 1) := by decide +kernel
theorem dX0_dropOldest_8 : decode cX0_dropOldest 8 = .ok (.istore_n 2, 1) := by decide +kernel
theorem dX0_dropOldest_9 : decode cX0_dropOldest 9 = .ok (.iload_n 2, 1) := by decide +kernel
theorem dX0_dropOldest_10 : decode cX0_dropOldest 10 = .ok (.bipush 6, 2) := by decide +kernel
theorem dX0_dropOldest_12 : decode cX0_dropOldest 12 = .ok (.if_icmp .ge 23, 3) := by decide +kernel
theorem dX0_dropOldest_15 : decode cX0_dropOldest 15 = .ok (.aload_n 0, 1) := by decide +kernel
theorem dX0_dropOldest_16 : decode cX0_dropOldest 16 = .ok (.getfield 11, 3) := by decide +kernel
theorem dX0_dropOldest_19 : decode cX0_dropOldest 19 = .ok (.iload_n 2, 1) := by decide +kernel
theorem dX0_dropOldest_20 : decode cX0_dropOldest 20 = .ok (.iconst 1, 1) := by decide +kernel
theorem dX0_dropOldest_21 : decode cX0_dropOldest 21 = .ok (.isub, 1) := by decide +kernel
theorem dX0_dropOldest_22 : decode cX0_dropOldest 22 = .ok (.aload_n 0, 1) := by decide +kernel
theorem dX0_dropOldest_23 : decode cX0_dropOldest 23 = .ok (.getfield 11, 3) := by decide +kernel
theorem dX0_dropOldest_26 : decode cX0_dropOldest 26 = .ok (.iload_n 2, 1) := by decide +kernel
theorem dX0_dropOldest_27 : decode cX0_dropOldest 27 = .ok (.aaload, 1) := by decide +kernel
theorem dX0_dropOldest_28 : decode cX0_dropOldest 28 = .ok (.aastore, 1) := by decide +kernel
theorem dX0_dropOldest_29 : decode cX0_dropOldest 29 = .ok (.iinc 2 1, 3) := by decide +kernel
theorem dX0_dropOldest_32 : decode cX0_dropOldest 32 = .ok (.goto (-23), 3) := by decide +kernel
theorem dX0_dropOldest_35 : decode cX0_dropOldest 35 = .ok (.aload_n 0, 1) := by decide +kernel
theorem dX0_dropOldest_36 : decode cX0_dropOldest 36 = .ok (.getfield 11, 3) := by decide +kernel
theorem dX0_dropOldest_39 : decode cX0_dropOldest 39 = .ok (.iconst 5, 1) := by decide +kernel
theorem dX0_dropOldest_40 : decode cX0_dropOldest 40 = .ok (.aload_n 1, 1) := by decide +kernel
theorem dX0_dropOldest_41 : decode cX0_dropOldest 41 = .ok (.aastore, 1) := by decide +kernel
theorem dX0_dropOldest_42 : decode cX0_dropOldest 42 = .ok (.aload_n 0, 1) := by decide +kernel
theorem dX0_dropOldest_43 : decode cX0_dropOldest 43 = .ok (.iconst 5, 1) := by decide +kernel
theorem dX0_dropOldest_44 : decode cX0_dropOldest 44 = .ok (.putfield 18, 3) := by decide +kernel
theorem dX0_dropOldest_47 : decode cX0_dropOldest 47 = .ok (.return_, 1) := by decide +kernel
set_option maxRecDepth 20000 in
theorem ggX0_restoreLatest_X4_copyFrom : GoodIn wsX0_restoreLatest wsX4_copyFrom := goodIn_r _ [6, 7, 8, 9, 10, 11, 12, 13, 16, 17, 18, 19, 20, 21, 22] (by decide +kernel) (by decide +kernel)
set_option maxRecDepth 20000 in
theorem gX0_restoreLatest_X4_copyFrom_n25 : GoodIn wsX0_restoreLatest (wsX4_copyFrom) := ggX0_restoreLatest_X4_copyFrom
theorem dX0_restoreLatest_0 : decode cX0_restoreLatest 0 = .ok (.aload_n 0, 1) := by decide +kernel
theorem dX0_restoreLatest_1 : decode cX0_restoreLatest 1 = .ok (.getfield 18, 3) := by decide +kernel
theorem dX0_restoreLatest_4 : decode cX0_restoreLatest 4 = .ok (.ifCond .le 26, 3) := by decide +kernel
theorem dX0_restoreLatest_7 : decode cX0_restoreLatest 7 = .ok (.aload_n 0, 1) := by decide +kernel
theorem dX0_restoreLatest_8 : decode cX0_restoreLatest 8 = .ok (.dup, 1) := by decide +kernel
theorem dX0_restoreLatest_9 : decode cX0_restoreLatest 9 = .ok (.getfield 18, 3) := by decide +kernel
theorem dX0_restoreLatest_12 : decode cX0_restoreLatest 12 = .ok (.iconst 1, 1) := by decide +kernel
theorem dX0_restoreLatest_13 : decode cX0_restoreLatest 13 = .ok (.isub, 1) := by decide +kernel
theorem dX0_restoreLatest_14 : decode cX0_restoreLatest 14 = .ok (.putfield 18, 3) := by decide +kernel
theorem dX0_restoreLatest_17 : decode cX0_restoreLatest 17 = .ok (.aload_n 1, 1) := by decide +kernel
theorem dX0_restoreLatest_18 : decode cX0_restoreLatest 18 = .ok (.aload_n 0, 1) := by decide +kernel
theorem dX0_restoreLatest_19 : decode cX0_restoreLatest 19 = .ok (.getfield 11, 3) := by decide +kernel
theorem dX0_restoreLatest_22 : decode cX0_restoreLatest 22 = .ok (.aload_n 0, 1) := by decide +kernel
theorem dX0_restoreLatest_23 : decode cX0_restoreLatest 23 = .ok (.getfield 18, 3) := by decide +kernel
theorem dX0_restoreLatest_26 : decode cX0_restoreLatest 26 = .ok (.aaload, 1) := by decide +kernel
theorem dX0_restoreLatest_27 : decode cX0_restoreLatest 27 = .ok (.invokevirtual 25, 3) := by decide +kernel
theorem dX0_restoreLatest_30 : decode cX0_restoreLatest 30 = .ok (.return_, 1) := by decide +kernel
theorem dX1_init_0 : decode cX1_init 0 = .ok (.aload_n 0, 1) := by decide +kernel
theorem dX1_init_1 : decode cX1_init 1 = .ok (.invokespecial 3, 3) := by decide +kernel
theorem dX1_init_4 : decode cX1_init 4 = .ok (.aload_n 0, 1) := by decide +kernel
theorem dX1_init_5 : decode cX1_init 5 = .ok (.bipush 16, 2) := by decide +kernel
theorem dX1_init_7 : decode cX1_init 7 = .ok (.newarray .int, 2) := by decide +kernel
theorem dX1_init_9 : decode cX1_init 9 = .ok (.putfield 9, 3) := by decide +kernel
theorem dX1_init_12 : decode cX1_init 12 = .ok (.aload_n 0, 1) := by decide +kernel
theorem dX1_init_13 : decode cX1_init 13 = .ok (.iconst 0, 1) := by decide +kernel
theorem dX1_init_14 : decode cX1_init 14 = .ok (.putfield 15, 3) := by decide +kernel
theorem dX1_init_17 : decode cX1_init 17 = .ok (.return_, 1) := by decide +kernel
set_option maxRecDepth 20000 in
theorem ggX1_setGenerators_X5_generatedWord : GoodIn wsX1_setGenerators wsX5_generatedWord := goodIn_r _ [9] (by decide +kernel) (by decide +kernel)
set_option maxRecDepth 20000 in
theorem gX1_setGenerators_X5_generatedWord_n19 : GoodIn wsX1_setGenerators (wsX5_generatedWord) := ggX1_setGenerators_X5_generatedWord
set_option maxRecDepth 20000 in
theorem ggX1_setGenerators_J6_bitCount_0f7a4 : GoodIn wsX1_setGenerators wsJ6_bitCount_0f7a4 := goodIn_r _ [13, 14, 15, 16] (by decide +kernel) (by decide +kernel)
set_option maxRecDepth 20000 in
theorem gX1_setGenerators_J6_bitCount_0f7a4 : GoodIn wsX1_setGenerators (va_wsS RX1 23 yJ6_bitCount_0f7a4 wsJ6_bitCount_0f7a4) := goodIn_app (goodIn_of _ (by decide +kernel)) ggX1_setGenerators_J6_bitCount_0f7a4
theorem dX1_setGenerators_0 : decode cX1_setGenerators 0 = .ok (.aload_n 0, 1) := by decide +kernel
theorem dX1_setGenerators_1 : decode cX1_setGenerators 1 = .ok (.bipush 10, 2) := by decide +kernel
theorem dX1_setGenerators_3 : decode cX1_setGenerators 3 = .ok (.putfield 15, 3) := by decide +kernel
theorem dX1_setGenerators_6 : decode cX1_setGenerators 6 = .ok (.aload_n 0, 1) := by decide +kernel
theorem dX1_setGenerators_7 : decode cX1_setGenerators 7 = .ok (.getfield 9, 3) := by decide +kernel
theorem dX1_setGenerators_10 : decode cX1_setGenerators 10 = .ok (.iconst 0, 1) := by decide +kernel
theorem dX1_setGenerators_11 : decode cX1_setGenerators 11 = .ok (.iconst 0, 1) := by decide +kernel
theorem dX1_setGenerators_12 : decode cX1_setGenerators 12 = .ok (.iastore, 1) := by decide +kernel
theorem dX1_setGenerators_13 : decode cX1_setGenerators 13 = .ok (.iconst 1, 1) := by decide +kernel
theorem dX1_setGenerators_14 : decode cX1_setGenerators 14 = .ok (.istore_n 2, 1) := by decide +kernel
theorem dX1_setGenerators_15 : decode cX1_setGenerators 15 = .ok (.iload_n 2, 1) := by decide +kernel
theorem dX1_setGenerators_16 : decode cX1_setGenerators 16 = .ok (.bipush 16, 2) := by decide +kernel
theorem dX1_setGenerators_18 : decode cX1_setGenerators 18 = .ok (.if_icmp .ge 40, 3) := by decide +kernel
theorem dX1_setGenerators_21 : decode cX1_setGenerators 21 = .ok (.aload_n 0, 1) := by decide +kernel
theorem dX1_setGenerators_22 : decode cX1_setGenerators 22 = .ok (.getfield 9, 3) := by decide +kernel
theorem dX1_setGenerators_25 : decode cX1_setGenerators 25 = .ok (.iload_n 2, 1) := by decide +kernel
theorem dX1_setGenerators_26 : decode cX1_setGenerators 26 = .ok (.aload_n 1, 1) := by decide +kernel
theorem dX1_setGenerators_27 : decode cX1_setGenerators 27 = .ok (.iload_n 2, 1) := by decide +kernel
theorem dX1_setGenerators_28 : decode cX1_setGenerators 28 = .ok (.invokestatic 19, 3) := by decide +kernel
theorem dX1_setGenerators_31 : decode cX1_setGenerators 31 = .ok (.iastore, 1) := by decide +kernel
theorem dX1_setGenerators_32 : decode cX1_setGenerators 32 = .ok (.aload_n 0, 1) := by decide +kernel
theorem dX1_setGenerators_33 : decode cX1_setGenerators 33 = .ok (.aload_n 0, 1) := by decide +kernel
theorem dX1_setGenerators_34 : decode cX1_setGenerators 34 = .ok (.getfield 15, 3) := by decide +kernel
theorem dX1_setGenerators_37 : decode cX1_setGenerators 37 = .ok (.aload_n 0, 1) := by decide +kernel
theorem dX1_setGenerators_38 : decode cX1_setGenerators 38 = .ok (.getfield 9, 3) := by decide +kernel
theorem dX1_setGenerators_41 : decode cX1_setGenerators 41 = .ok (.iload_n 2, 1) := by decide +kernel
theorem dX1_setGenerators_42 : decode cX1_setGenerators 42 = .ok (.iaload, 1) := by decide +kernel
theorem dX1_setGenerators_43 : decode cX1_setGenerators 43 = .ok (.invokestatic 23, 3) := by decide +kernel
theorem dX1_setGenerators_46 : decode cX1_setGenerators 46 = .ok (.invokestatic 29, 3) := by decide +kernel
theorem dX1_setGenerators_49 : decode cX1_setGenerators 49 = .ok (.putfield 15, 3) := by decide +kernel
theorem dX1_setGenerators_52 : decode cX1_setGenerators 52 = .ok (.iinc 2 1, 3) := by decide +kernel
theorem dX1_setGenerators_55 : decode cX1_setGenerators 55 = .ok (.goto (-40), 3) := by decide +kernel
theorem dX1_setGenerators_58 : decode cX1_setGenerators 58 = .ok (.return_, 1) := by decide +kernel
set_option maxRecDepth 20000 in
theorem ggX1_bitsBetween_J6_bitCount_0f7a4 : GoodIn wsX1_bitsBetween wsJ6_bitCount_0f7a4 := goodIn_r _ [5, 6, 7, 8] (by decide +kernel) (by decide +kernel)
set_option maxRecDepth 20000 in
theorem gX1_bitsBetween_J6_bitCount_0f7a4 : GoodIn wsX1_bitsBetween (va_wsS RX1 23 yJ6_bitCount_0f7a4 wsJ6_bitCount_0f7a4) := goodIn_app (goodIn_of _ (by decide +kernel)) ggX1_bitsBetween_J6_bitCount_0f7a4
theorem dX1_bitsBetween_0 : decode cX1_bitsBetween 0 = .ok (.iload_n 1, 1) := by decide +kernel
theorem dX1_bitsBetween_1 : decode cX1_bitsBetween 1 = .ok (.aload_n 0, 1) := by decide +kernel
theorem dX1_bitsBetween_2 : decode cX1_bitsBetween 2 = .ok (.getfield 9, 3) := by decide +kernel
theorem dX1_bitsBetween_5 : decode cX1_bitsBetween 5 = .ok (.iload_n 2, 1) := by decide +kernel
theorem dX1_bitsBetween_6 : decode cX1_bitsBetween 6 = .ok (.iaload, 1) := by decide +kernel
theorem dX1_bitsBetween_7 : decode cX1_bitsBetween 7 = .ok (.ixor, 1) := by decide +kernel
theorem dX1_bitsBetween_8 : decode cX1_bitsBetween 8 = .ok (.invokestatic 23, 3) := by decide +kernel
theorem dX1_bitsBetween_11 : decode cX1_bitsBetween 11 = .ok (.ireturn, 1) := by decide +kernel
set_option maxRecDepth 20000 in
theorem ggX1_symbolOf_X1_bitsBetween : GoodIn wsX1_symbolOf wsX1_bitsBetween := goodIn_r _ [5, 6, 7, 8, 9, 10, 11, 12, 13, 14, 15] (by decide +kernel) (by decide +kernel)
set_option maxRecDepth 20000 in
theorem gX1_symbolOf_X1_bitsBetween : GoodIn wsX1_symbolOf (wsV RX1 35 RX1 yX1_bitsBetween wsX1_bitsBetween) := goodIn_app (goodIn_of _ (by decide +kernel)) ggX1_symbolOf_X1_bitsBetween
theorem dX1_symbolOf_0 : decode cX1_symbolOf 0 = .ok (.iconst 0, 1) := by decide +kernel
theorem dX1_symbolOf_1 : decode cX1_symbolOf 1 = .ok (.istore_n 2, 1) := by decide +kernel
theorem dX1_symbolOf_2 : decode cX1_symbolOf 2 = .ok (.iconst 1, 1) := by decide +kernel
theorem dX1_symbolOf_3 : decode cX1_symbolOf 3 = .ok (.istore_n 3, 1) := by decide +kernel
theorem dX1_symbolOf_4 : decode cX1_symbolOf 4 = .ok (.iload_n 3, 1) := by decide +kernel
theorem dX1_symbolOf_5 : decode cX1_symbolOf 5 = .ok (.bipush 16, 2) := by decide +kernel
theorem dX1_symbolOf_7 : decode cX1_symbolOf 7 = .ok (.if_icmp .ge 26, 3) := by decide +kernel
theorem dX1_symbolOf_10 : decode cX1_symbolOf 10 = .ok (.aload_n 0, 1) := by decide +kernel
theorem dX1_symbolOf_11 : decode cX1_symbolOf 11 = .ok (.iload_n 1, 1) := by decide +kernel
theorem dX1_symbolOf_12 : decode cX1_symbolOf 12 = .ok (.iload_n 3, 1) := by decide +kernel
theorem dX1_symbolOf_13 : decode cX1_symbolOf 13 = .ok (.invokevirtual 35, 3) := by decide +kernel
theorem dX1_symbolOf_16 : decode cX1_symbolOf 16 = .ok (.aload_n 0, 1) := by decide +kernel
theorem dX1_symbolOf_17 : decode cX1_symbolOf 17 = .ok (.iload_n 1, 1) := by decide +kernel
theorem dX1_symbolOf_18 : decode cX1_symbolOf 18 = .ok (.iload_n 2, 1) := by decide +kernel
theorem dX1_symbolOf_19 : decode cX1_symbolOf 19 = .ok (.invokevirtual 35, 3) := by decide +kernel
theorem dX1_symbolOf_22 : decode cX1_symbolOf 22 = .ok (.if_icmp .ge 5, 3) := by decide +kernel
theorem dX1_symbolOf_25 : decode cX1_symbolOf 25 = .ok (.iload_n 3, 1) := by decide +kernel
theorem dX1_symbolOf_26 : decode cX1_symbolOf 26 = .ok (.istore_n 2, 1) := by decide +kernel
theorem dX1_symbolOf_27 : decode cX1_symbolOf 27 = .ok (.iinc 3 1, 3) := by decide +kernel
theorem dX1_symbolOf_30 : decode cX1_symbolOf 30 = .ok (.goto (-26), 3) := by decide +kernel
theorem dX1_symbolOf_33 : decode cX1_symbolOf 33 = .ok (.iload_n 2, 1) := by decide +kernel
theorem dX1_symbolOf_34 : decode cX1_symbolOf 34 = .ok (.ireturn, 1) := by decide +kernel
theorem dX1_reliability_0 : decode cX1_reliability 0 = .ok (.aload_n 0, 1) := by decide +kernel
theorem dX1_reliability_1 : decode cX1_reliability 1 = .ok (.getfield 15, 3) := by decide +kernel
theorem dX1_reliability_4 : decode cX1_reliability 4 = .ok (.iconst 2, 1) := by decide +kernel
theorem dX1_reliability_5 : decode cX1_reliability 5 = .ok (.iload_n 1, 1) := by decide +kernel
theorem dX1_reliability_6 : decode cX1_reliability 6 = .ok (.imul, 1) := by decide +kernel
theorem dX1_reliability_7 : decode cX1_reliability 7 = .ok (.isub, 1) := by decide +kernel
theorem dX1_reliability_8 : decode cX1_reliability 8 = .ok (.iconst 0, 1) := by decide +kernel
theorem dX1_reliability_9 : decode cX1_reliability 9 = .ok (.invokestatic 38, 3) := by decide +kernel
theorem dX1_reliability_12 : decode cX1_reliability 12 = .ok (.ireturn, 1) := by decide +kernel
set_option maxRecDepth 20000 in
theorem ggX1_bitsToAnotherSymbol_X1_symbolOf : GoodIn wsX1_bitsToAnotherSymbol wsX1_symbolOf := goodIn_r _ [9, 10, 11, 12, 8, 13, 14, 15, 16, 17, 18, 19, 20, 21, 22, 23] (by decide +kernel) (by decide +kernel)
set_option maxRecDepth 20000 in
theorem gX1_bitsToAnotherSymbol_X1_symbolOf : GoodIn wsX1_bitsToAnotherSymbol (wsV RX1 41 RX1 yX1_symbolOf wsX1_symbolOf) := goodIn_app (goodIn_of _ (by decide +kernel)) ggX1_bitsToAnotherSymbol_X1_symbolOf
set_option maxRecDepth 20000 in
theorem ggX1_bitsToAnotherSymbol_X1_bitsBetween : GoodIn wsX1_bitsToAnotherSymbol wsX1_bitsBetween := goodIn_r _ [13, 14, 15, 16, 17, 18, 19, 20, 21, 22, 23] (by decide +kernel) (by decide +kernel)
set_option maxRecDepth 20000 in
theorem gX1_bitsToAnotherSymbol_X1_bitsBetween : GoodIn wsX1_bitsToAnotherSymbol (wsV RX1 35 RX1 yX1_bitsBetween wsX1_bitsBetween) := goodIn_app (goodIn_of _ (by decide +kernel)) ggX1_bitsToAnotherSymbol_X1_bitsBetween
theorem dX1_bitsToAnotherSymbol_0 : decode cX1_bitsToAnotherSymbol 0 = .ok (.aload_n 0, 1) := by decide +kernel
theorem dX1_bitsToAnotherSymbol_1 : decode cX1_bitsToAnotherSymbol 1 = .ok (.iload_n 1, 1) := by decide +kernel
theorem dX1_bitsToAnotherSymbol_2 : decode cX1_bitsToAnotherSymbol 2 = .ok (.invokevirtual 41, 3) := by decide +kernel
theorem dX1_bitsToAnotherSymbol_5 : decode cX1_bitsToAnotherSymbol 5 = .ok (.istore_n 2, 1) := by decide +kernel
theorem dX1_bitsToAnotherSymbol_6 : decode cX1_bitsToAnotherSymbol 6 = .ok (.aload_n 0, 1) := by decide +kernel
theorem dX1_bitsToAnotherSymbol_7 : decode cX1_bitsToAnotherSymbol 7 = .ok (.iload_n 1, 1) := by decide +kernel
theorem dX1_bitsToAnotherSymbol_8 : decode cX1_bitsToAnotherSymbol 8 = .ok (.iload_n 2, 1) := by decide +kernel
theorem dX1_bitsToAnotherSymbol_9 : decode cX1_bitsToAnotherSymbol 9 = .ok (.invokevirtual 35, 3) := by decide +kernel
theorem dX1_bitsToAnotherSymbol_12 : decode cX1_bitsToAnotherSymbol 12 = .ok (.istore_n 3, 1) := by decide +kernel
theorem dX1_bitsToAnotherSymbol_13 : decode cX1_bitsToAnotherSymbol 13 = .ok (.bipush 10, 2) := by decide +kernel
theorem dX1_bitsToAnotherSymbol_15 : decode cX1_bitsToAnotherSymbol 15 = .ok (.istore 4, 2) := by decide +kernel
theorem dX1_bitsToAnotherSymbol_17 : decode cX1_bitsToAnotherSymbol 17 = .ok (.iconst 0, 1) := by decide +kernel
theorem dX1_bitsToAnotherSymbol_18 : decode cX1_bitsToAnotherSymbol 18 = .ok (.istore 5, 2) := by decide +kernel
theorem dX1_bitsToAnotherSymbol_20 : decode cX1_bitsToAnotherSymbol 20 = .ok (.iload 5, 2) := by decide +kernel
theorem dX1_bitsToAnotherSymbol_22 : decode cX1_bitsToAnotherSymbol 22 = .ok (.bipush 16, 2) := by decide +kernel
theorem dX1_bitsToAnotherSymbol_24 : decode cX1_bitsToAnotherSymbol 24 = .ok (.if_icmp .ge 58, 3) := by decide +kernel
theorem dX1_bitsToAnotherSymbol_27 : decode cX1_bitsToAnotherSymbol 27 = .ok (.iload 5, 2) := by decide +kernel
theorem dX1_bitsToAnotherSymbol_29 : decode cX1_bitsToAnotherSymbol 29 = .ok (.iload_n 2, 1) := by decide +kernel
theorem dX1_bitsToAnotherSymbol_30 : decode cX1_bitsToAnotherSymbol 30 = .ok (.if_icmp .eq 46, 3) := by decide +kernel
theorem dX1_bitsToAnotherSymbol_33 : decode cX1_bitsToAnotherSymbol 33 = .ok (.aload_n 0, 1) := by decide +kernel
theorem dX1_bitsToAnotherSymbol_34 : decode cX1_bitsToAnotherSymbol 34 = .ok (.iload_n 1, 1) := by decide +kernel
theorem dX1_bitsToAnotherSymbol_35 : decode cX1_bitsToAnotherSymbol 35 = .ok (.iload 5, 2) := by decide +kernel
theorem dX1_bitsToAnotherSymbol_37 : decode cX1_bitsToAnotherSymbol 37 = .ok (.invokevirtual 35, 3) := by decide +kernel
theorem dX1_bitsToAnotherSymbol_40 : decode cX1_bitsToAnotherSymbol 40 = .ok (.iload_n 3, 1) := by decide +kernel
theorem dX1_bitsToAnotherSymbol_41 : decode cX1_bitsToAnotherSymbol 41 = .ok (.isub, 1) := by decide +kernel
theorem dX1_bitsToAnotherSymbol_42 : decode cX1_bitsToAnotherSymbol 42 = .ok (.istore 6, 2) := by decide +kernel
theorem dX1_bitsToAnotherSymbol_44 : decode cX1_bitsToAnotherSymbol 44 = .ok (.iload 5, 2) := by decide +kernel
theorem dX1_bitsToAnotherSymbol_46 : decode cX1_bitsToAnotherSymbol 46 = .ok (.iload_n 2, 1) := by decide +kernel
theorem dX1_bitsToAnotherSymbol_47 : decode cX1_bitsToAnotherSymbol 47 = .ok (.if_icmp .ge 12, 3) := by decide +kernel
theorem dX1_bitsToAnotherSymbol_50 : decode cX1_bitsToAnotherSymbol 50 = .ok (.iload 6, 2) := by decide +kernel
theorem dX1_bitsToAnotherSymbol_52 : decode cX1_bitsToAnotherSymbol 52 = .ok (.iconst 1, 1) := by decide +kernel
theorem dX1_bitsToAnotherSymbol_53 : decode cX1_bitsToAnotherSymbol 53 = .ok (.iadd, 1) := by decide +kernel
theorem dX1_bitsToAnotherSymbol_54 : decode cX1_bitsToAnotherSymbol 54 = .ok (.iconst 2, 1) := by decide +kernel
theorem dX1_bitsToAnotherSymbol_55 : decode cX1_bitsToAnotherSymbol 55 = .ok (.idiv, 1) := by decide +kernel
theorem dX1_bitsToAnotherSymbol_56 : decode cX1_bitsToAnotherSymbol 56 = .ok (.goto 9, 3) := by decide +kernel
theorem dX1_bitsToAnotherSymbol_59 : decode cX1_bitsToAnotherSymbol 59 = .ok (.iload 6, 2) := by decide +kernel
theorem dX1_bitsToAnotherSymbol_61 : decode cX1_bitsToAnotherSymbol 61 = .ok (.iconst 2, 1) := by decide +kernel
theorem dX1_bitsToAnotherSymbol_62 : decode cX1_bitsToAnotherSymbol 62 = .ok (.idiv, 1) := by decide +kernel
theorem dX1_bitsToAnotherSymbol_63 : decode cX1_bitsToAnotherSymbol 63 = .ok (.iconst 1, 1) := by decide +kernel
theorem dX1_bitsToAnotherSymbol_64 : decode cX1_bitsToAnotherSymbol 64 = .ok (.iadd, 1) := by decide +kernel
theorem dX1_bitsToAnotherSymbol_65 : decode cX1_bitsToAnotherSymbol 65 = .ok (.istore 7, 2) := by decide +kernel
theorem dX1_bitsToAnotherSymbol_67 : decode cX1_bitsToAnotherSymbol 67 = .ok (.iload 4, 2) := by decide +kernel
theorem dX1_bitsToAnotherSymbol_69 : decode cX1_bitsToAnotherSymbol 69 = .ok (.iload 7, 2) := by decide +kernel
theorem dX1_bitsToAnotherSymbol_71 : decode cX1_bitsToAnotherSymbol 71 = .ok (.invokestatic 29, 3) := by decide +kernel
theorem dX1_bitsToAnotherSymbol_74 : decode cX1_bitsToAnotherSymbol 74 = .ok (.istore 4, 2) := by decide +kernel
theorem dX1_bitsToAnotherSymbol_76 : decode cX1_bitsToAnotherSymbol 76 = .ok (.iinc 5 1, 3) := by decide +kernel
theorem dX1_bitsToAnotherSymbol_79 : decode cX1_bitsToAnotherSymbol 79 = .ok (.goto (-59), 3) := by decide +kernel
theorem dX1_bitsToAnotherSymbol_82 : decode cX1_bitsToAnotherSymbol 82 = .ok (.iload 4, 2) := by decide +kernel
theorem dX1_bitsToAnotherSymbol_84 : decode cX1_bitsToAnotherSymbol 84 = .ok (.ireturn, 1) := by decide +kernel
set_option maxRecDepth 20000 in
theorem ggX2_init_X5_fieldProduct : GoodIn wsX2_init wsX5_fieldProduct := goodIn_r _ [8] (by decide +kernel) (by decide +kernel)
set_option maxRecDepth 20000 in
theorem gX2_init_X5_fieldProduct_n15 : GoodIn wsX2_init (wsX5_fieldProduct) := ggX2_init_X5_fieldProduct
theorem dX2_init_0 : decode cX2_init 0 = .ok (.aload_n 0, 1) := by decide +kernel
theorem dX2_init_1 : decode cX2_init 1 = .ok (.invokespecial 3, 3) := by decide +kernel
theorem dX2_init_4 : decode cX2_init 4 = .ok (.aload_n 0, 1) := by decide +kernel
theorem dX2_init_5 : decode cX2_init 5 = .ok (.bipush 48, 2) := by decide +kernel
theorem dX2_init_7 : decode cX2_init 7 = .ok (.newarray .long, 2) := by decide +kernel
theorem dX2_init_9 : decode cX2_init 9 = .ok (.putfield 9, 3) := by decide +kernel
theorem dX2_init_12 : decode cX2_init 12 = .ok (.iconst 0, 1) := by decide +kernel
theorem dX2_init_13 : decode cX2_init 13 = .ok (.istore_n 1, 1) := by decide +kernel
theorem dX2_init_14 : decode cX2_init 14 = .ok (.iload_n 1, 1) := by decide +kernel
theorem dX2_init_15 : decode cX2_init 15 = .ok (.bipush 16, 2) := by decide +kernel
theorem dX2_init_17 : decode cX2_init 17 = .ok (.if_icmp .ge 69, 3) := by decide +kernel
theorem dX2_init_20 : decode cX2_init 20 = .ok (.iconst 0, 1) := by decide +kernel
theorem dX2_init_21 : decode cX2_init 21 = .ok (.istore_n 2, 1) := by decide +kernel
theorem dX2_init_22 : decode cX2_init 22 = .ok (.iload_n 2, 1) := by decide +kernel
theorem dX2_init_23 : decode cX2_init 23 = .ok (.bipush 12, 2) := by decide +kernel
theorem dX2_init_25 : decode cX2_init 25 = .ok (.if_icmp .ge 55, 3) := by decide +kernel
theorem dX2_init_28 : decode cX2_init 28 = .ok (.iload_n 1, 1) := by decide +kernel
theorem dX2_init_29 : decode cX2_init 29 = .ok (.istore_n 3, 1) := by decide +kernel
theorem dX2_init_30 : decode cX2_init 30 = .ok (.iconst 0, 1) := by decide +kernel
theorem dX2_init_31 : decode cX2_init 31 = .ok (.istore 4, 2) := by decide +kernel
theorem dX2_init_33 : decode cX2_init 33 = .ok (.iload 4, 2) := by decide +kernel
theorem dX2_init_35 : decode cX2_init 35 = .ok (.iconst 3, 1) := by decide +kernel
theorem dX2_init_36 : decode cX2_init 36 = .ok (.if_icmp .ge 38, 3) := by decide +kernel
theorem dX2_init_39 : decode cX2_init 39 = .ok (.aload_n 0, 1) := by decide +kernel
theorem dX2_init_40 : decode cX2_init 40 = .ok (.getfield 9, 3) := by decide +kernel
theorem dX2_init_43 : decode cX2_init 43 = .ok (.bipush 16, 2) := by decide +kernel
theorem dX2_init_45 : decode cX2_init 45 = .ok (.iload 4, 2) := by decide +kernel
theorem dX2_init_47 : decode cX2_init 47 = .ok (.imul, 1) := by decide +kernel
theorem dX2_init_48 : decode cX2_init 48 = .ok (.iload_n 1, 1) := by decide +kernel
theorem dX2_init_49 : decode cX2_init 49 = .ok (.iadd, 1) := by decide +kernel
theorem dX2_init_50 : decode cX2_init 50 = .ok (.dup2, 1) := by decide +kernel
theorem dX2_init_51 : decode cX2_init 51 = .ok (.laload, 1) := by decide +kernel
theorem dX2_init_52 : decode cX2_init 52 = .ok (.iload_n 3, 1) := by decide +kernel
theorem dX2_init_53 : decode cX2_init 53 = .ok (.i2l, 1) := by decide +kernel
theorem dX2_init_54 : decode cX2_init 54 = .ok (.iconst 4, 1) := by decide +kernel
theorem dX2_init_55 : decode cX2_init 55 = .ok (.iload_n 2, 1) := by decide +kernel
theorem dX2_init_56 : decode cX2_init 56 = .ok (.imul, 1) := by decide +kernel
theorem dX2_init_57 : decode cX2_init 57 = .ok (.lshl, 1) := by decide +kernel
theorem dX2_init_58 : decode cX2_init 58 = .ok (.lor, 1) := by decide +kernel
theorem dX2_init_59 : decode cX2_init 59 = .ok (.lastore, 1) := by decide +kernel
theorem dX2_init_60 : decode cX2_init 60 = .ok (.iload_n 3, 1) := by decide +kernel
theorem dX2_init_61 : decode cX2_init 61 = .ok (.iload_n 2, 1) := by decide +kernel
theorem dX2_init_62 : decode cX2_init 62 = .ok (.iconst 1, 1) := by decide +kernel
theorem dX2_init_63 : decode cX2_init 63 = .ok (.iadd, 1) := by decide +kernel
theorem dX2_init_64 : decode cX2_init 64 = .ok (.invokestatic 15, 3) := by decide +kernel
theorem dX2_init_67 : decode cX2_init 67 = .ok (.istore_n 3, 1) := by decide +kernel
theorem dX2_init_68 : decode cX2_init 68 = .ok (.iinc 4 1, 3) := by decide +kernel
theorem dX2_init_71 : decode cX2_init 71 = .ok (.goto (-38), 3) := by decide +kernel
theorem dX2_init_74 : decode cX2_init 74 = .ok (.iinc 2 1, 3) := by decide +kernel
theorem dX2_init_77 : decode cX2_init 77 = .ok (.goto (-55), 3) := by decide +kernel
theorem dX2_init_80 : decode cX2_init 80 = .ok (.iinc 1 1, 3) := by decide +kernel
theorem dX2_init_83 : decode cX2_init 83 = .ok (.goto (-69), 3) := by decide +kernel
theorem dX2_init_86 : decode cX2_init 86 = .ok (.return_, 1) := by decide +kernel
theorem dX2_codeword_0 : decode cX2_codeword 0 = .ok (.bipush 15, 2) := by decide +kernel
theorem dX2_codeword_2 : decode cX2_codeword 2 = .ok (.istore_n 2, 1) := by decide +kernel
theorem dX2_codeword_3 : decode cX2_codeword 3 = .ok (.aload_n 0, 1) := by decide +kernel
theorem dX2_codeword_4 : decode cX2_codeword 4 = .ok (.getfield 9, 3) := by decide +kernel
theorem dX2_codeword_7 : decode cX2_codeword 7 = .ok (.iload_n 1, 1) := by decide +kernel
theorem dX2_codeword_8 : decode cX2_codeword 8 = .ok (.iload_n 2, 1) := by decide +kernel
theorem dX2_codeword_9 : decode cX2_codeword 9 = .ok (.iand, 1) := by decide +kernel
theorem dX2_codeword_10 : decode cX2_codeword 10 = .ok (.laload, 1) := by decide +kernel
theorem dX2_codeword_11 : decode cX2_codeword 11 = .ok (.aload_n 0, 1) := by decide +kernel
theorem dX2_codeword_12 : decode cX2_codeword 12 = .ok (.getfield 9, 3) := by decide +kernel
theorem dX2_codeword_15 : decode cX2_codeword 15 = .ok (.bipush 16, 2) := by decide +kernel
theorem dX2_codeword_17 : decode cX2_codeword 17 = .ok (.iload_n 1, 1) := by decide +kernel
theorem dX2_codeword_18 : decode cX2_codeword 18 = .ok (.iconst 4, 1) := by decide +kernel
theorem dX2_codeword_19 : decode cX2_codeword 19 = .ok (.ishr, 1) := by decide +kernel
theorem dX2_codeword_20 : decode cX2_codeword 20 = .ok (.iload_n 2, 1) := by decide +kernel
theorem dX2_codeword_21 : decode cX2_codeword 21 = .ok (.iand, 1) := by decide +kernel
theorem dX2_codeword_22 : decode cX2_codeword 22 = .ok (.iadd, 1) := by decide +kernel
theorem dX2_codeword_23 : decode cX2_codeword 23 = .ok (.laload, 1) := by decide +kernel
theorem dX2_codeword_24 : decode cX2_codeword 24 = .ok (.lxor, 1) := by decide +kernel
theorem dX2_codeword_25 : decode cX2_codeword 25 = .ok (.aload_n 0, 1) := by decide +kernel
theorem dX2_codeword_26 : decode cX2_codeword 26 = .ok (.getfield 9, 3) := by decide +kernel
theorem dX2_codeword_29 : decode cX2_codeword 29 = .ok (.bipush 32, 2) := by decide +kernel
theorem dX2_codeword_31 : decode cX2_codeword 31 = .ok (.iload_n 1, 1) := by decide +kernel
theorem dX2_codeword_32 : decode cX2_codeword 32 = .ok (.bipush 8, 2) := by decide +kernel
theorem dX2_codeword_34 : decode cX2_codeword 34 = .ok (.ishr, 1) := by decide +kernel
theorem dX2_codeword_35 : decode cX2_codeword 35 = .ok (.iload_n 2, 1) := by decide +kernel
theorem dX2_codeword_36 : decode cX2_codeword 36 = .ok (.iand, 1) := by decide +kernel
theorem dX2_codeword_37 : decode cX2_codeword 37 = .ok (.iadd, 1) := by decide +kernel
theorem dX2_codeword_38 : decode cX2_codeword 38 = .ok (.laload, 1) := by decide +kernel
theorem dX2_codeword_39 : decode cX2_codeword 39 = .ok (.lxor, 1) := by decide +kernel
theorem dX2_codeword_40 : decode cX2_codeword 40 = .ok (.lreturn, 1) := by decide +kernel
theorem dX2_markSymbols_0 : decode cX2_markSymbols 0 = .ok (.lload_n 0, 1) := by decide +kernel
theorem dX2_markSymbols_1 : decode cX2_markSymbols 1 = .ok (.lload_n 0, 1) := by decide +kernel
theorem dX2_markSymbols_2 : decode cX2_markSymbols 2 = .ok (.iconst 1, 1) := by decide +kernel
theorem dX2_markSymbols_3 : decode cX2_markSymbols 3 = .ok (.lushr, 1) := by decide +kernel
theorem dX2_markSymbols_4 : decode cX2_markSymbols 4 = .ok (.lor, 1) := by decide +kernel
theorem dX2_markSymbols_5 : decode cX2_markSymbols 5 = .ok (.lstore_n 2, 1) := by decide +kernel
theorem dX2_markSymbols_6 : decode cX2_markSymbols 6 = .ok (.lload_n 2, 1) := by decide +kernel
theorem dX2_markSymbols_7 : decode cX2_markSymbols 7 = .ok (.lload_n 2, 1) := by decide +kernel
theorem dX2_markSymbols_8 : decode cX2_markSymbols 8 = .ok (.iconst 2, 1) := by decide +kernel
theorem dX2_markSymbols_9 : decode cX2_markSymbols 9 = .ok (.lushr, 1) := by decide +kernel
theorem dX2_markSymbols_10 : decode cX2_markSymbols 10 = .ok (.lor, 1) := by decide +kernel
theorem dX2_markSymbols_11 : decode cX2_markSymbols 11 = .ok (.ldc2_w 19, 3) := by decide +kernel
theorem dX2_markSymbols_14 : decode cX2_markSymbols 14 = .ok (.land, 1) := by decide +kernel
theorem dX2_markSymbols_15 : decode cX2_markSymbols 15 = .ok (.lreturn, 1) := by decide +kernel
theorem dX2_marks_0 : decode cX2_marks 0 = .ok (.ldc2_w 19, 3) := by decide +kernel
theorem dX2_marks_3 : decode cX2_marks 3 = .ok (.lconst 1, 1) := by decide +kernel
theorem dX2_marks_4 : decode cX2_marks 4 = .ok (.iconst 4, 1) := by decide +kernel
theorem dX2_marks_5 : decode cX2_marks 5 = .ok (.iload_n 0, 1) := by decide +kernel
theorem dX2_marks_6 : decode cX2_marks 6 = .ok (.imul, 1) := by decide +kernel
theorem dX2_marks_7 : decode cX2_marks 7 = .ok (.lshl, 1) := by decide +kernel
theorem dX2_marks_8 : decode cX2_marks 8 = .ok (.lconst 1, 1) := by decide +kernel
theorem dX2_marks_9 : decode cX2_marks 9 = .ok (.lsub, 1) := by decide +kernel
theorem dX2_marks_10 : decode cX2_marks 10 = .ok (.land, 1) := by decide +kernel
theorem dX2_marks_11 : decode cX2_marks 11 = .ok (.lreturn, 1) := by decide +kernel
theorem dX3_init_0 : decode cX3_init 0 = .ok (.aload_n 0, 1) := by decide +kernel
theorem dX3_init_1 : decode cX3_init 1 = .ok (.invokespecial 3, 3) := by decide +kernel
theorem dX3_init_4 : decode cX3_init 4 = .ok (.aload_n 0, 1) := by decide +kernel
theorem dX3_init_5 : decode cX3_init 5 = .ok (.bipush 12, 2) := by decide +kernel
theorem dX3_init_7 : decode cX3_init 7 = .ok (.newarray .int, 2) := by decide +kernel
theorem dX3_init_9 : decode cX3_init 9 = .ok (.putfield 9, 3) := by decide +kernel
theorem dX3_init_12 : decode cX3_init 12 = .ok (.aload_n 0, 1) := by decide +kernel
theorem dX3_init_13 : decode cX3_init 13 = .ok (.bipush 12, 2) := by decide +kernel
theorem dX3_init_15 : decode cX3_init 15 = .ok (.newarray .int, 2) := by decide +kernel
theorem dX3_init_17 : decode cX3_init 17 = .ok (.putfield 15, 3) := by decide +kernel
theorem dX3_init_20 : decode cX3_init 20 = .ok (.aload_n 0, 1) := by decide +kernel
theorem dX3_init_21 : decode cX3_init 21 = .ok (.bipush 12, 2) := by decide +kernel
theorem dX3_init_23 : decode cX3_init 23 = .ok (.newarray .int, 2) := by decide +kernel
theorem dX3_init_25 : decode cX3_init 25 = .ok (.putfield 18, 3) := by decide +kernel
theorem dX3_init_28 : decode cX3_init 28 = .ok (.aload_n 0, 1) := by decide +kernel
theorem dX3_init_29 : decode cX3_init 29 = .ok (.bipush 12, 2) := by decide +kernel
theorem dX3_init_31 : decode cX3_init 31 = .ok (.newarray .int, 2) := by decide +kernel
theorem dX3_init_33 : decode cX3_init 33 = .ok (.putfield 21, 3) := by decide +kernel
theorem dX3_init_36 : decode cX3_init 36 = .ok (.aload_n 0, 1) := by decide +kernel
theorem dX3_init_37 : decode cX3_init 37 = .ok (.bipush 12, 2) := by decide +kernel
theorem dX3_init_39 : decode cX3_init 39 = .ok (.newarray .int, 2) := by decide +kernel
theorem dX3_init_41 : decode cX3_init 41 = .ok (.putfield 24, 3) := by decide +kernel
theorem dX3_init_44 : decode cX3_init 44 = .ok (.aload_n 0, 1) := by decide +kernel
theorem dX3_init_45 : decode cX3_init 45 = .ok (.iconst 0, 1) := by decide +kernel
theorem dX3_init_46 : decode cX3_init 46 = .ok (.putfield 27, 3) := by decide +kernel
theorem dX3_init_49 : decode cX3_init 49 = .ok (.aload_n 0, 1) := by decide +kernel
theorem dX3_init_50 : decode cX3_init 50 = .ok (.lconst 0, 1) := by decide +kernel
theorem dX3_init_51 : decode cX3_init 51 = .ok (.putfield 31, 3) := by decide +kernel
theorem dX3_init_54 : decode cX3_init 54 = .ok (.aload_n 0, 1) := by decide +kernel
theorem dX3_init_55 : decode cX3_init 55 = .ok (.lconst 0, 1) := by decide +kernel
theorem dX3_init_56 : decode cX3_init 56 = .ok (.putfield 35, 3) := by decide +kernel
theorem dX3_init_59 : decode cX3_init 59 = .ok (.return_, 1) := by decide +kernel
set_option maxRecDepth 20000 in
theorem ggX3_read_X2_marks : GoodIn wsX3_read wsX2_marks := goodIn_r _ [9, 10] (by decide +kernel) (by decide +kernel)
set_option maxRecDepth 20000 in
theorem gX3_read_X2_marks_n41 : GoodIn wsX3_read (wsX2_marks) := ggX3_read_X2_marks
set_option maxRecDepth 20000 in
theorem ggX3_read_X3_readBlock : GoodIn wsX3_read wsX3_readBlock := goodIn_r _ [15, 4, 16, 17, 18, 19, 20, 21, 22, 23, 24, 25, 26, 27, 28, 29, 30, 31, 32, 33, 34, 35, 36, 37, 38, 39, 40, 41, 46, 47, 48, 49, 50, 51, 52, 53, 54, 55, 56, 57, 58, 59, 60, 61, 62] (by decide +kernel) (by decide +kernel)
set_option maxRecDepth 20000 in
theorem gX3_read_X3_readBlock : GoodIn wsX3_read (wsV RX3 47 RX3 yX3_readBlock wsX3_readBlock) := goodIn_app (goodIn_of _ (by decide +kernel)) ggX3_read_X3_readBlock
set_option maxRecDepth 20000 in
theorem ggX3_read_X3_blocksBefore : GoodIn wsX3_read wsX3_blocksBefore := goodIn_r _ [45, 1, 17, 53, 54, 55, 56, 57, 58, 59, 60] (by decide +kernel) (by decide +kernel)
set_option maxRecDepth 20000 in
theorem gX3_read_X3_blocksBefore : GoodIn wsX3_read (wsV RX3 51 RX3 yX3_blocksBefore wsX3_blocksBefore) := goodIn_app (goodIn_of _ (by decide +kernel)) ggX3_read_X3_blocksBefore
theorem dX3_read_0 : decode cX3_read 0 = .ok (.aload_n 0, 1) := by decide +kernel
theorem dX3_read_1 : decode cX3_read 1 = .ok (.aload_n 1, 1) := by decide +kernel
theorem dX3_read_2 : decode cX3_read 2 = .ok (.getfield 38, 3) := by decide +kernel
theorem dX3_read_5 : decode cX3_read 5 = .ok (.putfield 27, 3) := by decide +kernel
theorem dX3_read_8 : decode cX3_read 8 = .ok (.aload_n 0, 1) := by decide +kernel
theorem dX3_read_9 : decode cX3_read 9 = .ok (.aload_n 0, 1) := by decide +kernel
theorem dX3_read_10 : decode cX3_read 10 = .ok (.getfield 27, 3) := by decide +kernel
theorem dX3_read_13 : decode cX3_read 13 = .ok (.invokestatic 41, 3) := by decide +kernel
theorem dX3_read_16 : decode cX3_read 16 = .ok (.putfield 35, 3) := by decide +kernel
theorem dX3_read_19 : decode cX3_read 19 = .ok (.aload_n 0, 1) := by decide +kernel
theorem dX3_read_20 : decode cX3_read 20 = .ok (.lconst 0, 1) := by decide +kernel
theorem dX3_read_21 : decode cX3_read 21 = .ok (.putfield 31, 3) := by decide +kernel
theorem dX3_read_24 : decode cX3_read 24 = .ok (.iconst 0, 1) := by decide +kernel
theorem dX3_read_25 : decode cX3_read 25 = .ok (.istore_n 3, 1) := by decide +kernel
theorem dX3_read_26 : decode cX3_read 26 = .ok (.iload_n 3, 1) := by decide +kernel
theorem dX3_read_27 : decode cX3_read 27 = .ok (.aload_n 0, 1) := by decide +kernel
theorem dX3_read_28 : decode cX3_read 28 = .ok (.getfield 27, 3) := by decide +kernel
theorem dX3_read_31 : decode cX3_read 31 = .ok (.if_icmp .ge 36, 3) := by decide +kernel
theorem dX3_read_34 : decode cX3_read 34 = .ok (.aload_n 0, 1) := by decide +kernel
theorem dX3_read_35 : decode cX3_read 35 = .ok (.iload_n 3, 1) := by decide +kernel
theorem dX3_read_36 : decode cX3_read 36 = .ok (.aload_n 1, 1) := by decide +kernel
theorem dX3_read_37 : decode cX3_read 37 = .ok (.aload_n 2, 1) := by decide +kernel
theorem dX3_read_38 : decode cX3_read 38 = .ok (.invokevirtual 47, 3) := by decide +kernel
theorem dX3_read_41 : decode cX3_read 41 = .ok (.aload_n 0, 1) := by decide +kernel
theorem dX3_read_42 : decode cX3_read 42 = .ok (.dup, 1) := by decide +kernel
theorem dX3_read_43 : decode cX3_read 43 = .ok (.getfield 31, 3) := by decide +kernel
theorem dX3_read_46 : decode cX3_read 46 = .ok (.aload_n 0, 1) := by decide +kernel
theorem dX3_read_47 : decode cX3_read 47 = .ok (.getfield 9, 3) := by decide +kernel
theorem dX3_read_50 : decode cX3_read 50 = .ok (.iload_n 3, 1) := by decide +kernel
theorem dX3_read_51 : decode cX3_read 51 = .ok (.iaload, 1) := by decide +kernel
theorem dX3_read_52 : decode cX3_read 52 = .ok (.i2l, 1) := by decide +kernel
theorem dX3_read_53 : decode cX3_read 53 = .ok (.iconst 4, 1) := by decide +kernel
theorem dX3_read_54 : decode cX3_read 54 = .ok (.iload_n 3, 1) := by decide +kernel
theorem dX3_read_55 : decode cX3_read 55 = .ok (.imul, 1) := by decide +kernel
theorem dX3_read_56 : decode cX3_read 56 = .ok (.lshl, 1) := by decide +kernel
theorem dX3_read_57 : decode cX3_read 57 = .ok (.lor, 1) := by decide +kernel
theorem dX3_read_58 : decode cX3_read 58 = .ok (.putfield 31, 3) := by decide +kernel
theorem dX3_read_61 : decode cX3_read 61 = .ok (.iinc 3 1, 3) := by decide +kernel
theorem dX3_read_64 : decode cX3_read 64 = .ok (.goto (-38), 3) := by decide +kernel
theorem dX3_read_67 : decode cX3_read 67 = .ok (.iconst 0, 1) := by decide +kernel
theorem dX3_read_68 : decode cX3_read 68 = .ok (.istore_n 3, 1) := by decide +kernel
theorem dX3_read_69 : decode cX3_read 69 = .ok (.iload_n 3, 1) := by decide +kernel
theorem dX3_read_70 : decode cX3_read 70 = .ok (.aload_n 0, 1) := by decide +kernel
theorem dX3_read_71 : decode cX3_read 71 = .ok (.getfield 27, 3) := by decide +kernel
theorem dX3_read_74 : decode cX3_read 74 = .ok (.if_icmp .ge 32, 3) := by decide +kernel
theorem dX3_read_77 : decode cX3_read 77 = .ok (.aload_n 0, 1) := by decide +kernel
theorem dX3_read_78 : decode cX3_read 78 = .ok (.getfield 24, 3) := by decide +kernel
theorem dX3_read_81 : decode cX3_read 81 = .ok (.iload_n 3, 1) := by decide +kernel
theorem dX3_read_82 : decode cX3_read 82 = .ok (.aload_n 0, 1) := by decide +kernel
theorem dX3_read_83 : decode cX3_read 83 = .ok (.iload_n 3, 1) := by decide +kernel
theorem dX3_read_84 : decode cX3_read 84 = .ok (.invokevirtual 51, 3) := by decide +kernel
theorem dX3_read_87 : decode cX3_read 87 = .ok (.iastore, 1) := by decide +kernel
theorem dX3_read_88 : decode cX3_read 88 = .ok (.aload_n 0, 1) := by decide +kernel
theorem dX3_read_89 : decode cX3_read 89 = .ok (.getfield 21, 3) := by decide +kernel
theorem dX3_read_92 : decode cX3_read 92 = .ok (.aload_n 0, 1) := by decide +kernel
theorem dX3_read_93 : decode cX3_read 93 = .ok (.getfield 24, 3) := by decide +kernel
theorem dX3_read_96 : decode cX3_read 96 = .ok (.iload_n 3, 1) := by decide +kernel
theorem dX3_read_97 : decode cX3_read 97 = .ok (.iaload, 1) := by decide +kernel
theorem dX3_read_98 : decode cX3_read 98 = .ok (.iload_n 3, 1) := by decide +kernel
theorem dX3_read_99 : decode cX3_read 99 = .ok (.iastore, 1) := by decide +kernel
theorem dX3_read_100 : decode cX3_read 100 = .ok (.iinc 3 1, 3) := by decide +kernel
theorem dX3_read_103 : decode cX3_read 103 = .ok (.goto (-34), 3) := by decide +kernel
theorem dX3_read_106 : decode cX3_read 106 = .ok (.return_, 1) := by decide +kernel
set_option maxRecDepth 20000 in
theorem ggX3_readBlock_X1_symbolOf : GoodIn wsX3_readBlock wsX1_symbolOf := goodIn_r _ [7, 8, 9, 10, 5, 11, 12, 13, 14, 15, 16, 17, 18, 19, 43, 44] (by decide +kernel) (by decide +kernel)
set_option maxRecDepth 20000 in
theorem gX3_readBlock_X1_symbolOf_n62 : GoodIn wsX3_readBlock (wsX1_symbolOf) := ggX3_readBlock_X1_symbolOf
set_option maxRecDepth 20000 in
theorem ggX3_readBlock_X1_bitsBetween : GoodIn wsX3_readBlock wsX1_bitsBetween := goodIn_r _ [11, 12, 13, 14, 15, 16, 17, 18, 19, 43, 44] (by decide +kernel) (by decide +kernel)
set_option maxRecDepth 20000 in
theorem gX3_readBlock_X1_bitsBetween_n67 : GoodIn wsX3_readBlock (wsX1_bitsBetween) := ggX3_readBlock_X1_bitsBetween
set_option maxRecDepth 20000 in
theorem ggX3_readBlock_X1_reliability : GoodIn wsX3_readBlock wsX1_reliability := goodIn_r _ [22, 23, 24, 25, 26, 27, 43, 44] (by decide +kernel) (by decide +kernel)
set_option maxRecDepth 20000 in
theorem gX3_readBlock_X1_reliability_n71 : GoodIn wsX3_readBlock (wsX1_reliability) := ggX3_readBlock_X1_reliability
theorem dX3_readBlock_0 : decode cX3_readBlock 0 = .ok (.aload_n 2, 1) := by decide +kernel
theorem dX3_readBlock_1 : decode cX3_readBlock 1 = .ok (.getfield 55, 3) := by decide +kernel
theorem dX3_readBlock_4 : decode cX3_readBlock 4 = .ok (.iload_n 1, 1) := by decide +kernel
theorem dX3_readBlock_5 : decode cX3_readBlock 5 = .ok (.baload, 1) := by decide +kernel
theorem dX3_readBlock_6 : decode cX3_readBlock 6 = .ok (.ifCond .eq 27, 3) := by decide +kernel
theorem dX3_readBlock_9 : decode cX3_readBlock 9 = .ok (.aload_n 0, 1) := by decide +kernel
theorem dX3_readBlock_10 : decode cX3_readBlock 10 = .ok (.getfield 9, 3) := by decide +kernel
theorem dX3_readBlock_13 : decode cX3_readBlock 13 = .ok (.iload_n 1, 1) := by decide +kernel
theorem dX3_readBlock_14 : decode cX3_readBlock 14 = .ok (.iconst 0, 1) := by decide +kernel
theorem dX3_readBlock_15 : decode cX3_readBlock 15 = .ok (.iastore, 1) := by decide +kernel
theorem dX3_readBlock_16 : decode cX3_readBlock 16 = .ok (.aload_n 0, 1) := by decide +kernel
theorem dX3_readBlock_17 : decode cX3_readBlock 17 = .ok (.getfield 15, 3) := by decide +kernel
theorem dX3_readBlock_20 : decode cX3_readBlock 20 = .ok (.iload_n 1, 1) := by decide +kernel
theorem dX3_readBlock_21 : decode cX3_readBlock 21 = .ok (.iconst 0, 1) := by decide +kernel
theorem dX3_readBlock_22 : decode cX3_readBlock 22 = .ok (.iastore, 1) := by decide +kernel
theorem dX3_readBlock_23 : decode cX3_readBlock 23 = .ok (.aload_n 0, 1) := by decide +kernel
theorem dX3_readBlock_24 : decode cX3_readBlock 24 = .ok (.getfield 18, 3) := by decide +kernel
theorem dX3_readBlock_27 : decode cX3_readBlock 27 = .ok (.iload_n 1, 1) := by decide +kernel
theorem dX3_readBlock_28 : decode cX3_readBlock 28 = .ok (.iconst 0, 1) := by decide +kernel
theorem dX3_readBlock_29 : decode cX3_readBlock 29 = .ok (.iastore, 1) := by decide +kernel
theorem dX3_readBlock_30 : decode cX3_readBlock 30 = .ok (.goto 57, 3) := by decide +kernel
theorem dX3_readBlock_33 : decode cX3_readBlock 33 = .ok (.aload_n 2, 1) := by decide +kernel
theorem dX3_readBlock_34 : decode cX3_readBlock 34 = .ok (.getfield 59, 3) := by decide +kernel
theorem dX3_readBlock_37 : decode cX3_readBlock 37 = .ok (.iload_n 1, 1) := by decide +kernel
theorem dX3_readBlock_38 : decode cX3_readBlock 38 = .ok (.iaload, 1) := by decide +kernel
theorem dX3_readBlock_39 : decode cX3_readBlock 39 = .ok (.istore 4, 2) := by decide +kernel
theorem dX3_readBlock_41 : decode cX3_readBlock 41 = .ok (.aload_n 0, 1) := by decide +kernel
theorem dX3_readBlock_42 : decode cX3_readBlock 42 = .ok (.getfield 9, 3) := by decide +kernel
theorem dX3_readBlock_45 : decode cX3_readBlock 45 = .ok (.iload_n 1, 1) := by decide +kernel
theorem dX3_readBlock_46 : decode cX3_readBlock 46 = .ok (.aload_n 3, 1) := by decide +kernel
theorem dX3_readBlock_47 : decode cX3_readBlock 47 = .ok (.iload 4, 2) := by decide +kernel
theorem dX3_readBlock_49 : decode cX3_readBlock 49 = .ok (.invokevirtual 62, 3) := by decide +kernel
theorem dX3_readBlock_52 : decode cX3_readBlock 52 = .ok (.iastore, 1) := by decide +kernel
theorem dX3_readBlock_53 : decode cX3_readBlock 53 = .ok (.aload_n 0, 1) := by decide +kernel
theorem dX3_readBlock_54 : decode cX3_readBlock 54 = .ok (.getfield 15, 3) := by decide +kernel
theorem dX3_readBlock_57 : decode cX3_readBlock 57 = .ok (.iload_n 1, 1) := by decide +kernel
theorem dX3_readBlock_58 : decode cX3_readBlock 58 = .ok (.aload_n 3, 1) := by decide +kernel
theorem dX3_readBlock_59 : decode cX3_readBlock 59 = .ok (.iload 4, 2) := by decide +kernel
theorem dX3_readBlock_61 : decode cX3_readBlock 61 = .ok (.aload_n 0, 1) := by decide +kernel
theorem dX3_readBlock_62 : decode cX3_readBlock 62 = .ok (.getfield 9, 3) := by decide +kernel
theorem dX3_readBlock_65 : decode cX3_readBlock 65 = .ok (.iload_n 1, 1) := by decide +kernel
theorem dX3_readBlock_66 : decode cX3_readBlock 66 = .ok (.iaload, 1) := by decide +kernel
theorem dX3_readBlock_67 : decode cX3_readBlock 67 = .ok (.invokevirtual 67, 3) := by decide +kernel
theorem dX3_readBlock_70 : decode cX3_readBlock 70 = .ok (.iastore, 1) := by decide +kernel
theorem dX3_readBlock_71 : decode cX3_readBlock 71 = .ok (.aload_n 0, 1) := by decide +kernel
theorem dX3_readBlock_72 : decode cX3_readBlock 72 = .ok (.getfield 18, 3) := by decide +kernel
theorem dX3_readBlock_75 : decode cX3_readBlock 75 = .ok (.iload_n 1, 1) := by decide +kernel
theorem dX3_readBlock_76 : decode cX3_readBlock 76 = .ok (.aload_n 3, 1) := by decide +kernel
theorem dX3_readBlock_77 : decode cX3_readBlock 77 = .ok (.aload_n 0, 1) := by decide +kernel
theorem dX3_readBlock_78 : decode cX3_readBlock 78 = .ok (.getfield 15, 3) := by decide +kernel
theorem dX3_readBlock_81 : decode cX3_readBlock 81 = .ok (.iload_n 1, 1) := by decide +kernel
theorem dX3_readBlock_82 : decode cX3_readBlock 82 = .ok (.iaload, 1) := by decide +kernel
theorem dX3_readBlock_83 : decode cX3_readBlock 83 = .ok (.invokevirtual 71, 3) := by decide +kernel
theorem dX3_readBlock_86 : decode cX3_readBlock 86 = .ok (.iastore, 1) := by decide +kernel
theorem dX3_readBlock_87 : decode cX3_readBlock 87 = .ok (.return_, 1) := by decide +kernel
theorem dX3_blocksBefore_0 : decode cX3_blocksBefore 0 = .ok (.iconst 0, 1) := by decide +kernel
theorem dX3_blocksBefore_1 : decode cX3_blocksBefore 1 = .ok (.istore_n 2, 1) := by decide +kernel
theorem dX3_blocksBefore_2 : decode cX3_blocksBefore 2 = .ok (.iconst 0, 1) := by decide +kernel
theorem dX3_blocksBefore_3 : decode cX3_blocksBefore 3 = .ok (.istore_n 3, 1) := by decide +kernel
theorem dX3_blocksBefore_4 : decode cX3_blocksBefore 4 = .ok (.iload_n 3, 1) := by decide +kernel
theorem dX3_blocksBefore_5 : decode cX3_blocksBefore 5 = .ok (.aload_n 0, 1) := by decide +kernel
theorem dX3_blocksBefore_6 : decode cX3_blocksBefore 6 = .ok (.getfield 27, 3) := by decide +kernel
theorem dX3_blocksBefore_9 : decode cX3_blocksBefore 9 = .ok (.if_icmp .ge 47, 3) := by decide +kernel
theorem dX3_blocksBefore_12 : decode cX3_blocksBefore 12 = .ok (.aload_n 0, 1) := by decide +kernel
theorem dX3_blocksBefore_13 : decode cX3_blocksBefore 13 = .ok (.getfield 18, 3) := by decide +kernel
theorem dX3_blocksBefore_16 : decode cX3_blocksBefore 16 = .ok (.iload_n 3, 1) := by decide +kernel
theorem dX3_blocksBefore_17 : decode cX3_blocksBefore 17 = .ok (.iaload, 1) := by decide +kernel
theorem dX3_blocksBefore_18 : decode cX3_blocksBefore 18 = .ok (.aload_n 0, 1) := by decide +kernel
theorem dX3_blocksBefore_19 : decode cX3_blocksBefore 19 = .ok (.getfield 18, 3) := by decide +kernel
theorem dX3_blocksBefore_22 : decode cX3_blocksBefore 22 = .ok (.iload_n 1, 1) := by decide +kernel
theorem dX3_blocksBefore_23 : decode cX3_blocksBefore 23 = .ok (.iaload, 1) := by decide +kernel
theorem dX3_blocksBefore_24 : decode cX3_blocksBefore 24 = .ok (.if_icmp .lt 23, 3) := by decide +kernel
theorem dX3_blocksBefore_27 : decode cX3_blocksBefore 27 = .ok (.aload_n 0, 1) := by decide +kernel
theorem dX3_blocksBefore_28 : decode cX3_blocksBefore 28 = .ok (.getfield 18, 3) := by decide +kernel
theorem dX3_blocksBefore_31 : decode cX3_blocksBefore 31 = .ok (.iload_n 3, 1) := by decide +kernel
theorem dX3_blocksBefore_32 : decode cX3_blocksBefore 32 = .ok (.iaload, 1) := by decide +kernel
theorem dX3_blocksBefore_33 : decode cX3_blocksBefore 33 = .ok (.aload_n 0, 1) := by decide +kernel
theorem dX3_blocksBefore_34 : decode cX3_blocksBefore 34 = .ok (.getfield 18, 3) := by decide +kernel
theorem dX3_blocksBefore_37 : decode cX3_blocksBefore 37 = .ok (.iload_n 1, 1) := by decide +kernel
theorem dX3_blocksBefore_38 : decode cX3_blocksBefore 38 = .ok (.iaload, 1) := by decide +kernel
theorem dX3_blocksBefore_39 : decode cX3_blocksBefore 39 = .ok (.if_icmp .ne 11, 3) := by decide +kernel
theorem dX3_blocksBefore_42 : decode cX3_blocksBefore 42 = .ok (.iload_n 3, 1) := by decide +kernel
theorem dX3_blocksBefore_43 : decode cX3_blocksBefore 43 = .ok (.iload_n 1, 1) := by decide +kernel
theorem dX3_blocksBefore_44 : decode cX3_blocksBefore 44 = .ok (.if_icmp .ge 6, 3) := by decide +kernel
theorem dX3_blocksBefore_47 : decode cX3_blocksBefore 47 = .ok (.iinc 2 1, 3) := by decide +kernel
theorem dX3_blocksBefore_50 : decode cX3_blocksBefore 50 = .ok (.iinc 3 1, 3) := by decide +kernel
theorem dX3_blocksBefore_53 : decode cX3_blocksBefore 53 = .ok (.goto (-49), 3) := by decide +kernel
theorem dX3_blocksBefore_56 : decode cX3_blocksBefore 56 = .ok (.iload_n 2, 1) := by decide +kernel
theorem dX3_blocksBefore_57 : decode cX3_blocksBefore 57 = .ok (.ireturn, 1) := by decide +kernel
theorem dX3_keptBlocks_0 : decode cX3_keptBlocks 0 = .ok (.aload_n 0, 1) := by decide +kernel
theorem dX3_keptBlocks_1 : decode cX3_keptBlocks 1 = .ok (.getfield 35, 3) := by decide +kernel
theorem dX3_keptBlocks_4 : decode cX3_keptBlocks 4 = .ok (.lstore_n 2, 1) := by decide +kernel
theorem dX3_keptBlocks_5 : decode cX3_keptBlocks 5 = .ok (.iconst 0, 1) := by decide +kernel
theorem dX3_keptBlocks_6 : decode cX3_keptBlocks 6 = .ok (.istore 4, 2) := by decide +kernel
theorem dX3_keptBlocks_8 : decode cX3_keptBlocks 8 = .ok (.iload 4, 2) := by decide +kernel
theorem dX3_keptBlocks_10 : decode cX3_keptBlocks 10 = .ok (.iload_n 1, 1) := by decide +kernel
theorem dX3_keptBlocks_11 : decode cX3_keptBlocks 11 = .ok (.if_icmp .ge 36, 3) := by decide +kernel
theorem dX3_keptBlocks_14 : decode cX3_keptBlocks 14 = .ok (.iload 4, 2) := by decide +kernel
theorem dX3_keptBlocks_16 : decode cX3_keptBlocks 16 = .ok (.aload_n 0, 1) := by decide +kernel
theorem dX3_keptBlocks_17 : decode cX3_keptBlocks 17 = .ok (.getfield 27, 3) := by decide +kernel
theorem dX3_keptBlocks_20 : decode cX3_keptBlocks 20 = .ok (.if_icmp .ge 27, 3) := by decide +kernel
theorem dX3_keptBlocks_23 : decode cX3_keptBlocks 23 = .ok (.lload_n 2, 1) := by decide +kernel
theorem dX3_keptBlocks_24 : decode cX3_keptBlocks 24 = .ok (.lconst 1, 1) := by decide +kernel
theorem dX3_keptBlocks_25 : decode cX3_keptBlocks 25 = .ok (.iconst 4, 1) := by decide +kernel
theorem dX3_keptBlocks_26 : decode cX3_keptBlocks 26 = .ok (.aload_n 0, 1) := by decide +kernel
theorem dX3_keptBlocks_27 : decode cX3_keptBlocks 27 = .ok (.getfield 21, 3) := by decide +kernel
theorem dX3_keptBlocks_30 : decode cX3_keptBlocks 30 = .ok (.iload 4, 2) := by decide +kernel
theorem dX3_keptBlocks_32 : decode cX3_keptBlocks 32 = .ok (.iaload, 1) := by decide +kernel
theorem dX3_keptBlocks_33 : decode cX3_keptBlocks 33 = .ok (.imul, 1) := by decide +kernel
theorem dX3_keptBlocks_34 : decode cX3_keptBlocks 34 = .ok (.lshl, 1) := by decide +kernel
theorem dX3_keptBlocks_35 : decode cX3_keptBlocks 35 = .ok (.ldc2_w 74, 3) := by decide +kernel
theorem dX3_keptBlocks_38 : decode cX3_keptBlocks 38 = .ok (.lxor, 1) := by decide +kernel
theorem dX3_keptBlocks_39 : decode cX3_keptBlocks 39 = .ok (.land, 1) := by decide +kernel
theorem dX3_keptBlocks_40 : decode cX3_keptBlocks 40 = .ok (.lstore_n 2, 1) := by decide +kernel
theorem dX3_keptBlocks_41 : decode cX3_keptBlocks 41 = .ok (.iinc 4 1, 3) := by decide +kernel
theorem dX3_keptBlocks_44 : decode cX3_keptBlocks 44 = .ok (.goto (-36), 3) := by decide +kernel
theorem dX3_keptBlocks_47 : decode cX3_keptBlocks 47 = .ok (.lload_n 2, 1) := by decide +kernel
theorem dX3_keptBlocks_48 : decode cX3_keptBlocks 48 = .ok (.lreturn, 1) := by decide +kernel
set_option maxRecDepth 20000 in
theorem ggX3_differingBlocks_X2_markSymbols : GoodIn wsX3_differingBlocks wsX2_markSymbols := goodIn_r _ [5, 6] (by decide +kernel) (by decide +kernel)
set_option maxRecDepth 20000 in
theorem gX3_differingBlocks_X2_markSymbols_n76 : GoodIn wsX3_differingBlocks (wsX2_markSymbols) := ggX3_differingBlocks_X2_markSymbols
theorem dX3_differingBlocks_0 : decode cX3_differingBlocks 0 = .ok (.lload_n 1, 1) := by decide +kernel
theorem dX3_differingBlocks_1 : decode cX3_differingBlocks 1 = .ok (.aload_n 0, 1) := by decide +kernel
theorem dX3_differingBlocks_2 : decode cX3_differingBlocks 2 = .ok (.getfield 31, 3) := by decide +kernel
theorem dX3_differingBlocks_5 : decode cX3_differingBlocks 5 = .ok (.lxor, 1) := by decide +kernel
theorem dX3_differingBlocks_6 : decode cX3_differingBlocks 6 = .ok (.invokestatic 76, 3) := by decide +kernel
theorem dX3_differingBlocks_9 : decode cX3_differingBlocks 9 = .ok (.aload_n 0, 1) := by decide +kernel
theorem dX3_differingBlocks_10 : decode cX3_differingBlocks 10 = .ok (.getfield 35, 3) := by decide +kernel
theorem dX3_differingBlocks_13 : decode cX3_differingBlocks 13 = .ok (.land, 1) := by decide +kernel
theorem dX3_differingBlocks_14 : decode cX3_differingBlocks 14 = .ok (.lreturn, 1) := by decide +kernel
set_option maxRecDepth 20000 in
theorem ggX3_scoreOf_X3_differingBlocks : GoodIn wsX3_scoreOf wsX3_differingBlocks := goodIn_r _ [7, 8, 9, 10, 11, 12, 13, 14, 15, 16, 17, 18, 19, 20, 21] (by decide +kernel) (by decide +kernel)
set_option maxRecDepth 20000 in
theorem gX3_scoreOf_X3_differingBlocks : GoodIn wsX3_scoreOf (wsV RX3 80 RX3 yX3_differingBlocks wsX3_differingBlocks) := goodIn_app (goodIn_of _ (by decide +kernel)) ggX3_scoreOf_X3_differingBlocks
theorem dX3_scoreOf_0 : decode cX3_scoreOf 0 = .ok (.aload_n 0, 1) := by decide +kernel
theorem dX3_scoreOf_1 : decode cX3_scoreOf 1 = .ok (.lload_n 1, 1) := by decide +kernel
theorem dX3_scoreOf_2 : decode cX3_scoreOf 2 = .ok (.invokevirtual 80, 3) := by decide +kernel
theorem dX3_scoreOf_5 : decode cX3_scoreOf 5 = .ok (.lstore_n 3, 1) := by decide +kernel
theorem dX3_scoreOf_6 : decode cX3_scoreOf 6 = .ok (.iconst 0, 1) := by decide +kernel
theorem dX3_scoreOf_7 : decode cX3_scoreOf 7 = .ok (.istore 5, 2) := by decide +kernel
theorem dX3_scoreOf_9 : decode cX3_scoreOf 9 = .ok (.iconst 0, 1) := by decide +kernel
theorem dX3_scoreOf_10 : decode cX3_scoreOf 10 = .ok (.istore 6, 2) := by decide +kernel
theorem dX3_scoreOf_12 : decode cX3_scoreOf 12 = .ok (.iload 6, 2) := by decide +kernel
theorem dX3_scoreOf_14 : decode cX3_scoreOf 14 = .ok (.aload_n 0, 1) := by decide +kernel
theorem dX3_scoreOf_15 : decode cX3_scoreOf 15 = .ok (.getfield 27, 3) := by decide +kernel
theorem dX3_scoreOf_18 : decode cX3_scoreOf 18 = .ok (.if_icmp .ge 57, 3) := by decide +kernel
theorem dX3_scoreOf_21 : decode cX3_scoreOf 21 = .ok (.lload_n 3, 1) := by decide +kernel
theorem dX3_scoreOf_22 : decode cX3_scoreOf 22 = .ok (.iconst 4, 1) := by decide +kernel
theorem dX3_scoreOf_23 : decode cX3_scoreOf 23 = .ok (.iload 6, 2) := by decide +kernel
theorem dX3_scoreOf_25 : decode cX3_scoreOf 25 = .ok (.imul, 1) := by decide +kernel
theorem dX3_scoreOf_26 : decode cX3_scoreOf 26 = .ok (.lushr, 1) := by decide +kernel
theorem dX3_scoreOf_27 : decode cX3_scoreOf 27 = .ok (.lconst 1, 1) := by decide +kernel
theorem dX3_scoreOf_28 : decode cX3_scoreOf 28 = .ok (.land, 1) := by decide +kernel
theorem dX3_scoreOf_29 : decode cX3_scoreOf 29 = .ok (.lconst 1, 1) := by decide +kernel
theorem dX3_scoreOf_30 : decode cX3_scoreOf 30 = .ok (.lcmp, 1) := by decide +kernel
theorem dX3_scoreOf_31 : decode cX3_scoreOf 31 = .ok (.ifCond .ne 7, 3) := by decide +kernel
theorem dX3_scoreOf_34 : decode cX3_scoreOf 34 = .ok (.iconst 1, 1) := by decide +kernel
theorem dX3_scoreOf_35 : decode cX3_scoreOf 35 = .ok (.goto 4, 3) := by decide +kernel
theorem dX3_scoreOf_38 : decode cX3_scoreOf 38 = .ok (.iconst 0, 1) := by decide +kernel
theorem dX3_scoreOf_39 : decode cX3_scoreOf 39 = .ok (.istore 7, 2) := by decide +kernel
theorem dX3_scoreOf_41 : decode cX3_scoreOf 41 = .ok (.iload 5, 2) := by decide +kernel
theorem dX3_scoreOf_43 : decode cX3_scoreOf 43 = .ok (.iload 7, 2) := by decide +kernel
theorem dX3_scoreOf_45 : decode cX3_scoreOf 45 = .ok (.ifCond .eq 14, 3) := by decide +kernel
theorem dX3_scoreOf_48 : decode cX3_scoreOf 48 = .ok (.aload_n 0, 1) := by decide +kernel
theorem dX3_scoreOf_49 : decode cX3_scoreOf 49 = .ok (.getfield 18, 3) := by decide +kernel
theorem dX3_scoreOf_52 : decode cX3_scoreOf 52 = .ok (.iload 6, 2) := by decide +kernel
theorem dX3_scoreOf_54 : decode cX3_scoreOf 54 = .ok (.iaload, 1) := by decide +kernel
theorem dX3_scoreOf_55 : decode cX3_scoreOf 55 = .ok (.ineg, 1) := by decide +kernel
theorem dX3_scoreOf_56 : decode cX3_scoreOf 56 = .ok (.goto 10, 3) := by decide +kernel
theorem dX3_scoreOf_59 : decode cX3_scoreOf 59 = .ok (.aload_n 0, 1) := by decide +kernel
theorem dX3_scoreOf_60 : decode cX3_scoreOf 60 = .ok (.getfield 18, 3) := by decide +kernel
theorem dX3_scoreOf_63 : decode cX3_scoreOf 63 = .ok (.iload 6, 2) := by decide +kernel
theorem dX3_scoreOf_65 : decode cX3_scoreOf 65 = .ok (.iaload, 1) := by decide +kernel
theorem dX3_scoreOf_66 : decode cX3_scoreOf 66 = .ok (.iadd, 1) := by decide +kernel
theorem dX3_scoreOf_67 : decode cX3_scoreOf 67 = .ok (.istore 5, 2) := by decide +kernel
theorem dX3_scoreOf_69 : decode cX3_scoreOf 69 = .ok (.iinc 6 1, 3) := by decide +kernel
theorem dX3_scoreOf_72 : decode cX3_scoreOf 72 = .ok (.goto (-60), 3) := by decide +kernel
theorem dX3_scoreOf_75 : decode cX3_scoreOf 75 = .ok (.iload 5, 2) := by decide +kernel
theorem dX3_scoreOf_77 : decode cX3_scoreOf 77 = .ok (.ireturn, 1) := by decide +kernel
theorem dX4_init_0 : decode cX4_init 0 = .ok (.aload_n 0, 1) := by decide +kernel
theorem dX4_init_1 : decode cX4_init 1 = .ok (.invokespecial 3, 3) := by decide +kernel
theorem dX4_init_4 : decode cX4_init 4 = .ok (.aload_n 0, 1) := by decide +kernel
theorem dX4_init_5 : decode cX4_init 5 = .ok (.bipush 8, 2) := by decide +kernel
theorem dX4_init_7 : decode cX4_init 7 = .ok (.putfield 9, 3) := by decide +kernel
theorem dX4_init_10 : decode cX4_init 10 = .ok (.aload_n 0, 1) := by decide +kernel
theorem dX4_init_11 : decode cX4_init 11 = .ok (.iconst 3, 1) := by decide +kernel
theorem dX4_init_12 : decode cX4_init 12 = .ok (.putfield 15, 3) := by decide +kernel
theorem dX4_init_15 : decode cX4_init 15 = .ok (.aload_n 0, 1) := by decide +kernel
theorem dX4_init_16 : decode cX4_init 16 = .ok (.bipush 7, 2) := by decide +kernel
theorem dX4_init_18 : decode cX4_init 18 = .ok (.putfield 18, 3) := by decide +kernel
theorem dX4_init_21 : decode cX4_init 21 = .ok (.aload_n 0, 1) := by decide +kernel
theorem dX4_init_22 : decode cX4_init 22 = .ok (.iconst 4, 1) := by decide +kernel
theorem dX4_init_23 : decode cX4_init 23 = .ok (.newarray .int, 2) := by decide +kernel
theorem dX4_init_25 : decode cX4_init 25 = .ok (.putfield 21, 3) := by decide +kernel
theorem dX4_init_28 : decode cX4_init 28 = .ok (.aload_n 0, 1) := by decide +kernel
theorem dX4_init_29 : decode cX4_init 29 = .ok (.getfield 21, 3) := by decide +kernel
theorem dX4_init_32 : decode cX4_init 32 = .ok (.iconst 0, 1) := by decide +kernel
theorem dX4_init_33 : decode cX4_init 33 = .ok (.bipush 49, 2) := by decide +kernel
theorem dX4_init_35 : decode cX4_init 35 = .ok (.iastore, 1) := by decide +kernel
theorem dX4_init_36 : decode cX4_init 36 = .ok (.aload_n 0, 1) := by decide +kernel
theorem dX4_init_37 : decode cX4_init 37 = .ok (.getfield 21, 3) := by decide +kernel
theorem dX4_init_40 : decode cX4_init 40 = .ok (.iconst 1, 1) := by decide +kernel
theorem dX4_init_41 : decode cX4_init 41 = .ok (.bipush 82, 2) := by decide +kernel
theorem dX4_init_43 : decode cX4_init 43 = .ok (.iastore, 1) := by decide +kernel
theorem dX4_init_44 : decode cX4_init 44 = .ok (.aload_n 0, 1) := by decide +kernel
theorem dX4_init_45 : decode cX4_init 45 = .ok (.getfield 21, 3) := by decide +kernel
theorem dX4_init_48 : decode cX4_init 48 = .ok (.iconst 2, 1) := by decide +kernel
theorem dX4_init_49 : decode cX4_init 49 = .ok (.bipush 100, 2) := by decide +kernel
theorem dX4_init_51 : decode cX4_init 51 = .ok (.iastore, 1) := by decide +kernel
theorem dX4_init_52 : decode cX4_init 52 = .ok (.aload_n 0, 1) := by decide +kernel
theorem dX4_init_53 : decode cX4_init 53 = .ok (.getfield 21, 3) := by decide +kernel
theorem dX4_init_56 : decode cX4_init 56 = .ok (.iconst 3, 1) := by decide +kernel
theorem dX4_init_57 : decode cX4_init 57 = .ok (.bipush 120, 2) := by decide +kernel
theorem dX4_init_59 : decode cX4_init 59 = .ok (.iastore, 1) := by decide +kernel
theorem dX4_init_60 : decode cX4_init 60 = .ok (.aload_n 0, 1) := by decide +kernel
theorem dX4_init_61 : decode cX4_init 61 = .ok (.bipush 12, 2) := by decide +kernel
theorem dX4_init_63 : decode cX4_init 63 = .ok (.newarray .int, 2) := by decide +kernel
theorem dX4_init_65 : decode cX4_init 65 = .ok (.putfield 25, 3) := by decide +kernel
theorem dX4_init_68 : decode cX4_init 68 = .ok (.aload_n 0, 1) := by decide +kernel
theorem dX4_init_69 : decode cX4_init 69 = .ok (.bipush 12, 2) := by decide +kernel
theorem dX4_init_71 : decode cX4_init 71 = .ok (.newarray .boolean, 2) := by decide +kernel
theorem dX4_init_73 : decode cX4_init 73 = .ok (.putfield 28, 3) := by decide +kernel
theorem dX4_init_76 : decode cX4_init 76 = .ok (.aload_n 0, 1) := by decide +kernel
theorem dX4_init_77 : decode cX4_init 77 = .ok (.iconst 0, 1) := by decide +kernel
theorem dX4_init_78 : decode cX4_init 78 = .ok (.putfield 32, 3) := by decide +kernel
theorem dX4_init_81 : decode cX4_init 81 = .ok (.return_, 1) := by decide +kernel
theorem dX4_copyFrom_0 : decode cX4_copyFrom 0 = .ok (.aload_n 0, 1) := by decide +kernel
theorem dX4_copyFrom_1 : decode cX4_copyFrom 1 = .ok (.aload_n 1, 1) := by decide +kernel
theorem dX4_copyFrom_2 : decode cX4_copyFrom 2 = .ok (.getfield 9, 3) := by decide +kernel
theorem dX4_copyFrom_5 : decode cX4_copyFrom 5 = .ok (.putfield 9, 3) := by decide +kernel
theorem dX4_copyFrom_8 : decode cX4_copyFrom 8 = .ok (.aload_n 0, 1) := by decide +kernel
theorem dX4_copyFrom_9 : decode cX4_copyFrom 9 = .ok (.aload_n 1, 1) := by decide +kernel
theorem dX4_copyFrom_10 : decode cX4_copyFrom 10 = .ok (.getfield 15, 3) := by decide +kernel
theorem dX4_copyFrom_13 : decode cX4_copyFrom 13 = .ok (.putfield 15, 3) := by decide +kernel
theorem dX4_copyFrom_16 : decode cX4_copyFrom 16 = .ok (.aload_n 0, 1) := by decide +kernel
theorem dX4_copyFrom_17 : decode cX4_copyFrom 17 = .ok (.aload_n 1, 1) := by decide +kernel
theorem dX4_copyFrom_18 : decode cX4_copyFrom 18 = .ok (.getfield 18, 3) := by decide +kernel
theorem dX4_copyFrom_21 : decode cX4_copyFrom 21 = .ok (.putfield 18, 3) := by decide +kernel
theorem dX4_copyFrom_24 : decode cX4_copyFrom 24 = .ok (.aload_n 0, 1) := by decide +kernel
theorem dX4_copyFrom_25 : decode cX4_copyFrom 25 = .ok (.aload_n 1, 1) := by decide +kernel
theorem dX4_copyFrom_26 : decode cX4_copyFrom 26 = .ok (.getfield 32, 3) := by decide +kernel
theorem dX4_copyFrom_29 : decode cX4_copyFrom 29 = .ok (.putfield 32, 3) := by decide +kernel
theorem dX4_copyFrom_32 : decode cX4_copyFrom 32 = .ok (.iconst 0, 1) := by decide +kernel
theorem dX4_copyFrom_33 : decode cX4_copyFrom 33 = .ok (.istore_n 2, 1) := by decide +kernel
theorem dX4_copyFrom_34 : decode cX4_copyFrom 34 = .ok (.iload_n 2, 1) := by decide +kernel
theorem dX4_copyFrom_35 : decode cX4_copyFrom 35 = .ok (.iconst 4, 1) := by decide +kernel
theorem dX4_copyFrom_36 : decode cX4_copyFrom 36 = .ok (.if_icmp .ge 21, 3) := by decide +kernel
theorem dX4_copyFrom_39 : decode cX4_copyFrom 39 = .ok (.aload_n 0, 1) := by decide +kernel
theorem dX4_copyFrom_40 : decode cX4_copyFrom 40 = .ok (.getfield 21, 3) := by decide +kernel
theorem dX4_copyFrom_43 : decode cX4_copyFrom 43 = .ok (.iload_n 2, 1) := by decide +kernel
theorem dX4_copyFrom_44 : decode cX4_copyFrom 44 = .ok (.aload_n 1, 1) := by decide +kernel
theorem dX4_copyFrom_45 : decode cX4_copyFrom 45 = .ok (.getfield 21, 3) := by decide +kernel
theorem dX4_copyFrom_48 : decode cX4_copyFrom 48 = .ok (.iload_n 2, 1) := by decide +kernel
theorem dX4_copyFrom_49 : decode cX4_copyFrom 49 = .ok (.iaload, 1) := by decide +kernel
theorem dX4_copyFrom_50 : decode cX4_copyFrom 50 = .ok (.iastore, 1) := by decide +kernel
theorem dX4_copyFrom_51 : decode cX4_copyFrom 51 = .ok (.iinc 2 1, 3) := by decide +kernel
theorem dX4_copyFrom_54 : decode cX4_copyFrom 54 = .ok (.goto (-20), 3) := by decide +kernel
theorem dX4_copyFrom_57 : decode cX4_copyFrom 57 = .ok (.iconst 0, 1) := by decide +kernel
theorem dX4_copyFrom_58 : decode cX4_copyFrom 58 = .ok (.istore_n 2, 1) := by decide +kernel
theorem dX4_copyFrom_59 : decode cX4_copyFrom 59 = .ok (.iload_n 2, 1) := by decide +kernel
theorem dX4_copyFrom_60 : decode cX4_copyFrom 60 = .ok (.bipush 12, 2) := by decide +kernel
theorem dX4_copyFrom_62 : decode cX4_copyFrom 62 = .ok (.if_icmp .ge 33, 3) := by decide +kernel
theorem dX4_copyFrom_65 : decode cX4_copyFrom 65 = .ok (.aload_n 0, 1) := by decide +kernel
theorem dX4_copyFrom_66 : decode cX4_copyFrom 66 = .ok (.getfield 25, 3) := by decide +kernel
theorem dX4_copyFrom_69 : decode cX4_copyFrom 69 = .ok (.iload_n 2, 1) := by decide +kernel
theorem dX4_copyFrom_70 : decode cX4_copyFrom 70 = .ok (.aload_n 1, 1) := by decide +kernel
theorem dX4_copyFrom_71 : decode cX4_copyFrom 71 = .ok (.getfield 25, 3) := by decide +kernel
theorem dX4_copyFrom_74 : decode cX4_copyFrom 74 = .ok (.iload_n 2, 1) := by decide +kernel
theorem dX4_copyFrom_75 : decode cX4_copyFrom 75 = .ok (.iaload, 1) := by decide +kernel
theorem dX4_copyFrom_76 : decode cX4_copyFrom 76 = .ok (.iastore, 1) := by decide +kernel
theorem dX4_copyFrom_77 : decode cX4_copyFrom 77 = .ok (.aload_n 0, 1) := by decide +kernel
theorem dX4_copyFrom_78 : decode cX4_copyFrom 78 = .ok (.getfield 28, 3) := by decide +kernel
theorem dX4_copyFrom_81 : decode cX4_copyFrom 81 = .ok (.iload_n 2, 1) := by decide +kernel
theorem dX4_copyFrom_82 : decode cX4_copyFrom 82 = .ok (.aload_n 1, 1) := by decide +kernel
theorem dX4_copyFrom_83 : decode cX4_copyFrom 83 = .ok (.getfield 28, 3) := by decide +kernel
theorem dX4_copyFrom_86 : decode cX4_copyFrom 86 = .ok (.iload_n 2, 1) := by decide +kernel
theorem dX4_copyFrom_87 : decode cX4_copyFrom 87 = .ok (.baload, 1) := by decide +kernel
theorem dX4_copyFrom_88 : decode cX4_copyFrom 88 = .ok (.bastore, 1) := by decide +kernel
theorem dX4_copyFrom_89 : decode cX4_copyFrom 89 = .ok (.iinc 2 1, 3) := by decide +kernel
theorem dX4_copyFrom_92 : decode cX4_copyFrom 92 = .ok (.goto (-33), 3) := by decide +kernel
theorem dX4_copyFrom_95 : decode cX4_copyFrom 95 = .ok (.return_, 1) := by decide +kernel
theorem dX4_clearBlocks_0 : decode cX4_clearBlocks 0 = .ok (.aload_n 0, 1) := by decide +kernel
theorem dX4_clearBlocks_1 : decode cX4_clearBlocks 1 = .ok (.iconst 0, 1) := by decide +kernel
theorem dX4_clearBlocks_2 : decode cX4_clearBlocks 2 = .ok (.putfield 32, 3) := by decide +kernel
theorem dX4_clearBlocks_5 : decode cX4_clearBlocks 5 = .ok (.iconst 0, 1) := by decide +kernel
theorem dX4_clearBlocks_6 : decode cX4_clearBlocks 6 = .ok (.istore_n 1, 1) := by decide +kernel
theorem dX4_clearBlocks_7 : decode cX4_clearBlocks 7 = .ok (.iload_n 1, 1) := by decide +kernel
theorem dX4_clearBlocks_8 : decode cX4_clearBlocks 8 = .ok (.bipush 12, 2) := by decide +kernel
theorem dX4_clearBlocks_10 : decode cX4_clearBlocks 10 = .ok (.if_icmp .ge 23, 3) := by decide +kernel
theorem dX4_clearBlocks_13 : decode cX4_clearBlocks 13 = .ok (.aload_n 0, 1) := by decide +kernel
theorem dX4_clearBlocks_14 : decode cX4_clearBlocks 14 = .ok (.getfield 25, 3) := by decide +kernel
theorem dX4_clearBlocks_17 : decode cX4_clearBlocks 17 = .ok (.iload_n 1, 1) := by decide +kernel
theorem dX4_clearBlocks_18 : decode cX4_clearBlocks 18 = .ok (.iconst 0, 1) := by decide +kernel
theorem dX4_clearBlocks_19 : decode cX4_clearBlocks 19 = .ok (.iastore, 1) := by decide +kernel
theorem dX4_clearBlocks_20 : decode cX4_clearBlocks 20 = .ok (.aload_n 0, 1) := by decide +kernel
theorem dX4_clearBlocks_21 : decode cX4_clearBlocks 21 = .ok (.getfield 28, 3) := by decide +kernel
theorem dX4_clearBlocks_24 : decode cX4_clearBlocks 24 = .ok (.iload_n 1, 1) := by decide +kernel
theorem dX4_clearBlocks_25 : decode cX4_clearBlocks 25 = .ok (.iconst 0, 1) := by decide +kernel
theorem dX4_clearBlocks_26 : decode cX4_clearBlocks 26 = .ok (.bastore, 1) := by decide +kernel
theorem dX4_clearBlocks_27 : decode cX4_clearBlocks 27 = .ok (.iinc 1 1, 3) := by decide +kernel
theorem dX4_clearBlocks_30 : decode cX4_clearBlocks 30 = .ok (.goto (-23), 3) := by decide +kernel
theorem dX4_clearBlocks_33 : decode cX4_clearBlocks 33 = .ok (.return_, 1) := by decide +kernel
theorem dX4_outerDistance_0 : decode cX4_outerDistance 0 = .ok (.aload_n 0, 1) := by decide +kernel
theorem dX4_outerDistance_1 : decode cX4_outerDistance 1 = .ok (.getfield 9, 3) := by decide +kernel
theorem dX4_outerDistance_4 : decode cX4_outerDistance 4 = .ok (.aload_n 0, 1) := by decide +kernel
theorem dX4_outerDistance_5 : decode cX4_outerDistance 5 = .ok (.getfield 15, 3) := by decide +kernel
theorem dX4_outerDistance_8 : decode cX4_outerDistance 8 = .ok (.isub, 1) := by decide +kernel
theorem dX4_outerDistance_9 : decode cX4_outerDistance 9 = .ok (.iconst 1, 1) := by decide +kernel
theorem dX4_outerDistance_10 : decode cX4_outerDistance 10 = .ok (.iadd, 1) := by decide +kernel
theorem dX4_outerDistance_11 : decode cX4_outerDistance 11 = .ok (.ireturn, 1) := by decide +kernel
theorem dX4_messages_0 : decode cX4_messages 0 = .ok (.iconst 1, 1) := by decide +kernel
theorem dX4_messages_1 : decode cX4_messages 1 = .ok (.iconst 4, 1) := by decide +kernel
theorem dX4_messages_2 : decode cX4_messages 2 = .ok (.aload_n 0, 1) := by decide +kernel
theorem dX4_messages_3 : decode cX4_messages 3 = .ok (.getfield 15, 3) := by decide +kernel
theorem dX4_messages_6 : decode cX4_messages 6 = .ok (.imul, 1) := by decide +kernel
theorem dX4_messages_7 : decode cX4_messages 7 = .ok (.ishl, 1) := by decide +kernel
theorem dX4_messages_8 : decode cX4_messages 8 = .ok (.ireturn, 1) := by decide +kernel
theorem dX4_allBits_0 : decode cX4_allBits 0 = .ok (.iconst 1, 1) := by decide +kernel
theorem dX4_allBits_1 : decode cX4_allBits 1 = .ok (.aload_n 0, 1) := by decide +kernel
theorem dX4_allBits_2 : decode cX4_allBits 2 = .ok (.getfield 18, 3) := by decide +kernel
theorem dX4_allBits_5 : decode cX4_allBits 5 = .ok (.ishl, 1) := by decide +kernel
theorem dX4_allBits_6 : decode cX4_allBits 6 = .ok (.iconst 1, 1) := by decide +kernel
theorem dX4_allBits_7 : decode cX4_allBits 7 = .ok (.isub, 1) := by decide +kernel
theorem dX4_allBits_8 : decode cX4_allBits 8 = .ok (.ireturn, 1) := by decide +kernel
set_option maxRecDepth 20000 in
theorem ggX4_shiftedRound_X4_allBits : GoodIn wsX4_shiftedRound wsX4_allBits := goodIn_r _ [6, 1, 7, 8, 9, 10, 11, 12, 13] (by decide +kernel) (by decide +kernel)
set_option maxRecDepth 20000 in
theorem gX4_shiftedRound_X4_allBits : GoodIn wsX4_shiftedRound (wsV RX4 35 RX4 yX4_allBits wsX4_allBits) := goodIn_app (goodIn_of _ (by decide +kernel)) ggX4_shiftedRound_X4_allBits
theorem dX4_shiftedRound_0 : decode cX4_shiftedRound 0 = .ok (.iload_n 1, 1) := by decide +kernel
theorem dX4_shiftedRound_1 : decode cX4_shiftedRound 1 = .ok (.iconst 1, 1) := by decide +kernel
theorem dX4_shiftedRound_2 : decode cX4_shiftedRound 2 = .ok (.ishl, 1) := by decide +kernel
theorem dX4_shiftedRound_3 : decode cX4_shiftedRound 3 = .ok (.iload_n 1, 1) := by decide +kernel
theorem dX4_shiftedRound_4 : decode cX4_shiftedRound 4 = .ok (.aload_n 0, 1) := by decide +kernel
theorem dX4_shiftedRound_5 : decode cX4_shiftedRound 5 = .ok (.getfield 18, 3) := by decide +kernel
theorem dX4_shiftedRound_8 : decode cX4_shiftedRound 8 = .ok (.iconst 1, 1) := by decide +kernel
theorem dX4_shiftedRound_9 : decode cX4_shiftedRound 9 = .ok (.isub, 1) := by decide +kernel
theorem dX4_shiftedRound_10 : decode cX4_shiftedRound 10 = .ok (.ishr, 1) := by decide +kernel
theorem dX4_shiftedRound_11 : decode cX4_shiftedRound 11 = .ok (.ior, 1) := by decide +kernel
theorem dX4_shiftedRound_12 : decode cX4_shiftedRound 12 = .ok (.aload_n 0, 1) := by decide +kernel
theorem dX4_shiftedRound_13 : decode cX4_shiftedRound 13 = .ok (.invokevirtual 35, 3) := by decide +kernel
theorem dX4_shiftedRound_16 : decode cX4_shiftedRound 16 = .ok (.iand, 1) := by decide +kernel
theorem dX4_shiftedRound_17 : decode cX4_shiftedRound 17 = .ok (.ireturn, 1) := by decide +kernel
end
section
set_option maxRecDepth 20000 in
theorem ggX5_init_X4_init : GoodIn wsX5_init wsX4_init := goodIn_r _ [28, 29, 2, 3, 30, 31, 32, 24, 33, 34, 35, 36, 37, 115, 116, 117, 118, 119, 120, 121] (by decide +kernel) (by decide +kernel)
set_option maxRecDepth 20000 in
theorem gX5_init_X4_init_n9 : GoodIn wsX5_init (wsX4_init) := ggX5_init_X4_init
set_option maxRecDepth 20000 in
theorem ggX5_init_X0_init : GoodIn wsX5_init wsX0_init := goodIn_r _ [39, 40, 2, 3, 41, 42, 5, 6, 43, 27, 28, 29, 30, 31, 32, 24, 33, 34, 35, 36, 37, 129, 130, 115, 116, 117, 118, 119, 120, 121] (by decide +kernel) (by decide +kernel)
set_option maxRecDepth 20000 in
theorem gX5_init_X0_init_n18 : GoodIn wsX5_init (wsX0_init) := ggX5_init_X0_init
set_option maxRecDepth 20000 in
theorem ggX5_init_X1_init : GoodIn wsX5_init wsX1_init := goodIn_r _ [45, 46, 2, 3, 24, 47, 48, 131, 132] (by decide +kernel) (by decide +kernel)
set_option maxRecDepth 20000 in
theorem gX5_init_X1_init_n25 : GoodIn wsX5_init (wsX1_init) := ggX5_init_X1_init
set_option maxRecDepth 20000 in
theorem ggX5_init_X2_init : GoodIn wsX5_init wsX2_init := goodIn_r _ [50, 51, 2, 3, 52, 53, 54, 55, 56, 133] (by decide +kernel) (by decide +kernel)
set_option maxRecDepth 20000 in
theorem gX5_init_X2_init_n32 : GoodIn wsX5_init (wsX2_init) := ggX5_init_X2_init
set_option maxRecDepth 20000 in
theorem ggX5_init_X3_init : GoodIn wsX5_init wsX3_init := goodIn_r _ [58, 59, 2, 3, 24, 60, 61, 62, 63, 64, 65, 66, 67, 134, 135, 136, 137, 138, 139, 140, 141] (by decide +kernel) (by decide +kernel)
set_option maxRecDepth 20000 in
theorem gX5_init_X3_init_n39 : GoodIn wsX5_init (wsX3_init) := ggX5_init_X3_init
set_option maxRecDepth 20000 in
theorem ggX5_init_X5_readAgain : GoodIn wsX5_init wsX5_readAgain := goodIn_r _ [71, 15, 7, 23, 72, 14, 73, 74, 48, 47, 75, 76, 77, 78, 79, 55, 80, 81, 82, 83, 84, 85, 86, 87, 88, 22, 89, 90, 65, 67, 66, 60, 64, 63, 91, 18, 92, 93, 94, 95, 96, 97, 61, 62, 98, 99, 100, 101, 102, 103, 104, 105, 106, 107, 108, 109, 110, 111, 112, 113, 114, 122, 123, 124, 125, 126, 127, 128, 115, 116, 117, 118, 119, 120, 121, 131, 132, 134, 135, 136, 137, 138, 139, 140, 141] (by decide +kernel) (by decide +kernel)
set_option maxRecDepth 20000 in
theorem gX5_init_X5_readAgain : GoodIn wsX5_init (wsV RX5 52 RX5 yX5_readAgain wsX5_readAgain) := goodIn_app (goodIn_of _ (by decide +kernel)) ggX5_init_X5_readAgain
theorem dX5_init_0 : decode cX5_init 0 = .ok (.aload_n 0, 1) := by decide +kernel
theorem dX5_init_1 : decode cX5_init 1 = .ok (.invokespecial 1, 3) := by decide +kernel
theorem dX5_init_4 : decode cX5_init 4 = .ok (.aload_n 0, 1) := by decide +kernel
theorem dX5_init_5 : decode cX5_init 5 = .ok (.new 7, 3) := by decide +kernel
theorem dX5_init_8 : decode cX5_init 8 = .ok (.dup, 1) := by decide +kernel
theorem dX5_init_9 : decode cX5_init 9 = .ok (.invokespecial 9, 3) := by decide +kernel
theorem dX5_init_12 : decode cX5_init 12 = .ok (.putfield 10, 3) := by decide +kernel
theorem dX5_init_15 : decode cX5_init 15 = .ok (.aload_n 0, 1) := by decide +kernel
theorem dX5_init_16 : decode cX5_init 16 = .ok (.new 16, 3) := by decide +kernel
theorem dX5_init_19 : decode cX5_init 19 = .ok (.dup, 1) := by decide +kernel
theorem dX5_init_20 : decode cX5_init 20 = .ok (.invokespecial 18, 3) := by decide +kernel
theorem dX5_init_23 : decode cX5_init 23 = .ok (.putfield 19, 3) := by decide +kernel
theorem dX5_init_26 : decode cX5_init 26 = .ok (.aload_n 0, 1) := by decide +kernel
theorem dX5_init_27 : decode cX5_init 27 = .ok (.new 23, 3) := by decide +kernel
theorem dX5_init_30 : decode cX5_init 30 = .ok (.dup, 1) := by decide +kernel
theorem dX5_init_31 : decode cX5_init 31 = .ok (.invokespecial 25, 3) := by decide +kernel
theorem dX5_init_34 : decode cX5_init 34 = .ok (.putfield 26, 3) := by decide +kernel
theorem dX5_init_37 : decode cX5_init 37 = .ok (.aload_n 0, 1) := by decide +kernel
theorem dX5_init_38 : decode cX5_init 38 = .ok (.new 30, 3) := by decide +kernel
theorem dX5_init_41 : decode cX5_init 41 = .ok (.dup, 1) := by decide +kernel
theorem dX5_init_42 : decode cX5_init 42 = .ok (.invokespecial 32, 3) := by decide +kernel
theorem dX5_init_45 : decode cX5_init 45 = .ok (.putfield 33, 3) := by decide +kernel
theorem dX5_init_48 : decode cX5_init 48 = .ok (.aload_n 0, 1) := by decide +kernel
theorem dX5_init_49 : decode cX5_init 49 = .ok (.new 37, 3) := by decide +kernel
theorem dX5_init_52 : decode cX5_init 52 = .ok (.dup, 1) := by decide +kernel
theorem dX5_init_53 : decode cX5_init 53 = .ok (.invokespecial 39, 3) := by decide +kernel
theorem dX5_init_56 : decode cX5_init 56 = .ok (.putfield 40, 3) := by decide +kernel
theorem dX5_init_59 : decode cX5_init 59 = .ok (.aload_n 0, 1) := by decide +kernel
theorem dX5_init_60 : decode cX5_init 60 = .ok (.iconst 4, 1) := by decide +kernel
theorem dX5_init_61 : decode cX5_init 61 = .ok (.newarray .int, 2) := by decide +kernel
theorem dX5_init_63 : decode cX5_init 63 = .ok (.putfield 44, 3) := by decide +kernel
theorem dX5_init_66 : decode cX5_init 66 = .ok (.aload_n 0, 1) := by decide +kernel
theorem dX5_init_67 : decode cX5_init 67 = .ok (.iconst 0, 1) := by decide +kernel
theorem dX5_init_68 : decode cX5_init 68 = .ok (.putfield 48, 3) := by decide +kernel
theorem dX5_init_71 : decode cX5_init 71 = .ok (.aload_n 0, 1) := by decide +kernel
theorem dX5_init_72 : decode cX5_init 72 = .ok (.invokevirtual 52, 3) := by decide +kernel
theorem dX5_init_75 : decode cX5_init 75 = .ok (.return_, 1) := by decide +kernel
set_option maxRecDepth 20000 in
theorem ggX5_setOuter_X0_record : GoodIn wsX5_setOuter wsX0_record := goodIn_r _ [6, 7, 8, 9, 10, 11, 4, 12, 13, 14, 15, 16, 17, 18, 19, 20, 21, 22, 23, 104, 105, 97, 98, 99, 100, 101, 102, 103] (by decide +kernel) (by decide +kernel)
set_option maxRecDepth 20000 in
theorem gX5_setOuter_X0_record_n61 : GoodIn wsX5_setOuter (wsX0_record) := ggX5_setOuter_X0_record
set_option maxRecDepth 20000 in
theorem ggX5_setOuter_X4_clearBlocks : GoodIn wsX5_setOuter wsX4_clearBlocks := goodIn_r _ [26, 20, 22, 23, 97, 98, 99, 100, 101, 102, 103] (by decide +kernel) (by decide +kernel)
set_option maxRecDepth 20000 in
theorem gX5_setOuter_X4_clearBlocks_n65 : GoodIn wsX5_setOuter (wsX4_clearBlocks) := ggX5_setOuter_X4_clearBlocks
set_option maxRecDepth 20000 in
theorem ggX5_setOuter_X5_readAgain : GoodIn wsX5_setOuter wsX5_readAgain := goodIn_r _ [31, 32, 1, 33, 34, 35, 36, 37, 38, 39, 40, 41, 42, 43, 44, 30, 45, 46, 47, 48, 49, 50, 51, 52, 53, 54, 55, 56, 57, 58, 59, 60, 61, 62, 63, 64, 65, 66, 67, 68, 69, 70, 71, 72, 73, 74, 75, 76, 77, 78, 79, 80, 81, 82, 83, 84, 85, 86, 87, 88, 89, 90, 91, 92, 93, 94, 95, 96, 97, 98, 99, 100, 101, 102, 103, 106, 107, 108, 109, 110, 111, 112, 113, 114, 115] (by decide +kernel) (by decide +kernel)
set_option maxRecDepth 20000 in
theorem gX5_setOuter_X5_readAgain : GoodIn wsX5_setOuter (wsV RX5 52 RX5 yX5_readAgain wsX5_readAgain) := goodIn_app (goodIn_of _ (by decide +kernel)) ggX5_setOuter_X5_readAgain
theorem dX5_setOuter_0 : decode cX5_setOuter 0 = .ok (.iload_n 1, 1) := by decide +kernel
theorem dX5_setOuter_1 : decode cX5_setOuter 1 = .ok (.iconst 3, 1) := by decide +kernel
theorem dX5_setOuter_2 : decode cX5_setOuter 2 = .ok (.if_icmp .lt 9, 3) := by decide +kernel
theorem dX5_setOuter_5 : decode cX5_setOuter 5 = .ok (.iload_n 1, 1) := by decide +kernel
theorem dX5_setOuter_6 : decode cX5_setOuter 6 = .ok (.bipush 12, 2) := by decide +kernel
theorem dX5_setOuter_8 : decode cX5_setOuter 8 = .ok (.if_icmp .le 7, 3) := by decide +kernel
theorem dX5_setOuter_11 : decode cX5_setOuter 11 = .ok (.sipush (-1001), 3) := by decide +kernel
theorem dX5_setOuter_14 : decode cX5_setOuter 14 = .ok (.ireturn, 1) := by decide +kernel
theorem dX5_setOuter_15 : decode cX5_setOuter 15 = .ok (.iload_n 2, 1) := by decide +kernel
theorem dX5_setOuter_16 : decode cX5_setOuter 16 = .ok (.iconst 1, 1) := by decide +kernel
theorem dX5_setOuter_17 : decode cX5_setOuter 17 = .ok (.if_icmp .lt 13, 3) := by decide +kernel
theorem dX5_setOuter_20 : decode cX5_setOuter 20 = .ok (.iload_n 2, 1) := by decide +kernel
theorem dX5_setOuter_21 : decode cX5_setOuter 21 = .ok (.iconst 3, 1) := by decide +kernel
theorem dX5_setOuter_22 : decode cX5_setOuter 22 = .ok (.if_icmp .gt 8, 3) := by decide +kernel
theorem dX5_setOuter_25 : decode cX5_setOuter 25 = .ok (.iload_n 2, 1) := by decide +kernel
theorem dX5_setOuter_26 : decode cX5_setOuter 26 = .ok (.iload_n 1, 1) := by decide +kernel
theorem dX5_setOuter_27 : decode cX5_setOuter 27 = .ok (.if_icmp .lt 7, 3) := by decide +kernel
theorem dX5_setOuter_30 : decode cX5_setOuter 30 = .ok (.sipush (-1001), 3) := by decide +kernel
theorem dX5_setOuter_33 : decode cX5_setOuter 33 = .ok (.ireturn, 1) := by decide +kernel
theorem dX5_setOuter_34 : decode cX5_setOuter 34 = .ok (.bipush 10, 2) := by decide +kernel
theorem dX5_setOuter_36 : decode cX5_setOuter 36 = .ok (.aload_n 0, 1) := by decide +kernel
theorem dX5_setOuter_37 : decode cX5_setOuter 37 = .ok (.getfield 10, 3) := by decide +kernel
theorem dX5_setOuter_40 : decode cX5_setOuter 40 = .ok (.getfield 55, 3) := by decide +kernel
theorem dX5_setOuter_43 : decode cX5_setOuter 43 = .ok (.imul, 1) := by decide +kernel
theorem dX5_setOuter_44 : decode cX5_setOuter 44 = .ok (.aload_n 0, 1) := by decide +kernel
theorem dX5_setOuter_45 : decode cX5_setOuter 45 = .ok (.getfield 10, 3) := by decide +kernel
theorem dX5_setOuter_48 : decode cX5_setOuter 48 = .ok (.getfield 58, 3) := by decide +kernel
theorem dX5_setOuter_51 : decode cX5_setOuter 51 = .ok (.iadd, 1) := by decide +kernel
theorem dX5_setOuter_52 : decode cX5_setOuter 52 = .ok (.istore_n 3, 1) := by decide +kernel
theorem dX5_setOuter_53 : decode cX5_setOuter 53 = .ok (.aload_n 0, 1) := by decide +kernel
theorem dX5_setOuter_54 : decode cX5_setOuter 54 = .ok (.getfield 19, 3) := by decide +kernel
theorem dX5_setOuter_57 : decode cX5_setOuter 57 = .ok (.aload_n 0, 1) := by decide +kernel
theorem dX5_setOuter_58 : decode cX5_setOuter 58 = .ok (.getfield 10, 3) := by decide +kernel
theorem dX5_setOuter_61 : decode cX5_setOuter 61 = .ok (.invokevirtual 61, 3) := by decide +kernel
theorem dX5_setOuter_64 : decode cX5_setOuter 64 = .ok (.aload_n 0, 1) := by decide +kernel
theorem dX5_setOuter_65 : decode cX5_setOuter 65 = .ok (.getfield 10, 3) := by decide +kernel
theorem dX5_setOuter_68 : decode cX5_setOuter 68 = .ok (.iload_n 1, 1) := by decide +kernel
theorem dX5_setOuter_69 : decode cX5_setOuter 69 = .ok (.putfield 55, 3) := by decide +kernel
theorem dX5_setOuter_72 : decode cX5_setOuter 72 = .ok (.aload_n 0, 1) := by decide +kernel
theorem dX5_setOuter_73 : decode cX5_setOuter 73 = .ok (.getfield 10, 3) := by decide +kernel
theorem dX5_setOuter_76 : decode cX5_setOuter 76 = .ok (.iload_n 2, 1) := by decide +kernel
theorem dX5_setOuter_77 : decode cX5_setOuter 77 = .ok (.putfield 58, 3) := by decide +kernel
theorem dX5_setOuter_80 : decode cX5_setOuter 80 = .ok (.aload_n 0, 1) := by decide +kernel
theorem dX5_setOuter_81 : decode cX5_setOuter 81 = .ok (.getfield 10, 3) := by decide +kernel
theorem dX5_setOuter_84 : decode cX5_setOuter 84 = .ok (.invokevirtual 65, 3) := by decide +kernel
theorem dX5_setOuter_87 : decode cX5_setOuter 87 = .ok (.aload_n 0, 1) := by decide +kernel
theorem dX5_setOuter_88 : decode cX5_setOuter 88 = .ok (.invokevirtual 52, 3) := by decide +kernel
theorem dX5_setOuter_91 : decode cX5_setOuter 91 = .ok (.iload_n 3, 1) := by decide +kernel
theorem dX5_setOuter_92 : decode cX5_setOuter 92 = .ok (.ireturn, 1) := by decide +kernel
theorem dX5_generator_0 : decode cX5_generator 0 = .ok (.iload_n 1, 1) := by decide +kernel
theorem dX5_generator_1 : decode cX5_generator 1 = .ok (.iconst 1, 1) := by decide +kernel
theorem dX5_generator_2 : decode cX5_generator 2 = .ok (.if_icmp .lt 10, 3) := by decide +kernel
theorem dX5_generator_5 : decode cX5_generator 5 = .ok (.iload_n 1, 1) := by decide +kernel
theorem dX5_generator_6 : decode cX5_generator 6 = .ok (.sipush 1023, 3) := by decide +kernel
theorem dX5_generator_9 : decode cX5_generator 9 = .ok (.if_icmp .le 7, 3) := by decide +kernel
theorem dX5_generator_12 : decode cX5_generator 12 = .ok (.sipush (-1001), 3) := by decide +kernel
theorem dX5_generator_15 : decode cX5_generator 15 = .ok (.ireturn, 1) := by decide +kernel
theorem dX5_generator_16 : decode cX5_generator 16 = .ok (.aload_n 0, 1) := by decide +kernel
theorem dX5_generator_17 : decode cX5_generator 17 = .ok (.getfield 48, 3) := by decide +kernel
theorem dX5_generator_20 : decode cX5_generator 20 = .ok (.iconst 4, 1) := by decide +kernel
theorem dX5_generator_21 : decode cX5_generator 21 = .ok (.if_icmp .lt 7, 3) := by decide +kernel
theorem dX5_generator_24 : decode cX5_generator 24 = .ok (.sipush (-1003), 3) := by decide +kernel
theorem dX5_generator_27 : decode cX5_generator 27 = .ok (.ireturn, 1) := by decide +kernel
theorem dX5_generator_28 : decode cX5_generator 28 = .ok (.aload_n 0, 1) := by decide +kernel
theorem dX5_generator_29 : decode cX5_generator 29 = .ok (.getfield 44, 3) := by decide +kernel
theorem dX5_generator_32 : decode cX5_generator 32 = .ok (.aload_n 0, 1) := by decide +kernel
theorem dX5_generator_33 : decode cX5_generator 33 = .ok (.getfield 48, 3) := by decide +kernel
theorem dX5_generator_36 : decode cX5_generator 36 = .ok (.iload_n 1, 1) := by decide +kernel
theorem dX5_generator_37 : decode cX5_generator 37 = .ok (.iastore, 1) := by decide +kernel
theorem dX5_generator_38 : decode cX5_generator 38 = .ok (.aload_n 0, 1) := by decide +kernel
theorem dX5_generator_39 : decode cX5_generator 39 = .ok (.dup, 1) := by decide +kernel
theorem dX5_generator_40 : decode cX5_generator 40 = .ok (.getfield 48, 3) := by decide +kernel
theorem dX5_generator_43 : decode cX5_generator 43 = .ok (.iconst 1, 1) := by decide +kernel
theorem dX5_generator_44 : decode cX5_generator 44 = .ok (.iadd, 1) := by decide +kernel
theorem dX5_generator_45 : decode cX5_generator 45 = .ok (.putfield 48, 3) := by decide +kernel
theorem dX5_generator_48 : decode cX5_generator 48 = .ok (.aload_n 0, 1) := by decide +kernel
theorem dX5_generator_49 : decode cX5_generator 49 = .ok (.getfield 48, 3) := by decide +kernel
theorem dX5_generator_52 : decode cX5_generator 52 = .ok (.ireturn, 1) := by decide +kernel
theorem dX5_clearGenerators_0 : decode cX5_clearGenerators 0 = .ok (.aload_n 0, 1) := by decide +kernel
theorem dX5_clearGenerators_1 : decode cX5_clearGenerators 1 = .ok (.getfield 48, 3) := by decide +kernel
theorem dX5_clearGenerators_4 : decode cX5_clearGenerators 4 = .ok (.istore_n 1, 1) := by decide +kernel
theorem dX5_clearGenerators_5 : decode cX5_clearGenerators 5 = .ok (.aload_n 0, 1) := by decide +kernel
theorem dX5_clearGenerators_6 : decode cX5_clearGenerators 6 = .ok (.iconst 0, 1) := by decide +kernel
theorem dX5_clearGenerators_7 : decode cX5_clearGenerators 7 = .ok (.putfield 48, 3) := by decide +kernel
theorem dX5_clearGenerators_10 : decode cX5_clearGenerators 10 = .ok (.iload_n 1, 1) := by decide +kernel
theorem dX5_clearGenerators_11 : decode cX5_clearGenerators 11 = .ok (.ireturn, 1) := by decide +kernel
set_option maxRecDepth 20000 in
theorem ggX5_setInner_X5_generateInnerCode : GoodIn wsX5_setInner wsX5_generateInnerCode := goodIn_r _ [9, 10, 11, 8, 12] (by decide +kernel) (by decide +kernel)
set_option maxRecDepth 20000 in
theorem gX5_setInner_X5_generateInnerCode : GoodIn wsX5_setInner (va_wsS RX5 68 yX5_generateInnerCode wsX5_generateInnerCode) := goodIn_app (goodIn_of _ (by decide +kernel)) ggX5_setInner_X5_generateInnerCode
set_option maxRecDepth 20000 in
theorem ggX5_setInner_X0_record : GoodIn wsX5_setInner wsX0_record := goodIn_r _ [16, 17, 18, 19, 20, 21, 14, 22, 23, 24, 25, 26, 27, 28, 29, 30, 31, 32, 33, 112, 113, 103, 104, 105, 106, 107, 108, 109] (by decide +kernel) (by decide +kernel)
set_option maxRecDepth 20000 in
theorem gX5_setInner_X0_record_n61 : GoodIn wsX5_setInner (wsX0_record) := ggX5_setInner_X0_record
set_option maxRecDepth 20000 in
theorem ggX5_setInner_X4_clearBlocks : GoodIn wsX5_setInner wsX4_clearBlocks := goodIn_r _ [36, 30, 32, 33, 103, 104, 105, 106, 107, 108, 109] (by decide +kernel) (by decide +kernel)
set_option maxRecDepth 20000 in
theorem gX5_setInner_X4_clearBlocks_n65 : GoodIn wsX5_setInner (wsX4_clearBlocks) := ggX5_setInner_X4_clearBlocks
set_option maxRecDepth 20000 in
theorem ggX5_setInner_X5_readAgain : GoodIn wsX5_setInner wsX5_readAgain := goodIn_r _ [40, 5, 4, 41, 42, 43, 44, 45, 46, 47, 48, 49, 50, 51, 11, 8, 12, 52, 53, 54, 55, 56, 57, 58, 59, 60, 61, 62, 63, 64, 65, 66, 67, 68, 69, 70, 71, 72, 73, 74, 75, 76, 77, 78, 79, 80, 81, 82, 83, 84, 85, 86, 87, 88, 89, 90, 91, 92, 93, 94, 95, 96, 97, 98, 99, 100, 101, 102, 103, 104, 105, 106, 107, 108, 109, 110, 111, 114, 115, 116, 117, 118, 119, 120, 121] (by decide +kernel) (by decide +kernel)
set_option maxRecDepth 20000 in
theorem gX5_setInner_X5_readAgain : GoodIn wsX5_setInner (wsV RX5 52 RX5 yX5_readAgain wsX5_readAgain) := goodIn_app (goodIn_of _ (by decide +kernel)) ggX5_setInner_X5_readAgain
theorem dX5_setInner_0 : decode cX5_setInner 0 = .ok (.iload_n 1, 1) := by decide +kernel
theorem dX5_setInner_1 : decode cX5_setInner 1 = .ok (.iconst 4, 1) := by decide +kernel
theorem dX5_setInner_2 : decode cX5_setInner 2 = .ok (.if_icmp .lt 9, 3) := by decide +kernel
theorem dX5_setInner_5 : decode cX5_setInner 5 = .ok (.iload_n 1, 1) := by decide +kernel
theorem dX5_setInner_6 : decode cX5_setInner 6 = .ok (.bipush 10, 2) := by decide +kernel
theorem dX5_setInner_8 : decode cX5_setInner 8 = .ok (.if_icmp .le 7, 3) := by decide +kernel
theorem dX5_setInner_11 : decode cX5_setInner 11 = .ok (.sipush (-1001), 3) := by decide +kernel
theorem dX5_setInner_14 : decode cX5_setInner 14 = .ok (.ireturn, 1) := by decide +kernel
theorem dX5_setInner_15 : decode cX5_setInner 15 = .ok (.aload_n 0, 1) := by decide +kernel
theorem dX5_setInner_16 : decode cX5_setInner 16 = .ok (.getfield 48, 3) := by decide +kernel
theorem dX5_setInner_19 : decode cX5_setInner 19 = .ok (.iconst 4, 1) := by decide +kernel
theorem dX5_setInner_20 : decode cX5_setInner 20 = .ok (.if_icmp .ne 14, 3) := by decide +kernel
theorem dX5_setInner_23 : decode cX5_setInner 23 = .ok (.aload_n 0, 1) := by decide +kernel
theorem dX5_setInner_24 : decode cX5_setInner 24 = .ok (.getfield 44, 3) := by decide +kernel
theorem dX5_setInner_27 : decode cX5_setInner 27 = .ok (.iload_n 1, 1) := by decide +kernel
theorem dX5_setInner_28 : decode cX5_setInner 28 = .ok (.invokestatic 68, 3) := by decide +kernel
theorem dX5_setInner_31 : decode cX5_setInner 31 = .ok (.ifCond .ne 7, 3) := by decide +kernel
theorem dX5_setInner_34 : decode cX5_setInner 34 = .ok (.sipush (-1002), 3) := by decide +kernel
theorem dX5_setInner_37 : decode cX5_setInner 37 = .ok (.ireturn, 1) := by decide +kernel
theorem dX5_setInner_38 : decode cX5_setInner 38 = .ok (.aload_n 0, 1) := by decide +kernel
theorem dX5_setInner_39 : decode cX5_setInner 39 = .ok (.getfield 19, 3) := by decide +kernel
theorem dX5_setInner_42 : decode cX5_setInner 42 = .ok (.aload_n 0, 1) := by decide +kernel
theorem dX5_setInner_43 : decode cX5_setInner 43 = .ok (.getfield 10, 3) := by decide +kernel
theorem dX5_setInner_46 : decode cX5_setInner 46 = .ok (.invokevirtual 61, 3) := by decide +kernel
theorem dX5_setInner_49 : decode cX5_setInner 49 = .ok (.aload_n 0, 1) := by decide +kernel
theorem dX5_setInner_50 : decode cX5_setInner 50 = .ok (.getfield 10, 3) := by decide +kernel
theorem dX5_setInner_53 : decode cX5_setInner 53 = .ok (.iload_n 1, 1) := by decide +kernel
theorem dX5_setInner_54 : decode cX5_setInner 54 = .ok (.putfield 72, 3) := by decide +kernel
theorem dX5_setInner_57 : decode cX5_setInner 57 = .ok (.iconst 0, 1) := by decide +kernel
theorem dX5_setInner_58 : decode cX5_setInner 58 = .ok (.istore_n 2, 1) := by decide +kernel
theorem dX5_setInner_59 : decode cX5_setInner 59 = .ok (.iload_n 2, 1) := by decide +kernel
theorem dX5_setInner_60 : decode cX5_setInner 60 = .ok (.iconst 4, 1) := by decide +kernel
theorem dX5_setInner_61 : decode cX5_setInner 61 = .ok (.if_icmp .ge 24, 3) := by decide +kernel
theorem dX5_setInner_64 : decode cX5_setInner 64 = .ok (.aload_n 0, 1) := by decide +kernel
theorem dX5_setInner_65 : decode cX5_setInner 65 = .ok (.getfield 10, 3) := by decide +kernel
theorem dX5_setInner_68 : decode cX5_setInner 68 = .ok (.getfield 75, 3) := by decide +kernel
theorem dX5_setInner_71 : decode cX5_setInner 71 = .ok (.iload_n 2, 1) := by decide +kernel
theorem dX5_setInner_72 : decode cX5_setInner 72 = .ok (.aload_n 0, 1) := by decide +kernel
theorem dX5_setInner_73 : decode cX5_setInner 73 = .ok (.getfield 44, 3) := by decide +kernel
theorem dX5_setInner_76 : decode cX5_setInner 76 = .ok (.iload_n 2, 1) := by decide +kernel
theorem dX5_setInner_77 : decode cX5_setInner 77 = .ok (.iaload, 1) := by decide +kernel
theorem dX5_setInner_78 : decode cX5_setInner 78 = .ok (.iastore, 1) := by decide +kernel
theorem dX5_setInner_79 : decode cX5_setInner 79 = .ok (.iinc 2 1, 3) := by decide +kernel
theorem dX5_setInner_82 : decode cX5_setInner 82 = .ok (.goto (-23), 3) := by decide +kernel
theorem dX5_setInner_85 : decode cX5_setInner 85 = .ok (.aload_n 0, 1) := by decide +kernel
theorem dX5_setInner_86 : decode cX5_setInner 86 = .ok (.iconst 0, 1) := by decide +kernel
theorem dX5_setInner_87 : decode cX5_setInner 87 = .ok (.putfield 48, 3) := by decide +kernel
theorem dX5_setInner_90 : decode cX5_setInner 90 = .ok (.aload_n 0, 1) := by decide +kernel
theorem dX5_setInner_91 : decode cX5_setInner 91 = .ok (.getfield 10, 3) := by decide +kernel
theorem dX5_setInner_94 : decode cX5_setInner 94 = .ok (.invokevirtual 65, 3) := by decide +kernel
theorem dX5_setInner_97 : decode cX5_setInner 97 = .ok (.aload_n 0, 1) := by decide +kernel
theorem dX5_setInner_98 : decode cX5_setInner 98 = .ok (.invokevirtual 52, 3) := by decide +kernel
theorem dX5_setInner_101 : decode cX5_setInner 101 = .ok (.aload_n 0, 1) := by decide +kernel
theorem dX5_setInner_102 : decode cX5_setInner 102 = .ok (.getfield 26, 3) := by decide +kernel
theorem dX5_setInner_105 : decode cX5_setInner 105 = .ok (.getfield 78, 3) := by decide +kernel
theorem dX5_setInner_108 : decode cX5_setInner 108 = .ok (.ireturn, 1) := by decide +kernel
set_option maxRecDepth 20000 in
theorem ggX5_undo_X0_restoreLatest : GoodIn wsX5_undo wsX0_restoreLatest := goodIn_r _ [6, 7, 8, 9, 10, 11, 12, 13, 14, 15, 16, 17, 18, 19, 90, 91, 92, 93, 94, 95, 96, 97, 98] (by decide +kernel) (by decide +kernel)
set_option maxRecDepth 20000 in
theorem gX5_undo_X0_restoreLatest_n84 : GoodIn wsX5_undo (wsX0_restoreLatest) := ggX5_undo_X0_restoreLatest
set_option maxRecDepth 20000 in
theorem ggX5_undo_X5_readAgain : GoodIn wsX5_undo wsX5_readAgain := goodIn_r _ [24, 25, 2, 26, 27, 28, 29, 30, 31, 32, 33, 34, 35, 36, 37, 23, 38, 39, 40, 41, 42, 43, 44, 45, 46, 47, 48, 49, 50, 51, 52, 53, 54, 55, 56, 57, 58, 59, 60, 61, 62, 63, 64, 65, 66, 67, 68, 69, 70, 71, 72, 73, 74, 75, 76, 77, 78, 79, 80, 81, 82, 83, 84, 85, 86, 87, 88, 89, 92, 93, 94, 95, 96, 97, 98, 99, 100, 101, 102, 103, 104, 105, 106, 107, 108] (by decide +kernel) (by decide +kernel)
set_option maxRecDepth 20000 in
theorem gX5_undo_X5_readAgain : GoodIn wsX5_undo (wsV RX5 52 RX5 yX5_readAgain wsX5_readAgain) := goodIn_app (goodIn_of _ (by decide +kernel)) ggX5_undo_X5_readAgain
theorem dX5_undo_0 : decode cX5_undo 0 = .ok (.aload_n 0, 1) := by decide +kernel
theorem dX5_undo_1 : decode cX5_undo 1 = .ok (.getfield 19, 3) := by decide +kernel
theorem dX5_undo_4 : decode cX5_undo 4 = .ok (.getfield 81, 3) := by decide +kernel
theorem dX5_undo_7 : decode cX5_undo 7 = .ok (.ifCond .ne 7, 3) := by decide +kernel
theorem dX5_undo_10 : decode cX5_undo 10 = .ok (.sipush (-1002), 3) := by decide +kernel
theorem dX5_undo_13 : decode cX5_undo 13 = .ok (.ireturn, 1) := by decide +kernel
theorem dX5_undo_14 : decode cX5_undo 14 = .ok (.aload_n 0, 1) := by decide +kernel
theorem dX5_undo_15 : decode cX5_undo 15 = .ok (.getfield 19, 3) := by decide +kernel
theorem dX5_undo_18 : decode cX5_undo 18 = .ok (.aload_n 0, 1) := by decide +kernel
theorem dX5_undo_19 : decode cX5_undo 19 = .ok (.getfield 10, 3) := by decide +kernel
theorem dX5_undo_22 : decode cX5_undo 22 = .ok (.invokevirtual 84, 3) := by decide +kernel
theorem dX5_undo_25 : decode cX5_undo 25 = .ok (.aload_n 0, 1) := by decide +kernel
theorem dX5_undo_26 : decode cX5_undo 26 = .ok (.invokevirtual 52, 3) := by decide +kernel
theorem dX5_undo_29 : decode cX5_undo 29 = .ok (.aload_n 0, 1) := by decide +kernel
theorem dX5_undo_30 : decode cX5_undo 30 = .ok (.getfield 19, 3) := by decide +kernel
theorem dX5_undo_33 : decode cX5_undo 33 = .ok (.getfield 81, 3) := by decide +kernel
theorem dX5_undo_36 : decode cX5_undo 36 = .ok (.ireturn, 1) := by decide +kernel
set_option maxRecDepth 20000 in
theorem ggX5_count_X4_outerDistance : GoodIn wsX5_count wsX4_outerDistance := goodIn_r _ [8, 9, 10, 47, 48, 49, 50, 51, 52, 53] (by decide +kernel) (by decide +kernel)
set_option maxRecDepth 20000 in
theorem gX5_count_X4_outerDistance_n87 : GoodIn wsX5_count (wsX4_outerDistance) := ggX5_count_X4_outerDistance
set_option maxRecDepth 20000 in
theorem ggX5_count_X5_lostBlocks : GoodIn wsX5_count wsX5_lostBlocks := goodIn_r _ [15, 1, 40, 41, 42, 43, 44, 45, 46, 47, 48, 49, 50, 51, 52, 53] (by decide +kernel) (by decide +kernel)
set_option maxRecDepth 20000 in
theorem gX5_count_X5_lostBlocks : GoodIn wsX5_count (wsV RX5 91 RX5 yX5_lostBlocks wsX5_lostBlocks) := goodIn_app (goodIn_of _ (by decide +kernel)) ggX5_count_X5_lostBlocks
set_option maxRecDepth 20000 in
theorem ggX5_count_X5_wrongBits : GoodIn wsX5_count wsX5_wrongBits := goodIn_r _ [19, 1, 20, 21, 22, 14, 23, 2, 24, 25, 26, 27, 28, 29, 30, 31, 32, 33, 34, 35, 36, 37, 38, 39, 40, 41, 42, 43, 44, 45, 46, 47, 48, 49, 50, 51, 52, 53, 54, 55, 58] (by decide +kernel) (by decide +kernel)
set_option maxRecDepth 20000 in
theorem gX5_count_X5_wrongBits : GoodIn wsX5_count (wsV RX5 94 RX5 yX5_wrongBits wsX5_wrongBits) := goodIn_app (goodIn_of _ (by decide +kernel)) ggX5_count_X5_wrongBits
theorem dX5_count_0 : decode cX5_count 0 = .ok (.iload_n 1, 1) := by decide +kernel
theorem dX5_count_1 : decode cX5_count 1 = .ok (.tableswitch 114 0 8 #[51, 59, 67, 75, 83, 91, 96, 104, 109], 51) := by decide +kernel
theorem dX5_count_52 : decode cX5_count 52 = .ok (.aload_n 0, 1) := by decide +kernel
theorem dX5_count_53 : decode cX5_count 53 = .ok (.getfield 10, 3) := by decide +kernel
theorem dX5_count_56 : decode cX5_count 56 = .ok (.getfield 55, 3) := by decide +kernel
theorem dX5_count_59 : decode cX5_count 59 = .ok (.ireturn, 1) := by decide +kernel
theorem dX5_count_60 : decode cX5_count 60 = .ok (.aload_n 0, 1) := by decide +kernel
theorem dX5_count_61 : decode cX5_count 61 = .ok (.getfield 10, 3) := by decide +kernel
theorem dX5_count_64 : decode cX5_count 64 = .ok (.getfield 58, 3) := by decide +kernel
theorem dX5_count_67 : decode cX5_count 67 = .ok (.ireturn, 1) := by decide +kernel
theorem dX5_count_68 : decode cX5_count 68 = .ok (.aload_n 0, 1) := by decide +kernel
theorem dX5_count_69 : decode cX5_count 69 = .ok (.getfield 10, 3) := by decide +kernel
theorem dX5_count_72 : decode cX5_count 72 = .ok (.invokevirtual 87, 3) := by decide +kernel
theorem dX5_count_75 : decode cX5_count 75 = .ok (.ireturn, 1) := by decide +kernel
theorem dX5_count_76 : decode cX5_count 76 = .ok (.aload_n 0, 1) := by decide +kernel
theorem dX5_count_77 : decode cX5_count 77 = .ok (.getfield 10, 3) := by decide +kernel
theorem dX5_count_80 : decode cX5_count 80 = .ok (.getfield 72, 3) := by decide +kernel
theorem dX5_count_83 : decode cX5_count 83 = .ok (.ireturn, 1) := by decide +kernel
theorem dX5_count_84 : decode cX5_count 84 = .ok (.aload_n 0, 1) := by decide +kernel
theorem dX5_count_85 : decode cX5_count 85 = .ok (.getfield 26, 3) := by decide +kernel
theorem dX5_count_88 : decode cX5_count 88 = .ok (.getfield 78, 3) := by decide +kernel
theorem dX5_count_91 : decode cX5_count 91 = .ok (.ireturn, 1) := by decide +kernel
theorem dX5_count_92 : decode cX5_count 92 = .ok (.aload_n 0, 1) := by decide +kernel
theorem dX5_count_93 : decode cX5_count 93 = .ok (.getfield 48, 3) := by decide +kernel
theorem dX5_count_96 : decode cX5_count 96 = .ok (.ireturn, 1) := by decide +kernel
theorem dX5_count_97 : decode cX5_count 97 = .ok (.aload_n 0, 1) := by decide +kernel
theorem dX5_count_98 : decode cX5_count 98 = .ok (.getfield 19, 3) := by decide +kernel
theorem dX5_count_101 : decode cX5_count 101 = .ok (.getfield 81, 3) := by decide +kernel
theorem dX5_count_104 : decode cX5_count 104 = .ok (.ireturn, 1) := by decide +kernel
theorem dX5_count_105 : decode cX5_count 105 = .ok (.aload_n 0, 1) := by decide +kernel
theorem dX5_count_106 : decode cX5_count 106 = .ok (.invokevirtual 91, 3) := by decide +kernel
theorem dX5_count_109 : decode cX5_count 109 = .ok (.ireturn, 1) := by decide +kernel
theorem dX5_count_110 : decode cX5_count 110 = .ok (.aload_n 0, 1) := by decide +kernel
theorem dX5_count_111 : decode cX5_count 111 = .ok (.invokevirtual 94, 3) := by decide +kernel
theorem dX5_count_114 : decode cX5_count 114 = .ok (.ireturn, 1) := by decide +kernel
theorem dX5_count_115 : decode cX5_count 115 = .ok (.sipush (-1001), 3) := by decide +kernel
theorem dX5_count_118 : decode cX5_count 118 = .ok (.ireturn, 1) := by decide +kernel
set_option maxRecDepth 20000 in
theorem ggX5_wordOf_X5_isSymbol : GoodIn wsX5_wordOf wsX5_isSymbol := goodIn_r _ [5] (by decide +kernel) (by decide +kernel)
set_option maxRecDepth 20000 in
theorem gX5_wordOf_X5_isSymbol : GoodIn wsX5_wordOf (va_wsS RX5 97 yX5_isSymbol wsX5_isSymbol) := goodIn_app (goodIn_of _ (by decide +kernel)) ggX5_wordOf_X5_isSymbol
theorem dX5_wordOf_0 : decode cX5_wordOf 0 = .ok (.iload_n 1, 1) := by decide +kernel
theorem dX5_wordOf_1 : decode cX5_wordOf 1 = .ok (.invokestatic 97, 3) := by decide +kernel
theorem dX5_wordOf_4 : decode cX5_wordOf 4 = .ok (.ifCond .ne 7, 3) := by decide +kernel
theorem dX5_wordOf_7 : decode cX5_wordOf 7 = .ok (.sipush (-1001), 3) := by decide +kernel
theorem dX5_wordOf_10 : decode cX5_wordOf 10 = .ok (.ireturn, 1) := by decide +kernel
theorem dX5_wordOf_11 : decode cX5_wordOf 11 = .ok (.aload_n 0, 1) := by decide +kernel
theorem dX5_wordOf_12 : decode cX5_wordOf 12 = .ok (.getfield 26, 3) := by decide +kernel
theorem dX5_wordOf_15 : decode cX5_wordOf 15 = .ok (.getfield 101, 3) := by decide +kernel
theorem dX5_wordOf_18 : decode cX5_wordOf 18 = .ok (.iload_n 1, 1) := by decide +kernel
theorem dX5_wordOf_19 : decode cX5_wordOf 19 = .ok (.iaload, 1) := by decide +kernel
theorem dX5_wordOf_20 : decode cX5_wordOf 20 = .ok (.ireturn, 1) := by decide +kernel
set_option maxRecDepth 20000 in
theorem ggX5_product_X5_isSymbol : GoodIn wsX5_product wsX5_isSymbol := goodIn_r _ [4] (by decide +kernel) (by decide +kernel)
set_option maxRecDepth 20000 in
theorem gX5_product_X5_isSymbol : GoodIn wsX5_product (va_wsS RX5 97 yX5_isSymbol wsX5_isSymbol) := goodIn_app (goodIn_of _ (by decide +kernel)) ggX5_product_X5_isSymbol
set_option maxRecDepth 20000 in
theorem ggX5_product_X5_fieldProduct : GoodIn wsX5_product wsX5_fieldProduct := goodIn_r _ [7] (by decide +kernel) (by decide +kernel)
set_option maxRecDepth 20000 in
theorem gX5_product_X5_fieldProduct : GoodIn wsX5_product (va_wsS RX5 104 yX5_fieldProduct wsX5_fieldProduct) := goodIn_app (goodIn_of _ (by decide +kernel)) ggX5_product_X5_fieldProduct
theorem dX5_product_0 : decode cX5_product 0 = .ok (.iload_n 1, 1) := by decide +kernel
theorem dX5_product_1 : decode cX5_product 1 = .ok (.invokestatic 97, 3) := by decide +kernel
theorem dX5_product_4 : decode cX5_product 4 = .ok (.ifCond .eq 10, 3) := by decide +kernel
theorem dX5_product_7 : decode cX5_product 7 = .ok (.iload_n 2, 1) := by decide +kernel
theorem dX5_product_8 : decode cX5_product 8 = .ok (.invokestatic 97, 3) := by decide +kernel
theorem dX5_product_11 : decode cX5_product 11 = .ok (.ifCond .ne 7, 3) := by decide +kernel
theorem dX5_product_14 : decode cX5_product 14 = .ok (.sipush (-1001), 3) := by decide +kernel
theorem dX5_product_17 : decode cX5_product 17 = .ok (.ireturn, 1) := by decide +kernel
theorem dX5_product_18 : decode cX5_product 18 = .ok (.iload_n 1, 1) := by decide +kernel
theorem dX5_product_19 : decode cX5_product 19 = .ok (.iload_n 2, 1) := by decide +kernel
theorem dX5_product_20 : decode cX5_product 20 = .ok (.invokestatic 104, 3) := by decide +kernel
theorem dX5_product_23 : decode cX5_product 23 = .ok (.ireturn, 1) := by decide +kernel
set_option maxRecDepth 20000 in
theorem ggX5_symbolFor_X5_isMessage : GoodIn wsX5_symbolFor wsX5_isMessage := goodIn_r _ [6, 7, 8, 9, 10, 11, 12, 25, 26, 27, 28, 29, 30, 31, 32, 33, 34, 35, 36, 37, 38] (by decide +kernel) (by decide +kernel)
set_option maxRecDepth 20000 in
theorem gX5_symbolFor_X5_isMessage : GoodIn wsX5_symbolFor (wsV RX5 108 RX5 yX5_isMessage wsX5_isMessage) := goodIn_app (goodIn_of _ (by decide +kernel)) ggX5_symbolFor_X5_isMessage
set_option maxRecDepth 20000 in
theorem ggX5_symbolFor_X5_isBlock : GoodIn wsX5_symbolFor wsX5_isBlock := goodIn_r _ [16, 7, 25, 26, 27, 28, 29, 30, 31, 32, 33, 34, 35, 36, 37, 38] (by decide +kernel) (by decide +kernel)
set_option maxRecDepth 20000 in
theorem gX5_symbolFor_X5_isBlock : GoodIn wsX5_symbolFor (wsV RX5 111 RX5 yX5_isBlock wsX5_isBlock) := goodIn_app (goodIn_of _ (by decide +kernel)) ggX5_symbolFor_X5_isBlock
set_option maxRecDepth 20000 in
theorem ggX5_symbolFor_X2_codeword : GoodIn wsX5_symbolFor wsX2_codeword := goodIn_r _ [20, 21, 39] (by decide +kernel) (by decide +kernel)
set_option maxRecDepth 20000 in
theorem gX5_symbolFor_X2_codeword_n114 : GoodIn wsX5_symbolFor (wsX2_codeword) := ggX5_symbolFor_X2_codeword
set_option maxRecDepth 20000 in
theorem ggX5_symbolFor_X5_symbolIn : GoodIn wsX5_symbolFor wsX5_symbolIn := goodIn_r _ [24] (by decide +kernel) (by decide +kernel)
set_option maxRecDepth 20000 in
theorem gX5_symbolFor_X5_symbolIn : GoodIn wsX5_symbolFor (va_wsS RX5 118 yX5_symbolIn wsX5_symbolIn) := goodIn_app (goodIn_of _ (by decide +kernel)) ggX5_symbolFor_X5_symbolIn
theorem dX5_symbolFor_0 : decode cX5_symbolFor 0 = .ok (.aload_n 0, 1) := by decide +kernel
theorem dX5_symbolFor_1 : decode cX5_symbolFor 1 = .ok (.iload_n 1, 1) := by decide +kernel
theorem dX5_symbolFor_2 : decode cX5_symbolFor 2 = .ok (.invokevirtual 108, 3) := by decide +kernel
theorem dX5_symbolFor_5 : decode cX5_symbolFor 5 = .ok (.ifCond .eq 11, 3) := by decide +kernel
theorem dX5_symbolFor_8 : decode cX5_symbolFor 8 = .ok (.aload_n 0, 1) := by decide +kernel
theorem dX5_symbolFor_9 : decode cX5_symbolFor 9 = .ok (.iload_n 2, 1) := by decide +kernel
theorem dX5_symbolFor_10 : decode cX5_symbolFor 10 = .ok (.invokevirtual 111, 3) := by decide +kernel
theorem dX5_symbolFor_13 : decode cX5_symbolFor 13 = .ok (.ifCond .ne 7, 3) := by decide +kernel
theorem dX5_symbolFor_16 : decode cX5_symbolFor 16 = .ok (.sipush (-1001), 3) := by decide +kernel
theorem dX5_symbolFor_19 : decode cX5_symbolFor 19 = .ok (.ireturn, 1) := by decide +kernel
theorem dX5_symbolFor_20 : decode cX5_symbolFor 20 = .ok (.aload_n 0, 1) := by decide +kernel
theorem dX5_symbolFor_21 : decode cX5_symbolFor 21 = .ok (.getfield 33, 3) := by decide +kernel
theorem dX5_symbolFor_24 : decode cX5_symbolFor 24 = .ok (.iload_n 1, 1) := by decide +kernel
theorem dX5_symbolFor_25 : decode cX5_symbolFor 25 = .ok (.invokevirtual 114, 3) := by decide +kernel
theorem dX5_symbolFor_28 : decode cX5_symbolFor 28 = .ok (.iload_n 2, 1) := by decide +kernel
theorem dX5_symbolFor_29 : decode cX5_symbolFor 29 = .ok (.invokestatic 118, 3) := by decide +kernel
theorem dX5_symbolFor_32 : decode cX5_symbolFor 32 = .ok (.ireturn, 1) := by decide +kernel
set_option maxRecDepth 20000 in
theorem ggX5_send_X5_isMessage : GoodIn wsX5_send wsX5_isMessage := goodIn_r _ [7, 2, 8, 9, 10, 11, 12, 110, 111, 112, 113, 114, 115, 116, 117, 118, 119, 120, 121, 122, 123] (by decide +kernel) (by decide +kernel)
set_option maxRecDepth 20000 in
theorem gX5_send_X5_isMessage : GoodIn wsX5_send (wsV RX5 108 RX5 yX5_isMessage wsX5_isMessage) := goodIn_app (goodIn_of _ (by decide +kernel)) ggX5_send_X5_isMessage
set_option maxRecDepth 20000 in
theorem ggX5_send_X0_record : GoodIn wsX5_send wsX0_record := goodIn_r _ [16, 17, 18, 19, 20, 21, 14, 22, 23, 9, 24, 25, 26, 12, 27, 28, 29, 30, 31, 124, 125, 117, 118, 119, 120, 121, 122, 123] (by decide +kernel) (by decide +kernel)
set_option maxRecDepth 20000 in
theorem gX5_send_X0_record_n61 : GoodIn wsX5_send (wsX0_record) := ggX5_send_X0_record
set_option maxRecDepth 20000 in
theorem ggX5_send_X4_clearBlocks : GoodIn wsX5_send wsX4_clearBlocks := goodIn_r _ [34, 28, 30, 31, 117, 118, 119, 120, 121, 122, 123] (by decide +kernel) (by decide +kernel)
set_option maxRecDepth 20000 in
theorem gX5_send_X4_clearBlocks_n65 : GoodIn wsX5_send (wsX4_clearBlocks) := ggX5_send_X4_clearBlocks
set_option maxRecDepth 20000 in
theorem ggX5_send_X5_wordSentFor : GoodIn wsX5_send wsX5_wordSentFor := goodIn_r _ [38, 39, 40, 41, 42, 43, 44, 45, 46, 47, 6, 48, 110, 111, 112, 113, 114, 115, 116, 126, 127, 128] (by decide +kernel) (by decide +kernel)
set_option maxRecDepth 20000 in
theorem gX5_send_X5_wordSentFor : GoodIn wsX5_send (wsV RX5 125 RX5 yX5_wordSentFor wsX5_wordSentFor) := goodIn_app (goodIn_of _ (by decide +kernel)) ggX5_send_X5_wordSentFor
set_option maxRecDepth 20000 in
theorem ggX5_send_J6_bitCount_0f7a4 : GoodIn wsX5_send wsJ6_bitCount_0f7a4 := goodIn_r _ [52, 53, 54, 55] (by decide +kernel) (by decide +kernel)
set_option maxRecDepth 20000 in
theorem gX5_send_J6_bitCount_0f7a4 : GoodIn wsX5_send (va_wsS RX5 129 yJ6_bitCount_0f7a4 wsJ6_bitCount_0f7a4) := goodIn_app (goodIn_of _ (by decide +kernel)) ggX5_send_J6_bitCount_0f7a4
set_option maxRecDepth 20000 in
theorem ggX5_send_X5_readAgain : GoodIn wsX5_send wsX5_readAgain := goodIn_r _ [59, 39, 2, 60, 61, 62, 63, 64, 65, 66, 67, 68, 69, 70, 71, 6, 72, 73, 50, 51, 52, 53, 54, 55, 74, 75, 76, 77, 78, 79, 80, 81, 82, 83, 84, 42, 85, 86, 87, 88, 89, 90, 91, 92, 93, 94, 95, 96, 97, 98, 99, 100, 101, 102, 103, 104, 105, 106, 107, 108, 109, 110, 111, 112, 113, 114, 115, 116, 117, 118, 119, 120, 121, 122, 123, 126, 127, 129, 130, 131, 132, 133, 134, 135, 136] (by decide +kernel) (by decide +kernel)
set_option maxRecDepth 20000 in
theorem gX5_send_X5_readAgain : GoodIn wsX5_send (wsV RX5 52 RX5 yX5_readAgain wsX5_readAgain) := goodIn_app (goodIn_of _ (by decide +kernel)) ggX5_send_X5_readAgain
theorem dX5_send_0 : decode cX5_send 0 = .ok (.aload_n 0, 1) := by decide +kernel
theorem dX5_send_1 : decode cX5_send 1 = .ok (.iload_n 1, 1) := by decide +kernel
theorem dX5_send_2 : decode cX5_send 2 = .ok (.invokevirtual 108, 3) := by decide +kernel
theorem dX5_send_5 : decode cX5_send 5 = .ok (.ifCond .ne 7, 3) := by decide +kernel
theorem dX5_send_8 : decode cX5_send 8 = .ok (.sipush (-1001), 3) := by decide +kernel
theorem dX5_send_11 : decode cX5_send 11 = .ok (.ireturn, 1) := by decide +kernel
theorem dX5_send_12 : decode cX5_send 12 = .ok (.aload_n 0, 1) := by decide +kernel
theorem dX5_send_13 : decode cX5_send 13 = .ok (.getfield 19, 3) := by decide +kernel
theorem dX5_send_16 : decode cX5_send 16 = .ok (.aload_n 0, 1) := by decide +kernel
theorem dX5_send_17 : decode cX5_send 17 = .ok (.getfield 10, 3) := by decide +kernel
theorem dX5_send_20 : decode cX5_send 20 = .ok (.invokevirtual 61, 3) := by decide +kernel
theorem dX5_send_23 : decode cX5_send 23 = .ok (.aload_n 0, 1) := by decide +kernel
theorem dX5_send_24 : decode cX5_send 24 = .ok (.getfield 10, 3) := by decide +kernel
theorem dX5_send_27 : decode cX5_send 27 = .ok (.invokevirtual 65, 3) := by decide +kernel
theorem dX5_send_30 : decode cX5_send 30 = .ok (.aload_n 0, 1) := by decide +kernel
theorem dX5_send_31 : decode cX5_send 31 = .ok (.getfield 10, 3) := by decide +kernel
theorem dX5_send_34 : decode cX5_send 34 = .ok (.iload_n 1, 1) := by decide +kernel
theorem dX5_send_35 : decode cX5_send 35 = .ok (.putfield 122, 3) := by decide +kernel
theorem dX5_send_38 : decode cX5_send 38 = .ok (.iconst 0, 1) := by decide +kernel
theorem dX5_send_39 : decode cX5_send 39 = .ok (.istore_n 2, 1) := by decide +kernel
theorem dX5_send_40 : decode cX5_send 40 = .ok (.iconst 0, 1) := by decide +kernel
theorem dX5_send_41 : decode cX5_send 41 = .ok (.istore_n 3, 1) := by decide +kernel
theorem dX5_send_42 : decode cX5_send 42 = .ok (.iload_n 3, 1) := by decide +kernel
theorem dX5_send_43 : decode cX5_send 43 = .ok (.aload_n 0, 1) := by decide +kernel
theorem dX5_send_44 : decode cX5_send 44 = .ok (.getfield 10, 3) := by decide +kernel
theorem dX5_send_47 : decode cX5_send 47 = .ok (.getfield 55, 3) := by decide +kernel
theorem dX5_send_50 : decode cX5_send 50 = .ok (.if_icmp .ge 36, 3) := by decide +kernel
theorem dX5_send_53 : decode cX5_send 53 = .ok (.aload_n 0, 1) := by decide +kernel
theorem dX5_send_54 : decode cX5_send 54 = .ok (.iload_n 1, 1) := by decide +kernel
theorem dX5_send_55 : decode cX5_send 55 = .ok (.iload_n 3, 1) := by decide +kernel
theorem dX5_send_56 : decode cX5_send 56 = .ok (.invokevirtual 125, 3) := by decide +kernel
theorem dX5_send_59 : decode cX5_send 59 = .ok (.istore 4, 2) := by decide +kernel
theorem dX5_send_61 : decode cX5_send 61 = .ok (.aload_n 0, 1) := by decide +kernel
theorem dX5_send_62 : decode cX5_send 62 = .ok (.getfield 10, 3) := by decide +kernel
theorem dX5_send_65 : decode cX5_send 65 = .ok (.getfield 128, 3) := by decide +kernel
theorem dX5_send_68 : decode cX5_send 68 = .ok (.iload_n 3, 1) := by decide +kernel
theorem dX5_send_69 : decode cX5_send 69 = .ok (.iload 4, 2) := by decide +kernel
theorem dX5_send_71 : decode cX5_send 71 = .ok (.iastore, 1) := by decide +kernel
theorem dX5_send_72 : decode cX5_send 72 = .ok (.iload_n 2, 1) := by decide +kernel
theorem dX5_send_73 : decode cX5_send 73 = .ok (.iload 4, 2) := by decide +kernel
theorem dX5_send_75 : decode cX5_send 75 = .ok (.invokestatic 129, 3) := by decide +kernel
theorem dX5_send_78 : decode cX5_send 78 = .ok (.iadd, 1) := by decide +kernel
theorem dX5_send_79 : decode cX5_send 79 = .ok (.istore_n 2, 1) := by decide +kernel
theorem dX5_send_80 : decode cX5_send 80 = .ok (.iinc 3 1, 3) := by decide +kernel
theorem dX5_send_83 : decode cX5_send 83 = .ok (.goto (-41), 3) := by decide +kernel
theorem dX5_send_86 : decode cX5_send 86 = .ok (.aload_n 0, 1) := by decide +kernel
theorem dX5_send_87 : decode cX5_send 87 = .ok (.invokevirtual 52, 3) := by decide +kernel
theorem dX5_send_90 : decode cX5_send 90 = .ok (.iload_n 2, 1) := by decide +kernel
theorem dX5_send_91 : decode cX5_send 91 = .ok (.ireturn, 1) := by decide +kernel
set_option maxRecDepth 20000 in
theorem ggX5_flip_X5_isBlock : GoodIn wsX5_flip wsX5_isBlock := goodIn_r _ [8, 1, 94, 95, 96, 97, 98, 99, 100, 101, 102, 103, 104, 105, 106, 107] (by decide +kernel) (by decide +kernel)
set_option maxRecDepth 20000 in
theorem gX5_flip_X5_isBlock : GoodIn wsX5_flip (wsV RX5 111 RX5 yX5_isBlock wsX5_isBlock) := goodIn_app (goodIn_of _ (by decide +kernel)) ggX5_flip_X5_isBlock
set_option maxRecDepth 20000 in
theorem ggX5_flip_X4_allBits : GoodIn wsX5_flip wsX4_allBits := goodIn_r _ [12, 13, 101, 102, 103, 104, 105, 106, 107] (by decide +kernel) (by decide +kernel)
set_option maxRecDepth 20000 in
theorem gX5_flip_X4_allBits_n135 : GoodIn wsX5_flip (wsX4_allBits) := ggX5_flip_X4_allBits
set_option maxRecDepth 20000 in
theorem ggX5_flip_X0_record : GoodIn wsX5_flip wsX0_record := goodIn_r _ [17, 18, 19, 20, 21, 22, 15, 23, 24, 10, 25, 26, 27, 28, 13, 29, 30, 31, 32, 116, 117, 101, 102, 103, 104, 105, 106, 107] (by decide +kernel) (by decide +kernel)
set_option maxRecDepth 20000 in
theorem gX5_flip_X0_record_n61 : GoodIn wsX5_flip (wsX0_record) := ggX5_flip_X0_record
set_option maxRecDepth 20000 in
theorem ggX5_flip_X5_readAgain : GoodIn wsX5_flip wsX5_readAgain := goodIn_r _ [36, 37, 1, 3, 38, 39, 40, 41, 42, 43, 44, 45, 46, 47, 48, 7, 49, 50, 51, 52, 53, 54, 55, 56, 57, 58, 59, 60, 61, 62, 63, 64, 65, 66, 67, 68, 69, 70, 71, 72, 73, 74, 75, 76, 77, 78, 79, 80, 81, 82, 83, 84, 85, 86, 87, 88, 89, 90, 91, 92, 93, 94, 95, 96, 97, 98, 99, 100, 101, 102, 103, 104, 105, 106, 107, 118, 119, 108, 109, 110, 111, 112, 113, 114, 115] (by decide +kernel) (by decide +kernel)
set_option maxRecDepth 20000 in
theorem gX5_flip_X5_readAgain : GoodIn wsX5_flip (wsV RX5 52 RX5 yX5_readAgain wsX5_readAgain) := goodIn_app (goodIn_of _ (by decide +kernel)) ggX5_flip_X5_readAgain
theorem dX5_flip_0 : decode cX5_flip 0 = .ok (.aload_n 0, 1) := by decide +kernel
theorem dX5_flip_1 : decode cX5_flip 1 = .ok (.iload_n 1, 1) := by decide +kernel
theorem dX5_flip_2 : decode cX5_flip 2 = .ok (.invokevirtual 111, 3) := by decide +kernel
theorem dX5_flip_5 : decode cX5_flip 5 = .ok (.ifCond .eq 19, 3) := by decide +kernel
theorem dX5_flip_8 : decode cX5_flip 8 = .ok (.iload_n 2, 1) := by decide +kernel
theorem dX5_flip_9 : decode cX5_flip 9 = .ok (.iconst 1, 1) := by decide +kernel
theorem dX5_flip_10 : decode cX5_flip 10 = .ok (.if_icmp .lt 14, 3) := by decide +kernel
theorem dX5_flip_13 : decode cX5_flip 13 = .ok (.iload_n 2, 1) := by decide +kernel
theorem dX5_flip_14 : decode cX5_flip 14 = .ok (.aload_n 0, 1) := by decide +kernel
theorem dX5_flip_15 : decode cX5_flip 15 = .ok (.getfield 10, 3) := by decide +kernel
theorem dX5_flip_18 : decode cX5_flip 18 = .ok (.invokevirtual 135, 3) := by decide +kernel
theorem dX5_flip_21 : decode cX5_flip 21 = .ok (.if_icmp .le 7, 3) := by decide +kernel
theorem dX5_flip_24 : decode cX5_flip 24 = .ok (.sipush (-1001), 3) := by decide +kernel
theorem dX5_flip_27 : decode cX5_flip 27 = .ok (.ireturn, 1) := by decide +kernel
theorem dX5_flip_28 : decode cX5_flip 28 = .ok (.aload_n 0, 1) := by decide +kernel
theorem dX5_flip_29 : decode cX5_flip 29 = .ok (.getfield 10, 3) := by decide +kernel
theorem dX5_flip_32 : decode cX5_flip 32 = .ok (.getfield 138, 3) := by decide +kernel
theorem dX5_flip_35 : decode cX5_flip 35 = .ok (.iload_n 1, 1) := by decide +kernel
theorem dX5_flip_36 : decode cX5_flip 36 = .ok (.baload, 1) := by decide +kernel
theorem dX5_flip_37 : decode cX5_flip 37 = .ok (.ifCond .eq 7, 3) := by decide +kernel
theorem dX5_flip_40 : decode cX5_flip 40 = .ok (.sipush (-1002), 3) := by decide +kernel
theorem dX5_flip_43 : decode cX5_flip 43 = .ok (.ireturn, 1) := by decide +kernel
theorem dX5_flip_44 : decode cX5_flip 44 = .ok (.aload_n 0, 1) := by decide +kernel
theorem dX5_flip_45 : decode cX5_flip 45 = .ok (.getfield 19, 3) := by decide +kernel
theorem dX5_flip_48 : decode cX5_flip 48 = .ok (.aload_n 0, 1) := by decide +kernel
theorem dX5_flip_49 : decode cX5_flip 49 = .ok (.getfield 10, 3) := by decide +kernel
theorem dX5_flip_52 : decode cX5_flip 52 = .ok (.invokevirtual 61, 3) := by decide +kernel
theorem dX5_flip_55 : decode cX5_flip 55 = .ok (.aload_n 0, 1) := by decide +kernel
theorem dX5_flip_56 : decode cX5_flip 56 = .ok (.getfield 10, 3) := by decide +kernel
theorem dX5_flip_59 : decode cX5_flip 59 = .ok (.getfield 128, 3) := by decide +kernel
theorem dX5_flip_62 : decode cX5_flip 62 = .ok (.iload_n 1, 1) := by decide +kernel
theorem dX5_flip_63 : decode cX5_flip 63 = .ok (.dup2, 1) := by decide +kernel
theorem dX5_flip_64 : decode cX5_flip 64 = .ok (.iaload, 1) := by decide +kernel
theorem dX5_flip_65 : decode cX5_flip 65 = .ok (.iload_n 2, 1) := by decide +kernel
theorem dX5_flip_66 : decode cX5_flip 66 = .ok (.ixor, 1) := by decide +kernel
theorem dX5_flip_67 : decode cX5_flip 67 = .ok (.iastore, 1) := by decide +kernel
theorem dX5_flip_68 : decode cX5_flip 68 = .ok (.aload_n 0, 1) := by decide +kernel
theorem dX5_flip_69 : decode cX5_flip 69 = .ok (.invokevirtual 52, 3) := by decide +kernel
theorem dX5_flip_72 : decode cX5_flip 72 = .ok (.aload_n 0, 1) := by decide +kernel
theorem dX5_flip_73 : decode cX5_flip 73 = .ok (.getfield 40, 3) := by decide +kernel
theorem dX5_flip_76 : decode cX5_flip 76 = .ok (.getfield 142, 3) := by decide +kernel
theorem dX5_flip_79 : decode cX5_flip 79 = .ok (.iload_n 1, 1) := by decide +kernel
theorem dX5_flip_80 : decode cX5_flip 80 = .ok (.iaload, 1) := by decide +kernel
theorem dX5_flip_81 : decode cX5_flip 81 = .ok (.ireturn, 1) := by decide +kernel
set_option maxRecDepth 20000 in
theorem ggX5_lose_X5_isBlock : GoodIn wsX5_lose wsX5_isBlock := goodIn_r _ [7, 1, 91, 92, 93, 94, 95, 96, 97, 98, 99, 100, 101, 102, 103, 104] (by decide +kernel) (by decide +kernel)
set_option maxRecDepth 20000 in
theorem gX5_lose_X5_isBlock : GoodIn wsX5_lose (wsV RX5 111 RX5 yX5_isBlock wsX5_isBlock) := goodIn_app (goodIn_of _ (by decide +kernel)) ggX5_lose_X5_isBlock
set_option maxRecDepth 20000 in
theorem ggX5_lose_X0_record : GoodIn wsX5_lose wsX0_record := goodIn_r _ [11, 12, 13, 14, 15, 16, 9, 17, 18, 19, 20, 21, 22, 23, 24, 25, 26, 27, 28, 105, 106, 98, 99, 100, 101, 102, 103, 104] (by decide +kernel) (by decide +kernel)
set_option maxRecDepth 20000 in
theorem gX5_lose_X0_record_n61 : GoodIn wsX5_lose (wsX0_record) := ggX5_lose_X0_record
set_option maxRecDepth 20000 in
theorem ggX5_lose_X5_readAgain : GoodIn wsX5_lose wsX5_readAgain := goodIn_r _ [32, 33, 1, 34, 35, 36, 37, 38, 39, 40, 41, 42, 43, 44, 45, 6, 46, 47, 48, 49, 50, 51, 52, 53, 54, 55, 56, 57, 58, 59, 60, 61, 62, 63, 64, 65, 66, 67, 68, 69, 70, 71, 72, 73, 74, 75, 76, 77, 78, 79, 80, 81, 82, 83, 84, 85, 86, 87, 88, 89, 90, 91, 92, 93, 94, 95, 96, 97, 98, 99, 100, 101, 102, 103, 104, 107, 108, 109, 110, 111, 112, 113, 114, 115, 116] (by decide +kernel) (by decide +kernel)
set_option maxRecDepth 20000 in
theorem gX5_lose_X5_readAgain : GoodIn wsX5_lose (wsV RX5 52 RX5 yX5_readAgain wsX5_readAgain) := goodIn_app (goodIn_of _ (by decide +kernel)) ggX5_lose_X5_readAgain
theorem dX5_lose_0 : decode cX5_lose 0 = .ok (.aload_n 0, 1) := by decide +kernel
theorem dX5_lose_1 : decode cX5_lose 1 = .ok (.iload_n 1, 1) := by decide +kernel
theorem dX5_lose_2 : decode cX5_lose 2 = .ok (.invokevirtual 111, 3) := by decide +kernel
theorem dX5_lose_5 : decode cX5_lose 5 = .ok (.ifCond .eq 12, 3) := by decide +kernel
theorem dX5_lose_8 : decode cX5_lose 8 = .ok (.iload_n 2, 1) := by decide +kernel
theorem dX5_lose_9 : decode cX5_lose 9 = .ok (.ifCond .lt 8, 3) := by decide +kernel
theorem dX5_lose_12 : decode cX5_lose 12 = .ok (.iload_n 2, 1) := by decide +kernel
theorem dX5_lose_13 : decode cX5_lose 13 = .ok (.iconst 1, 1) := by decide +kernel
theorem dX5_lose_14 : decode cX5_lose 14 = .ok (.if_icmp .le 7, 3) := by decide +kernel
theorem dX5_lose_17 : decode cX5_lose 17 = .ok (.sipush (-1001), 3) := by decide +kernel
theorem dX5_lose_20 : decode cX5_lose 20 = .ok (.ireturn, 1) := by decide +kernel
theorem dX5_lose_21 : decode cX5_lose 21 = .ok (.aload_n 0, 1) := by decide +kernel
theorem dX5_lose_22 : decode cX5_lose 22 = .ok (.getfield 10, 3) := by decide +kernel
theorem dX5_lose_25 : decode cX5_lose 25 = .ok (.getfield 138, 3) := by decide +kernel
theorem dX5_lose_28 : decode cX5_lose 28 = .ok (.iload_n 1, 1) := by decide +kernel
theorem dX5_lose_29 : decode cX5_lose 29 = .ok (.baload, 1) := by decide +kernel
theorem dX5_lose_30 : decode cX5_lose 30 = .ok (.ifCond .eq 7, 3) := by decide +kernel
theorem dX5_lose_33 : decode cX5_lose 33 = .ok (.iconst 1, 1) := by decide +kernel
theorem dX5_lose_34 : decode cX5_lose 34 = .ok (.goto 4, 3) := by decide +kernel
theorem dX5_lose_37 : decode cX5_lose 37 = .ok (.iconst 0, 1) := by decide +kernel
theorem dX5_lose_38 : decode cX5_lose 38 = .ok (.istore_n 3, 1) := by decide +kernel
theorem dX5_lose_39 : decode cX5_lose 39 = .ok (.aload_n 0, 1) := by decide +kernel
theorem dX5_lose_40 : decode cX5_lose 40 = .ok (.getfield 19, 3) := by decide +kernel
theorem dX5_lose_43 : decode cX5_lose 43 = .ok (.aload_n 0, 1) := by decide +kernel
theorem dX5_lose_44 : decode cX5_lose 44 = .ok (.getfield 10, 3) := by decide +kernel
theorem dX5_lose_47 : decode cX5_lose 47 = .ok (.invokevirtual 61, 3) := by decide +kernel
theorem dX5_lose_50 : decode cX5_lose 50 = .ok (.aload_n 0, 1) := by decide +kernel
theorem dX5_lose_51 : decode cX5_lose 51 = .ok (.getfield 10, 3) := by decide +kernel
theorem dX5_lose_54 : decode cX5_lose 54 = .ok (.getfield 138, 3) := by decide +kernel
theorem dX5_lose_57 : decode cX5_lose 57 = .ok (.iload_n 1, 1) := by decide +kernel
theorem dX5_lose_58 : decode cX5_lose 58 = .ok (.iload_n 2, 1) := by decide +kernel
theorem dX5_lose_59 : decode cX5_lose 59 = .ok (.iconst 1, 1) := by decide +kernel
theorem dX5_lose_60 : decode cX5_lose 60 = .ok (.if_icmp .ne 7, 3) := by decide +kernel
theorem dX5_lose_63 : decode cX5_lose 63 = .ok (.iconst 1, 1) := by decide +kernel
theorem dX5_lose_64 : decode cX5_lose 64 = .ok (.goto 4, 3) := by decide +kernel
theorem dX5_lose_67 : decode cX5_lose 67 = .ok (.iconst 0, 1) := by decide +kernel
theorem dX5_lose_68 : decode cX5_lose 68 = .ok (.bastore, 1) := by decide +kernel
theorem dX5_lose_69 : decode cX5_lose 69 = .ok (.aload_n 0, 1) := by decide +kernel
theorem dX5_lose_70 : decode cX5_lose 70 = .ok (.invokevirtual 52, 3) := by decide +kernel
theorem dX5_lose_73 : decode cX5_lose 73 = .ok (.iload_n 3, 1) := by decide +kernel
theorem dX5_lose_74 : decode cX5_lose 74 = .ok (.ireturn, 1) := by decide +kernel
set_option maxRecDepth 20000 in
theorem ggX5_burst_X0_record : GoodIn wsX5_burst wsX0_record := goodIn_r _ [6, 7, 8, 9, 10, 11, 4, 12, 13, 14, 15, 16, 17, 18, 19, 20, 21, 22, 23, 107, 108, 100, 101, 102, 103, 104, 105, 106] (by decide +kernel) (by decide +kernel)
set_option maxRecDepth 20000 in
theorem gX5_burst_X0_record_n61 : GoodIn wsX5_burst (wsX0_record) := ggX5_burst_X0_record
set_option maxRecDepth 20000 in
theorem ggX5_burst_X5_burstMask : GoodIn wsX5_burst wsX5_burstMask := goodIn_r _ [28, 1, 29, 30, 31, 32, 33, 34, 35, 93, 94, 95, 96, 97, 98, 99, 100, 101, 102, 103, 104, 105, 106] (by decide +kernel) (by decide +kernel)
set_option maxRecDepth 20000 in
theorem gX5_burst_X5_burstMask : GoodIn wsX5_burst (wsV RX5 145 RX5 yX5_burstMask wsX5_burstMask) := goodIn_app (goodIn_of _ (by decide +kernel)) ggX5_burst_X5_burstMask
set_option maxRecDepth 20000 in
theorem ggX5_burst_X5_readAgain : GoodIn wsX5_burst wsX5_readAgain := goodIn_r _ [39, 40, 1, 41, 42, 43, 44, 45, 46, 47, 48, 34, 31, 35, 49, 27, 50, 51, 52, 53, 54, 55, 56, 57, 58, 59, 60, 61, 62, 63, 64, 65, 66, 67, 68, 69, 70, 71, 72, 73, 74, 75, 76, 77, 78, 79, 80, 81, 82, 83, 84, 85, 86, 87, 88, 30, 32, 89, 90, 91, 92, 93, 94, 95, 96, 97, 98, 99, 100, 101, 102, 103, 104, 105, 106, 109, 110, 111, 112, 113, 114, 115, 116, 117, 118] (by decide +kernel) (by decide +kernel)
set_option maxRecDepth 20000 in
theorem gX5_burst_X5_readAgain : GoodIn wsX5_burst (wsV RX5 52 RX5 yX5_readAgain wsX5_readAgain) := goodIn_app (goodIn_of _ (by decide +kernel)) ggX5_burst_X5_readAgain
theorem dX5_burst_0 : decode cX5_burst 0 = .ok (.aload_n 0, 1) := by decide +kernel
theorem dX5_burst_1 : decode cX5_burst 1 = .ok (.getfield 10, 3) := by decide +kernel
theorem dX5_burst_4 : decode cX5_burst 4 = .ok (.getfield 72, 3) := by decide +kernel
theorem dX5_burst_7 : decode cX5_burst 7 = .ok (.aload_n 0, 1) := by decide +kernel
theorem dX5_burst_8 : decode cX5_burst 8 = .ok (.getfield 10, 3) := by decide +kernel
theorem dX5_burst_11 : decode cX5_burst 11 = .ok (.getfield 55, 3) := by decide +kernel
theorem dX5_burst_14 : decode cX5_burst 14 = .ok (.imul, 1) := by decide +kernel
theorem dX5_burst_15 : decode cX5_burst 15 = .ok (.istore_n 3, 1) := by decide +kernel
theorem dX5_burst_16 : decode cX5_burst 16 = .ok (.iload_n 1, 1) := by decide +kernel
theorem dX5_burst_17 : decode cX5_burst 17 = .ok (.ifCond .lt 20, 3) := by decide +kernel
theorem dX5_burst_20 : decode cX5_burst 20 = .ok (.iload_n 1, 1) := by decide +kernel
theorem dX5_burst_21 : decode cX5_burst 21 = .ok (.iload_n 3, 1) := by decide +kernel
theorem dX5_burst_22 : decode cX5_burst 22 = .ok (.if_icmp .ge 15, 3) := by decide +kernel
theorem dX5_burst_25 : decode cX5_burst 25 = .ok (.iload_n 2, 1) := by decide +kernel
theorem dX5_burst_26 : decode cX5_burst 26 = .ok (.iconst 1, 1) := by decide +kernel
theorem dX5_burst_27 : decode cX5_burst 27 = .ok (.if_icmp .lt 10, 3) := by decide +kernel
theorem dX5_burst_30 : decode cX5_burst 30 = .ok (.iload_n 2, 1) := by decide +kernel
theorem dX5_burst_31 : decode cX5_burst 31 = .ok (.iload_n 3, 1) := by decide +kernel
theorem dX5_burst_32 : decode cX5_burst 32 = .ok (.iload_n 1, 1) := by decide +kernel
theorem dX5_burst_33 : decode cX5_burst 33 = .ok (.isub, 1) := by decide +kernel
theorem dX5_burst_34 : decode cX5_burst 34 = .ok (.if_icmp .le 7, 3) := by decide +kernel
theorem dX5_burst_37 : decode cX5_burst 37 = .ok (.sipush (-1001), 3) := by decide +kernel
theorem dX5_burst_40 : decode cX5_burst 40 = .ok (.ireturn, 1) := by decide +kernel
theorem dX5_burst_41 : decode cX5_burst 41 = .ok (.aload_n 0, 1) := by decide +kernel
theorem dX5_burst_42 : decode cX5_burst 42 = .ok (.getfield 19, 3) := by decide +kernel
theorem dX5_burst_45 : decode cX5_burst 45 = .ok (.aload_n 0, 1) := by decide +kernel
theorem dX5_burst_46 : decode cX5_burst 46 = .ok (.getfield 10, 3) := by decide +kernel
theorem dX5_burst_49 : decode cX5_burst 49 = .ok (.invokevirtual 61, 3) := by decide +kernel
theorem dX5_burst_52 : decode cX5_burst 52 = .ok (.iconst 0, 1) := by decide +kernel
theorem dX5_burst_53 : decode cX5_burst 53 = .ok (.istore 4, 2) := by decide +kernel
theorem dX5_burst_55 : decode cX5_burst 55 = .ok (.iconst 0, 1) := by decide +kernel
theorem dX5_burst_56 : decode cX5_burst 56 = .ok (.istore 5, 2) := by decide +kernel
theorem dX5_burst_58 : decode cX5_burst 58 = .ok (.iload 5, 2) := by decide +kernel
theorem dX5_burst_60 : decode cX5_burst 60 = .ok (.aload_n 0, 1) := by decide +kernel
theorem dX5_burst_61 : decode cX5_burst 61 = .ok (.getfield 10, 3) := by decide +kernel
theorem dX5_burst_64 : decode cX5_burst 64 = .ok (.getfield 55, 3) := by decide +kernel
theorem dX5_burst_67 : decode cX5_burst 67 = .ok (.if_icmp .ge 44, 3) := by decide +kernel
theorem dX5_burst_70 : decode cX5_burst 70 = .ok (.aload_n 0, 1) := by decide +kernel
theorem dX5_burst_71 : decode cX5_burst 71 = .ok (.iload 5, 2) := by decide +kernel
theorem dX5_burst_73 : decode cX5_burst 73 = .ok (.iload_n 1, 1) := by decide +kernel
theorem dX5_burst_74 : decode cX5_burst 74 = .ok (.iload_n 1, 1) := by decide +kernel
theorem dX5_burst_75 : decode cX5_burst 75 = .ok (.iload_n 2, 1) := by decide +kernel
theorem dX5_burst_76 : decode cX5_burst 76 = .ok (.iadd, 1) := by decide +kernel
theorem dX5_burst_77 : decode cX5_burst 77 = .ok (.invokevirtual 145, 3) := by decide +kernel
theorem dX5_burst_80 : decode cX5_burst 80 = .ok (.istore 6, 2) := by decide +kernel
theorem dX5_burst_82 : decode cX5_burst 82 = .ok (.aload_n 0, 1) := by decide +kernel
theorem dX5_burst_83 : decode cX5_burst 83 = .ok (.getfield 10, 3) := by decide +kernel
theorem dX5_burst_86 : decode cX5_burst 86 = .ok (.getfield 128, 3) := by decide +kernel
theorem dX5_burst_89 : decode cX5_burst 89 = .ok (.iload 5, 2) := by decide +kernel
theorem dX5_burst_91 : decode cX5_burst 91 = .ok (.dup2, 1) := by decide +kernel
theorem dX5_burst_92 : decode cX5_burst 92 = .ok (.iaload, 1) := by decide +kernel
theorem dX5_burst_93 : decode cX5_burst 93 = .ok (.iload 6, 2) := by decide +kernel
theorem dX5_burst_95 : decode cX5_burst 95 = .ok (.ixor, 1) := by decide +kernel
theorem dX5_burst_96 : decode cX5_burst 96 = .ok (.iastore, 1) := by decide +kernel
theorem dX5_burst_97 : decode cX5_burst 97 = .ok (.iload 6, 2) := by decide +kernel
theorem dX5_burst_99 : decode cX5_burst 99 = .ok (.ifCond .eq 6, 3) := by decide +kernel
theorem dX5_burst_102 : decode cX5_burst 102 = .ok (.iinc 4 1, 3) := by decide +kernel
theorem dX5_burst_105 : decode cX5_burst 105 = .ok (.iinc 5 1, 3) := by decide +kernel
theorem dX5_burst_108 : decode cX5_burst 108 = .ok (.goto (-50), 3) := by decide +kernel
theorem dX5_burst_111 : decode cX5_burst 111 = .ok (.aload_n 0, 1) := by decide +kernel
theorem dX5_burst_112 : decode cX5_burst 112 = .ok (.invokevirtual 52, 3) := by decide +kernel
theorem dX5_burst_115 : decode cX5_burst 115 = .ok (.iload 4, 2) := by decide +kernel
theorem dX5_burst_117 : decode cX5_burst 117 = .ok (.ireturn, 1) := by decide +kernel
set_option maxRecDepth 20000 in
theorem ggX5_sendCascade_X5_lawfulMessage : GoodIn wsX5_sendCascade wsX5_lawfulMessage := goodIn_r _ [7, 2, 8, 9, 10, 11, 12, 6, 13, 14, 15, 16, 17, 18, 19, 20, 21, 22, 23, 24, 25, 26, 27, 28, 29, 30, 31, 32, 33, 34, 35, 36, 37, 38, 39, 40, 41, 42, 43, 44, 45, 46, 47, 48, 49, 50, 137, 138, 139, 140, 141, 142, 143, 151, 152, 144, 145, 146, 147, 148, 149, 150, 153, 154, 155, 156, 157, 158, 159, 160, 161] (by decide +kernel) (by decide +kernel)
set_option maxRecDepth 20000 in
theorem gX5_sendCascade_X5_lawfulMessage : GoodIn wsX5_sendCascade (wsV RX5 149 RX5 yX5_lawfulMessage wsX5_lawfulMessage) := goodIn_app (goodIn_of _ (by decide +kernel)) ggX5_sendCascade_X5_lawfulMessage
set_option maxRecDepth 20000 in
theorem ggX5_sendCascade_X0_record : GoodIn wsX5_sendCascade wsX0_record := goodIn_r _ [54, 55, 56, 57, 58, 59, 52, 60, 61, 16, 62, 63, 19, 20, 64, 65, 66, 67, 68, 162, 163, 144, 145, 146, 147, 148, 149, 150] (by decide +kernel) (by decide +kernel)
set_option maxRecDepth 20000 in
theorem gX5_sendCascade_X0_record_n61 : GoodIn wsX5_sendCascade (wsX0_record) := ggX5_sendCascade_X0_record
set_option maxRecDepth 20000 in
theorem ggX5_sendCascade_X5_wordSentFor : GoodIn wsX5_sendCascade wsX5_wordSentFor := goodIn_r _ [72, 14, 8, 24, 25, 26, 27, 28, 73, 74, 6, 75, 137, 138, 139, 140, 141, 142, 143, 151, 152, 153] (by decide +kernel) (by decide +kernel)
set_option maxRecDepth 20000 in
theorem gX5_sendCascade_X5_wordSentFor : GoodIn wsX5_sendCascade (wsV RX5 125 RX5 yX5_wordSentFor wsX5_wordSentFor) := goodIn_app (goodIn_of _ (by decide +kernel)) ggX5_sendCascade_X5_wordSentFor
set_option maxRecDepth 20000 in
theorem ggX5_sendCascade_X4_shiftedRound : GoodIn wsX5_sendCascade wsX4_shiftedRound := goodIn_r _ [78, 64, 79, 80, 81, 16, 82, 144, 145, 146, 147, 148, 149, 150] (by decide +kernel) (by decide +kernel)
set_option maxRecDepth 20000 in
theorem gX5_sendCascade_X4_shiftedRound_n152 : GoodIn wsX5_sendCascade (wsX4_shiftedRound) := ggX5_sendCascade_X4_shiftedRound
set_option maxRecDepth 20000 in
theorem ggX5_sendCascade_J6_bitCount_0f7a4 : GoodIn wsX5_sendCascade wsJ6_bitCount_0f7a4 := goodIn_r _ [86, 87, 88, 89] (by decide +kernel) (by decide +kernel)
set_option maxRecDepth 20000 in
theorem gX5_sendCascade_J6_bitCount_0f7a4 : GoodIn wsX5_sendCascade (va_wsS RX5 129 yJ6_bitCount_0f7a4 wsJ6_bitCount_0f7a4) := goodIn_app (goodIn_of _ (by decide +kernel)) ggX5_sendCascade_J6_bitCount_0f7a4
set_option maxRecDepth 20000 in
theorem ggX5_sendCascade_X5_readAgain : GoodIn wsX5_sendCascade wsX5_readAgain := goodIn_r _ [93, 14, 2, 9, 94, 95, 96, 97, 98, 99, 100, 101, 102, 103, 104, 6, 105, 106, 84, 85, 86, 87, 88, 89, 107, 30, 108, 109, 48, 34, 33, 110, 111, 112, 113, 25, 114, 37, 115, 116, 117, 118, 119, 49, 120, 121, 122, 123, 124, 125, 126, 127, 128, 129, 130, 131, 132, 133, 134, 135, 136, 137, 138, 139, 140, 141, 142, 143, 144, 145, 146, 147, 148, 149, 150, 151, 152, 154, 155, 156, 157, 158, 159, 160, 161] (by decide +kernel) (by decide +kernel)
set_option maxRecDepth 20000 in
theorem gX5_sendCascade_X5_readAgain : GoodIn wsX5_sendCascade (wsV RX5 52 RX5 yX5_readAgain wsX5_readAgain) := goodIn_app (goodIn_of _ (by decide +kernel)) ggX5_sendCascade_X5_readAgain
theorem dX5_sendCascade_0 : decode cX5_sendCascade 0 = .ok (.aload_n 0, 1) := by decide +kernel
theorem dX5_sendCascade_1 : decode cX5_sendCascade 1 = .ok (.invokevirtual 149, 3) := by decide +kernel
theorem dX5_sendCascade_4 : decode cX5_sendCascade 4 = .ok (.istore_n 1, 1) := by decide +kernel
theorem dX5_sendCascade_5 : decode cX5_sendCascade 5 = .ok (.iload_n 1, 1) := by decide +kernel
theorem dX5_sendCascade_6 : decode cX5_sendCascade 6 = .ok (.iconst (-1), 1) := by decide +kernel
theorem dX5_sendCascade_7 : decode cX5_sendCascade 7 = .ok (.if_icmp .ne 7, 3) := by decide +kernel
theorem dX5_sendCascade_10 : decode cX5_sendCascade 10 = .ok (.sipush (-1002), 3) := by decide +kernel
theorem dX5_sendCascade_13 : decode cX5_sendCascade 13 = .ok (.ireturn, 1) := by decide +kernel
theorem dX5_sendCascade_14 : decode cX5_sendCascade 14 = .ok (.aload_n 0, 1) := by decide +kernel
theorem dX5_sendCascade_15 : decode cX5_sendCascade 15 = .ok (.getfield 19, 3) := by decide +kernel
theorem dX5_sendCascade_18 : decode cX5_sendCascade 18 = .ok (.aload_n 0, 1) := by decide +kernel
theorem dX5_sendCascade_19 : decode cX5_sendCascade 19 = .ok (.getfield 10, 3) := by decide +kernel
theorem dX5_sendCascade_22 : decode cX5_sendCascade 22 = .ok (.invokevirtual 61, 3) := by decide +kernel
theorem dX5_sendCascade_25 : decode cX5_sendCascade 25 = .ok (.aload_n 0, 1) := by decide +kernel
theorem dX5_sendCascade_26 : decode cX5_sendCascade 26 = .ok (.getfield 10, 3) := by decide +kernel
theorem dX5_sendCascade_29 : decode cX5_sendCascade 29 = .ok (.iload_n 1, 1) := by decide +kernel
theorem dX5_sendCascade_30 : decode cX5_sendCascade 30 = .ok (.putfield 122, 3) := by decide +kernel
theorem dX5_sendCascade_33 : decode cX5_sendCascade 33 = .ok (.iconst 0, 1) := by decide +kernel
theorem dX5_sendCascade_34 : decode cX5_sendCascade 34 = .ok (.istore_n 2, 1) := by decide +kernel
theorem dX5_sendCascade_35 : decode cX5_sendCascade 35 = .ok (.iconst 0, 1) := by decide +kernel
theorem dX5_sendCascade_36 : decode cX5_sendCascade 36 = .ok (.istore_n 3, 1) := by decide +kernel
theorem dX5_sendCascade_37 : decode cX5_sendCascade 37 = .ok (.iload_n 3, 1) := by decide +kernel
theorem dX5_sendCascade_38 : decode cX5_sendCascade 38 = .ok (.aload_n 0, 1) := by decide +kernel
theorem dX5_sendCascade_39 : decode cX5_sendCascade 39 = .ok (.getfield 10, 3) := by decide +kernel
theorem dX5_sendCascade_42 : decode cX5_sendCascade 42 = .ok (.getfield 55, 3) := by decide +kernel
theorem dX5_sendCascade_45 : decode cX5_sendCascade 45 = .ok (.if_icmp .ge 60, 3) := by decide +kernel
theorem dX5_sendCascade_48 : decode cX5_sendCascade 48 = .ok (.aload_n 0, 1) := by decide +kernel
theorem dX5_sendCascade_49 : decode cX5_sendCascade 49 = .ok (.iload_n 1, 1) := by decide +kernel
theorem dX5_sendCascade_50 : decode cX5_sendCascade 50 = .ok (.iload_n 3, 1) := by decide +kernel
theorem dX5_sendCascade_51 : decode cX5_sendCascade 51 = .ok (.invokevirtual 125, 3) := by decide +kernel
theorem dX5_sendCascade_54 : decode cX5_sendCascade 54 = .ok (.istore 4, 2) := by decide +kernel
theorem dX5_sendCascade_56 : decode cX5_sendCascade 56 = .ok (.aload_n 0, 1) := by decide +kernel
theorem dX5_sendCascade_57 : decode cX5_sendCascade 57 = .ok (.getfield 10, 3) := by decide +kernel
theorem dX5_sendCascade_60 : decode cX5_sendCascade 60 = .ok (.aload_n 0, 1) := by decide +kernel
theorem dX5_sendCascade_61 : decode cX5_sendCascade 61 = .ok (.getfield 10, 3) := by decide +kernel
theorem dX5_sendCascade_64 : decode cX5_sendCascade 64 = .ok (.getfield 128, 3) := by decide +kernel
theorem dX5_sendCascade_67 : decode cX5_sendCascade 67 = .ok (.iload_n 3, 1) := by decide +kernel
theorem dX5_sendCascade_68 : decode cX5_sendCascade 68 = .ok (.iaload, 1) := by decide +kernel
theorem dX5_sendCascade_69 : decode cX5_sendCascade 69 = .ok (.iload 4, 2) := by decide +kernel
theorem dX5_sendCascade_71 : decode cX5_sendCascade 71 = .ok (.ixor, 1) := by decide +kernel
theorem dX5_sendCascade_72 : decode cX5_sendCascade 72 = .ok (.invokevirtual 152, 3) := by decide +kernel
theorem dX5_sendCascade_75 : decode cX5_sendCascade 75 = .ok (.istore 5, 2) := by decide +kernel
theorem dX5_sendCascade_77 : decode cX5_sendCascade 77 = .ok (.aload_n 0, 1) := by decide +kernel
theorem dX5_sendCascade_78 : decode cX5_sendCascade 78 = .ok (.getfield 10, 3) := by decide +kernel
theorem dX5_sendCascade_81 : decode cX5_sendCascade 81 = .ok (.getfield 128, 3) := by decide +kernel
theorem dX5_sendCascade_84 : decode cX5_sendCascade 84 = .ok (.iload_n 3, 1) := by decide +kernel
theorem dX5_sendCascade_85 : decode cX5_sendCascade 85 = .ok (.iload 4, 2) := by decide +kernel
theorem dX5_sendCascade_87 : decode cX5_sendCascade 87 = .ok (.iload 5, 2) := by decide +kernel
theorem dX5_sendCascade_89 : decode cX5_sendCascade 89 = .ok (.ixor, 1) := by decide +kernel
theorem dX5_sendCascade_90 : decode cX5_sendCascade 90 = .ok (.iastore, 1) := by decide +kernel
theorem dX5_sendCascade_91 : decode cX5_sendCascade 91 = .ok (.iload_n 2, 1) := by decide +kernel
theorem dX5_sendCascade_92 : decode cX5_sendCascade 92 = .ok (.iload 5, 2) := by decide +kernel
theorem dX5_sendCascade_94 : decode cX5_sendCascade 94 = .ok (.invokestatic 129, 3) := by decide +kernel
theorem dX5_sendCascade_97 : decode cX5_sendCascade 97 = .ok (.iadd, 1) := by decide +kernel
theorem dX5_sendCascade_98 : decode cX5_sendCascade 98 = .ok (.istore_n 2, 1) := by decide +kernel
theorem dX5_sendCascade_99 : decode cX5_sendCascade 99 = .ok (.iinc 3 1, 3) := by decide +kernel
theorem dX5_sendCascade_102 : decode cX5_sendCascade 102 = .ok (.goto (-65), 3) := by decide +kernel
theorem dX5_sendCascade_105 : decode cX5_sendCascade 105 = .ok (.aload_n 0, 1) := by decide +kernel
theorem dX5_sendCascade_106 : decode cX5_sendCascade 106 = .ok (.invokevirtual 52, 3) := by decide +kernel
theorem dX5_sendCascade_109 : decode cX5_sendCascade 109 = .ok (.iload_n 2, 1) := by decide +kernel
theorem dX5_sendCascade_110 : decode cX5_sendCascade 110 = .ok (.ireturn, 1) := by decide +kernel
set_option maxRecDepth 20000 in
theorem ggX5_received_X5_isBlock : GoodIn wsX5_received wsX5_isBlock := goodIn_r _ [6, 1, 7, 8, 9, 10, 11, 12, 13, 14, 15, 16, 17, 18, 19, 20] (by decide +kernel) (by decide +kernel)
set_option maxRecDepth 20000 in
theorem gX5_received_X5_isBlock : GoodIn wsX5_received (wsV RX5 111 RX5 yX5_isBlock wsX5_isBlock) := goodIn_app (goodIn_of _ (by decide +kernel)) ggX5_received_X5_isBlock
theorem dX5_received_0 : decode cX5_received 0 = .ok (.aload_n 0, 1) := by decide +kernel
theorem dX5_received_1 : decode cX5_received 1 = .ok (.iload_n 1, 1) := by decide +kernel
theorem dX5_received_2 : decode cX5_received 2 = .ok (.invokevirtual 111, 3) := by decide +kernel
theorem dX5_received_5 : decode cX5_received 5 = .ok (.ifCond .ne 7, 3) := by decide +kernel
theorem dX5_received_8 : decode cX5_received 8 = .ok (.sipush (-1001), 3) := by decide +kernel
theorem dX5_received_11 : decode cX5_received 11 = .ok (.ireturn, 1) := by decide +kernel
theorem dX5_received_12 : decode cX5_received 12 = .ok (.aload_n 0, 1) := by decide +kernel
theorem dX5_received_13 : decode cX5_received 13 = .ok (.getfield 10, 3) := by decide +kernel
theorem dX5_received_16 : decode cX5_received 16 = .ok (.getfield 138, 3) := by decide +kernel
theorem dX5_received_19 : decode cX5_received 19 = .ok (.iload_n 1, 1) := by decide +kernel
theorem dX5_received_20 : decode cX5_received 20 = .ok (.baload, 1) := by decide +kernel
theorem dX5_received_21 : decode cX5_received 21 = .ok (.ifCond .eq 9, 3) := by decide +kernel
theorem dX5_received_24 : decode cX5_received 24 = .ok (.sipush (-1004), 3) := by decide +kernel
theorem dX5_received_27 : decode cX5_received 27 = .ok (.goto 12, 3) := by decide +kernel
theorem dX5_received_30 : decode cX5_received 30 = .ok (.aload_n 0, 1) := by decide +kernel
theorem dX5_received_31 : decode cX5_received 31 = .ok (.getfield 10, 3) := by decide +kernel
theorem dX5_received_34 : decode cX5_received 34 = .ok (.getfield 128, 3) := by decide +kernel
theorem dX5_received_37 : decode cX5_received 37 = .ok (.iload_n 1, 1) := by decide +kernel
theorem dX5_received_38 : decode cX5_received 38 = .ok (.iaload, 1) := by decide +kernel
theorem dX5_received_39 : decode cX5_received 39 = .ok (.ireturn, 1) := by decide +kernel
theorem dX5_sent_0 : decode cX5_sent 0 = .ok (.aload_n 0, 1) := by decide +kernel
theorem dX5_sent_1 : decode cX5_sent 1 = .ok (.getfield 10, 3) := by decide +kernel
theorem dX5_sent_4 : decode cX5_sent 4 = .ok (.getfield 122, 3) := by decide +kernel
theorem dX5_sent_7 : decode cX5_sent 7 = .ok (.ireturn, 1) := by decide +kernel
set_option maxRecDepth 20000 in
theorem ggX5_block_X5_isBlock : GoodIn wsX5_block wsX5_isBlock := goodIn_r _ [6, 7, 21, 22, 23, 24, 25, 26, 27, 36, 37, 38, 39, 40, 41, 42] (by decide +kernel) (by decide +kernel)
set_option maxRecDepth 20000 in
theorem gX5_block_X5_isBlock : GoodIn wsX5_block (wsV RX5 111 RX5 yX5_isBlock wsX5_isBlock) := goodIn_app (goodIn_of _ (by decide +kernel)) ggX5_block_X5_isBlock
set_option maxRecDepth 20000 in
theorem ggX5_block_X5_sentSymbol : GoodIn wsX5_block wsX5_sentSymbol := goodIn_r _ [11, 12, 7, 13, 14, 15, 16, 17, 18, 19, 5, 20, 21, 22, 23, 24, 25, 26, 27, 36, 37, 38, 39, 40, 41, 42, 43] (by decide +kernel) (by decide +kernel)
set_option maxRecDepth 20000 in
theorem gX5_block_X5_sentSymbol : GoodIn wsX5_block (wsV RX5 164 RX5 yX5_sentSymbol wsX5_sentSymbol) := goodIn_app (goodIn_of _ (by decide +kernel)) ggX5_block_X5_sentSymbol
theorem dX5_block_0 : decode cX5_block 0 = .ok (.aload_n 0, 1) := by decide +kernel
theorem dX5_block_1 : decode cX5_block 1 = .ok (.iload_n 1, 1) := by decide +kernel
theorem dX5_block_2 : decode cX5_block 2 = .ok (.invokevirtual 111, 3) := by decide +kernel
theorem dX5_block_5 : decode cX5_block 5 = .ok (.ifCond .ne 7, 3) := by decide +kernel
theorem dX5_block_8 : decode cX5_block 8 = .ok (.sipush (-1001), 3) := by decide +kernel
theorem dX5_block_11 : decode cX5_block 11 = .ok (.ireturn, 1) := by decide +kernel
theorem dX5_block_12 : decode cX5_block 12 = .ok (.iload_n 2, 1) := by decide +kernel
theorem dX5_block_13 : decode cX5_block 13 = .ok (.tableswitch 98 0 4 #[35, 45, 55, 65, 75], 35) := by decide +kernel
theorem dX5_block_48 : decode cX5_block 48 = .ok (.aload_n 0, 1) := by decide +kernel
theorem dX5_block_49 : decode cX5_block 49 = .ok (.getfield 40, 3) := by decide +kernel
theorem dX5_block_52 : decode cX5_block 52 = .ok (.getfield 155, 3) := by decide +kernel
theorem dX5_block_55 : decode cX5_block 55 = .ok (.iload_n 1, 1) := by decide +kernel
theorem dX5_block_56 : decode cX5_block 56 = .ok (.iaload, 1) := by decide +kernel
theorem dX5_block_57 : decode cX5_block 57 = .ok (.ireturn, 1) := by decide +kernel
theorem dX5_block_58 : decode cX5_block 58 = .ok (.aload_n 0, 1) := by decide +kernel
theorem dX5_block_59 : decode cX5_block 59 = .ok (.getfield 40, 3) := by decide +kernel
theorem dX5_block_62 : decode cX5_block 62 = .ok (.getfield 142, 3) := by decide +kernel
theorem dX5_block_65 : decode cX5_block 65 = .ok (.iload_n 1, 1) := by decide +kernel
theorem dX5_block_66 : decode cX5_block 66 = .ok (.iaload, 1) := by decide +kernel
theorem dX5_block_67 : decode cX5_block 67 = .ok (.ireturn, 1) := by decide +kernel
theorem dX5_block_68 : decode cX5_block 68 = .ok (.aload_n 0, 1) := by decide +kernel
theorem dX5_block_69 : decode cX5_block 69 = .ok (.getfield 40, 3) := by decide +kernel
theorem dX5_block_72 : decode cX5_block 72 = .ok (.getfield 158, 3) := by decide +kernel
theorem dX5_block_75 : decode cX5_block 75 = .ok (.iload_n 1, 1) := by decide +kernel
theorem dX5_block_76 : decode cX5_block 76 = .ok (.iaload, 1) := by decide +kernel
theorem dX5_block_77 : decode cX5_block 77 = .ok (.ireturn, 1) := by decide +kernel
theorem dX5_block_78 : decode cX5_block 78 = .ok (.aload_n 0, 1) := by decide +kernel
theorem dX5_block_79 : decode cX5_block 79 = .ok (.getfield 40, 3) := by decide +kernel
theorem dX5_block_82 : decode cX5_block 82 = .ok (.getfield 161, 3) := by decide +kernel
theorem dX5_block_85 : decode cX5_block 85 = .ok (.iload_n 1, 1) := by decide +kernel
theorem dX5_block_86 : decode cX5_block 86 = .ok (.iaload, 1) := by decide +kernel
theorem dX5_block_87 : decode cX5_block 87 = .ok (.ireturn, 1) := by decide +kernel
theorem dX5_block_88 : decode cX5_block 88 = .ok (.aload_n 0, 1) := by decide +kernel
theorem dX5_block_89 : decode cX5_block 89 = .ok (.getfield 40, 3) := by decide +kernel
theorem dX5_block_92 : decode cX5_block 92 = .ok (.getfield 155, 3) := by decide +kernel
theorem dX5_block_95 : decode cX5_block 95 = .ok (.iload_n 1, 1) := by decide +kernel
theorem dX5_block_96 : decode cX5_block 96 = .ok (.iaload, 1) := by decide +kernel
theorem dX5_block_97 : decode cX5_block 97 = .ok (.aload_n 0, 1) := by decide +kernel
theorem dX5_block_98 : decode cX5_block 98 = .ok (.iload_n 1, 1) := by decide +kernel
theorem dX5_block_99 : decode cX5_block 99 = .ok (.invokevirtual 164, 3) := by decide +kernel
theorem dX5_block_102 : decode cX5_block 102 = .ok (.if_icmp .ne 7, 3) := by decide +kernel
theorem dX5_block_105 : decode cX5_block 105 = .ok (.iconst 1, 1) := by decide +kernel
theorem dX5_block_106 : decode cX5_block 106 = .ok (.goto 4, 3) := by decide +kernel
theorem dX5_block_109 : decode cX5_block 109 = .ok (.iconst 0, 1) := by decide +kernel
theorem dX5_block_110 : decode cX5_block 110 = .ok (.ireturn, 1) := by decide +kernel
theorem dX5_block_111 : decode cX5_block 111 = .ok (.sipush (-1001), 3) := by decide +kernel
theorem dX5_block_114 : decode cX5_block 114 = .ok (.ireturn, 1) := by decide +kernel
set_option maxRecDepth 20000 in
theorem ggX5_blockAt_X5_isBlock : GoodIn wsX5_blockAt wsX5_isBlock := goodIn_r _ [6, 7, 8, 9, 10, 11, 12, 13, 14, 23, 24, 25, 26, 27, 28, 29] (by decide +kernel) (by decide +kernel)
set_option maxRecDepth 20000 in
theorem gX5_blockAt_X5_isBlock : GoodIn wsX5_blockAt (wsV RX5 111 RX5 yX5_isBlock wsX5_isBlock) := goodIn_app (goodIn_of _ (by decide +kernel)) ggX5_blockAt_X5_isBlock
theorem dX5_blockAt_0 : decode cX5_blockAt 0 = .ok (.aload_n 0, 1) := by decide +kernel
theorem dX5_blockAt_1 : decode cX5_blockAt 1 = .ok (.iload_n 1, 1) := by decide +kernel
theorem dX5_blockAt_2 : decode cX5_blockAt 2 = .ok (.invokevirtual 111, 3) := by decide +kernel
theorem dX5_blockAt_5 : decode cX5_blockAt 5 = .ok (.ifCond .ne 7, 3) := by decide +kernel
theorem dX5_blockAt_8 : decode cX5_blockAt 8 = .ok (.sipush (-1001), 3) := by decide +kernel
theorem dX5_blockAt_11 : decode cX5_blockAt 11 = .ok (.ireturn, 1) := by decide +kernel
theorem dX5_blockAt_12 : decode cX5_blockAt 12 = .ok (.aload_n 0, 1) := by decide +kernel
theorem dX5_blockAt_13 : decode cX5_blockAt 13 = .ok (.getfield 40, 3) := by decide +kernel
theorem dX5_blockAt_16 : decode cX5_blockAt 16 = .ok (.getfield 167, 3) := by decide +kernel
theorem dX5_blockAt_19 : decode cX5_blockAt 19 = .ok (.iload_n 1, 1) := by decide +kernel
theorem dX5_blockAt_20 : decode cX5_blockAt 20 = .ok (.iaload, 1) := by decide +kernel
theorem dX5_blockAt_21 : decode cX5_blockAt 21 = .ok (.ireturn, 1) := by decide +kernel
set_option maxRecDepth 20000 in
theorem ggX5_strength_X5_isBlock : GoodIn wsX5_strength wsX5_isBlock := goodIn_r _ [7, 1, 32, 33, 34, 35, 36, 37, 38, 39, 40, 41, 42, 43, 44, 45] (by decide +kernel) (by decide +kernel)
set_option maxRecDepth 20000 in
theorem gX5_strength_X5_isBlock : GoodIn wsX5_strength (wsV RX5 111 RX5 yX5_isBlock wsX5_isBlock) := goodIn_app (goodIn_of _ (by decide +kernel)) ggX5_strength_X5_isBlock
set_option maxRecDepth 20000 in
theorem ggX5_strength_X1_bitsToAnotherSymbol : GoodIn wsX5_strength wsX1_bitsToAnotherSymbol := goodIn_r _ [11, 12, 13, 14, 15, 16, 17, 18, 9, 19, 20, 21, 22, 23, 24, 25, 26, 27, 28, 29, 30, 31, 46, 47] (by decide +kernel) (by decide +kernel)
set_option maxRecDepth 20000 in
theorem gX5_strength_X1_bitsToAnotherSymbol_n170 : GoodIn wsX5_strength (wsX1_bitsToAnotherSymbol) := ggX5_strength_X1_bitsToAnotherSymbol
theorem dX5_strength_0 : decode cX5_strength 0 = .ok (.aload_n 0, 1) := by decide +kernel
theorem dX5_strength_1 : decode cX5_strength 1 = .ok (.iload_n 1, 1) := by decide +kernel
theorem dX5_strength_2 : decode cX5_strength 2 = .ok (.invokevirtual 111, 3) := by decide +kernel
theorem dX5_strength_5 : decode cX5_strength 5 = .ok (.ifCond .ne 7, 3) := by decide +kernel
theorem dX5_strength_8 : decode cX5_strength 8 = .ok (.sipush (-1001), 3) := by decide +kernel
theorem dX5_strength_11 : decode cX5_strength 11 = .ok (.ireturn, 1) := by decide +kernel
theorem dX5_strength_12 : decode cX5_strength 12 = .ok (.aload_n 0, 1) := by decide +kernel
theorem dX5_strength_13 : decode cX5_strength 13 = .ok (.getfield 10, 3) := by decide +kernel
theorem dX5_strength_16 : decode cX5_strength 16 = .ok (.getfield 138, 3) := by decide +kernel
theorem dX5_strength_19 : decode cX5_strength 19 = .ok (.iload_n 1, 1) := by decide +kernel
theorem dX5_strength_20 : decode cX5_strength 20 = .ok (.baload, 1) := by decide +kernel
theorem dX5_strength_21 : decode cX5_strength 21 = .ok (.ifCond .eq 7, 3) := by decide +kernel
theorem dX5_strength_24 : decode cX5_strength 24 = .ok (.sipush (-1002), 3) := by decide +kernel
theorem dX5_strength_27 : decode cX5_strength 27 = .ok (.ireturn, 1) := by decide +kernel
theorem dX5_strength_28 : decode cX5_strength 28 = .ok (.aload_n 0, 1) := by decide +kernel
theorem dX5_strength_29 : decode cX5_strength 29 = .ok (.getfield 26, 3) := by decide +kernel
theorem dX5_strength_32 : decode cX5_strength 32 = .ok (.aload_n 0, 1) := by decide +kernel
theorem dX5_strength_33 : decode cX5_strength 33 = .ok (.getfield 10, 3) := by decide +kernel
theorem dX5_strength_36 : decode cX5_strength 36 = .ok (.getfield 128, 3) := by decide +kernel
theorem dX5_strength_39 : decode cX5_strength 39 = .ok (.iload_n 1, 1) := by decide +kernel
theorem dX5_strength_40 : decode cX5_strength 40 = .ok (.iaload, 1) := by decide +kernel
theorem dX5_strength_41 : decode cX5_strength 41 = .ok (.invokevirtual 170, 3) := by decide +kernel
theorem dX5_strength_44 : decode cX5_strength 44 = .ok (.ireturn, 1) := by decide +kernel
set_option maxRecDepth 20000 in
theorem ggX5_trial_X4_outerDistance : GoodIn wsX5_trial wsX4_outerDistance := goodIn_r _ [7, 8, 9, 52, 53, 54, 55, 56, 57, 58] (by decide +kernel) (by decide +kernel)
set_option maxRecDepth 20000 in
theorem gX5_trial_X4_outerDistance_n87 : GoodIn wsX5_trial (wsX4_outerDistance) := ggX5_trial_X4_outerDistance
set_option maxRecDepth 20000 in
theorem ggX5_trial_X3_keptBlocks : GoodIn wsX5_trial wsX3_keptBlocks := goodIn_r _ [13, 14, 15, 16, 17, 59, 60, 61, 62, 63, 64, 65, 66] (by decide +kernel) (by decide +kernel)
set_option maxRecDepth 20000 in
theorem gX5_trial_X3_keptBlocks_n173 : GoodIn wsX5_trial (wsX3_keptBlocks) := ggX5_trial_X3_keptBlocks
set_option maxRecDepth 20000 in
theorem ggX5_trial_X4_messages : GoodIn wsX5_trial wsX4_messages := goodIn_r _ [20, 9, 52, 53, 54, 55, 56, 57, 58] (by decide +kernel) (by decide +kernel)
set_option maxRecDepth 20000 in
theorem gX5_trial_X4_messages_n176 : GoodIn wsX5_trial (wsX4_messages) := ggX5_trial_X4_messages
set_option maxRecDepth 20000 in
theorem ggX5_trial_X2_codeword : GoodIn wsX5_trial wsX2_codeword := goodIn_r _ [24, 25, 67] (by decide +kernel) (by decide +kernel)
set_option maxRecDepth 20000 in
theorem gX5_trial_X2_codeword_n114 : GoodIn wsX5_trial (wsX2_codeword) := ggX5_trial_X2_codeword
set_option maxRecDepth 20000 in
theorem ggX5_trial_X5_isResult : GoodIn wsX5_trial wsX5_isResult := goodIn_r _ [30, 2, 1, 31, 11, 32, 33, 34, 14, 35, 22, 36, 37, 38, 39, 40, 41, 42, 43, 44, 4, 5, 6, 7, 8, 9, 45, 46, 47, 48, 49, 50, 51, 59, 60, 61, 62, 63, 64, 65, 66, 52, 53, 54, 55, 56, 57, 58] (by decide +kernel) (by decide +kernel)
set_option maxRecDepth 20000 in
theorem gX5_trial_X5_isResult : GoodIn wsX5_trial (wsV RX5 179 RX5 yX5_isResult wsX5_isResult) := goodIn_app (goodIn_of _ (by decide +kernel)) ggX5_trial_X5_isResult
theorem dX5_trial_0 : decode cX5_trial 0 = .ok (.iload_n 1, 1) := by decide +kernel
theorem dX5_trial_1 : decode cX5_trial 1 = .ok (.ifCond .lt 14, 3) := by decide +kernel
theorem dX5_trial_4 : decode cX5_trial 4 = .ok (.iload_n 1, 1) := by decide +kernel
theorem dX5_trial_5 : decode cX5_trial 5 = .ok (.aload_n 0, 1) := by decide +kernel
theorem dX5_trial_6 : decode cX5_trial 6 = .ok (.getfield 10, 3) := by decide +kernel
theorem dX5_trial_9 : decode cX5_trial 9 = .ok (.invokevirtual 87, 3) := by decide +kernel
theorem dX5_trial_12 : decode cX5_trial 12 = .ok (.if_icmp .lt 7, 3) := by decide +kernel
theorem dX5_trial_15 : decode cX5_trial 15 = .ok (.sipush (-1001), 3) := by decide +kernel
theorem dX5_trial_18 : decode cX5_trial 18 = .ok (.ireturn, 1) := by decide +kernel
theorem dX5_trial_19 : decode cX5_trial 19 = .ok (.aload_n 0, 1) := by decide +kernel
theorem dX5_trial_20 : decode cX5_trial 20 = .ok (.getfield 40, 3) := by decide +kernel
theorem dX5_trial_23 : decode cX5_trial 23 = .ok (.iload_n 1, 1) := by decide +kernel
theorem dX5_trial_24 : decode cX5_trial 24 = .ok (.invokevirtual 173, 3) := by decide +kernel
theorem dX5_trial_27 : decode cX5_trial 27 = .ok (.lstore_n 2, 1) := by decide +kernel
theorem dX5_trial_28 : decode cX5_trial 28 = .ok (.aload_n 0, 1) := by decide +kernel
theorem dX5_trial_29 : decode cX5_trial 29 = .ok (.getfield 10, 3) := by decide +kernel
theorem dX5_trial_32 : decode cX5_trial 32 = .ok (.invokevirtual 176, 3) := by decide +kernel
theorem dX5_trial_35 : decode cX5_trial 35 = .ok (.istore 4, 2) := by decide +kernel
theorem dX5_trial_37 : decode cX5_trial 37 = .ok (.iconst 0, 1) := by decide +kernel
theorem dX5_trial_38 : decode cX5_trial 38 = .ok (.istore 5, 2) := by decide +kernel
theorem dX5_trial_40 : decode cX5_trial 40 = .ok (.iload 5, 2) := by decide +kernel
theorem dX5_trial_42 : decode cX5_trial 42 = .ok (.iload 4, 2) := by decide +kernel
theorem dX5_trial_44 : decode cX5_trial 44 = .ok (.if_icmp .ge 30, 3) := by decide +kernel
theorem dX5_trial_47 : decode cX5_trial 47 = .ok (.aload_n 0, 1) := by decide +kernel
theorem dX5_trial_48 : decode cX5_trial 48 = .ok (.aload_n 0, 1) := by decide +kernel
theorem dX5_trial_49 : decode cX5_trial 49 = .ok (.getfield 33, 3) := by decide +kernel
theorem dX5_trial_52 : decode cX5_trial 52 = .ok (.iload 5, 2) := by decide +kernel
theorem dX5_trial_54 : decode cX5_trial 54 = .ok (.invokevirtual 114, 3) := by decide +kernel
theorem dX5_trial_57 : decode cX5_trial 57 = .ok (.iload_n 1, 1) := by decide +kernel
theorem dX5_trial_58 : decode cX5_trial 58 = .ok (.lload_n 2, 1) := by decide +kernel
theorem dX5_trial_59 : decode cX5_trial 59 = .ok (.invokevirtual 179, 3) := by decide +kernel
theorem dX5_trial_62 : decode cX5_trial 62 = .ok (.ifCond .eq 6, 3) := by decide +kernel
theorem dX5_trial_65 : decode cX5_trial 65 = .ok (.iload 5, 2) := by decide +kernel
theorem dX5_trial_67 : decode cX5_trial 67 = .ok (.ireturn, 1) := by decide +kernel
theorem dX5_trial_68 : decode cX5_trial 68 = .ok (.iinc 5 1, 3) := by decide +kernel
theorem dX5_trial_71 : decode cX5_trial 71 = .ok (.goto (-31), 3) := by decide +kernel
theorem dX5_trial_74 : decode cX5_trial 74 = .ok (.sipush (-1004), 3) := by decide +kernel
theorem dX5_trial_77 : decode cX5_trial 77 = .ok (.ireturn, 1) := by decide +kernel
set_option maxRecDepth 20000 in
theorem ggX5_score_X5_isMessage : GoodIn wsX5_score wsX5_isMessage := goodIn_r _ [7, 8, 9, 10, 11, 12, 13, 34, 35, 36, 37, 38, 39, 40, 41, 42, 43, 44, 45, 46, 47] (by decide +kernel) (by decide +kernel)
set_option maxRecDepth 20000 in
theorem gX5_score_X5_isMessage : GoodIn wsX5_score (wsV RX5 108 RX5 yX5_isMessage wsX5_isMessage) := goodIn_app (goodIn_of _ (by decide +kernel)) ggX5_score_X5_isMessage
set_option maxRecDepth 20000 in
theorem ggX5_score_X2_codeword : GoodIn wsX5_score wsX2_codeword := goodIn_r _ [17, 18, 48] (by decide +kernel) (by decide +kernel)
set_option maxRecDepth 20000 in
theorem gX5_score_X2_codeword_n114 : GoodIn wsX5_score (wsX2_codeword) := ggX5_score_X2_codeword
set_option maxRecDepth 20000 in
theorem ggX5_score_X3_scoreOf : GoodIn wsX5_score wsX3_scoreOf := goodIn_r _ [22, 23, 24, 25, 26, 27, 20, 28, 29, 30, 31, 15, 32, 33, 49, 50, 51, 52, 53, 54, 55, 56] (by decide +kernel) (by decide +kernel)
set_option maxRecDepth 20000 in
theorem gX5_score_X3_scoreOf_n183 : GoodIn wsX5_score (wsX3_scoreOf) := ggX5_score_X3_scoreOf
theorem dX5_score_0 : decode cX5_score 0 = .ok (.aload_n 0, 1) := by decide +kernel
theorem dX5_score_1 : decode cX5_score 1 = .ok (.iload_n 1, 1) := by decide +kernel
theorem dX5_score_2 : decode cX5_score 2 = .ok (.invokevirtual 108, 3) := by decide +kernel
theorem dX5_score_5 : decode cX5_score 5 = .ok (.ifCond .ne 7, 3) := by decide +kernel
theorem dX5_score_8 : decode cX5_score 8 = .ok (.sipush (-1001), 3) := by decide +kernel
theorem dX5_score_11 : decode cX5_score 11 = .ok (.ireturn, 1) := by decide +kernel
theorem dX5_score_12 : decode cX5_score 12 = .ok (.aload_n 0, 1) := by decide +kernel
theorem dX5_score_13 : decode cX5_score 13 = .ok (.getfield 40, 3) := by decide +kernel
theorem dX5_score_16 : decode cX5_score 16 = .ok (.aload_n 0, 1) := by decide +kernel
theorem dX5_score_17 : decode cX5_score 17 = .ok (.getfield 33, 3) := by decide +kernel
theorem dX5_score_20 : decode cX5_score 20 = .ok (.iload_n 1, 1) := by decide +kernel
theorem dX5_score_21 : decode cX5_score 21 = .ok (.invokevirtual 114, 3) := by decide +kernel
theorem dX5_score_24 : decode cX5_score 24 = .ok (.invokevirtual 183, 3) := by decide +kernel
theorem dX5_score_27 : decode cX5_score 27 = .ok (.ireturn, 1) := by decide +kernel
set_option maxRecDepth 20000 in
theorem ggX5_lawful_X5_lawfulMessage : GoodIn wsX5_lawful wsX5_lawfulMessage := goodIn_r _ [5, 6, 7, 8, 9, 10, 11, 4, 12, 13, 14, 15, 16, 17, 18, 19, 20, 21, 22, 23, 24, 25, 26, 27, 28, 29, 30, 31, 32, 33, 34, 35, 36, 37, 38, 39, 40, 41, 42, 43, 44, 45, 46, 47, 48, 49, 50, 51, 52, 53, 54, 55, 56, 57, 58, 59, 60, 61, 62, 63, 64, 65, 66, 67, 68, 69, 70, 71, 72, 73, 74] (by decide +kernel) (by decide +kernel)
set_option maxRecDepth 20000 in
theorem gX5_lawful_X5_lawfulMessage : GoodIn wsX5_lawful (wsV RX5 149 RX5 yX5_lawfulMessage wsX5_lawfulMessage) := goodIn_app (goodIn_of _ (by decide +kernel)) ggX5_lawful_X5_lawfulMessage
theorem dX5_lawful_0 : decode cX5_lawful 0 = .ok (.aload_n 0, 1) := by decide +kernel
theorem dX5_lawful_1 : decode cX5_lawful 1 = .ok (.invokevirtual 149, 3) := by decide +kernel
theorem dX5_lawful_4 : decode cX5_lawful 4 = .ok (.iconst (-1), 1) := by decide +kernel
theorem dX5_lawful_5 : decode cX5_lawful 5 = .ok (.if_icmp .ne 7, 3) := by decide +kernel
theorem dX5_lawful_8 : decode cX5_lawful 8 = .ok (.iconst 0, 1) := by decide +kernel
theorem dX5_lawful_9 : decode cX5_lawful 9 = .ok (.goto 4, 3) := by decide +kernel
theorem dX5_lawful_12 : decode cX5_lawful 12 = .ok (.iconst 1, 1) := by decide +kernel
theorem dX5_lawful_13 : decode cX5_lawful 13 = .ok (.ireturn, 1) := by decide +kernel
set_option maxRecDepth 20000 in
theorem ggX5_decode_X5_lawfulMessage : GoodIn wsX5_decode wsX5_lawfulMessage := goodIn_r _ [5, 6, 7, 8, 9, 10, 11, 4, 12, 13, 14, 15, 16, 17, 18, 19, 20, 21, 22, 23, 24, 25, 26, 27, 28, 29, 30, 31, 32, 33, 34, 35, 36, 37, 38, 39, 40, 41, 42, 43, 44, 45, 46, 47, 48, 49, 50, 51, 52, 53, 54, 55, 56, 57, 58, 59, 60, 61, 62, 63, 64, 65, 66, 67, 68, 69, 70, 71, 72, 73, 74] (by decide +kernel) (by decide +kernel)
set_option maxRecDepth 20000 in
theorem gX5_decode_X5_lawfulMessage : GoodIn wsX5_decode (wsV RX5 149 RX5 yX5_lawfulMessage wsX5_lawfulMessage) := goodIn_app (goodIn_of _ (by decide +kernel)) ggX5_decode_X5_lawfulMessage
theorem dX5_decode_0 : decode cX5_decode 0 = .ok (.aload_n 0, 1) := by decide +kernel
theorem dX5_decode_1 : decode cX5_decode 1 = .ok (.invokevirtual 149, 3) := by decide +kernel
theorem dX5_decode_4 : decode cX5_decode 4 = .ok (.istore_n 1, 1) := by decide +kernel
theorem dX5_decode_5 : decode cX5_decode 5 = .ok (.iload_n 1, 1) := by decide +kernel
theorem dX5_decode_6 : decode cX5_decode 6 = .ok (.iconst (-1), 1) := by decide +kernel
theorem dX5_decode_7 : decode cX5_decode 7 = .ok (.if_icmp .ne 9, 3) := by decide +kernel
theorem dX5_decode_10 : decode cX5_decode 10 = .ok (.sipush (-1004), 3) := by decide +kernel
theorem dX5_decode_13 : decode cX5_decode 13 = .ok (.goto 4, 3) := by decide +kernel
theorem dX5_decode_16 : decode cX5_decode 16 = .ok (.iload_n 1, 1) := by decide +kernel
theorem dX5_decode_17 : decode cX5_decode 17 = .ok (.ireturn, 1) := by decide +kernel
set_option maxRecDepth 20000 in
theorem ggX5_decidingTrial_X5_lawfulMessage : GoodIn wsX5_decidingTrial wsX5_lawfulMessage := goodIn_r _ [8, 1, 2, 3, 9, 10, 11, 7, 12, 13, 14, 15, 16, 17, 18, 19, 20, 21, 22, 23, 24, 25, 26, 27, 28, 29, 30, 31, 32, 33, 34, 35, 36, 37, 38, 39, 40, 41, 42, 43, 44, 45, 46, 47, 48, 49, 59, 60, 61, 62, 63, 64, 65, 66, 67, 68, 69, 70, 71, 72, 73, 74, 75, 76, 77, 78, 79, 80, 81, 82, 83] (by decide +kernel) (by decide +kernel)
set_option maxRecDepth 20000 in
theorem gX5_decidingTrial_X5_lawfulMessage : GoodIn wsX5_decidingTrial (wsV RX5 149 RX5 yX5_lawfulMessage wsX5_lawfulMessage) := goodIn_app (goodIn_of _ (by decide +kernel)) ggX5_decidingTrial_X5_lawfulMessage
set_option maxRecDepth 20000 in
theorem ggX5_decidingTrial_X4_outerDistance : GoodIn wsX5_decidingTrial wsX4_outerDistance := goodIn_r _ [17, 18, 19, 68, 69, 70, 71, 72, 73, 74] (by decide +kernel) (by decide +kernel)
set_option maxRecDepth 20000 in
theorem gX5_decidingTrial_X4_outerDistance_n87 : GoodIn wsX5_decidingTrial (wsX4_outerDistance) := ggX5_decidingTrial_X4_outerDistance
set_option maxRecDepth 20000 in
theorem ggX5_decidingTrial_X2_codeword : GoodIn wsX5_decidingTrial wsX2_codeword := goodIn_r _ [26, 27, 75] (by decide +kernel) (by decide +kernel)
set_option maxRecDepth 20000 in
theorem gX5_decidingTrial_X2_codeword_n114 : GoodIn wsX5_decidingTrial (wsX2_codeword) := ggX5_decidingTrial_X2_codeword
set_option maxRecDepth 20000 in
theorem ggX5_decidingTrial_X3_keptBlocks : GoodIn wsX5_decidingTrial wsX3_keptBlocks := goodIn_r _ [52, 33, 47, 53, 54, 76, 77, 78, 79, 80, 81, 82, 83] (by decide +kernel) (by decide +kernel)
set_option maxRecDepth 20000 in
theorem gX5_decidingTrial_X3_keptBlocks_n173 : GoodIn wsX5_decidingTrial (wsX3_keptBlocks) := ggX5_decidingTrial_X3_keptBlocks
set_option maxRecDepth 20000 in
theorem ggX5_decidingTrial_X5_isResult : GoodIn wsX5_decidingTrial wsX5_isResult := goodIn_r _ [58, 3, 1, 28, 29, 30, 31, 32, 33, 34, 24, 35, 36, 37, 38, 39, 40, 41, 42, 43, 14, 15, 16, 17, 18, 19, 59, 60, 61, 62, 63, 64, 65, 76, 77, 78, 79, 80, 81, 82, 83, 68, 69, 70, 71, 72, 73, 74] (by decide +kernel) (by decide +kernel)
set_option maxRecDepth 20000 in
theorem gX5_decidingTrial_X5_isResult : GoodIn wsX5_decidingTrial (wsV RX5 179 RX5 yX5_isResult wsX5_isResult) := goodIn_app (goodIn_of _ (by decide +kernel)) ggX5_decidingTrial_X5_isResult
theorem dX5_decidingTrial_0 : decode cX5_decidingTrial 0 = .ok (.aload_n 0, 1) := by decide +kernel
theorem dX5_decidingTrial_1 : decode cX5_decidingTrial 1 = .ok (.invokevirtual 149, 3) := by decide +kernel
theorem dX5_decidingTrial_4 : decode cX5_decidingTrial 4 = .ok (.istore_n 1, 1) := by decide +kernel
theorem dX5_decidingTrial_5 : decode cX5_decidingTrial 5 = .ok (.iload_n 1, 1) := by decide +kernel
theorem dX5_decidingTrial_6 : decode cX5_decidingTrial 6 = .ok (.iconst (-1), 1) := by decide +kernel
theorem dX5_decidingTrial_7 : decode cX5_decidingTrial 7 = .ok (.if_icmp .ne 7, 3) := by decide +kernel
theorem dX5_decidingTrial_10 : decode cX5_decidingTrial 10 = .ok (.sipush (-1004), 3) := by decide +kernel
theorem dX5_decidingTrial_13 : decode cX5_decidingTrial 13 = .ok (.ireturn, 1) := by decide +kernel
theorem dX5_decidingTrial_14 : decode cX5_decidingTrial 14 = .ok (.iconst 0, 1) := by decide +kernel
theorem dX5_decidingTrial_15 : decode cX5_decidingTrial 15 = .ok (.istore_n 2, 1) := by decide +kernel
theorem dX5_decidingTrial_16 : decode cX5_decidingTrial 16 = .ok (.iload_n 2, 1) := by decide +kernel
theorem dX5_decidingTrial_17 : decode cX5_decidingTrial 17 = .ok (.aload_n 0, 1) := by decide +kernel
theorem dX5_decidingTrial_18 : decode cX5_decidingTrial 18 = .ok (.getfield 10, 3) := by decide +kernel
theorem dX5_decidingTrial_21 : decode cX5_decidingTrial 21 = .ok (.invokevirtual 87, 3) := by decide +kernel
theorem dX5_decidingTrial_24 : decode cX5_decidingTrial 24 = .ok (.if_icmp .ge 35, 3) := by decide +kernel
theorem dX5_decidingTrial_27 : decode cX5_decidingTrial 27 = .ok (.aload_n 0, 1) := by decide +kernel
theorem dX5_decidingTrial_28 : decode cX5_decidingTrial 28 = .ok (.aload_n 0, 1) := by decide +kernel
theorem dX5_decidingTrial_29 : decode cX5_decidingTrial 29 = .ok (.getfield 33, 3) := by decide +kernel
theorem dX5_decidingTrial_32 : decode cX5_decidingTrial 32 = .ok (.iload_n 1, 1) := by decide +kernel
theorem dX5_decidingTrial_33 : decode cX5_decidingTrial 33 = .ok (.invokevirtual 114, 3) := by decide +kernel
theorem dX5_decidingTrial_36 : decode cX5_decidingTrial 36 = .ok (.iload_n 2, 1) := by decide +kernel
theorem dX5_decidingTrial_37 : decode cX5_decidingTrial 37 = .ok (.aload_n 0, 1) := by decide +kernel
theorem dX5_decidingTrial_38 : decode cX5_decidingTrial 38 = .ok (.getfield 40, 3) := by decide +kernel
theorem dX5_decidingTrial_41 : decode cX5_decidingTrial 41 = .ok (.iload_n 2, 1) := by decide +kernel
theorem dX5_decidingTrial_42 : decode cX5_decidingTrial 42 = .ok (.invokevirtual 173, 3) := by decide +kernel
theorem dX5_decidingTrial_45 : decode cX5_decidingTrial 45 = .ok (.invokevirtual 179, 3) := by decide +kernel
theorem dX5_decidingTrial_48 : decode cX5_decidingTrial 48 = .ok (.ifCond .eq 5, 3) := by decide +kernel
theorem dX5_decidingTrial_51 : decode cX5_decidingTrial 51 = .ok (.iload_n 2, 1) := by decide +kernel
theorem dX5_decidingTrial_52 : decode cX5_decidingTrial 52 = .ok (.ireturn, 1) := by decide +kernel
theorem dX5_decidingTrial_53 : decode cX5_decidingTrial 53 = .ok (.iinc 2 1, 3) := by decide +kernel
theorem dX5_decidingTrial_56 : decode cX5_decidingTrial 56 = .ok (.goto (-40), 3) := by decide +kernel
theorem dX5_decidingTrial_59 : decode cX5_decidingTrial 59 = .ok (.sipush (-1004), 3) := by decide +kernel
theorem dX5_decidingTrial_62 : decode cX5_decidingTrial 62 = .ok (.ireturn, 1) := by decide +kernel
set_option maxRecDepth 20000 in
theorem ggX5_margin_X5_lawfulMessage : GoodIn wsX5_margin wsX5_lawfulMessage := goodIn_r _ [7, 8, 2, 1, 9, 10, 11, 6, 12, 13, 14, 15, 16, 17, 18, 19, 20, 21, 22, 23, 24, 25, 26, 27, 28, 29, 30, 31, 32, 33, 34, 35, 36, 37, 38, 39, 40, 41, 42, 43, 44, 45, 46, 47, 48, 49, 50, 51, 52, 53, 54, 55, 56, 57, 58, 59, 60, 61, 62, 63, 64, 65, 66, 67, 68, 69, 70, 71, 72, 73, 74] (by decide +kernel) (by decide +kernel)
set_option maxRecDepth 20000 in
theorem gX5_margin_X5_lawfulMessage : GoodIn wsX5_margin (wsV RX5 149 RX5 yX5_lawfulMessage wsX5_lawfulMessage) := goodIn_app (goodIn_of _ (by decide +kernel)) ggX5_margin_X5_lawfulMessage
set_option maxRecDepth 20000 in
theorem ggX5_margin_X2_codeword : GoodIn wsX5_margin wsX2_codeword := goodIn_r _ [26, 27, 66] (by decide +kernel) (by decide +kernel)
set_option maxRecDepth 20000 in
theorem gX5_margin_X2_codeword_n114 : GoodIn wsX5_margin (wsX2_codeword) := ggX5_margin_X2_codeword
set_option maxRecDepth 20000 in
theorem ggX5_margin_X3_scoreOf : GoodIn wsX5_margin wsX3_scoreOf := goodIn_r _ [46, 47, 48, 49, 28, 30, 29, 31, 32, 33, 34, 24, 35, 36, 67, 68, 69, 70, 71, 72, 73, 74] (by decide +kernel) (by decide +kernel)
set_option maxRecDepth 20000 in
theorem gX5_margin_X3_scoreOf_n183 : GoodIn wsX5_margin (wsX3_scoreOf) := ggX5_margin_X3_scoreOf
set_option maxRecDepth 20000 in
theorem ggX5_margin_X5_lawBound : GoodIn wsX5_margin wsX5_lawBound := goodIn_r _ [12, 13, 8, 14, 15, 16, 17, 18, 19, 50, 51, 52, 53, 54, 55, 56, 57, 58, 59, 60, 61, 62, 63, 64, 65] (by decide +kernel) (by decide +kernel)
set_option maxRecDepth 20000 in
theorem gX5_margin_X5_lawBound : GoodIn wsX5_margin (wsV RX5 187 RX5 yX5_lawBound wsX5_lawBound) := goodIn_app (goodIn_of _ (by decide +kernel)) ggX5_margin_X5_lawBound
theorem dX5_margin_0 : decode cX5_margin 0 = .ok (.aload_n 0, 1) := by decide +kernel
theorem dX5_margin_1 : decode cX5_margin 1 = .ok (.invokevirtual 149, 3) := by decide +kernel
theorem dX5_margin_4 : decode cX5_margin 4 = .ok (.istore_n 1, 1) := by decide +kernel
theorem dX5_margin_5 : decode cX5_margin 5 = .ok (.iload_n 1, 1) := by decide +kernel
theorem dX5_margin_6 : decode cX5_margin 6 = .ok (.iconst (-1), 1) := by decide +kernel
theorem dX5_margin_7 : decode cX5_margin 7 = .ok (.if_icmp .ne 7, 3) := by decide +kernel
theorem dX5_margin_10 : decode cX5_margin 10 = .ok (.sipush (-1004), 3) := by decide +kernel
theorem dX5_margin_13 : decode cX5_margin 13 = .ok (.ireturn, 1) := by decide +kernel
theorem dX5_margin_14 : decode cX5_margin 14 = .ok (.aload_n 0, 1) := by decide +kernel
theorem dX5_margin_15 : decode cX5_margin 15 = .ok (.getfield 40, 3) := by decide +kernel
theorem dX5_margin_18 : decode cX5_margin 18 = .ok (.aload_n 0, 1) := by decide +kernel
theorem dX5_margin_19 : decode cX5_margin 19 = .ok (.getfield 33, 3) := by decide +kernel
theorem dX5_margin_22 : decode cX5_margin 22 = .ok (.iload_n 1, 1) := by decide +kernel
theorem dX5_margin_23 : decode cX5_margin 23 = .ok (.invokevirtual 114, 3) := by decide +kernel
theorem dX5_margin_26 : decode cX5_margin 26 = .ok (.invokevirtual 183, 3) := by decide +kernel
theorem dX5_margin_29 : decode cX5_margin 29 = .ok (.aload_n 0, 1) := by decide +kernel
theorem dX5_margin_30 : decode cX5_margin 30 = .ok (.invokevirtual 187, 3) := by decide +kernel
theorem dX5_margin_33 : decode cX5_margin 33 = .ok (.isub, 1) := by decide +kernel
theorem dX5_margin_34 : decode cX5_margin 34 = .ok (.ireturn, 1) := by decide +kernel
set_option maxRecDepth 20000 in
theorem ggX5_wastedTrials_X4_outerDistance : GoodIn wsX5_wastedTrials wsX4_outerDistance := goodIn_r _ [7, 8, 9, 66, 67, 68, 69, 70, 71, 72] (by decide +kernel) (by decide +kernel)
set_option maxRecDepth 20000 in
theorem gX5_wastedTrials_X4_outerDistance_n87 : GoodIn wsX5_wastedTrials (wsX4_outerDistance) := ggX5_wastedTrials_X4_outerDistance
set_option maxRecDepth 20000 in
theorem ggX5_wastedTrials_X5_lawfulMessage : GoodIn wsX5_wastedTrials wsX5_lawfulMessage := goodIn_r _ [14, 1, 2, 3, 15, 16, 17, 13, 18, 19, 4, 5, 6, 7, 8, 9, 20, 21, 22, 23, 24, 25, 26, 27, 28, 29, 30, 31, 32, 33, 34, 35, 36, 37, 38, 39, 40, 41, 42, 43, 44, 45, 46, 47, 48, 49, 59, 60, 61, 62, 63, 64, 65, 73, 74, 66, 67, 68, 69, 70, 71, 72, 75, 76, 77, 78, 79, 80, 81, 82, 83] (by decide +kernel) (by decide +kernel)
set_option maxRecDepth 20000 in
theorem gX5_wastedTrials_X5_lawfulMessage : GoodIn wsX5_wastedTrials (wsV RX5 149 RX5 yX5_lawfulMessage wsX5_lawfulMessage) := goodIn_app (goodIn_of _ (by decide +kernel)) ggX5_wastedTrials_X5_lawfulMessage
set_option maxRecDepth 20000 in
theorem ggX5_wastedTrials_X2_codeword : GoodIn wsX5_wastedTrials wsX2_codeword := goodIn_r _ [26, 27, 75] (by decide +kernel) (by decide +kernel)
set_option maxRecDepth 20000 in
theorem gX5_wastedTrials_X2_codeword_n114 : GoodIn wsX5_wastedTrials (wsX2_codeword) := ggX5_wastedTrials_X2_codeword
set_option maxRecDepth 20000 in
theorem ggX5_wastedTrials_X3_keptBlocks : GoodIn wsX5_wastedTrials wsX3_keptBlocks := goodIn_r _ [52, 33, 47, 53, 54, 76, 77, 78, 79, 80, 81, 82, 83] (by decide +kernel) (by decide +kernel)
set_option maxRecDepth 20000 in
theorem gX5_wastedTrials_X3_keptBlocks_n173 : GoodIn wsX5_wastedTrials (wsX3_keptBlocks) := ggX5_wastedTrials_X3_keptBlocks
set_option maxRecDepth 20000 in
theorem ggX5_wastedTrials_X5_isResult : GoodIn wsX5_wastedTrials wsX5_isResult := goodIn_r _ [58, 3, 1, 28, 29, 30, 31, 32, 33, 34, 24, 35, 36, 37, 38, 39, 40, 41, 42, 43, 4, 5, 6, 7, 8, 9, 59, 60, 61, 62, 63, 64, 65, 76, 77, 78, 79, 80, 81, 82, 83, 66, 67, 68, 69, 70, 71, 72] (by decide +kernel) (by decide +kernel)
set_option maxRecDepth 20000 in
theorem gX5_wastedTrials_X5_isResult : GoodIn wsX5_wastedTrials (wsV RX5 179 RX5 yX5_isResult wsX5_isResult) := goodIn_app (goodIn_of _ (by decide +kernel)) ggX5_wastedTrials_X5_isResult
theorem dX5_wastedTrials_0 : decode cX5_wastedTrials 0 = .ok (.aload_n 0, 1) := by decide +kernel
theorem dX5_wastedTrials_1 : decode cX5_wastedTrials 1 = .ok (.getfield 10, 3) := by decide +kernel
theorem dX5_wastedTrials_4 : decode cX5_wastedTrials 4 = .ok (.invokevirtual 87, 3) := by decide +kernel
theorem dX5_wastedTrials_7 : decode cX5_wastedTrials 7 = .ok (.istore_n 1, 1) := by decide +kernel
theorem dX5_wastedTrials_8 : decode cX5_wastedTrials 8 = .ok (.aload_n 0, 1) := by decide +kernel
theorem dX5_wastedTrials_9 : decode cX5_wastedTrials 9 = .ok (.invokevirtual 149, 3) := by decide +kernel
theorem dX5_wastedTrials_12 : decode cX5_wastedTrials 12 = .ok (.istore_n 2, 1) := by decide +kernel
theorem dX5_wastedTrials_13 : decode cX5_wastedTrials 13 = .ok (.iload_n 2, 1) := by decide +kernel
theorem dX5_wastedTrials_14 : decode cX5_wastedTrials 14 = .ok (.iconst (-1), 1) := by decide +kernel
theorem dX5_wastedTrials_15 : decode cX5_wastedTrials 15 = .ok (.if_icmp .ne 5, 3) := by decide +kernel
theorem dX5_wastedTrials_18 : decode cX5_wastedTrials 18 = .ok (.iload_n 1, 1) := by decide +kernel
theorem dX5_wastedTrials_19 : decode cX5_wastedTrials 19 = .ok (.ireturn, 1) := by decide +kernel
theorem dX5_wastedTrials_20 : decode cX5_wastedTrials 20 = .ok (.iconst 0, 1) := by decide +kernel
theorem dX5_wastedTrials_21 : decode cX5_wastedTrials 21 = .ok (.istore_n 3, 1) := by decide +kernel
theorem dX5_wastedTrials_22 : decode cX5_wastedTrials 22 = .ok (.iconst 0, 1) := by decide +kernel
theorem dX5_wastedTrials_23 : decode cX5_wastedTrials 23 = .ok (.istore 4, 2) := by decide +kernel
theorem dX5_wastedTrials_25 : decode cX5_wastedTrials 25 = .ok (.iload 4, 2) := by decide +kernel
theorem dX5_wastedTrials_27 : decode cX5_wastedTrials 27 = .ok (.iload_n 1, 1) := by decide +kernel
theorem dX5_wastedTrials_28 : decode cX5_wastedTrials 28 = .ok (.if_icmp .ge 38, 3) := by decide +kernel
theorem dX5_wastedTrials_31 : decode cX5_wastedTrials 31 = .ok (.aload_n 0, 1) := by decide +kernel
theorem dX5_wastedTrials_32 : decode cX5_wastedTrials 32 = .ok (.aload_n 0, 1) := by decide +kernel
theorem dX5_wastedTrials_33 : decode cX5_wastedTrials 33 = .ok (.getfield 33, 3) := by decide +kernel
theorem dX5_wastedTrials_36 : decode cX5_wastedTrials 36 = .ok (.iload_n 2, 1) := by decide +kernel
theorem dX5_wastedTrials_37 : decode cX5_wastedTrials 37 = .ok (.invokevirtual 114, 3) := by decide +kernel
theorem dX5_wastedTrials_40 : decode cX5_wastedTrials 40 = .ok (.iload 4, 2) := by decide +kernel
theorem dX5_wastedTrials_42 : decode cX5_wastedTrials 42 = .ok (.aload_n 0, 1) := by decide +kernel
theorem dX5_wastedTrials_43 : decode cX5_wastedTrials 43 = .ok (.getfield 40, 3) := by decide +kernel
theorem dX5_wastedTrials_46 : decode cX5_wastedTrials 46 = .ok (.iload 4, 2) := by decide +kernel
theorem dX5_wastedTrials_48 : decode cX5_wastedTrials 48 = .ok (.invokevirtual 173, 3) := by decide +kernel
theorem dX5_wastedTrials_51 : decode cX5_wastedTrials 51 = .ok (.invokevirtual 179, 3) := by decide +kernel
theorem dX5_wastedTrials_54 : decode cX5_wastedTrials 54 = .ok (.ifCond .ne 6, 3) := by decide +kernel
theorem dX5_wastedTrials_57 : decode cX5_wastedTrials 57 = .ok (.iinc 3 1, 3) := by decide +kernel
theorem dX5_wastedTrials_60 : decode cX5_wastedTrials 60 = .ok (.iinc 4 1, 3) := by decide +kernel
theorem dX5_wastedTrials_63 : decode cX5_wastedTrials 63 = .ok (.goto (-38), 3) := by decide +kernel
theorem dX5_wastedTrials_66 : decode cX5_wastedTrials 66 = .ok (.iload_n 3, 1) := by decide +kernel
theorem dX5_wastedTrials_67 : decode cX5_wastedTrials 67 = .ok (.ireturn, 1) := by decide +kernel
set_option maxRecDepth 20000 in
theorem ggX5_isGuaranteed_X5_wrongBits : GoodIn wsX5_isGuaranteed wsX5_wrongBits := goodIn_r _ [7, 2, 8, 9, 10, 6, 11, 1, 12, 13, 14, 15, 16, 17, 18, 19, 20, 21, 22, 23, 24, 25, 26, 27, 38, 39, 40, 41, 42, 43, 44, 47, 48, 49, 50, 51, 52, 53, 45, 46, 54] (by decide +kernel) (by decide +kernel)
set_option maxRecDepth 20000 in
theorem gX5_isGuaranteed_X5_wrongBits : GoodIn wsX5_isGuaranteed (wsV RX5 94 RX5 yX5_wrongBits wsX5_wrongBits) := goodIn_app (goodIn_of _ (by decide +kernel)) ggX5_isGuaranteed_X5_wrongBits
set_option maxRecDepth 20000 in
theorem ggX5_isGuaranteed_X5_lostBlocks : GoodIn wsX5_isGuaranteed wsX5_lostBlocks := goodIn_r _ [31, 2, 38, 39, 40, 41, 42, 43, 44, 47, 48, 49, 50, 51, 52, 53] (by decide +kernel) (by decide +kernel)
set_option maxRecDepth 20000 in
theorem gX5_isGuaranteed_X5_lostBlocks : GoodIn wsX5_isGuaranteed (wsV RX5 91 RX5 yX5_lostBlocks wsX5_lostBlocks) := goodIn_app (goodIn_of _ (by decide +kernel)) ggX5_isGuaranteed_X5_lostBlocks
set_option maxRecDepth 20000 in
theorem ggX5_isGuaranteed_X4_outerDistance : GoodIn wsX5_isGuaranteed wsX4_outerDistance := goodIn_r _ [35, 36, 37, 47, 48, 49, 50, 51, 52, 53] (by decide +kernel) (by decide +kernel)
set_option maxRecDepth 20000 in
theorem gX5_isGuaranteed_X4_outerDistance_n87 : GoodIn wsX5_isGuaranteed (wsX4_outerDistance) := ggX5_isGuaranteed_X4_outerDistance
theorem dX5_isGuaranteed_0 : decode cX5_isGuaranteed 0 = .ok (.iconst 2, 1) := by decide +kernel
theorem dX5_isGuaranteed_1 : decode cX5_isGuaranteed 1 = .ok (.aload_n 0, 1) := by decide +kernel
theorem dX5_isGuaranteed_2 : decode cX5_isGuaranteed 2 = .ok (.invokevirtual 94, 3) := by decide +kernel
theorem dX5_isGuaranteed_5 : decode cX5_isGuaranteed 5 = .ok (.imul, 1) := by decide +kernel
theorem dX5_isGuaranteed_6 : decode cX5_isGuaranteed 6 = .ok (.aload_n 0, 1) := by decide +kernel
theorem dX5_isGuaranteed_7 : decode cX5_isGuaranteed 7 = .ok (.getfield 26, 3) := by decide +kernel
theorem dX5_isGuaranteed_10 : decode cX5_isGuaranteed 10 = .ok (.getfield 78, 3) := by decide +kernel
theorem dX5_isGuaranteed_13 : decode cX5_isGuaranteed 13 = .ok (.aload_n 0, 1) := by decide +kernel
theorem dX5_isGuaranteed_14 : decode cX5_isGuaranteed 14 = .ok (.invokevirtual 91, 3) := by decide +kernel
theorem dX5_isGuaranteed_17 : decode cX5_isGuaranteed 17 = .ok (.imul, 1) := by decide +kernel
theorem dX5_isGuaranteed_18 : decode cX5_isGuaranteed 18 = .ok (.iadd, 1) := by decide +kernel
theorem dX5_isGuaranteed_19 : decode cX5_isGuaranteed 19 = .ok (.istore_n 1, 1) := by decide +kernel
theorem dX5_isGuaranteed_20 : decode cX5_isGuaranteed 20 = .ok (.iload_n 1, 1) := by decide +kernel
theorem dX5_isGuaranteed_21 : decode cX5_isGuaranteed 21 = .ok (.aload_n 0, 1) := by decide +kernel
theorem dX5_isGuaranteed_22 : decode cX5_isGuaranteed 22 = .ok (.getfield 26, 3) := by decide +kernel
theorem dX5_isGuaranteed_25 : decode cX5_isGuaranteed 25 = .ok (.getfield 78, 3) := by decide +kernel
theorem dX5_isGuaranteed_28 : decode cX5_isGuaranteed 28 = .ok (.aload_n 0, 1) := by decide +kernel
theorem dX5_isGuaranteed_29 : decode cX5_isGuaranteed 29 = .ok (.getfield 10, 3) := by decide +kernel
theorem dX5_isGuaranteed_32 : decode cX5_isGuaranteed 32 = .ok (.invokevirtual 87, 3) := by decide +kernel
theorem dX5_isGuaranteed_35 : decode cX5_isGuaranteed 35 = .ok (.imul, 1) := by decide +kernel
theorem dX5_isGuaranteed_36 : decode cX5_isGuaranteed 36 = .ok (.if_icmp .ge 7, 3) := by decide +kernel
theorem dX5_isGuaranteed_39 : decode cX5_isGuaranteed 39 = .ok (.iconst 1, 1) := by decide +kernel
theorem dX5_isGuaranteed_40 : decode cX5_isGuaranteed 40 = .ok (.goto 4, 3) := by decide +kernel
theorem dX5_isGuaranteed_43 : decode cX5_isGuaranteed 43 = .ok (.iconst 0, 1) := by decide +kernel
theorem dX5_isGuaranteed_44 : decode cX5_isGuaranteed 44 = .ok (.ireturn, 1) := by decide +kernel
set_option maxRecDepth 20000 in
theorem ggX5_fragileBits_X5_fragileBitsOf : GoodIn wsX5_fragileBits wsX5_fragileBitsOf := goodIn_r _ [6, 7, 8, 1, 9, 10, 11, 12, 5, 13, 14, 15, 16, 17, 18, 19, 20, 21, 22, 23, 24, 25, 26, 27, 28, 29, 30, 31, 32, 33, 34, 35, 36, 37, 38, 39, 40, 41, 42, 43, 44, 45, 46, 47, 48, 49, 50, 51, 52, 53, 54, 55, 56, 57, 58, 59, 60, 61, 62, 63, 64, 65, 66, 67, 68, 69, 70, 71, 72, 73, 74, 75, 76, 77, 78, 79, 80, 81, 82, 83, 84, 85, 86, 87, 88, 89, 90, 91, 92, 93, 94, 95, 96, 97, 98, 99] (by decide +kernel) (by decide +kernel)
set_option maxRecDepth 20000 in
theorem gX5_fragileBits_X5_fragileBitsOf : GoodIn wsX5_fragileBits (wsV RX5 190 RX5 yX5_fragileBitsOf wsX5_fragileBitsOf) := goodIn_app (goodIn_of _ (by decide +kernel)) ggX5_fragileBits_X5_fragileBitsOf
theorem dX5_fragileBits_0 : decode cX5_fragileBits 0 = .ok (.iconst 0, 1) := by decide +kernel
theorem dX5_fragileBits_1 : decode cX5_fragileBits 1 = .ok (.istore_n 1, 1) := by decide +kernel
theorem dX5_fragileBits_2 : decode cX5_fragileBits 2 = .ok (.iconst 0, 1) := by decide +kernel
theorem dX5_fragileBits_3 : decode cX5_fragileBits 3 = .ok (.istore_n 2, 1) := by decide +kernel
theorem dX5_fragileBits_4 : decode cX5_fragileBits 4 = .ok (.iload_n 2, 1) := by decide +kernel
theorem dX5_fragileBits_5 : decode cX5_fragileBits 5 = .ok (.aload_n 0, 1) := by decide +kernel
theorem dX5_fragileBits_6 : decode cX5_fragileBits 6 = .ok (.getfield 10, 3) := by decide +kernel
theorem dX5_fragileBits_9 : decode cX5_fragileBits 9 = .ok (.getfield 55, 3) := by decide +kernel
theorem dX5_fragileBits_12 : decode cX5_fragileBits 12 = .ok (.if_icmp .ge 29, 3) := by decide +kernel
theorem dX5_fragileBits_15 : decode cX5_fragileBits 15 = .ok (.aload_n 0, 1) := by decide +kernel
theorem dX5_fragileBits_16 : decode cX5_fragileBits 16 = .ok (.getfield 10, 3) := by decide +kernel
theorem dX5_fragileBits_19 : decode cX5_fragileBits 19 = .ok (.getfield 138, 3) := by decide +kernel
theorem dX5_fragileBits_22 : decode cX5_fragileBits 22 = .ok (.iload_n 2, 1) := by decide +kernel
theorem dX5_fragileBits_23 : decode cX5_fragileBits 23 = .ok (.baload, 1) := by decide +kernel
theorem dX5_fragileBits_24 : decode cX5_fragileBits 24 = .ok (.ifCond .ne 11, 3) := by decide +kernel
theorem dX5_fragileBits_27 : decode cX5_fragileBits 27 = .ok (.iload_n 1, 1) := by decide +kernel
theorem dX5_fragileBits_28 : decode cX5_fragileBits 28 = .ok (.aload_n 0, 1) := by decide +kernel
theorem dX5_fragileBits_29 : decode cX5_fragileBits 29 = .ok (.iload_n 2, 1) := by decide +kernel
theorem dX5_fragileBits_30 : decode cX5_fragileBits 30 = .ok (.invokevirtual 190, 3) := by decide +kernel
theorem dX5_fragileBits_33 : decode cX5_fragileBits 33 = .ok (.iadd, 1) := by decide +kernel
theorem dX5_fragileBits_34 : decode cX5_fragileBits 34 = .ok (.istore_n 1, 1) := by decide +kernel
theorem dX5_fragileBits_35 : decode cX5_fragileBits 35 = .ok (.iinc 2 1, 3) := by decide +kernel
theorem dX5_fragileBits_38 : decode cX5_fragileBits 38 = .ok (.goto (-34), 3) := by decide +kernel
theorem dX5_fragileBits_41 : decode cX5_fragileBits 41 = .ok (.iload_n 1, 1) := by decide +kernel
theorem dX5_fragileBits_42 : decode cX5_fragileBits 42 = .ok (.ireturn, 1) := by decide +kernel
set_option maxRecDepth 20000 in
theorem ggX5_fragileBlocks_X2_codeword : GoodIn wsX5_fragileBlocks wsX2_codeword := goodIn_r _ [7, 8, 61] (by decide +kernel) (by decide +kernel)
set_option maxRecDepth 20000 in
theorem gX5_fragileBlocks_X2_codeword_n114 : GoodIn wsX5_fragileBlocks (wsX2_codeword) := ggX5_fragileBlocks_X2_codeword
set_option maxRecDepth 20000 in
theorem ggX5_fragileBlocks_X3_scoreOf : GoodIn wsX5_fragileBlocks wsX3_scoreOf := goodIn_r _ [12, 13, 14, 15, 16, 17, 10, 18, 19, 20, 21, 5, 22, 23, 62, 63, 64, 65, 66, 67, 68, 69] (by decide +kernel) (by decide +kernel)
set_option maxRecDepth 20000 in
theorem gX5_fragileBlocks_X3_scoreOf_n183 : GoodIn wsX5_fragileBlocks (wsX3_scoreOf) := ggX5_fragileBlocks_X3_scoreOf
set_option maxRecDepth 20000 in
theorem ggX5_fragileBlocks_X5_partInSentScore : GoodIn wsX5_fragileBlocks wsX5_partInSentScore := goodIn_r _ [28, 1, 29, 30, 31, 27, 32, 2, 3, 4, 5, 6, 7, 8, 33, 34, 35, 47, 48, 49, 50, 51, 52, 53, 62, 63, 64, 65, 66, 67, 68, 69, 54, 55, 56, 57, 58, 59, 60, 61] (by decide +kernel) (by decide +kernel)
set_option maxRecDepth 20000 in
theorem gX5_fragileBlocks_X5_partInSentScore : GoodIn wsX5_fragileBlocks (wsV RX5 193 RX5 yX5_partInSentScore wsX5_partInSentScore) := goodIn_app (goodIn_of _ (by decide +kernel)) ggX5_fragileBlocks_X5_partInSentScore
set_option maxRecDepth 20000 in
theorem ggX5_fragileBlocks_X5_lawBound : GoodIn wsX5_fragileBlocks wsX5_lawBound := goodIn_r _ [39, 40, 3, 41, 42, 43, 44, 45, 46, 47, 48, 49, 50, 51, 52, 53, 70, 71, 54, 55, 56, 57, 58, 59, 60] (by decide +kernel) (by decide +kernel)
set_option maxRecDepth 20000 in
theorem gX5_fragileBlocks_X5_lawBound : GoodIn wsX5_fragileBlocks (wsV RX5 187 RX5 yX5_lawBound wsX5_lawBound) := goodIn_app (goodIn_of _ (by decide +kernel)) ggX5_fragileBlocks_X5_lawBound
theorem dX5_fragileBlocks_0 : decode cX5_fragileBlocks 0 = .ok (.aload_n 0, 1) := by decide +kernel
theorem dX5_fragileBlocks_1 : decode cX5_fragileBlocks 1 = .ok (.getfield 40, 3) := by decide +kernel
theorem dX5_fragileBlocks_4 : decode cX5_fragileBlocks 4 = .ok (.aload_n 0, 1) := by decide +kernel
theorem dX5_fragileBlocks_5 : decode cX5_fragileBlocks 5 = .ok (.getfield 33, 3) := by decide +kernel
theorem dX5_fragileBlocks_8 : decode cX5_fragileBlocks 8 = .ok (.aload_n 0, 1) := by decide +kernel
theorem dX5_fragileBlocks_9 : decode cX5_fragileBlocks 9 = .ok (.getfield 10, 3) := by decide +kernel
theorem dX5_fragileBlocks_12 : decode cX5_fragileBlocks 12 = .ok (.getfield 122, 3) := by decide +kernel
theorem dX5_fragileBlocks_15 : decode cX5_fragileBlocks 15 = .ok (.invokevirtual 114, 3) := by decide +kernel
theorem dX5_fragileBlocks_18 : decode cX5_fragileBlocks 18 = .ok (.invokevirtual 183, 3) := by decide +kernel
theorem dX5_fragileBlocks_21 : decode cX5_fragileBlocks 21 = .ok (.istore_n 1, 1) := by decide +kernel
theorem dX5_fragileBlocks_22 : decode cX5_fragileBlocks 22 = .ok (.iconst 0, 1) := by decide +kernel
theorem dX5_fragileBlocks_23 : decode cX5_fragileBlocks 23 = .ok (.istore_n 2, 1) := by decide +kernel
theorem dX5_fragileBlocks_24 : decode cX5_fragileBlocks 24 = .ok (.iconst 0, 1) := by decide +kernel
theorem dX5_fragileBlocks_25 : decode cX5_fragileBlocks 25 = .ok (.istore_n 3, 1) := by decide +kernel
theorem dX5_fragileBlocks_26 : decode cX5_fragileBlocks 26 = .ok (.iload_n 3, 1) := by decide +kernel
theorem dX5_fragileBlocks_27 : decode cX5_fragileBlocks 27 = .ok (.aload_n 0, 1) := by decide +kernel
theorem dX5_fragileBlocks_28 : decode cX5_fragileBlocks 28 = .ok (.getfield 10, 3) := by decide +kernel
theorem dX5_fragileBlocks_31 : decode cX5_fragileBlocks 31 = .ok (.getfield 55, 3) := by decide +kernel
theorem dX5_fragileBlocks_34 : decode cX5_fragileBlocks 34 = .ok (.if_icmp .ge 26, 3) := by decide +kernel
theorem dX5_fragileBlocks_37 : decode cX5_fragileBlocks 37 = .ok (.iload_n 1, 1) := by decide +kernel
theorem dX5_fragileBlocks_38 : decode cX5_fragileBlocks 38 = .ok (.aload_n 0, 1) := by decide +kernel
theorem dX5_fragileBlocks_39 : decode cX5_fragileBlocks 39 = .ok (.iload_n 3, 1) := by decide +kernel
theorem dX5_fragileBlocks_40 : decode cX5_fragileBlocks 40 = .ok (.invokevirtual 193, 3) := by decide +kernel
theorem dX5_fragileBlocks_43 : decode cX5_fragileBlocks 43 = .ok (.isub, 1) := by decide +kernel
theorem dX5_fragileBlocks_44 : decode cX5_fragileBlocks 44 = .ok (.aload_n 0, 1) := by decide +kernel
theorem dX5_fragileBlocks_45 : decode cX5_fragileBlocks 45 = .ok (.invokevirtual 187, 3) := by decide +kernel
theorem dX5_fragileBlocks_48 : decode cX5_fragileBlocks 48 = .ok (.if_icmp .gt 6, 3) := by decide +kernel
theorem dX5_fragileBlocks_51 : decode cX5_fragileBlocks 51 = .ok (.iinc 2 1, 3) := by decide +kernel
theorem dX5_fragileBlocks_54 : decode cX5_fragileBlocks 54 = .ok (.iinc 3 1, 3) := by decide +kernel
theorem dX5_fragileBlocks_57 : decode cX5_fragileBlocks 57 = .ok (.goto (-31), 3) := by decide +kernel
theorem dX5_fragileBlocks_60 : decode cX5_fragileBlocks 60 = .ok (.iload_n 2, 1) := by decide +kernel
theorem dX5_fragileBlocks_61 : decode cX5_fragileBlocks 61 = .ok (.ireturn, 1) := by decide +kernel
set_option maxRecDepth 20000 in
theorem ggX5_nearest_X5_lawfulMessage : GoodIn wsX5_nearest wsX5_lawfulMessage := goodIn_r _ [6, 1, 7, 8, 9, 10, 11, 5, 12, 13, 14, 15, 16, 17, 18, 19, 20, 21, 22, 23, 24, 25, 26, 27, 28, 29, 30, 31, 32, 33, 34, 35, 36, 37, 38, 39, 40, 41, 42, 43, 44, 45, 46, 47, 48, 49, 56, 57, 58, 59, 60, 61, 62, 63, 64, 65, 66, 67, 68, 69, 70, 71, 72, 73, 74, 75, 76, 77, 78, 79, 80] (by decide +kernel) (by decide +kernel)
set_option maxRecDepth 20000 in
theorem gX5_nearest_X5_lawfulMessage : GoodIn wsX5_nearest (wsV RX5 149 RX5 yX5_lawfulMessage wsX5_lawfulMessage) := goodIn_app (goodIn_of _ (by decide +kernel)) ggX5_nearest_X5_lawfulMessage
set_option maxRecDepth 20000 in
theorem ggX5_nearest_X4_outerDistance : GoodIn wsX5_nearest wsX4_outerDistance := goodIn_r _ [17, 18, 19, 65, 66, 67, 68, 69, 70, 71] (by decide +kernel) (by decide +kernel)
set_option maxRecDepth 20000 in
theorem gX5_nearest_X4_outerDistance_n87 : GoodIn wsX5_nearest (wsX4_outerDistance) := ggX5_nearest_X4_outerDistance
set_option maxRecDepth 20000 in
theorem ggX5_nearest_X5_nearestMessage : GoodIn wsX5_nearest wsX5_nearestMessage := goodIn_r _ [53, 7, 1, 23, 24, 25, 26, 27, 20, 15, 21, 22, 19, 34, 35, 36, 54, 55, 37, 38, 39, 40, 41, 42, 43, 14, 16, 17, 18, 56, 57, 58, 59, 60, 61, 62, 65, 66, 67, 68, 69, 70, 71, 72] (by decide +kernel) (by decide +kernel)
set_option maxRecDepth 20000 in
theorem gX5_nearest_X5_nearestMessage : GoodIn wsX5_nearest (wsV RX5 196 RX5 yX5_nearestMessage wsX5_nearestMessage) := goodIn_app (goodIn_of _ (by decide +kernel)) ggX5_nearest_X5_nearestMessage
theorem dX5_nearest_0 : decode cX5_nearest 0 = .ok (.iload_n 1, 1) := by decide +kernel
theorem dX5_nearest_1 : decode cX5_nearest 1 = .ok (.ifCond .lt 8, 3) := by decide +kernel
theorem dX5_nearest_4 : decode cX5_nearest 4 = .ok (.iload_n 1, 1) := by decide +kernel
theorem dX5_nearest_5 : decode cX5_nearest 5 = .ok (.iconst 1, 1) := by decide +kernel
theorem dX5_nearest_6 : decode cX5_nearest 6 = .ok (.if_icmp .le 7, 3) := by decide +kernel
theorem dX5_nearest_9 : decode cX5_nearest 9 = .ok (.sipush (-1001), 3) := by decide +kernel
theorem dX5_nearest_12 : decode cX5_nearest 12 = .ok (.ireturn, 1) := by decide +kernel
theorem dX5_nearest_13 : decode cX5_nearest 13 = .ok (.aload_n 0, 1) := by decide +kernel
theorem dX5_nearest_14 : decode cX5_nearest 14 = .ok (.invokevirtual 149, 3) := by decide +kernel
theorem dX5_nearest_17 : decode cX5_nearest 17 = .ok (.istore_n 2, 1) := by decide +kernel
theorem dX5_nearest_18 : decode cX5_nearest 18 = .ok (.iload_n 2, 1) := by decide +kernel
theorem dX5_nearest_19 : decode cX5_nearest 19 = .ok (.iconst (-1), 1) := by decide +kernel
theorem dX5_nearest_20 : decode cX5_nearest 20 = .ok (.if_icmp .ne 7, 3) := by decide +kernel
theorem dX5_nearest_23 : decode cX5_nearest 23 = .ok (.sipush (-1004), 3) := by decide +kernel
theorem dX5_nearest_26 : decode cX5_nearest 26 = .ok (.ireturn, 1) := by decide +kernel
theorem dX5_nearest_27 : decode cX5_nearest 27 = .ok (.iload_n 1, 1) := by decide +kernel
theorem dX5_nearest_28 : decode cX5_nearest 28 = .ok (.ifCond .ne 13, 3) := by decide +kernel
theorem dX5_nearest_31 : decode cX5_nearest 31 = .ok (.aload_n 0, 1) := by decide +kernel
theorem dX5_nearest_32 : decode cX5_nearest 32 = .ok (.getfield 10, 3) := by decide +kernel
theorem dX5_nearest_35 : decode cX5_nearest 35 = .ok (.invokevirtual 87, 3) := by decide +kernel
theorem dX5_nearest_38 : decode cX5_nearest 38 = .ok (.goto 8, 3) := by decide +kernel
theorem dX5_nearest_41 : decode cX5_nearest 41 = .ok (.aload_n 0, 1) := by decide +kernel
theorem dX5_nearest_42 : decode cX5_nearest 42 = .ok (.iload_n 2, 1) := by decide +kernel
theorem dX5_nearest_43 : decode cX5_nearest 43 = .ok (.invokevirtual 196, 3) := by decide +kernel
theorem dX5_nearest_46 : decode cX5_nearest 46 = .ok (.ireturn, 1) := by decide +kernel
theorem dX5_isSymbol_0 : decode cX5_isSymbol 0 = .ok (.iload_n 0, 1) := by decide +kernel
theorem dX5_isSymbol_1 : decode cX5_isSymbol 1 = .ok (.ifCond .lt 13, 3) := by decide +kernel
theorem dX5_isSymbol_4 : decode cX5_isSymbol 4 = .ok (.iload_n 0, 1) := by decide +kernel
theorem dX5_isSymbol_5 : decode cX5_isSymbol 5 = .ok (.bipush 16, 2) := by decide +kernel
theorem dX5_isSymbol_7 : decode cX5_isSymbol 7 = .ok (.if_icmp .ge 7, 3) := by decide +kernel
theorem dX5_isSymbol_10 : decode cX5_isSymbol 10 = .ok (.iconst 1, 1) := by decide +kernel
theorem dX5_isSymbol_11 : decode cX5_isSymbol 11 = .ok (.goto 4, 3) := by decide +kernel
theorem dX5_isSymbol_14 : decode cX5_isSymbol 14 = .ok (.iconst 0, 1) := by decide +kernel
theorem dX5_isSymbol_15 : decode cX5_isSymbol 15 = .ok (.ireturn, 1) := by decide +kernel
set_option maxRecDepth 20000 in
theorem ggX5_isMessage_X4_messages : GoodIn wsX5_isMessage wsX4_messages := goodIn_r _ [5, 6, 14, 15, 16, 17, 18, 19, 20] (by decide +kernel) (by decide +kernel)
set_option maxRecDepth 20000 in
theorem gX5_isMessage_X4_messages_n176 : GoodIn wsX5_isMessage (wsX4_messages) := ggX5_isMessage_X4_messages
theorem dX5_isMessage_0 : decode cX5_isMessage 0 = .ok (.iload_n 1, 1) := by decide +kernel
theorem dX5_isMessage_1 : decode cX5_isMessage 1 = .ok (.ifCond .lt 18, 3) := by decide +kernel
theorem dX5_isMessage_4 : decode cX5_isMessage 4 = .ok (.iload_n 1, 1) := by decide +kernel
theorem dX5_isMessage_5 : decode cX5_isMessage 5 = .ok (.aload_n 0, 1) := by decide +kernel
theorem dX5_isMessage_6 : decode cX5_isMessage 6 = .ok (.getfield 10, 3) := by decide +kernel
theorem dX5_isMessage_9 : decode cX5_isMessage 9 = .ok (.invokevirtual 176, 3) := by decide +kernel
theorem dX5_isMessage_12 : decode cX5_isMessage 12 = .ok (.if_icmp .ge 7, 3) := by decide +kernel
theorem dX5_isMessage_15 : decode cX5_isMessage 15 = .ok (.iconst 1, 1) := by decide +kernel
theorem dX5_isMessage_16 : decode cX5_isMessage 16 = .ok (.goto 4, 3) := by decide +kernel
theorem dX5_isMessage_19 : decode cX5_isMessage 19 = .ok (.iconst 0, 1) := by decide +kernel
theorem dX5_isMessage_20 : decode cX5_isMessage 20 = .ok (.ireturn, 1) := by decide +kernel
theorem dX5_isBlock_0 : decode cX5_isBlock 0 = .ok (.iload_n 1, 1) := by decide +kernel
theorem dX5_isBlock_1 : decode cX5_isBlock 1 = .ok (.ifCond .lt 18, 3) := by decide +kernel
theorem dX5_isBlock_4 : decode cX5_isBlock 4 = .ok (.iload_n 1, 1) := by decide +kernel
theorem dX5_isBlock_5 : decode cX5_isBlock 5 = .ok (.aload_n 0, 1) := by decide +kernel
theorem dX5_isBlock_6 : decode cX5_isBlock 6 = .ok (.getfield 10, 3) := by decide +kernel
theorem dX5_isBlock_9 : decode cX5_isBlock 9 = .ok (.getfield 55, 3) := by decide +kernel
theorem dX5_isBlock_12 : decode cX5_isBlock 12 = .ok (.if_icmp .ge 7, 3) := by decide +kernel
theorem dX5_isBlock_15 : decode cX5_isBlock 15 = .ok (.iconst 1, 1) := by decide +kernel
theorem dX5_isBlock_16 : decode cX5_isBlock 16 = .ok (.goto 4, 3) := by decide +kernel
theorem dX5_isBlock_19 : decode cX5_isBlock 19 = .ok (.iconst 0, 1) := by decide +kernel
theorem dX5_isBlock_20 : decode cX5_isBlock 20 = .ok (.ireturn, 1) := by decide +kernel
set_option maxRecDepth 20000 in
theorem ggX5_generateInnerCode_X5_generatedWord : GoodIn wsX5_generateInnerCode wsX5_generatedWord := goodIn_r _ [4] (by decide +kernel) (by decide +kernel)
set_option maxRecDepth 20000 in
theorem gX5_generateInnerCode_X5_generatedWord : GoodIn wsX5_generateInnerCode (va_wsS RX5 199 yX5_generatedWord wsX5_generatedWord) := goodIn_app (goodIn_of _ (by decide +kernel)) ggX5_generateInnerCode_X5_generatedWord
theorem dX5_generateInnerCode_0 : decode cX5_generateInnerCode 0 = .ok (.iconst 0, 1) := by decide +kernel
theorem dX5_generateInnerCode_1 : decode cX5_generateInnerCode 1 = .ok (.istore_n 2, 1) := by decide +kernel
theorem dX5_generateInnerCode_2 : decode cX5_generateInnerCode 2 = .ok (.iload_n 2, 1) := by decide +kernel
theorem dX5_generateInnerCode_3 : decode cX5_generateInnerCode 3 = .ok (.iconst 4, 1) := by decide +kernel
theorem dX5_generateInnerCode_4 : decode cX5_generateInnerCode 4 = .ok (.if_icmp .ge 20, 3) := by decide +kernel
theorem dX5_generateInnerCode_7 : decode cX5_generateInnerCode 7 = .ok (.aload_n 0, 1) := by decide +kernel
theorem dX5_generateInnerCode_8 : decode cX5_generateInnerCode 8 = .ok (.iload_n 2, 1) := by decide +kernel
theorem dX5_generateInnerCode_9 : decode cX5_generateInnerCode 9 = .ok (.iaload, 1) := by decide +kernel
theorem dX5_generateInnerCode_10 : decode cX5_generateInnerCode 10 = .ok (.iconst 1, 1) := by decide +kernel
theorem dX5_generateInnerCode_11 : decode cX5_generateInnerCode 11 = .ok (.iload_n 1, 1) := by decide +kernel
theorem dX5_generateInnerCode_12 : decode cX5_generateInnerCode 12 = .ok (.ishl, 1) := by decide +kernel
theorem dX5_generateInnerCode_13 : decode cX5_generateInnerCode 13 = .ok (.if_icmp .lt 5, 3) := by decide +kernel
theorem dX5_generateInnerCode_16 : decode cX5_generateInnerCode 16 = .ok (.iconst 0, 1) := by decide +kernel
theorem dX5_generateInnerCode_17 : decode cX5_generateInnerCode 17 = .ok (.ireturn, 1) := by decide +kernel
theorem dX5_generateInnerCode_18 : decode cX5_generateInnerCode 18 = .ok (.iinc 2 1, 3) := by decide +kernel
theorem dX5_generateInnerCode_21 : decode cX5_generateInnerCode 21 = .ok (.goto (-19), 3) := by decide +kernel
theorem dX5_generateInnerCode_24 : decode cX5_generateInnerCode 24 = .ok (.iconst 1, 1) := by decide +kernel
theorem dX5_generateInnerCode_25 : decode cX5_generateInnerCode 25 = .ok (.istore_n 2, 1) := by decide +kernel
theorem dX5_generateInnerCode_26 : decode cX5_generateInnerCode 26 = .ok (.iload_n 2, 1) := by decide +kernel
theorem dX5_generateInnerCode_27 : decode cX5_generateInnerCode 27 = .ok (.bipush 16, 2) := by decide +kernel
theorem dX5_generateInnerCode_29 : decode cX5_generateInnerCode 29 = .ok (.if_icmp .ge 19, 3) := by decide +kernel
theorem dX5_generateInnerCode_32 : decode cX5_generateInnerCode 32 = .ok (.aload_n 0, 1) := by decide +kernel
theorem dX5_generateInnerCode_33 : decode cX5_generateInnerCode 33 = .ok (.iload_n 2, 1) := by decide +kernel
theorem dX5_generateInnerCode_34 : decode cX5_generateInnerCode 34 = .ok (.invokestatic 199, 3) := by decide +kernel
theorem dX5_generateInnerCode_37 : decode cX5_generateInnerCode 37 = .ok (.ifCond .ne 5, 3) := by decide +kernel
theorem dX5_generateInnerCode_40 : decode cX5_generateInnerCode 40 = .ok (.iconst 0, 1) := by decide +kernel
theorem dX5_generateInnerCode_41 : decode cX5_generateInnerCode 41 = .ok (.ireturn, 1) := by decide +kernel
theorem dX5_generateInnerCode_42 : decode cX5_generateInnerCode 42 = .ok (.iinc 2 1, 3) := by decide +kernel
theorem dX5_generateInnerCode_45 : decode cX5_generateInnerCode 45 = .ok (.goto (-19), 3) := by decide +kernel
theorem dX5_generateInnerCode_48 : decode cX5_generateInnerCode 48 = .ok (.iconst 1, 1) := by decide +kernel
theorem dX5_generateInnerCode_49 : decode cX5_generateInnerCode 49 = .ok (.ireturn, 1) := by decide +kernel
theorem dX5_generatedWord_0 : decode cX5_generatedWord 0 = .ok (.iconst 0, 1) := by decide +kernel
theorem dX5_generatedWord_1 : decode cX5_generatedWord 1 = .ok (.istore_n 2, 1) := by decide +kernel
theorem dX5_generatedWord_2 : decode cX5_generatedWord 2 = .ok (.iconst 0, 1) := by decide +kernel
theorem dX5_generatedWord_3 : decode cX5_generatedWord 3 = .ok (.istore_n 3, 1) := by decide +kernel
theorem dX5_generatedWord_4 : decode cX5_generatedWord 4 = .ok (.iload_n 3, 1) := by decide +kernel
theorem dX5_generatedWord_5 : decode cX5_generatedWord 5 = .ok (.iconst 4, 1) := by decide +kernel
theorem dX5_generatedWord_6 : decode cX5_generatedWord 6 = .ok (.if_icmp .ge 24, 3) := by decide +kernel
theorem dX5_generatedWord_9 : decode cX5_generatedWord 9 = .ok (.iload_n 1, 1) := by decide +kernel
theorem dX5_generatedWord_10 : decode cX5_generatedWord 10 = .ok (.iload_n 3, 1) := by decide +kernel
theorem dX5_generatedWord_11 : decode cX5_generatedWord 11 = .ok (.ishr, 1) := by decide +kernel
theorem dX5_generatedWord_12 : decode cX5_generatedWord 12 = .ok (.iconst 1, 1) := by decide +kernel
theorem dX5_generatedWord_13 : decode cX5_generatedWord 13 = .ok (.iand, 1) := by decide +kernel
theorem dX5_generatedWord_14 : decode cX5_generatedWord 14 = .ok (.iconst 1, 1) := by decide +kernel
theorem dX5_generatedWord_15 : decode cX5_generatedWord 15 = .ok (.if_icmp .ne 9, 3) := by decide +kernel
theorem dX5_generatedWord_18 : decode cX5_generatedWord 18 = .ok (.iload_n 2, 1) := by decide +kernel
theorem dX5_generatedWord_19 : decode cX5_generatedWord 19 = .ok (.aload_n 0, 1) := by decide +kernel
theorem dX5_generatedWord_20 : decode cX5_generatedWord 20 = .ok (.iload_n 3, 1) := by decide +kernel
theorem dX5_generatedWord_21 : decode cX5_generatedWord 21 = .ok (.iaload, 1) := by decide +kernel
theorem dX5_generatedWord_22 : decode cX5_generatedWord 22 = .ok (.ixor, 1) := by decide +kernel
theorem dX5_generatedWord_23 : decode cX5_generatedWord 23 = .ok (.istore_n 2, 1) := by decide +kernel
theorem dX5_generatedWord_24 : decode cX5_generatedWord 24 = .ok (.iinc 3 1, 3) := by decide +kernel
theorem dX5_generatedWord_27 : decode cX5_generatedWord 27 = .ok (.goto (-23), 3) := by decide +kernel
theorem dX5_generatedWord_30 : decode cX5_generatedWord 30 = .ok (.iload_n 2, 1) := by decide +kernel
theorem dX5_generatedWord_31 : decode cX5_generatedWord 31 = .ok (.ireturn, 1) := by decide +kernel
theorem dX5_fieldProduct_0 : decode cX5_fieldProduct 0 = .ok (.iconst 0, 1) := by decide +kernel
theorem dX5_fieldProduct_1 : decode cX5_fieldProduct 1 = .ok (.istore_n 2, 1) := by decide +kernel
theorem dX5_fieldProduct_2 : decode cX5_fieldProduct 2 = .ok (.iload_n 0, 1) := by decide +kernel
theorem dX5_fieldProduct_3 : decode cX5_fieldProduct 3 = .ok (.istore_n 3, 1) := by decide +kernel
theorem dX5_fieldProduct_4 : decode cX5_fieldProduct 4 = .ok (.iconst 0, 1) := by decide +kernel
theorem dX5_fieldProduct_5 : decode cX5_fieldProduct 5 = .ok (.istore 4, 2) := by decide +kernel
theorem dX5_fieldProduct_7 : decode cX5_fieldProduct 7 = .ok (.iload 4, 2) := by decide +kernel
theorem dX5_fieldProduct_9 : decode cX5_fieldProduct 9 = .ok (.iconst 4, 1) := by decide +kernel
theorem dX5_fieldProduct_10 : decode cX5_fieldProduct 10 = .ok (.if_icmp .ge 38, 3) := by decide +kernel
theorem dX5_fieldProduct_13 : decode cX5_fieldProduct 13 = .ok (.iload_n 1, 1) := by decide +kernel
theorem dX5_fieldProduct_14 : decode cX5_fieldProduct 14 = .ok (.iload 4, 2) := by decide +kernel
theorem dX5_fieldProduct_16 : decode cX5_fieldProduct 16 = .ok (.ishr, 1) := by decide +kernel
theorem dX5_fieldProduct_17 : decode cX5_fieldProduct 17 = .ok (.iconst 1, 1) := by decide +kernel
theorem dX5_fieldProduct_18 : decode cX5_fieldProduct 18 = .ok (.iand, 1) := by decide +kernel
theorem dX5_fieldProduct_19 : decode cX5_fieldProduct 19 = .ok (.iconst 1, 1) := by decide +kernel
theorem dX5_fieldProduct_20 : decode cX5_fieldProduct 20 = .ok (.if_icmp .ne 7, 3) := by decide +kernel
theorem dX5_fieldProduct_23 : decode cX5_fieldProduct 23 = .ok (.iload_n 2, 1) := by decide +kernel
theorem dX5_fieldProduct_24 : decode cX5_fieldProduct 24 = .ok (.iload_n 3, 1) := by decide +kernel
theorem dX5_fieldProduct_25 : decode cX5_fieldProduct 25 = .ok (.ixor, 1) := by decide +kernel
theorem dX5_fieldProduct_26 : decode cX5_fieldProduct 26 = .ok (.istore_n 2, 1) := by decide +kernel
theorem dX5_fieldProduct_27 : decode cX5_fieldProduct 27 = .ok (.iload_n 3, 1) := by decide +kernel
theorem dX5_fieldProduct_28 : decode cX5_fieldProduct 28 = .ok (.iconst 1, 1) := by decide +kernel
theorem dX5_fieldProduct_29 : decode cX5_fieldProduct 29 = .ok (.ishl, 1) := by decide +kernel
theorem dX5_fieldProduct_30 : decode cX5_fieldProduct 30 = .ok (.istore_n 3, 1) := by decide +kernel
theorem dX5_fieldProduct_31 : decode cX5_fieldProduct 31 = .ok (.iload_n 3, 1) := by decide +kernel
theorem dX5_fieldProduct_32 : decode cX5_fieldProduct 32 = .ok (.bipush 16, 2) := by decide +kernel
theorem dX5_fieldProduct_34 : decode cX5_fieldProduct 34 = .ok (.if_icmp .lt 8, 3) := by decide +kernel
theorem dX5_fieldProduct_37 : decode cX5_fieldProduct 37 = .ok (.iload_n 3, 1) := by decide +kernel
theorem dX5_fieldProduct_38 : decode cX5_fieldProduct 38 = .ok (.bipush 19, 2) := by decide +kernel
theorem dX5_fieldProduct_40 : decode cX5_fieldProduct 40 = .ok (.ixor, 1) := by decide +kernel
theorem dX5_fieldProduct_41 : decode cX5_fieldProduct 41 = .ok (.istore_n 3, 1) := by decide +kernel
theorem dX5_fieldProduct_42 : decode cX5_fieldProduct 42 = .ok (.iinc 4 1, 3) := by decide +kernel
theorem dX5_fieldProduct_45 : decode cX5_fieldProduct 45 = .ok (.goto (-38), 3) := by decide +kernel
theorem dX5_fieldProduct_48 : decode cX5_fieldProduct 48 = .ok (.iload_n 2, 1) := by decide +kernel
theorem dX5_fieldProduct_49 : decode cX5_fieldProduct 49 = .ok (.ireturn, 1) := by decide +kernel
theorem dX5_symbolIn_0 : decode cX5_symbolIn 0 = .ok (.lload_n 0, 1) := by decide +kernel
theorem dX5_symbolIn_1 : decode cX5_symbolIn 1 = .ok (.iconst 4, 1) := by decide +kernel
theorem dX5_symbolIn_2 : decode cX5_symbolIn 2 = .ok (.iload_n 2, 1) := by decide +kernel
theorem dX5_symbolIn_3 : decode cX5_symbolIn 3 = .ok (.imul, 1) := by decide +kernel
theorem dX5_symbolIn_4 : decode cX5_symbolIn 4 = .ok (.lushr, 1) := by decide +kernel
theorem dX5_symbolIn_5 : decode cX5_symbolIn 5 = .ok (.l2i, 1) := by decide +kernel
theorem dX5_symbolIn_6 : decode cX5_symbolIn 6 = .ok (.bipush 15, 2) := by decide +kernel
theorem dX5_symbolIn_8 : decode cX5_symbolIn 8 = .ok (.iand, 1) := by decide +kernel
theorem dX5_symbolIn_9 : decode cX5_symbolIn 9 = .ok (.ireturn, 1) := by decide +kernel
set_option maxRecDepth 20000 in
theorem ggX5_readAgain_X1_setGenerators : GoodIn wsX5_readAgain wsX1_setGenerators := goodIn_r _ [7, 8, 9, 10, 11, 12, 13, 14, 15, 16, 17, 18, 19, 20, 21, 22, 23, 75, 76] (by decide +kernel) (by decide +kernel)
set_option maxRecDepth 20000 in
theorem gX5_readAgain_X1_setGenerators_n203 : GoodIn wsX5_readAgain (wsX1_setGenerators) := ggX5_readAgain_X1_setGenerators
set_option maxRecDepth 20000 in
theorem ggX5_readAgain_X3_read : GoodIn wsX5_readAgain wsX3_read := goodIn_r _ [27, 28, 29, 30, 31, 32, 33, 34, 35, 36, 37, 38, 39, 40, 25, 41, 42, 43, 44, 5, 45, 46, 47, 48, 49, 50, 9, 17, 18, 19, 20, 21, 22, 23, 51, 52, 53, 8, 54, 55, 12, 56, 57, 58, 59, 60, 68, 69, 70, 71, 72, 73, 74, 77, 78, 79, 80, 81, 82, 83, 84, 75, 76] (by decide +kernel) (by decide +kernel)
set_option maxRecDepth 20000 in
theorem gX5_readAgain_X3_read_n207 : GoodIn wsX5_readAgain (wsX3_read) := ggX5_readAgain_X3_read
theorem dX5_readAgain_0 : decode cX5_readAgain 0 = .ok (.aload_n 0, 1) := by decide +kernel
theorem dX5_readAgain_1 : decode cX5_readAgain 1 = .ok (.getfield 26, 3) := by decide +kernel
theorem dX5_readAgain_4 : decode cX5_readAgain 4 = .ok (.aload_n 0, 1) := by decide +kernel
theorem dX5_readAgain_5 : decode cX5_readAgain 5 = .ok (.getfield 10, 3) := by decide +kernel
theorem dX5_readAgain_8 : decode cX5_readAgain 8 = .ok (.getfield 75, 3) := by decide +kernel
theorem dX5_readAgain_11 : decode cX5_readAgain 11 = .ok (.invokevirtual 203, 3) := by decide +kernel
theorem dX5_readAgain_14 : decode cX5_readAgain 14 = .ok (.aload_n 0, 1) := by decide +kernel
theorem dX5_readAgain_15 : decode cX5_readAgain 15 = .ok (.getfield 40, 3) := by decide +kernel
theorem dX5_readAgain_18 : decode cX5_readAgain 18 = .ok (.aload_n 0, 1) := by decide +kernel
theorem dX5_readAgain_19 : decode cX5_readAgain 19 = .ok (.getfield 10, 3) := by decide +kernel
theorem dX5_readAgain_22 : decode cX5_readAgain 22 = .ok (.aload_n 0, 1) := by decide +kernel
theorem dX5_readAgain_23 : decode cX5_readAgain 23 = .ok (.getfield 26, 3) := by decide +kernel
theorem dX5_readAgain_26 : decode cX5_readAgain 26 = .ok (.invokevirtual 207, 3) := by decide +kernel
theorem dX5_readAgain_29 : decode cX5_readAgain 29 = .ok (.return_, 1) := by decide +kernel
set_option maxRecDepth 20000 in
theorem ggX5_sentSymbol_X2_codeword : GoodIn wsX5_sentSymbol wsX2_codeword := goodIn_r _ [6, 7, 26] (by decide +kernel) (by decide +kernel)
set_option maxRecDepth 20000 in
theorem gX5_sentSymbol_X2_codeword_n114 : GoodIn wsX5_sentSymbol (wsX2_codeword) := ggX5_sentSymbol_X2_codeword
set_option maxRecDepth 20000 in
theorem ggX5_sentSymbol_X5_symbolIn : GoodIn wsX5_sentSymbol wsX5_symbolIn := goodIn_r _ [11] (by decide +kernel) (by decide +kernel)
set_option maxRecDepth 20000 in
theorem gX5_sentSymbol_X5_symbolIn : GoodIn wsX5_sentSymbol (va_wsS RX5 118 yX5_symbolIn wsX5_symbolIn) := goodIn_app (goodIn_of _ (by decide +kernel)) ggX5_sentSymbol_X5_symbolIn
theorem dX5_sentSymbol_0 : decode cX5_sentSymbol 0 = .ok (.aload_n 0, 1) := by decide +kernel
theorem dX5_sentSymbol_1 : decode cX5_sentSymbol 1 = .ok (.getfield 33, 3) := by decide +kernel
theorem dX5_sentSymbol_4 : decode cX5_sentSymbol 4 = .ok (.aload_n 0, 1) := by decide +kernel
theorem dX5_sentSymbol_5 : decode cX5_sentSymbol 5 = .ok (.getfield 10, 3) := by decide +kernel
theorem dX5_sentSymbol_8 : decode cX5_sentSymbol 8 = .ok (.getfield 122, 3) := by decide +kernel
theorem dX5_sentSymbol_11 : decode cX5_sentSymbol 11 = .ok (.invokevirtual 114, 3) := by decide +kernel
theorem dX5_sentSymbol_14 : decode cX5_sentSymbol 14 = .ok (.iload_n 1, 1) := by decide +kernel
theorem dX5_sentSymbol_15 : decode cX5_sentSymbol 15 = .ok (.invokestatic 118, 3) := by decide +kernel
theorem dX5_sentSymbol_18 : decode cX5_sentSymbol 18 = .ok (.ireturn, 1) := by decide +kernel
set_option maxRecDepth 20000 in
theorem ggX5_wordSentFor_X2_codeword : GoodIn wsX5_wordSentFor wsX2_codeword := goodIn_r _ [6, 7, 21] (by decide +kernel) (by decide +kernel)
set_option maxRecDepth 20000 in
theorem gX5_wordSentFor_X2_codeword_n114 : GoodIn wsX5_wordSentFor (wsX2_codeword) := ggX5_wordSentFor_X2_codeword
set_option maxRecDepth 20000 in
theorem ggX5_wordSentFor_X5_symbolIn : GoodIn wsX5_wordSentFor wsX5_symbolIn := goodIn_r _ [11] (by decide +kernel) (by decide +kernel)
set_option maxRecDepth 20000 in
theorem gX5_wordSentFor_X5_symbolIn : GoodIn wsX5_wordSentFor (va_wsS RX5 118 yX5_symbolIn wsX5_symbolIn) := goodIn_app (goodIn_of _ (by decide +kernel)) ggX5_wordSentFor_X5_symbolIn
theorem dX5_wordSentFor_0 : decode cX5_wordSentFor 0 = .ok (.aload_n 0, 1) := by decide +kernel
theorem dX5_wordSentFor_1 : decode cX5_wordSentFor 1 = .ok (.getfield 26, 3) := by decide +kernel
theorem dX5_wordSentFor_4 : decode cX5_wordSentFor 4 = .ok (.getfield 101, 3) := by decide +kernel
theorem dX5_wordSentFor_7 : decode cX5_wordSentFor 7 = .ok (.aload_n 0, 1) := by decide +kernel
theorem dX5_wordSentFor_8 : decode cX5_wordSentFor 8 = .ok (.getfield 33, 3) := by decide +kernel
theorem dX5_wordSentFor_11 : decode cX5_wordSentFor 11 = .ok (.iload_n 1, 1) := by decide +kernel
theorem dX5_wordSentFor_12 : decode cX5_wordSentFor 12 = .ok (.invokevirtual 114, 3) := by decide +kernel
theorem dX5_wordSentFor_15 : decode cX5_wordSentFor 15 = .ok (.iload_n 2, 1) := by decide +kernel
theorem dX5_wordSentFor_16 : decode cX5_wordSentFor 16 = .ok (.invokestatic 118, 3) := by decide +kernel
theorem dX5_wordSentFor_19 : decode cX5_wordSentFor 19 = .ok (.iaload, 1) := by decide +kernel
theorem dX5_wordSentFor_20 : decode cX5_wordSentFor 20 = .ok (.ireturn, 1) := by decide +kernel
theorem dX5_lostBlocks_0 : decode cX5_lostBlocks 0 = .ok (.iconst 0, 1) := by decide +kernel
theorem dX5_lostBlocks_1 : decode cX5_lostBlocks 1 = .ok (.istore_n 1, 1) := by decide +kernel
theorem dX5_lostBlocks_2 : decode cX5_lostBlocks 2 = .ok (.iconst 0, 1) := by decide +kernel
theorem dX5_lostBlocks_3 : decode cX5_lostBlocks 3 = .ok (.istore_n 2, 1) := by decide +kernel
theorem dX5_lostBlocks_4 : decode cX5_lostBlocks 4 = .ok (.iload_n 2, 1) := by decide +kernel
theorem dX5_lostBlocks_5 : decode cX5_lostBlocks 5 = .ok (.aload_n 0, 1) := by decide +kernel
theorem dX5_lostBlocks_6 : decode cX5_lostBlocks 6 = .ok (.getfield 10, 3) := by decide +kernel
theorem dX5_lostBlocks_9 : decode cX5_lostBlocks 9 = .ok (.getfield 55, 3) := by decide +kernel
theorem dX5_lostBlocks_12 : decode cX5_lostBlocks 12 = .ok (.if_icmp .ge 24, 3) := by decide +kernel
theorem dX5_lostBlocks_15 : decode cX5_lostBlocks 15 = .ok (.aload_n 0, 1) := by decide +kernel
theorem dX5_lostBlocks_16 : decode cX5_lostBlocks 16 = .ok (.getfield 10, 3) := by decide +kernel
theorem dX5_lostBlocks_19 : decode cX5_lostBlocks 19 = .ok (.getfield 138, 3) := by decide +kernel
theorem dX5_lostBlocks_22 : decode cX5_lostBlocks 22 = .ok (.iload_n 2, 1) := by decide +kernel
theorem dX5_lostBlocks_23 : decode cX5_lostBlocks 23 = .ok (.baload, 1) := by decide +kernel
theorem dX5_lostBlocks_24 : decode cX5_lostBlocks 24 = .ok (.ifCond .eq 6, 3) := by decide +kernel
theorem dX5_lostBlocks_27 : decode cX5_lostBlocks 27 = .ok (.iinc 1 1, 3) := by decide +kernel
theorem dX5_lostBlocks_30 : decode cX5_lostBlocks 30 = .ok (.iinc 2 1, 3) := by decide +kernel
theorem dX5_lostBlocks_33 : decode cX5_lostBlocks 33 = .ok (.goto (-29), 3) := by decide +kernel
theorem dX5_lostBlocks_36 : decode cX5_lostBlocks 36 = .ok (.iload_n 1, 1) := by decide +kernel
theorem dX5_lostBlocks_37 : decode cX5_lostBlocks 37 = .ok (.ireturn, 1) := by decide +kernel
set_option maxRecDepth 20000 in
theorem ggX5_wrongBits_X5_wordSentFor : GoodIn wsX5_wrongBits wsX5_wordSentFor := goodIn_r _ [6, 7, 8, 9, 10, 11, 12, 13, 14, 15, 5, 16, 24, 25, 26, 27, 28, 29, 30, 38, 39, 40] (by decide +kernel) (by decide +kernel)
set_option maxRecDepth 20000 in
theorem gX5_wrongBits_X5_wordSentFor : GoodIn wsX5_wrongBits (wsV RX5 125 RX5 yX5_wordSentFor wsX5_wordSentFor) := goodIn_app (goodIn_of _ (by decide +kernel)) ggX5_wrongBits_X5_wordSentFor
set_option maxRecDepth 20000 in
theorem ggX5_wrongBits_J6_bitCount_0f7a4 : GoodIn wsX5_wrongBits wsJ6_bitCount_0f7a4 := goodIn_r _ [20, 21, 22, 23] (by decide +kernel) (by decide +kernel)
set_option maxRecDepth 20000 in
theorem gX5_wrongBits_J6_bitCount_0f7a4 : GoodIn wsX5_wrongBits (va_wsS RX5 129 yJ6_bitCount_0f7a4 wsJ6_bitCount_0f7a4) := goodIn_app (goodIn_of _ (by decide +kernel)) ggX5_wrongBits_J6_bitCount_0f7a4
theorem dX5_wrongBits_0 : decode cX5_wrongBits 0 = .ok (.iconst 0, 1) := by decide +kernel
theorem dX5_wrongBits_1 : decode cX5_wrongBits 1 = .ok (.istore_n 1, 1) := by decide +kernel
theorem dX5_wrongBits_2 : decode cX5_wrongBits 2 = .ok (.iconst 0, 1) := by decide +kernel
theorem dX5_wrongBits_3 : decode cX5_wrongBits 3 = .ok (.istore_n 2, 1) := by decide +kernel
theorem dX5_wrongBits_4 : decode cX5_wrongBits 4 = .ok (.iload_n 2, 1) := by decide +kernel
theorem dX5_wrongBits_5 : decode cX5_wrongBits 5 = .ok (.aload_n 0, 1) := by decide +kernel
theorem dX5_wrongBits_6 : decode cX5_wrongBits 6 = .ok (.getfield 10, 3) := by decide +kernel
theorem dX5_wrongBits_9 : decode cX5_wrongBits 9 = .ok (.getfield 55, 3) := by decide +kernel
theorem dX5_wrongBits_12 : decode cX5_wrongBits 12 = .ok (.if_icmp .ge 51, 3) := by decide +kernel
theorem dX5_wrongBits_15 : decode cX5_wrongBits 15 = .ok (.aload_n 0, 1) := by decide +kernel
theorem dX5_wrongBits_16 : decode cX5_wrongBits 16 = .ok (.getfield 10, 3) := by decide +kernel
theorem dX5_wrongBits_19 : decode cX5_wrongBits 19 = .ok (.getfield 138, 3) := by decide +kernel
theorem dX5_wrongBits_22 : decode cX5_wrongBits 22 = .ok (.iload_n 2, 1) := by decide +kernel
theorem dX5_wrongBits_23 : decode cX5_wrongBits 23 = .ok (.baload, 1) := by decide +kernel
theorem dX5_wrongBits_24 : decode cX5_wrongBits 24 = .ok (.ifCond .ne 33, 3) := by decide +kernel
theorem dX5_wrongBits_27 : decode cX5_wrongBits 27 = .ok (.aload_n 0, 1) := by decide +kernel
theorem dX5_wrongBits_28 : decode cX5_wrongBits 28 = .ok (.aload_n 0, 1) := by decide +kernel
theorem dX5_wrongBits_29 : decode cX5_wrongBits 29 = .ok (.getfield 10, 3) := by decide +kernel
theorem dX5_wrongBits_32 : decode cX5_wrongBits 32 = .ok (.getfield 122, 3) := by decide +kernel
theorem dX5_wrongBits_35 : decode cX5_wrongBits 35 = .ok (.iload_n 2, 1) := by decide +kernel
theorem dX5_wrongBits_36 : decode cX5_wrongBits 36 = .ok (.invokevirtual 125, 3) := by decide +kernel
theorem dX5_wrongBits_39 : decode cX5_wrongBits 39 = .ok (.istore_n 3, 1) := by decide +kernel
theorem dX5_wrongBits_40 : decode cX5_wrongBits 40 = .ok (.iload_n 1, 1) := by decide +kernel
theorem dX5_wrongBits_41 : decode cX5_wrongBits 41 = .ok (.aload_n 0, 1) := by decide +kernel
theorem dX5_wrongBits_42 : decode cX5_wrongBits 42 = .ok (.getfield 10, 3) := by decide +kernel
theorem dX5_wrongBits_45 : decode cX5_wrongBits 45 = .ok (.getfield 128, 3) := by decide +kernel
theorem dX5_wrongBits_48 : decode cX5_wrongBits 48 = .ok (.iload_n 2, 1) := by decide +kernel
theorem dX5_wrongBits_49 : decode cX5_wrongBits 49 = .ok (.iaload, 1) := by decide +kernel
theorem dX5_wrongBits_50 : decode cX5_wrongBits 50 = .ok (.iload_n 3, 1) := by decide +kernel
theorem dX5_wrongBits_51 : decode cX5_wrongBits 51 = .ok (.ixor, 1) := by decide +kernel
theorem dX5_wrongBits_52 : decode cX5_wrongBits 52 = .ok (.invokestatic 129, 3) := by decide +kernel
theorem dX5_wrongBits_55 : decode cX5_wrongBits 55 = .ok (.iadd, 1) := by decide +kernel
theorem dX5_wrongBits_56 : decode cX5_wrongBits 56 = .ok (.istore_n 1, 1) := by decide +kernel
theorem dX5_wrongBits_57 : decode cX5_wrongBits 57 = .ok (.iinc 2 1, 3) := by decide +kernel
theorem dX5_wrongBits_60 : decode cX5_wrongBits 60 = .ok (.goto (-56), 3) := by decide +kernel
theorem dX5_wrongBits_63 : decode cX5_wrongBits 63 = .ok (.iload_n 1, 1) := by decide +kernel
theorem dX5_wrongBits_64 : decode cX5_wrongBits 64 = .ok (.ireturn, 1) := by decide +kernel
theorem dX5_burstMask_0 : decode cX5_burstMask 0 = .ok (.aload_n 0, 1) := by decide +kernel
theorem dX5_burstMask_1 : decode cX5_burstMask 1 = .ok (.getfield 10, 3) := by decide +kernel
theorem dX5_burstMask_4 : decode cX5_burstMask 4 = .ok (.getfield 72, 3) := by decide +kernel
theorem dX5_burstMask_7 : decode cX5_burstMask 7 = .ok (.iload_n 1, 1) := by decide +kernel
theorem dX5_burstMask_8 : decode cX5_burstMask 8 = .ok (.imul, 1) := by decide +kernel
theorem dX5_burstMask_9 : decode cX5_burstMask 9 = .ok (.istore 4, 2) := by decide +kernel
theorem dX5_burstMask_11 : decode cX5_burstMask 11 = .ok (.iload_n 2, 1) := by decide +kernel
theorem dX5_burstMask_12 : decode cX5_burstMask 12 = .ok (.iload 4, 2) := by decide +kernel
theorem dX5_burstMask_14 : decode cX5_burstMask 14 = .ok (.isub, 1) := by decide +kernel
theorem dX5_burstMask_15 : decode cX5_burstMask 15 = .ok (.iconst 0, 1) := by decide +kernel
theorem dX5_burstMask_16 : decode cX5_burstMask 16 = .ok (.invokestatic 211, 3) := by decide +kernel
theorem dX5_burstMask_19 : decode cX5_burstMask 19 = .ok (.istore 5, 2) := by decide +kernel
theorem dX5_burstMask_21 : decode cX5_burstMask 21 = .ok (.iload_n 3, 1) := by decide +kernel
theorem dX5_burstMask_22 : decode cX5_burstMask 22 = .ok (.iload 4, 2) := by decide +kernel
theorem dX5_burstMask_24 : decode cX5_burstMask 24 = .ok (.isub, 1) := by decide +kernel
theorem dX5_burstMask_25 : decode cX5_burstMask 25 = .ok (.aload_n 0, 1) := by decide +kernel
theorem dX5_burstMask_26 : decode cX5_burstMask 26 = .ok (.getfield 10, 3) := by decide +kernel
theorem dX5_burstMask_29 : decode cX5_burstMask 29 = .ok (.getfield 72, 3) := by decide +kernel
theorem dX5_burstMask_32 : decode cX5_burstMask 32 = .ok (.invokestatic 216, 3) := by decide +kernel
theorem dX5_burstMask_35 : decode cX5_burstMask 35 = .ok (.istore 6, 2) := by decide +kernel
theorem dX5_burstMask_37 : decode cX5_burstMask 37 = .ok (.iload 5, 2) := by decide +kernel
theorem dX5_burstMask_39 : decode cX5_burstMask 39 = .ok (.iload 6, 2) := by decide +kernel
theorem dX5_burstMask_41 : decode cX5_burstMask 41 = .ok (.if_icmp .ge 15, 3) := by decide +kernel
theorem dX5_burstMask_44 : decode cX5_burstMask 44 = .ok (.iconst 1, 1) := by decide +kernel
theorem dX5_burstMask_45 : decode cX5_burstMask 45 = .ok (.iload 6, 2) := by decide +kernel
theorem dX5_burstMask_47 : decode cX5_burstMask 47 = .ok (.ishl, 1) := by decide +kernel
theorem dX5_burstMask_48 : decode cX5_burstMask 48 = .ok (.iconst 1, 1) := by decide +kernel
theorem dX5_burstMask_49 : decode cX5_burstMask 49 = .ok (.iload 5, 2) := by decide +kernel
theorem dX5_burstMask_51 : decode cX5_burstMask 51 = .ok (.ishl, 1) := by decide +kernel
theorem dX5_burstMask_52 : decode cX5_burstMask 52 = .ok (.isub, 1) := by decide +kernel
theorem dX5_burstMask_53 : decode cX5_burstMask 53 = .ok (.goto 4, 3) := by decide +kernel
theorem dX5_burstMask_56 : decode cX5_burstMask 56 = .ok (.iconst 0, 1) := by decide +kernel
theorem dX5_burstMask_57 : decode cX5_burstMask 57 = .ok (.ireturn, 1) := by decide +kernel
set_option maxRecDepth 20000 in
theorem ggX5_lawBound_X4_outerDistance : GoodIn wsX5_lawBound wsX4_outerDistance := goodIn_r _ [6, 7, 8, 18, 19, 20, 21, 22, 23, 24] (by decide +kernel) (by decide +kernel)
set_option maxRecDepth 20000 in
theorem gX5_lawBound_X4_outerDistance_n87 : GoodIn wsX5_lawBound (wsX4_outerDistance) := ggX5_lawBound_X4_outerDistance
theorem dX5_lawBound_0 : decode cX5_lawBound 0 = .ok (.aload_n 0, 1) := by decide +kernel
theorem dX5_lawBound_1 : decode cX5_lawBound 1 = .ok (.getfield 26, 3) := by decide +kernel
theorem dX5_lawBound_4 : decode cX5_lawBound 4 = .ok (.getfield 78, 3) := by decide +kernel
theorem dX5_lawBound_7 : decode cX5_lawBound 7 = .ok (.aload_n 0, 1) := by decide +kernel
theorem dX5_lawBound_8 : decode cX5_lawBound 8 = .ok (.getfield 10, 3) := by decide +kernel
theorem dX5_lawBound_11 : decode cX5_lawBound 11 = .ok (.getfield 55, 3) := by decide +kernel
theorem dX5_lawBound_14 : decode cX5_lawBound 14 = .ok (.aload_n 0, 1) := by decide +kernel
theorem dX5_lawBound_15 : decode cX5_lawBound 15 = .ok (.getfield 10, 3) := by decide +kernel
theorem dX5_lawBound_18 : decode cX5_lawBound 18 = .ok (.invokevirtual 87, 3) := by decide +kernel
theorem dX5_lawBound_21 : decode cX5_lawBound 21 = .ok (.isub, 1) := by decide +kernel
theorem dX5_lawBound_22 : decode cX5_lawBound 22 = .ok (.imul, 1) := by decide +kernel
theorem dX5_lawBound_23 : decode cX5_lawBound 23 = .ok (.ireturn, 1) := by decide +kernel
set_option maxRecDepth 20000 in
theorem ggX5_isResult_X3_differingBlocks : GoodIn wsX5_isResult wsX3_differingBlocks := goodIn_r _ [6, 7, 8, 9, 10, 11, 12, 33, 34, 35, 36, 37, 38, 39, 40] (by decide +kernel) (by decide +kernel)
set_option maxRecDepth 20000 in
theorem gX5_isResult_X3_differingBlocks_n219 : GoodIn wsX5_isResult (wsX3_differingBlocks) := ggX5_isResult_X3_differingBlocks
set_option maxRecDepth 20000 in
theorem ggX5_isResult_J13_bitCount_95d88 : GoodIn wsX5_isResult wsJ13_bitCount_95d88 := goodIn_r _ [16, 17, 18, 19] (by decide +kernel) (by decide +kernel)
set_option maxRecDepth 20000 in
theorem gX5_isResult_J13_bitCount_95d88 : GoodIn wsX5_isResult (va_wsS RX5 223 yJ13_bitCount_95d88 wsJ13_bitCount_95d88) := goodIn_app (goodIn_of _ (by decide +kernel)) ggX5_isResult_J13_bitCount_95d88
set_option maxRecDepth 20000 in
theorem ggX5_isResult_X4_outerDistance : GoodIn wsX5_isResult wsX4_outerDistance := goodIn_r _ [23, 24, 25, 41, 42, 43, 44, 45, 46, 47] (by decide +kernel) (by decide +kernel)
set_option maxRecDepth 20000 in
theorem gX5_isResult_X4_outerDistance_n87 : GoodIn wsX5_isResult (wsX4_outerDistance) := ggX5_isResult_X4_outerDistance
theorem dX5_isResult_0 : decode cX5_isResult 0 = .ok (.aload_n 0, 1) := by decide +kernel
theorem dX5_isResult_1 : decode cX5_isResult 1 = .ok (.getfield 40, 3) := by decide +kernel
theorem dX5_isResult_4 : decode cX5_isResult 4 = .ok (.lload_n 1, 1) := by decide +kernel
theorem dX5_isResult_5 : decode cX5_isResult 5 = .ok (.invokevirtual 219, 3) := by decide +kernel
theorem dX5_isResult_8 : decode cX5_isResult 8 = .ok (.lload 4, 2) := by decide +kernel
theorem dX5_isResult_10 : decode cX5_isResult 10 = .ok (.land, 1) := by decide +kernel
theorem dX5_isResult_11 : decode cX5_isResult 11 = .ok (.invokestatic 223, 3) := by decide +kernel
theorem dX5_isResult_14 : decode cX5_isResult 14 = .ok (.istore 6, 2) := by decide +kernel
theorem dX5_isResult_16 : decode cX5_isResult 16 = .ok (.iconst 2, 1) := by decide +kernel
theorem dX5_isResult_17 : decode cX5_isResult 17 = .ok (.iload 6, 2) := by decide +kernel
theorem dX5_isResult_19 : decode cX5_isResult 19 = .ok (.imul, 1) := by decide +kernel
theorem dX5_isResult_20 : decode cX5_isResult 20 = .ok (.iload_n 3, 1) := by decide +kernel
theorem dX5_isResult_21 : decode cX5_isResult 21 = .ok (.iadd, 1) := by decide +kernel
theorem dX5_isResult_22 : decode cX5_isResult 22 = .ok (.aload_n 0, 1) := by decide +kernel
theorem dX5_isResult_23 : decode cX5_isResult 23 = .ok (.getfield 10, 3) := by decide +kernel
theorem dX5_isResult_26 : decode cX5_isResult 26 = .ok (.invokevirtual 87, 3) := by decide +kernel
theorem dX5_isResult_29 : decode cX5_isResult 29 = .ok (.if_icmp .ge 7, 3) := by decide +kernel
theorem dX5_isResult_32 : decode cX5_isResult 32 = .ok (.iconst 1, 1) := by decide +kernel
theorem dX5_isResult_33 : decode cX5_isResult 33 = .ok (.goto 4, 3) := by decide +kernel
theorem dX5_isResult_36 : decode cX5_isResult 36 = .ok (.iconst 0, 1) := by decide +kernel
theorem dX5_isResult_37 : decode cX5_isResult 37 = .ok (.ireturn, 1) := by decide +kernel
set_option maxRecDepth 20000 in
theorem ggX5_lawfulMessage_X5_lawBound : GoodIn wsX5_lawfulMessage wsX5_lawBound := goodIn_r _ [8, 9, 1, 10, 11, 12, 13, 14, 15, 46, 47, 48, 49, 50, 51, 52, 53, 54, 55, 56, 57, 58, 59, 60, 61] (by decide +kernel) (by decide +kernel)
set_option maxRecDepth 20000 in
theorem gX5_lawfulMessage_X5_lawBound : GoodIn wsX5_lawfulMessage (wsV RX5 187 RX5 yX5_lawBound wsX5_lawBound) := goodIn_app (goodIn_of _ (by decide +kernel)) ggX5_lawfulMessage_X5_lawBound
set_option maxRecDepth 20000 in
theorem ggX5_lawfulMessage_X4_outerDistance : GoodIn wsX5_lawfulMessage wsX4_outerDistance := goodIn_r _ [13, 14, 15, 55, 56, 57, 58, 59, 60, 61] (by decide +kernel) (by decide +kernel)
set_option maxRecDepth 20000 in
theorem gX5_lawfulMessage_X4_outerDistance_n87 : GoodIn wsX5_lawfulMessage (wsX4_outerDistance) := ggX5_lawfulMessage_X4_outerDistance
set_option maxRecDepth 20000 in
theorem ggX5_lawfulMessage_X4_messages : GoodIn wsX5_lawfulMessage wsX4_messages := goodIn_r _ [18, 15, 55, 56, 57, 58, 59, 60, 61] (by decide +kernel) (by decide +kernel)
set_option maxRecDepth 20000 in
theorem gX5_lawfulMessage_X4_messages_n176 : GoodIn wsX5_lawfulMessage (wsX4_messages) := ggX5_lawfulMessage_X4_messages
set_option maxRecDepth 20000 in
theorem ggX5_lawfulMessage_X2_codeword : GoodIn wsX5_lawfulMessage wsX2_codeword := goodIn_r _ [22, 23, 62] (by decide +kernel) (by decide +kernel)
set_option maxRecDepth 20000 in
theorem gX5_lawfulMessage_X2_codeword_n114 : GoodIn wsX5_lawfulMessage (wsX2_codeword) := ggX5_lawfulMessage_X2_codeword
set_option maxRecDepth 20000 in
theorem ggX5_lawfulMessage_X3_differingBlocks : GoodIn wsX5_lawfulMessage wsX3_differingBlocks := goodIn_r _ [27, 28, 29, 30, 20, 31, 32, 63, 64, 65, 66, 67, 68, 69, 70] (by decide +kernel) (by decide +kernel)
set_option maxRecDepth 20000 in
theorem gX5_lawfulMessage_X3_differingBlocks_n219 : GoodIn wsX5_lawfulMessage (wsX3_differingBlocks) := ggX5_lawfulMessage_X3_differingBlocks
set_option maxRecDepth 20000 in
theorem ggX5_lawfulMessage_J13_bitCount_95d88 : GoodIn wsX5_lawfulMessage wsJ13_bitCount_95d88 := goodIn_r _ [36, 37, 38, 39] (by decide +kernel) (by decide +kernel)
set_option maxRecDepth 20000 in
theorem gX5_lawfulMessage_J13_bitCount_95d88 : GoodIn wsX5_lawfulMessage (va_wsS RX5 223 yJ13_bitCount_95d88 wsJ13_bitCount_95d88) := goodIn_app (goodIn_of _ (by decide +kernel)) ggX5_lawfulMessage_J13_bitCount_95d88
set_option maxRecDepth 20000 in
theorem ggX5_lawfulMessage_X3_scoreOf : GoodIn wsX5_lawfulMessage wsX3_scoreOf := goodIn_r _ [42, 43, 44, 45, 24, 26, 25, 27, 28, 29, 30, 20, 31, 32, 63, 64, 65, 66, 67, 68, 69, 70] (by decide +kernel) (by decide +kernel)
set_option maxRecDepth 20000 in
theorem gX5_lawfulMessage_X3_scoreOf_n183 : GoodIn wsX5_lawfulMessage (wsX3_scoreOf) := ggX5_lawfulMessage_X3_scoreOf
theorem dX5_lawfulMessage_0 : decode cX5_lawfulMessage 0 = .ok (.aload_n 0, 1) := by decide +kernel
theorem dX5_lawfulMessage_1 : decode cX5_lawfulMessage 1 = .ok (.invokevirtual 187, 3) := by decide +kernel
theorem dX5_lawfulMessage_4 : decode cX5_lawfulMessage 4 = .ok (.istore_n 1, 1) := by decide +kernel
theorem dX5_lawfulMessage_5 : decode cX5_lawfulMessage 5 = .ok (.aload_n 0, 1) := by decide +kernel
theorem dX5_lawfulMessage_6 : decode cX5_lawfulMessage 6 = .ok (.getfield 10, 3) := by decide +kernel
theorem dX5_lawfulMessage_9 : decode cX5_lawfulMessage 9 = .ok (.invokevirtual 87, 3) := by decide +kernel
theorem dX5_lawfulMessage_12 : decode cX5_lawfulMessage 12 = .ok (.istore_n 2, 1) := by decide +kernel
theorem dX5_lawfulMessage_13 : decode cX5_lawfulMessage 13 = .ok (.aload_n 0, 1) := by decide +kernel
theorem dX5_lawfulMessage_14 : decode cX5_lawfulMessage 14 = .ok (.getfield 10, 3) := by decide +kernel
theorem dX5_lawfulMessage_17 : decode cX5_lawfulMessage 17 = .ok (.invokevirtual 176, 3) := by decide +kernel
theorem dX5_lawfulMessage_20 : decode cX5_lawfulMessage 20 = .ok (.istore_n 3, 1) := by decide +kernel
theorem dX5_lawfulMessage_21 : decode cX5_lawfulMessage 21 = .ok (.iconst 0, 1) := by decide +kernel
theorem dX5_lawfulMessage_22 : decode cX5_lawfulMessage 22 = .ok (.istore 4, 2) := by decide +kernel
theorem dX5_lawfulMessage_24 : decode cX5_lawfulMessage 24 = .ok (.iload 4, 2) := by decide +kernel
theorem dX5_lawfulMessage_26 : decode cX5_lawfulMessage 26 = .ok (.iload_n 3, 1) := by decide +kernel
theorem dX5_lawfulMessage_27 : decode cX5_lawfulMessage 27 = .ok (.if_icmp .ge 52, 3) := by decide +kernel
theorem dX5_lawfulMessage_30 : decode cX5_lawfulMessage 30 = .ok (.aload_n 0, 1) := by decide +kernel
theorem dX5_lawfulMessage_31 : decode cX5_lawfulMessage 31 = .ok (.getfield 33, 3) := by decide +kernel
theorem dX5_lawfulMessage_34 : decode cX5_lawfulMessage 34 = .ok (.iload 4, 2) := by decide +kernel
theorem dX5_lawfulMessage_36 : decode cX5_lawfulMessage 36 = .ok (.invokevirtual 114, 3) := by decide +kernel
theorem dX5_lawfulMessage_39 : decode cX5_lawfulMessage 39 = .ok (.lstore 5, 2) := by decide +kernel
theorem dX5_lawfulMessage_41 : decode cX5_lawfulMessage 41 = .ok (.aload_n 0, 1) := by decide +kernel
theorem dX5_lawfulMessage_42 : decode cX5_lawfulMessage 42 = .ok (.getfield 40, 3) := by decide +kernel
theorem dX5_lawfulMessage_45 : decode cX5_lawfulMessage 45 = .ok (.lload 5, 2) := by decide +kernel
theorem dX5_lawfulMessage_47 : decode cX5_lawfulMessage 47 = .ok (.invokevirtual 219, 3) := by decide +kernel
theorem dX5_lawfulMessage_50 : decode cX5_lawfulMessage 50 = .ok (.invokestatic 223, 3) := by decide +kernel
theorem dX5_lawfulMessage_53 : decode cX5_lawfulMessage 53 = .ok (.iload_n 2, 1) := by decide +kernel
theorem dX5_lawfulMessage_54 : decode cX5_lawfulMessage 54 = .ok (.if_icmp .ge 19, 3) := by decide +kernel
theorem dX5_lawfulMessage_57 : decode cX5_lawfulMessage 57 = .ok (.aload_n 0, 1) := by decide +kernel
theorem dX5_lawfulMessage_58 : decode cX5_lawfulMessage 58 = .ok (.getfield 40, 3) := by decide +kernel
theorem dX5_lawfulMessage_61 : decode cX5_lawfulMessage 61 = .ok (.lload 5, 2) := by decide +kernel
theorem dX5_lawfulMessage_63 : decode cX5_lawfulMessage 63 = .ok (.invokevirtual 183, 3) := by decide +kernel
theorem dX5_lawfulMessage_66 : decode cX5_lawfulMessage 66 = .ok (.iload_n 1, 1) := by decide +kernel
theorem dX5_lawfulMessage_67 : decode cX5_lawfulMessage 67 = .ok (.if_icmp .le 6, 3) := by decide +kernel
theorem dX5_lawfulMessage_70 : decode cX5_lawfulMessage 70 = .ok (.iload 4, 2) := by decide +kernel
theorem dX5_lawfulMessage_72 : decode cX5_lawfulMessage 72 = .ok (.ireturn, 1) := by decide +kernel
theorem dX5_lawfulMessage_73 : decode cX5_lawfulMessage 73 = .ok (.iinc 4 1, 3) := by decide +kernel
theorem dX5_lawfulMessage_76 : decode cX5_lawfulMessage 76 = .ok (.goto (-52), 3) := by decide +kernel
theorem dX5_lawfulMessage_79 : decode cX5_lawfulMessage 79 = .ok (.iconst (-1), 1) := by decide +kernel
theorem dX5_lawfulMessage_80 : decode cX5_lawfulMessage 80 = .ok (.ireturn, 1) := by decide +kernel
set_option maxRecDepth 20000 in
theorem ggX5_partInSentScore_X5_sentSymbol : GoodIn wsX5_partInSentScore wsX5_sentSymbol := goodIn_r _ [6, 7, 8, 9, 10, 11, 12, 13, 14, 15, 5, 16, 17, 18, 19, 20, 21, 22, 23, 32, 33, 34, 35, 36, 37, 38, 39] (by decide +kernel) (by decide +kernel)
set_option maxRecDepth 20000 in
theorem gX5_partInSentScore_X5_sentSymbol : GoodIn wsX5_partInSentScore (wsV RX5 164 RX5 yX5_sentSymbol wsX5_sentSymbol) := goodIn_app (goodIn_of _ (by decide +kernel)) ggX5_partInSentScore_X5_sentSymbol
theorem dX5_partInSentScore_0 : decode cX5_partInSentScore 0 = .ok (.aload_n 0, 1) := by decide +kernel
theorem dX5_partInSentScore_1 : decode cX5_partInSentScore 1 = .ok (.getfield 40, 3) := by decide +kernel
theorem dX5_partInSentScore_4 : decode cX5_partInSentScore 4 = .ok (.getfield 158, 3) := by decide +kernel
theorem dX5_partInSentScore_7 : decode cX5_partInSentScore 7 = .ok (.iload_n 1, 1) := by decide +kernel
theorem dX5_partInSentScore_8 : decode cX5_partInSentScore 8 = .ok (.iaload, 1) := by decide +kernel
theorem dX5_partInSentScore_9 : decode cX5_partInSentScore 9 = .ok (.istore_n 2, 1) := by decide +kernel
theorem dX5_partInSentScore_10 : decode cX5_partInSentScore 10 = .ok (.aload_n 0, 1) := by decide +kernel
theorem dX5_partInSentScore_11 : decode cX5_partInSentScore 11 = .ok (.getfield 40, 3) := by decide +kernel
theorem dX5_partInSentScore_14 : decode cX5_partInSentScore 14 = .ok (.getfield 155, 3) := by decide +kernel
theorem dX5_partInSentScore_17 : decode cX5_partInSentScore 17 = .ok (.iload_n 1, 1) := by decide +kernel
theorem dX5_partInSentScore_18 : decode cX5_partInSentScore 18 = .ok (.iaload, 1) := by decide +kernel
theorem dX5_partInSentScore_19 : decode cX5_partInSentScore 19 = .ok (.aload_n 0, 1) := by decide +kernel
theorem dX5_partInSentScore_20 : decode cX5_partInSentScore 20 = .ok (.iload_n 1, 1) := by decide +kernel
theorem dX5_partInSentScore_21 : decode cX5_partInSentScore 21 = .ok (.invokevirtual 164, 3) := by decide +kernel
theorem dX5_partInSentScore_24 : decode cX5_partInSentScore 24 = .ok (.if_icmp .ne 7, 3) := by decide +kernel
theorem dX5_partInSentScore_27 : decode cX5_partInSentScore 27 = .ok (.iload_n 2, 1) := by decide +kernel
theorem dX5_partInSentScore_28 : decode cX5_partInSentScore 28 = .ok (.goto 5, 3) := by decide +kernel
theorem dX5_partInSentScore_31 : decode cX5_partInSentScore 31 = .ok (.iload_n 2, 1) := by decide +kernel
theorem dX5_partInSentScore_32 : decode cX5_partInSentScore 32 = .ok (.ineg, 1) := by decide +kernel
theorem dX5_partInSentScore_33 : decode cX5_partInSentScore 33 = .ok (.ireturn, 1) := by decide +kernel
set_option maxRecDepth 20000 in
theorem ggX5_fragileBitsOf_X5_sentSymbol : GoodIn wsX5_fragileBitsOf wsX5_sentSymbol := goodIn_r _ [9, 2, 3, 10, 11, 12, 13, 14, 15, 16, 8, 17, 71, 72, 73, 74, 75, 76, 77, 78, 79, 80, 81, 82, 83, 84, 85] (by decide +kernel) (by decide +kernel)
set_option maxRecDepth 20000 in
theorem gX5_fragileBitsOf_X5_sentSymbol : GoodIn wsX5_fragileBitsOf (wsV RX5 164 RX5 yX5_sentSymbol wsX5_sentSymbol) := goodIn_app (goodIn_of _ (by decide +kernel)) ggX5_fragileBitsOf_X5_sentSymbol
set_option maxRecDepth 20000 in
theorem ggX5_fragileBitsOf_X2_codeword : GoodIn wsX5_fragileBitsOf wsX2_codeword := goodIn_r _ [13, 14, 85] (by decide +kernel) (by decide +kernel)
set_option maxRecDepth 20000 in
theorem gX5_fragileBitsOf_X2_codeword_n114 : GoodIn wsX5_fragileBitsOf (wsX2_codeword) := ggX5_fragileBitsOf_X2_codeword
set_option maxRecDepth 20000 in
theorem ggX5_fragileBitsOf_X3_scoreOf : GoodIn wsX5_fragileBitsOf wsX3_scoreOf := goodIn_r _ [21, 22, 23, 24, 25, 26, 19, 27, 28, 29, 30, 11, 31, 32, 86, 87, 88, 89, 90, 91, 92, 93] (by decide +kernel) (by decide +kernel)
set_option maxRecDepth 20000 in
theorem gX5_fragileBitsOf_X3_scoreOf_n183 : GoodIn wsX5_fragileBitsOf (wsX3_scoreOf) := ggX5_fragileBitsOf_X3_scoreOf
set_option maxRecDepth 20000 in
theorem ggX5_fragileBitsOf_X5_partInSentScore : GoodIn wsX5_fragileBitsOf wsX5_partInSentScore := goodIn_r _ [36, 1, 5, 6, 7, 8, 9, 2, 3, 10, 11, 12, 13, 14, 15, 16, 17, 71, 72, 73, 74, 75, 76, 77, 86, 87, 88, 89, 90, 91, 92, 93, 78, 79, 80, 81, 82, 83, 84, 85] (by decide +kernel) (by decide +kernel)
set_option maxRecDepth 20000 in
theorem gX5_fragileBitsOf_X5_partInSentScore : GoodIn wsX5_fragileBitsOf (wsV RX5 193 RX5 yX5_partInSentScore wsX5_partInSentScore) := goodIn_app (goodIn_of _ (by decide +kernel)) ggX5_fragileBitsOf_X5_partInSentScore
set_option maxRecDepth 20000 in
theorem ggX5_fragileBitsOf_X1_symbolOf : GoodIn wsX5_fragileBitsOf wsX1_symbolOf := goodIn_r _ [40, 41, 42, 43, 38, 44, 45, 46, 47, 48, 49, 50, 51, 52, 94, 95] (by decide +kernel) (by decide +kernel)
set_option maxRecDepth 20000 in
theorem gX5_fragileBitsOf_X1_symbolOf_n227 : GoodIn wsX5_fragileBitsOf (wsX1_symbolOf) := ggX5_fragileBitsOf_X1_symbolOf
set_option maxRecDepth 20000 in
theorem ggX5_fragileBitsOf_X1_bitsBetween : GoodIn wsX5_fragileBitsOf wsX1_bitsBetween := goodIn_r _ [44, 45, 46, 47, 48, 49, 50, 51, 52, 94, 95] (by decide +kernel) (by decide +kernel)
set_option maxRecDepth 20000 in
theorem gX5_fragileBitsOf_X1_bitsBetween_n230 : GoodIn wsX5_fragileBitsOf (wsX1_bitsBetween) := ggX5_fragileBitsOf_X1_bitsBetween
set_option maxRecDepth 20000 in
theorem ggX5_fragileBitsOf_X1_reliability : GoodIn wsX5_fragileBitsOf wsX1_reliability := goodIn_r _ [55, 56, 57, 58, 59, 60, 94, 95] (by decide +kernel) (by decide +kernel)
set_option maxRecDepth 20000 in
theorem gX5_fragileBitsOf_X1_reliability_n233 : GoodIn wsX5_fragileBitsOf (wsX1_reliability) := ggX5_fragileBitsOf_X1_reliability
set_option maxRecDepth 20000 in
theorem ggX5_fragileBitsOf_X5_lawBound : GoodIn wsX5_fragileBitsOf wsX5_lawBound := goodIn_r _ [64, 4, 3, 65, 66, 67, 68, 69, 70, 71, 72, 73, 74, 75, 76, 77, 94, 95, 78, 79, 80, 81, 82, 83, 84] (by decide +kernel) (by decide +kernel)
set_option maxRecDepth 20000 in
theorem gX5_fragileBitsOf_X5_lawBound : GoodIn wsX5_fragileBitsOf (wsV RX5 187 RX5 yX5_lawBound wsX5_lawBound) := goodIn_app (goodIn_of _ (by decide +kernel)) ggX5_fragileBitsOf_X5_lawBound
theorem dX5_fragileBitsOf_0 : decode cX5_fragileBitsOf 0 = .ok (.aload_n 0, 1) := by decide +kernel
theorem dX5_fragileBitsOf_1 : decode cX5_fragileBitsOf 1 = .ok (.iload_n 1, 1) := by decide +kernel
theorem dX5_fragileBitsOf_2 : decode cX5_fragileBitsOf 2 = .ok (.invokevirtual 164, 3) := by decide +kernel
theorem dX5_fragileBitsOf_5 : decode cX5_fragileBitsOf 5 = .ok (.istore_n 2, 1) := by decide +kernel
theorem dX5_fragileBitsOf_6 : decode cX5_fragileBitsOf 6 = .ok (.aload_n 0, 1) := by decide +kernel
theorem dX5_fragileBitsOf_7 : decode cX5_fragileBitsOf 7 = .ok (.getfield 40, 3) := by decide +kernel
theorem dX5_fragileBitsOf_10 : decode cX5_fragileBitsOf 10 = .ok (.aload_n 0, 1) := by decide +kernel
theorem dX5_fragileBitsOf_11 : decode cX5_fragileBitsOf 11 = .ok (.getfield 33, 3) := by decide +kernel
theorem dX5_fragileBitsOf_14 : decode cX5_fragileBitsOf 14 = .ok (.aload_n 0, 1) := by decide +kernel
theorem dX5_fragileBitsOf_15 : decode cX5_fragileBitsOf 15 = .ok (.getfield 10, 3) := by decide +kernel
theorem dX5_fragileBitsOf_18 : decode cX5_fragileBitsOf 18 = .ok (.getfield 122, 3) := by decide +kernel
theorem dX5_fragileBitsOf_21 : decode cX5_fragileBitsOf 21 = .ok (.invokevirtual 114, 3) := by decide +kernel
theorem dX5_fragileBitsOf_24 : decode cX5_fragileBitsOf 24 = .ok (.invokevirtual 183, 3) := by decide +kernel
theorem dX5_fragileBitsOf_27 : decode cX5_fragileBitsOf 27 = .ok (.aload_n 0, 1) := by decide +kernel
theorem dX5_fragileBitsOf_28 : decode cX5_fragileBitsOf 28 = .ok (.iload_n 1, 1) := by decide +kernel
theorem dX5_fragileBitsOf_29 : decode cX5_fragileBitsOf 29 = .ok (.invokevirtual 193, 3) := by decide +kernel
theorem dX5_fragileBitsOf_32 : decode cX5_fragileBitsOf 32 = .ok (.isub, 1) := by decide +kernel
theorem dX5_fragileBitsOf_33 : decode cX5_fragileBitsOf 33 = .ok (.istore_n 3, 1) := by decide +kernel
theorem dX5_fragileBitsOf_34 : decode cX5_fragileBitsOf 34 = .ok (.iconst 0, 1) := by decide +kernel
theorem dX5_fragileBitsOf_35 : decode cX5_fragileBitsOf 35 = .ok (.istore 4, 2) := by decide +kernel
theorem dX5_fragileBitsOf_37 : decode cX5_fragileBitsOf 37 = .ok (.iconst 0, 1) := by decide +kernel
theorem dX5_fragileBitsOf_38 : decode cX5_fragileBitsOf 38 = .ok (.istore 5, 2) := by decide +kernel
theorem dX5_fragileBitsOf_40 : decode cX5_fragileBitsOf 40 = .ok (.iload 5, 2) := by decide +kernel
theorem dX5_fragileBitsOf_42 : decode cX5_fragileBitsOf 42 = .ok (.aload_n 0, 1) := by decide +kernel
theorem dX5_fragileBitsOf_43 : decode cX5_fragileBitsOf 43 = .ok (.getfield 10, 3) := by decide +kernel
theorem dX5_fragileBitsOf_46 : decode cX5_fragileBitsOf 46 = .ok (.getfield 72, 3) := by decide +kernel
theorem dX5_fragileBitsOf_49 : decode cX5_fragileBitsOf 49 = .ok (.if_icmp .ge 86, 3) := by decide +kernel
theorem dX5_fragileBitsOf_52 : decode cX5_fragileBitsOf 52 = .ok (.aload_n 0, 1) := by decide +kernel
theorem dX5_fragileBitsOf_53 : decode cX5_fragileBitsOf 53 = .ok (.getfield 10, 3) := by decide +kernel
theorem dX5_fragileBitsOf_56 : decode cX5_fragileBitsOf 56 = .ok (.getfield 128, 3) := by decide +kernel
theorem dX5_fragileBitsOf_59 : decode cX5_fragileBitsOf 59 = .ok (.iload_n 1, 1) := by decide +kernel
theorem dX5_fragileBitsOf_60 : decode cX5_fragileBitsOf 60 = .ok (.iaload, 1) := by decide +kernel
theorem dX5_fragileBitsOf_61 : decode cX5_fragileBitsOf 61 = .ok (.iconst 1, 1) := by decide +kernel
theorem dX5_fragileBitsOf_62 : decode cX5_fragileBitsOf 62 = .ok (.iload 5, 2) := by decide +kernel
theorem dX5_fragileBitsOf_64 : decode cX5_fragileBitsOf 64 = .ok (.ishl, 1) := by decide +kernel
theorem dX5_fragileBitsOf_65 : decode cX5_fragileBitsOf 65 = .ok (.ixor, 1) := by decide +kernel
theorem dX5_fragileBitsOf_66 : decode cX5_fragileBitsOf 66 = .ok (.istore 6, 2) := by decide +kernel
theorem dX5_fragileBitsOf_68 : decode cX5_fragileBitsOf 68 = .ok (.aload_n 0, 1) := by decide +kernel
theorem dX5_fragileBitsOf_69 : decode cX5_fragileBitsOf 69 = .ok (.getfield 26, 3) := by decide +kernel
theorem dX5_fragileBitsOf_72 : decode cX5_fragileBitsOf 72 = .ok (.iload 6, 2) := by decide +kernel
theorem dX5_fragileBitsOf_74 : decode cX5_fragileBitsOf 74 = .ok (.invokevirtual 227, 3) := by decide +kernel
theorem dX5_fragileBitsOf_77 : decode cX5_fragileBitsOf 77 = .ok (.istore 7, 2) := by decide +kernel
theorem dX5_fragileBitsOf_79 : decode cX5_fragileBitsOf 79 = .ok (.aload_n 0, 1) := by decide +kernel
theorem dX5_fragileBitsOf_80 : decode cX5_fragileBitsOf 80 = .ok (.getfield 26, 3) := by decide +kernel
theorem dX5_fragileBitsOf_83 : decode cX5_fragileBitsOf 83 = .ok (.aload_n 0, 1) := by decide +kernel
theorem dX5_fragileBitsOf_84 : decode cX5_fragileBitsOf 84 = .ok (.getfield 26, 3) := by decide +kernel
theorem dX5_fragileBitsOf_87 : decode cX5_fragileBitsOf 87 = .ok (.iload 6, 2) := by decide +kernel
theorem dX5_fragileBitsOf_89 : decode cX5_fragileBitsOf 89 = .ok (.iload 7, 2) := by decide +kernel
theorem dX5_fragileBitsOf_91 : decode cX5_fragileBitsOf 91 = .ok (.invokevirtual 230, 3) := by decide +kernel
theorem dX5_fragileBitsOf_94 : decode cX5_fragileBitsOf 94 = .ok (.invokevirtual 233, 3) := by decide +kernel
theorem dX5_fragileBitsOf_97 : decode cX5_fragileBitsOf 97 = .ok (.istore 8, 2) := by decide +kernel
theorem dX5_fragileBitsOf_99 : decode cX5_fragileBitsOf 99 = .ok (.iload 7, 2) := by decide +kernel
theorem dX5_fragileBitsOf_101 : decode cX5_fragileBitsOf 101 = .ok (.iload_n 2, 1) := by decide +kernel
theorem dX5_fragileBitsOf_102 : decode cX5_fragileBitsOf 102 = .ok (.if_icmp .ne 8, 3) := by decide +kernel
theorem dX5_fragileBitsOf_105 : decode cX5_fragileBitsOf 105 = .ok (.iload 8, 2) := by decide +kernel
theorem dX5_fragileBitsOf_107 : decode cX5_fragileBitsOf 107 = .ok (.goto 6, 3) := by decide +kernel
theorem dX5_fragileBitsOf_110 : decode cX5_fragileBitsOf 110 = .ok (.iload 8, 2) := by decide +kernel
theorem dX5_fragileBitsOf_112 : decode cX5_fragileBitsOf 112 = .ok (.ineg, 1) := by decide +kernel
theorem dX5_fragileBitsOf_113 : decode cX5_fragileBitsOf 113 = .ok (.istore 9, 2) := by decide +kernel
theorem dX5_fragileBitsOf_115 : decode cX5_fragileBitsOf 115 = .ok (.iload_n 3, 1) := by decide +kernel
theorem dX5_fragileBitsOf_116 : decode cX5_fragileBitsOf 116 = .ok (.iload 9, 2) := by decide +kernel
theorem dX5_fragileBitsOf_118 : decode cX5_fragileBitsOf 118 = .ok (.iadd, 1) := by decide +kernel
theorem dX5_fragileBitsOf_119 : decode cX5_fragileBitsOf 119 = .ok (.aload_n 0, 1) := by decide +kernel
theorem dX5_fragileBitsOf_120 : decode cX5_fragileBitsOf 120 = .ok (.invokevirtual 187, 3) := by decide +kernel
theorem dX5_fragileBitsOf_123 : decode cX5_fragileBitsOf 123 = .ok (.if_icmp .gt 6, 3) := by decide +kernel
theorem dX5_fragileBitsOf_126 : decode cX5_fragileBitsOf 126 = .ok (.iinc 4 1, 3) := by decide +kernel
theorem dX5_fragileBitsOf_129 : decode cX5_fragileBitsOf 129 = .ok (.iinc 5 1, 3) := by decide +kernel
theorem dX5_fragileBitsOf_132 : decode cX5_fragileBitsOf 132 = .ok (.goto (-92), 3) := by decide +kernel
theorem dX5_fragileBitsOf_135 : decode cX5_fragileBitsOf 135 = .ok (.iload 4, 2) := by decide +kernel
theorem dX5_fragileBitsOf_137 : decode cX5_fragileBitsOf 137 = .ok (.ireturn, 1) := by decide +kernel
set_option maxRecDepth 20000 in
theorem ggX5_nearestMessage_X2_codeword : GoodIn wsX5_nearestMessage wsX2_codeword := goodIn_r _ [6, 7, 43] (by decide +kernel) (by decide +kernel)
set_option maxRecDepth 20000 in
theorem gX5_nearestMessage_X2_codeword_n114 : GoodIn wsX5_nearestMessage (wsX2_codeword) := ggX5_nearestMessage_X2_codeword
set_option maxRecDepth 20000 in
theorem ggX5_nearestMessage_X4_messages : GoodIn wsX5_nearestMessage wsX4_messages := goodIn_r _ [11, 12, 36, 37, 38, 39, 40, 41, 42] (by decide +kernel) (by decide +kernel)
set_option maxRecDepth 20000 in
theorem gX5_nearestMessage_X4_messages_n176 : GoodIn wsX5_nearestMessage (wsX4_messages) := ggX5_nearestMessage_X4_messages
set_option maxRecDepth 20000 in
theorem ggX5_nearestMessage_X2_markSymbols : GoodIn wsX5_nearestMessage wsX2_markSymbols := goodIn_r _ [14, 15] (by decide +kernel) (by decide +kernel)
set_option maxRecDepth 20000 in
theorem gX5_nearestMessage_X2_markSymbols_n236 : GoodIn wsX5_nearestMessage (wsX2_markSymbols) := ggX5_nearestMessage_X2_markSymbols
set_option maxRecDepth 20000 in
theorem ggX5_nearestMessage_X2_marks : GoodIn wsX5_nearestMessage wsX2_marks := goodIn_r _ [17, 15] (by decide +kernel) (by decide +kernel)
set_option maxRecDepth 20000 in
theorem gX5_nearestMessage_X2_marks_n239 : GoodIn wsX5_nearestMessage (wsX2_marks) := ggX5_nearestMessage_X2_marks
set_option maxRecDepth 20000 in
theorem ggX5_nearestMessage_J13_bitCount_95d88 : GoodIn wsX5_nearestMessage wsJ13_bitCount_95d88 := goodIn_r _ [21, 22, 23, 24] (by decide +kernel) (by decide +kernel)
set_option maxRecDepth 20000 in
theorem gX5_nearestMessage_J13_bitCount_95d88 : GoodIn wsX5_nearestMessage (va_wsS RX5 223 yJ13_bitCount_95d88 wsJ13_bitCount_95d88) := goodIn_app (goodIn_of _ (by decide +kernel)) ggX5_nearestMessage_J13_bitCount_95d88
set_option maxRecDepth 20000 in
theorem ggX5_nearestMessage_X4_outerDistance : GoodIn wsX5_nearestMessage wsX4_outerDistance := goodIn_r _ [27, 28, 12, 36, 37, 38, 39, 40, 41, 42] (by decide +kernel) (by decide +kernel)
set_option maxRecDepth 20000 in
theorem gX5_nearestMessage_X4_outerDistance_n87 : GoodIn wsX5_nearestMessage (wsX4_outerDistance) := ggX5_nearestMessage_X4_outerDistance
theorem dX5_nearestMessage_0 : decode cX5_nearestMessage 0 = .ok (.aload_n 0, 1) := by decide +kernel
theorem dX5_nearestMessage_1 : decode cX5_nearestMessage 1 = .ok (.getfield 33, 3) := by decide +kernel
theorem dX5_nearestMessage_4 : decode cX5_nearestMessage 4 = .ok (.iload_n 1, 1) := by decide +kernel
theorem dX5_nearestMessage_5 : decode cX5_nearestMessage 5 = .ok (.invokevirtual 114, 3) := by decide +kernel
theorem dX5_nearestMessage_8 : decode cX5_nearestMessage 8 = .ok (.lstore_n 2, 1) := by decide +kernel
theorem dX5_nearestMessage_9 : decode cX5_nearestMessage 9 = .ok (.aload_n 0, 1) := by decide +kernel
theorem dX5_nearestMessage_10 : decode cX5_nearestMessage 10 = .ok (.getfield 10, 3) := by decide +kernel
theorem dX5_nearestMessage_13 : decode cX5_nearestMessage 13 = .ok (.invokevirtual 176, 3) := by decide +kernel
theorem dX5_nearestMessage_16 : decode cX5_nearestMessage 16 = .ok (.istore 4, 2) := by decide +kernel
theorem dX5_nearestMessage_18 : decode cX5_nearestMessage 18 = .ok (.iconst 0, 1) := by decide +kernel
theorem dX5_nearestMessage_19 : decode cX5_nearestMessage 19 = .ok (.istore 5, 2) := by decide +kernel
theorem dX5_nearestMessage_21 : decode cX5_nearestMessage 21 = .ok (.iload 5, 2) := by decide +kernel
theorem dX5_nearestMessage_23 : decode cX5_nearestMessage 23 = .ok (.iload 4, 2) := by decide +kernel
theorem dX5_nearestMessage_25 : decode cX5_nearestMessage 25 = .ok (.if_icmp .ge 58, 3) := by decide +kernel
theorem dX5_nearestMessage_28 : decode cX5_nearestMessage 28 = .ok (.lload_n 2, 1) := by decide +kernel
theorem dX5_nearestMessage_29 : decode cX5_nearestMessage 29 = .ok (.aload_n 0, 1) := by decide +kernel
theorem dX5_nearestMessage_30 : decode cX5_nearestMessage 30 = .ok (.getfield 33, 3) := by decide +kernel
theorem dX5_nearestMessage_33 : decode cX5_nearestMessage 33 = .ok (.iload 5, 2) := by decide +kernel
theorem dX5_nearestMessage_35 : decode cX5_nearestMessage 35 = .ok (.invokevirtual 114, 3) := by decide +kernel
theorem dX5_nearestMessage_38 : decode cX5_nearestMessage 38 = .ok (.lxor, 1) := by decide +kernel
theorem dX5_nearestMessage_39 : decode cX5_nearestMessage 39 = .ok (.invokestatic 236, 3) := by decide +kernel
theorem dX5_nearestMessage_42 : decode cX5_nearestMessage 42 = .ok (.lstore 6, 2) := by decide +kernel
theorem dX5_nearestMessage_44 : decode cX5_nearestMessage 44 = .ok (.lload 6, 2) := by decide +kernel
theorem dX5_nearestMessage_46 : decode cX5_nearestMessage 46 = .ok (.aload_n 0, 1) := by decide +kernel
theorem dX5_nearestMessage_47 : decode cX5_nearestMessage 47 = .ok (.getfield 10, 3) := by decide +kernel
theorem dX5_nearestMessage_50 : decode cX5_nearestMessage 50 = .ok (.getfield 55, 3) := by decide +kernel
theorem dX5_nearestMessage_53 : decode cX5_nearestMessage 53 = .ok (.invokestatic 239, 3) := by decide +kernel
theorem dX5_nearestMessage_56 : decode cX5_nearestMessage 56 = .ok (.land, 1) := by decide +kernel
theorem dX5_nearestMessage_57 : decode cX5_nearestMessage 57 = .ok (.invokestatic 223, 3) := by decide +kernel
theorem dX5_nearestMessage_60 : decode cX5_nearestMessage 60 = .ok (.istore 8, 2) := by decide +kernel
theorem dX5_nearestMessage_62 : decode cX5_nearestMessage 62 = .ok (.iload 8, 2) := by decide +kernel
theorem dX5_nearestMessage_64 : decode cX5_nearestMessage 64 = .ok (.aload_n 0, 1) := by decide +kernel
theorem dX5_nearestMessage_65 : decode cX5_nearestMessage 65 = .ok (.getfield 10, 3) := by decide +kernel
theorem dX5_nearestMessage_68 : decode cX5_nearestMessage 68 = .ok (.invokevirtual 87, 3) := by decide +kernel
theorem dX5_nearestMessage_71 : decode cX5_nearestMessage 71 = .ok (.if_icmp .ne 6, 3) := by decide +kernel
theorem dX5_nearestMessage_74 : decode cX5_nearestMessage 74 = .ok (.iload 5, 2) := by decide +kernel
theorem dX5_nearestMessage_76 : decode cX5_nearestMessage 76 = .ok (.ireturn, 1) := by decide +kernel
theorem dX5_nearestMessage_77 : decode cX5_nearestMessage 77 = .ok (.iinc 5 1, 3) := by decide +kernel
theorem dX5_nearestMessage_80 : decode cX5_nearestMessage 80 = .ok (.goto (-59), 3) := by decide +kernel
theorem dX5_nearestMessage_83 : decode cX5_nearestMessage 83 = .ok (.sipush (-1004), 3) := by decide +kernel
theorem dX5_nearestMessage_86 : decode cX5_nearestMessage 86 = .ok (.ireturn, 1) := by decide +kernel
end
section
set_option maxRecDepth 20000 in
theorem ggX6_init_X6_multiplied : GoodIn wsX6_init wsX6_multiplied := goodIn_r _ [22] (by decide +kernel) (by decide +kernel)
set_option maxRecDepth 20000 in
theorem gX6_init_X6_multiplied : GoodIn wsX6_init (va_wsS RX6 48 yX6_multiplied wsX6_multiplied) := goodIn_app (goodIn_of _ (by decide +kernel)) ggX6_init_X6_multiplied
set_option maxRecDepth 20000 in
theorem ggX6_init_X6_prepares : GoodIn wsX6_init wsX6_prepares := goodIn_r _ [26, 27, 12, 5, 14, 13, 28, 29, 21, 30, 31, 32, 33, 34, 35, 36, 37, 38, 39, 40, 41, 42, 43, 44, 45, 46, 47] (by decide +kernel) (by decide +kernel)
set_option maxRecDepth 20000 in
theorem gX6_init_X6_prepares : GoodIn wsX6_init (wsV RX6 52 RX6 yX6_prepares wsX6_prepares) := goodIn_app (goodIn_of _ (by decide +kernel)) ggX6_init_X6_prepares
theorem dX6_init_0 : decode cX6_init 0 = .ok (.aload_n 0, 1) := by decide +kernel
theorem dX6_init_1 : decode cX6_init 1 = .ok (.invokespecial 1, 3) := by decide +kernel
theorem dX6_init_4 : decode cX6_init 4 = .ok (.aload_n 0, 1) := by decide +kernel
theorem dX6_init_5 : decode cX6_init 5 = .ok (.bipush 21, 2) := by decide +kernel
theorem dX6_init_7 : decode cX6_init 7 = .ok (.newarray .int, 2) := by decide +kernel
theorem dX6_init_9 : decode cX6_init 9 = .ok (.putfield 7, 3) := by decide +kernel
theorem dX6_init_12 : decode cX6_init 12 = .ok (.aload_n 0, 1) := by decide +kernel
theorem dX6_init_13 : decode cX6_init 13 = .ok (.bipush 126, 2) := by decide +kernel
theorem dX6_init_15 : decode cX6_init 15 = .ok (.newarray .int, 2) := by decide +kernel
theorem dX6_init_17 : decode cX6_init 17 = .ok (.putfield 13, 3) := by decide +kernel
theorem dX6_init_20 : decode cX6_init 20 = .ok (.aload_n 0, 1) := by decide +kernel
theorem dX6_init_21 : decode cX6_init 21 = .ok (.iconst 4, 1) := by decide +kernel
theorem dX6_init_22 : decode cX6_init 22 = .ok (.newarray .int, 2) := by decide +kernel
theorem dX6_init_24 : decode cX6_init 24 = .ok (.putfield 16, 3) := by decide +kernel
theorem dX6_init_27 : decode cX6_init 27 = .ok (.aload_n 0, 1) := by decide +kernel
theorem dX6_init_28 : decode cX6_init 28 = .ok (.sipush 256, 3) := by decide +kernel
theorem dX6_init_31 : decode cX6_init 31 = .ok (.newarray .int, 2) := by decide +kernel
theorem dX6_init_33 : decode cX6_init 33 = .ok (.putfield 19, 3) := by decide +kernel
theorem dX6_init_36 : decode cX6_init 36 = .ok (.aload_n 0, 1) := by decide +kernel
theorem dX6_init_37 : decode cX6_init 37 = .ok (.ldc 22, 2) := by decide +kernel
theorem dX6_init_39 : decode cX6_init 39 = .ok (.newarray .byte, 2) := by decide +kernel
theorem dX6_init_41 : decode cX6_init 41 = .ok (.putfield 23, 3) := by decide +kernel
theorem dX6_init_44 : decode cX6_init 44 = .ok (.aload_n 0, 1) := by decide +kernel
theorem dX6_init_45 : decode cX6_init 45 = .ok (.bipush 16, 2) := by decide +kernel
theorem dX6_init_47 : decode cX6_init 47 = .ok (.newarray .int, 2) := by decide +kernel
theorem dX6_init_49 : decode cX6_init 49 = .ok (.putfield 27, 3) := by decide +kernel
theorem dX6_init_52 : decode cX6_init 52 = .ok (.aload_n 0, 1) := by decide +kernel
theorem dX6_init_53 : decode cX6_init 53 = .ok (.sipush 1024, 3) := by decide +kernel
theorem dX6_init_56 : decode cX6_init 56 = .ok (.newarray .int, 2) := by decide +kernel
theorem dX6_init_58 : decode cX6_init 58 = .ok (.putfield 30, 3) := by decide +kernel
theorem dX6_init_61 : decode cX6_init 61 = .ok (.aload_n 0, 1) := by decide +kernel
theorem dX6_init_62 : decode cX6_init 62 = .ok (.sipush 1024, 3) := by decide +kernel
theorem dX6_init_65 : decode cX6_init 65 = .ok (.newarray .int, 2) := by decide +kernel
theorem dX6_init_67 : decode cX6_init 67 = .ok (.putfield 33, 3) := by decide +kernel
theorem dX6_init_70 : decode cX6_init 70 = .ok (.aload_n 0, 1) := by decide +kernel
theorem dX6_init_71 : decode cX6_init 71 = .ok (.bipush 12, 2) := by decide +kernel
theorem dX6_init_73 : decode cX6_init 73 = .ok (.newarray .int, 2) := by decide +kernel
theorem dX6_init_75 : decode cX6_init 75 = .ok (.putfield 36, 3) := by decide +kernel
theorem dX6_init_78 : decode cX6_init 78 = .ok (.aload_n 0, 1) := by decide +kernel
theorem dX6_init_79 : decode cX6_init 79 = .ok (.bipush 12, 2) := by decide +kernel
theorem dX6_init_81 : decode cX6_init 81 = .ok (.newarray .int, 2) := by decide +kernel
theorem dX6_init_83 : decode cX6_init 83 = .ok (.putfield 39, 3) := by decide +kernel
theorem dX6_init_86 : decode cX6_init 86 = .ok (.aload_n 0, 1) := by decide +kernel
theorem dX6_init_87 : decode cX6_init 87 = .ok (.bipush 12, 2) := by decide +kernel
theorem dX6_init_89 : decode cX6_init 89 = .ok (.newarray .int, 2) := by decide +kernel
theorem dX6_init_91 : decode cX6_init 91 = .ok (.putfield 42, 3) := by decide +kernel
theorem dX6_init_94 : decode cX6_init 94 = .ok (.aload_n 0, 1) := by decide +kernel
theorem dX6_init_95 : decode cX6_init 95 = .ok (.bipush 12, 2) := by decide +kernel
theorem dX6_init_97 : decode cX6_init 97 = .ok (.newarray .int, 2) := by decide +kernel
theorem dX6_init_99 : decode cX6_init 99 = .ok (.putfield 45, 3) := by decide +kernel
theorem dX6_init_102 : decode cX6_init 102 = .ok (.iconst 0, 1) := by decide +kernel
theorem dX6_init_103 : decode cX6_init 103 = .ok (.istore_n 1, 1) := by decide +kernel
theorem dX6_init_104 : decode cX6_init 104 = .ok (.iload_n 1, 1) := by decide +kernel
theorem dX6_init_105 : decode cX6_init 105 = .ok (.sipush 256, 3) := by decide +kernel
theorem dX6_init_108 : decode cX6_init 108 = .ok (.if_icmp .ge 26, 3) := by decide +kernel
theorem dX6_init_111 : decode cX6_init 111 = .ok (.aload_n 0, 1) := by decide +kernel
theorem dX6_init_112 : decode cX6_init 112 = .ok (.getfield 19, 3) := by decide +kernel
theorem dX6_init_115 : decode cX6_init 115 = .ok (.iload_n 1, 1) := by decide +kernel
theorem dX6_init_116 : decode cX6_init 116 = .ok (.iload_n 1, 1) := by decide +kernel
theorem dX6_init_117 : decode cX6_init 117 = .ok (.bipush 16, 2) := by decide +kernel
theorem dX6_init_119 : decode cX6_init 119 = .ok (.idiv, 1) := by decide +kernel
theorem dX6_init_120 : decode cX6_init 120 = .ok (.iload_n 1, 1) := by decide +kernel
theorem dX6_init_121 : decode cX6_init 121 = .ok (.bipush 16, 2) := by decide +kernel
theorem dX6_init_123 : decode cX6_init 123 = .ok (.irem, 1) := by decide +kernel
theorem dX6_init_124 : decode cX6_init 124 = .ok (.invokestatic 48, 3) := by decide +kernel
theorem dX6_init_127 : decode cX6_init 127 = .ok (.iastore, 1) := by decide +kernel
theorem dX6_init_128 : decode cX6_init 128 = .ok (.iinc 1 1, 3) := by decide +kernel
theorem dX6_init_131 : decode cX6_init 131 = .ok (.goto (-27), 3) := by decide +kernel
theorem dX6_init_134 : decode cX6_init 134 = .ok (.iconst 0, 1) := by decide +kernel
theorem dX6_init_135 : decode cX6_init 135 = .ok (.istore_n 1, 1) := by decide +kernel
theorem dX6_init_136 : decode cX6_init 136 = .ok (.iload_n 1, 1) := by decide +kernel
theorem dX6_init_137 : decode cX6_init 137 = .ok (.sipush 4096, 3) := by decide +kernel
theorem dX6_init_140 : decode cX6_init 140 = .ok (.if_icmp .ge 87, 3) := by decide +kernel
theorem dX6_init_143 : decode cX6_init 143 = .ok (.iconst 0, 1) := by decide +kernel
theorem dX6_init_144 : decode cX6_init 144 = .ok (.istore_n 2, 1) := by decide +kernel
theorem dX6_init_145 : decode cX6_init 145 = .ok (.iload_n 2, 1) := by decide +kernel
theorem dX6_init_146 : decode cX6_init 146 = .ok (.bipush 12, 2) := by decide +kernel
theorem dX6_init_148 : decode cX6_init 148 = .ok (.if_icmp .ge 73, 3) := by decide +kernel
theorem dX6_init_151 : decode cX6_init 151 = .ok (.iload_n 2, 1) := by decide +kernel
theorem dX6_init_152 : decode cX6_init 152 = .ok (.iconst 1, 1) := by decide +kernel
theorem dX6_init_153 : decode cX6_init 153 = .ok (.iadd, 1) := by decide +kernel
theorem dX6_init_154 : decode cX6_init 154 = .ok (.istore_n 3, 1) := by decide +kernel
theorem dX6_init_155 : decode cX6_init 155 = .ok (.aload_n 0, 1) := by decide +kernel
theorem dX6_init_156 : decode cX6_init 156 = .ok (.getfield 23, 3) := by decide +kernel
theorem dX6_init_159 : decode cX6_init 159 = .ok (.bipush 12, 2) := by decide +kernel
theorem dX6_init_161 : decode cX6_init 161 = .ok (.iload_n 1, 1) := by decide +kernel
theorem dX6_init_162 : decode cX6_init 162 = .ok (.imul, 1) := by decide +kernel
theorem dX6_init_163 : decode cX6_init 163 = .ok (.iload_n 2, 1) := by decide +kernel
theorem dX6_init_164 : decode cX6_init 164 = .ok (.iadd, 1) := by decide +kernel
theorem dX6_init_165 : decode cX6_init 165 = .ok (.iload_n 1, 1) := by decide +kernel
theorem dX6_init_166 : decode cX6_init 166 = .ok (.bipush 16, 2) := by decide +kernel
theorem dX6_init_168 : decode cX6_init 168 = .ok (.irem, 1) := by decide +kernel
theorem dX6_init_169 : decode cX6_init 169 = .ok (.aload_n 0, 1) := by decide +kernel
theorem dX6_init_170 : decode cX6_init 170 = .ok (.getfield 19, 3) := by decide +kernel
theorem dX6_init_173 : decode cX6_init 173 = .ok (.bipush 16, 2) := by decide +kernel
theorem dX6_init_175 : decode cX6_init 175 = .ok (.iload_n 1, 1) := by decide +kernel
theorem dX6_init_176 : decode cX6_init 176 = .ok (.bipush 16, 2) := by decide +kernel
theorem dX6_init_178 : decode cX6_init 178 = .ok (.idiv, 1) := by decide +kernel
theorem dX6_init_179 : decode cX6_init 179 = .ok (.bipush 16, 2) := by decide +kernel
theorem dX6_init_181 : decode cX6_init 181 = .ok (.irem, 1) := by decide +kernel
theorem dX6_init_182 : decode cX6_init 182 = .ok (.imul, 1) := by decide +kernel
theorem dX6_init_183 : decode cX6_init 183 = .ok (.iload_n 3, 1) := by decide +kernel
theorem dX6_init_184 : decode cX6_init 184 = .ok (.iadd, 1) := by decide +kernel
theorem dX6_init_185 : decode cX6_init 185 = .ok (.iaload, 1) := by decide +kernel
theorem dX6_init_186 : decode cX6_init 186 = .ok (.ixor, 1) := by decide +kernel
theorem dX6_init_187 : decode cX6_init 187 = .ok (.aload_n 0, 1) := by decide +kernel
theorem dX6_init_188 : decode cX6_init 188 = .ok (.getfield 19, 3) := by decide +kernel
theorem dX6_init_191 : decode cX6_init 191 = .ok (.bipush 16, 2) := by decide +kernel
theorem dX6_init_193 : decode cX6_init 193 = .ok (.iload_n 1, 1) := by decide +kernel
theorem dX6_init_194 : decode cX6_init 194 = .ok (.sipush 256, 3) := by decide +kernel
theorem dX6_init_197 : decode cX6_init 197 = .ok (.idiv, 1) := by decide +kernel
theorem dX6_init_198 : decode cX6_init 198 = .ok (.imul, 1) := by decide +kernel
theorem dX6_init_199 : decode cX6_init 199 = .ok (.aload_n 0, 1) := by decide +kernel
theorem dX6_init_200 : decode cX6_init 200 = .ok (.getfield 19, 3) := by decide +kernel
theorem dX6_init_203 : decode cX6_init 203 = .ok (.bipush 16, 2) := by decide +kernel
theorem dX6_init_205 : decode cX6_init 205 = .ok (.iload_n 3, 1) := by decide +kernel
theorem dX6_init_206 : decode cX6_init 206 = .ok (.imul, 1) := by decide +kernel
theorem dX6_init_207 : decode cX6_init 207 = .ok (.iload_n 3, 1) := by decide +kernel
theorem dX6_init_208 : decode cX6_init 208 = .ok (.iadd, 1) := by decide +kernel
theorem dX6_init_209 : decode cX6_init 209 = .ok (.iaload, 1) := by decide +kernel
theorem dX6_init_210 : decode cX6_init 210 = .ok (.iadd, 1) := by decide +kernel
theorem dX6_init_211 : decode cX6_init 211 = .ok (.iaload, 1) := by decide +kernel
theorem dX6_init_212 : decode cX6_init 212 = .ok (.ixor, 1) := by decide +kernel
theorem dX6_init_213 : decode cX6_init 213 = .ok (.i2b, 1) := by decide +kernel
theorem dX6_init_214 : decode cX6_init 214 = .ok (.bastore, 1) := by decide +kernel
theorem dX6_init_215 : decode cX6_init 215 = .ok (.iinc 2 1, 3) := by decide +kernel
theorem dX6_init_218 : decode cX6_init 218 = .ok (.goto (-73), 3) := by decide +kernel
theorem dX6_init_221 : decode cX6_init 221 = .ok (.iinc 1 1, 3) := by decide +kernel
theorem dX6_init_224 : decode cX6_init 224 = .ok (.goto (-88), 3) := by decide +kernel
theorem dX6_init_227 : decode cX6_init 227 = .ok (.aload_n 0, 1) := by decide +kernel
theorem dX6_init_228 : decode cX6_init 228 = .ok (.getfield 7, 3) := by decide +kernel
theorem dX6_init_231 : decode cX6_init 231 = .ok (.iconst 0, 1) := by decide +kernel
theorem dX6_init_232 : decode cX6_init 232 = .ok (.bipush 8, 2) := by decide +kernel
theorem dX6_init_234 : decode cX6_init 234 = .ok (.iastore, 1) := by decide +kernel
theorem dX6_init_235 : decode cX6_init 235 = .ok (.aload_n 0, 1) := by decide +kernel
theorem dX6_init_236 : decode cX6_init 236 = .ok (.getfield 7, 3) := by decide +kernel
theorem dX6_init_239 : decode cX6_init 239 = .ok (.iconst 1, 1) := by decide +kernel
theorem dX6_init_240 : decode cX6_init 240 = .ok (.iconst 3, 1) := by decide +kernel
theorem dX6_init_241 : decode cX6_init 241 = .ok (.iastore, 1) := by decide +kernel
theorem dX6_init_242 : decode cX6_init 242 = .ok (.aload_n 0, 1) := by decide +kernel
theorem dX6_init_243 : decode cX6_init 243 = .ok (.getfield 7, 3) := by decide +kernel
theorem dX6_init_246 : decode cX6_init 246 = .ok (.iconst 2, 1) := by decide +kernel
theorem dX6_init_247 : decode cX6_init 247 = .ok (.bipush 7, 2) := by decide +kernel
theorem dX6_init_249 : decode cX6_init 249 = .ok (.iastore, 1) := by decide +kernel
theorem dX6_init_250 : decode cX6_init 250 = .ok (.aload_n 0, 1) := by decide +kernel
theorem dX6_init_251 : decode cX6_init 251 = .ok (.getfield 7, 3) := by decide +kernel
theorem dX6_init_254 : decode cX6_init 254 = .ok (.iconst 3, 1) := by decide +kernel
theorem dX6_init_255 : decode cX6_init 255 = .ok (.bipush 49, 2) := by decide +kernel
theorem dX6_init_257 : decode cX6_init 257 = .ok (.iastore, 1) := by decide +kernel
theorem dX6_init_258 : decode cX6_init 258 = .ok (.aload_n 0, 1) := by decide +kernel
theorem dX6_init_259 : decode cX6_init 259 = .ok (.getfield 7, 3) := by decide +kernel
theorem dX6_init_262 : decode cX6_init 262 = .ok (.iconst 4, 1) := by decide +kernel
theorem dX6_init_263 : decode cX6_init 263 = .ok (.bipush 82, 2) := by decide +kernel
theorem dX6_init_265 : decode cX6_init 265 = .ok (.iastore, 1) := by decide +kernel
theorem dX6_init_266 : decode cX6_init 266 = .ok (.aload_n 0, 1) := by decide +kernel
theorem dX6_init_267 : decode cX6_init 267 = .ok (.getfield 7, 3) := by decide +kernel
theorem dX6_init_270 : decode cX6_init 270 = .ok (.iconst 5, 1) := by decide +kernel
theorem dX6_init_271 : decode cX6_init 271 = .ok (.bipush 100, 2) := by decide +kernel
theorem dX6_init_273 : decode cX6_init 273 = .ok (.iastore, 1) := by decide +kernel
theorem dX6_init_274 : decode cX6_init 274 = .ok (.aload_n 0, 1) := by decide +kernel
theorem dX6_init_275 : decode cX6_init 275 = .ok (.getfield 7, 3) := by decide +kernel
theorem dX6_init_278 : decode cX6_init 278 = .ok (.bipush 6, 2) := by decide +kernel
theorem dX6_init_280 : decode cX6_init 280 = .ok (.bipush 120, 2) := by decide +kernel
theorem dX6_init_282 : decode cX6_init 282 = .ok (.iastore, 1) := by decide +kernel
theorem dX6_init_283 : decode cX6_init 283 = .ok (.aload_n 0, 1) := by decide +kernel
theorem dX6_init_284 : decode cX6_init 284 = .ok (.invokevirtual 52, 3) := by decide +kernel
theorem dX6_init_287 : decode cX6_init 287 = .ok (.return_, 1) := by decide +kernel
theorem dX6_in_0 : decode cX6_in 0 = .ok (.iload_n 0, 1) := by decide +kernel
theorem dX6_in_1 : decode cX6_in 1 = .ok (.iload_n 1, 1) := by decide +kernel
theorem dX6_in_2 : decode cX6_in 2 = .ok (.if_icmp .lt 12, 3) := by decide +kernel
theorem dX6_in_5 : decode cX6_in 5 = .ok (.iload_n 0, 1) := by decide +kernel
theorem dX6_in_6 : decode cX6_in 6 = .ok (.iload_n 2, 1) := by decide +kernel
theorem dX6_in_7 : decode cX6_in 7 = .ok (.if_icmp .gt 7, 3) := by decide +kernel
theorem dX6_in_10 : decode cX6_in 10 = .ok (.iconst 1, 1) := by decide +kernel
theorem dX6_in_11 : decode cX6_in 11 = .ok (.goto 4, 3) := by decide +kernel
theorem dX6_in_14 : decode cX6_in 14 = .ok (.iconst 0, 1) := by decide +kernel
theorem dX6_in_15 : decode cX6_in 15 = .ok (.ireturn, 1) := by decide +kernel
theorem dX6_multiplied_0 : decode cX6_multiplied 0 = .ok (.iconst 0, 1) := by decide +kernel
theorem dX6_multiplied_1 : decode cX6_multiplied 1 = .ok (.istore_n 2, 1) := by decide +kernel
theorem dX6_multiplied_2 : decode cX6_multiplied 2 = .ok (.iconst 0, 1) := by decide +kernel
theorem dX6_multiplied_3 : decode cX6_multiplied 3 = .ok (.istore_n 3, 1) := by decide +kernel
theorem dX6_multiplied_4 : decode cX6_multiplied 4 = .ok (.iload_n 3, 1) := by decide +kernel
theorem dX6_multiplied_5 : decode cX6_multiplied 5 = .ok (.iconst 4, 1) := by decide +kernel
theorem dX6_multiplied_6 : decode cX6_multiplied 6 = .ok (.if_icmp .ge 28, 3) := by decide +kernel
theorem dX6_multiplied_9 : decode cX6_multiplied 9 = .ok (.iload_n 2, 1) := by decide +kernel
theorem dX6_multiplied_10 : decode cX6_multiplied 10 = .ok (.iload_n 1, 1) := by decide +kernel
theorem dX6_multiplied_11 : decode cX6_multiplied 11 = .ok (.iload_n 3, 1) := by decide +kernel
theorem dX6_multiplied_12 : decode cX6_multiplied 12 = .ok (.ishr, 1) := by decide +kernel
theorem dX6_multiplied_13 : decode cX6_multiplied 13 = .ok (.iconst 1, 1) := by decide +kernel
theorem dX6_multiplied_14 : decode cX6_multiplied 14 = .ok (.iand, 1) := by decide +kernel
theorem dX6_multiplied_15 : decode cX6_multiplied 15 = .ok (.iconst 1, 1) := by decide +kernel
theorem dX6_multiplied_16 : decode cX6_multiplied 16 = .ok (.if_icmp .ne 9, 3) := by decide +kernel
theorem dX6_multiplied_19 : decode cX6_multiplied 19 = .ok (.iload_n 0, 1) := by decide +kernel
theorem dX6_multiplied_20 : decode cX6_multiplied 20 = .ok (.iload_n 3, 1) := by decide +kernel
theorem dX6_multiplied_21 : decode cX6_multiplied 21 = .ok (.ishl, 1) := by decide +kernel
theorem dX6_multiplied_22 : decode cX6_multiplied 22 = .ok (.goto 4, 3) := by decide +kernel
theorem dX6_multiplied_25 : decode cX6_multiplied 25 = .ok (.iconst 0, 1) := by decide +kernel
theorem dX6_multiplied_26 : decode cX6_multiplied 26 = .ok (.ixor, 1) := by decide +kernel
theorem dX6_multiplied_27 : decode cX6_multiplied 27 = .ok (.istore_n 2, 1) := by decide +kernel
theorem dX6_multiplied_28 : decode cX6_multiplied 28 = .ok (.iinc 3 1, 3) := by decide +kernel
theorem dX6_multiplied_31 : decode cX6_multiplied 31 = .ok (.goto (-27), 3) := by decide +kernel
theorem dX6_multiplied_34 : decode cX6_multiplied 34 = .ok (.bipush 6, 2) := by decide +kernel
theorem dX6_multiplied_36 : decode cX6_multiplied 36 = .ok (.istore_n 3, 1) := by decide +kernel
theorem dX6_multiplied_37 : decode cX6_multiplied 37 = .ok (.iload_n 3, 1) := by decide +kernel
theorem dX6_multiplied_38 : decode cX6_multiplied 38 = .ok (.iconst 3, 1) := by decide +kernel
theorem dX6_multiplied_39 : decode cX6_multiplied 39 = .ok (.if_icmp .le 31, 3) := by decide +kernel
theorem dX6_multiplied_42 : decode cX6_multiplied 42 = .ok (.iload_n 2, 1) := by decide +kernel
theorem dX6_multiplied_43 : decode cX6_multiplied 43 = .ok (.iload_n 2, 1) := by decide +kernel
theorem dX6_multiplied_44 : decode cX6_multiplied 44 = .ok (.iload_n 3, 1) := by decide +kernel
theorem dX6_multiplied_45 : decode cX6_multiplied 45 = .ok (.ishr, 1) := by decide +kernel
theorem dX6_multiplied_46 : decode cX6_multiplied 46 = .ok (.iconst 1, 1) := by decide +kernel
theorem dX6_multiplied_47 : decode cX6_multiplied 47 = .ok (.iand, 1) := by decide +kernel
theorem dX6_multiplied_48 : decode cX6_multiplied 48 = .ok (.iconst 1, 1) := by decide +kernel
theorem dX6_multiplied_49 : decode cX6_multiplied 49 = .ok (.if_icmp .ne 12, 3) := by decide +kernel
theorem dX6_multiplied_52 : decode cX6_multiplied 52 = .ok (.bipush 19, 2) := by decide +kernel
theorem dX6_multiplied_54 : decode cX6_multiplied 54 = .ok (.iload_n 3, 1) := by decide +kernel
theorem dX6_multiplied_55 : decode cX6_multiplied 55 = .ok (.iconst 4, 1) := by decide +kernel
theorem dX6_multiplied_56 : decode cX6_multiplied 56 = .ok (.isub, 1) := by decide +kernel
theorem dX6_multiplied_57 : decode cX6_multiplied 57 = .ok (.ishl, 1) := by decide +kernel
theorem dX6_multiplied_58 : decode cX6_multiplied 58 = .ok (.goto 4, 3) := by decide +kernel
theorem dX6_multiplied_61 : decode cX6_multiplied 61 = .ok (.iconst 0, 1) := by decide +kernel
theorem dX6_multiplied_62 : decode cX6_multiplied 62 = .ok (.ixor, 1) := by decide +kernel
theorem dX6_multiplied_63 : decode cX6_multiplied 63 = .ok (.istore_n 2, 1) := by decide +kernel
theorem dX6_multiplied_64 : decode cX6_multiplied 64 = .ok (.iinc 3 (-1), 3) := by decide +kernel
theorem dX6_multiplied_67 : decode cX6_multiplied 67 = .ok (.goto (-30), 3) := by decide +kernel
theorem dX6_multiplied_70 : decode cX6_multiplied 70 = .ok (.iload_n 2, 1) := by decide +kernel
theorem dX6_multiplied_71 : decode cX6_multiplied 71 = .ok (.ireturn, 1) := by decide +kernel
theorem dX6_ones_0 : decode cX6_ones 0 = .ok (.iconst 0, 1) := by decide +kernel
theorem dX6_ones_1 : decode cX6_ones 1 = .ok (.istore_n 1, 1) := by decide +kernel
theorem dX6_ones_2 : decode cX6_ones 2 = .ok (.iload_n 0, 1) := by decide +kernel
theorem dX6_ones_3 : decode cX6_ones 3 = .ok (.istore_n 2, 1) := by decide +kernel
theorem dX6_ones_4 : decode cX6_ones 4 = .ok (.iload_n 2, 1) := by decide +kernel
theorem dX6_ones_5 : decode cX6_ones 5 = .ok (.ifCond .eq 15, 3) := by decide +kernel
theorem dX6_ones_8 : decode cX6_ones 8 = .ok (.iinc 1 1, 3) := by decide +kernel
theorem dX6_ones_11 : decode cX6_ones 11 = .ok (.iload_n 2, 1) := by decide +kernel
theorem dX6_ones_12 : decode cX6_ones 12 = .ok (.iload_n 2, 1) := by decide +kernel
theorem dX6_ones_13 : decode cX6_ones 13 = .ok (.iconst 1, 1) := by decide +kernel
theorem dX6_ones_14 : decode cX6_ones 14 = .ok (.isub, 1) := by decide +kernel
theorem dX6_ones_15 : decode cX6_ones 15 = .ok (.iand, 1) := by decide +kernel
theorem dX6_ones_16 : decode cX6_ones 16 = .ok (.istore_n 2, 1) := by decide +kernel
theorem dX6_ones_17 : decode cX6_ones 17 = .ok (.goto (-13), 3) := by decide +kernel
theorem dX6_ones_20 : decode cX6_ones 20 = .ok (.iload_n 1, 1) := by decide +kernel
theorem dX6_ones_21 : decode cX6_ones 21 = .ok (.ireturn, 1) := by decide +kernel
set_option maxRecDepth 20000 in
theorem ggX6_prepares_X6_ones : GoodIn wsX6_prepares wsX6_ones := goodIn_r _ [9] (by decide +kernel) (by decide +kernel)
set_option maxRecDepth 20000 in
theorem gX6_prepares_X6_ones : GoodIn wsX6_prepares (va_wsS RX6 59 yX6_ones wsX6_ones) := goodIn_app (goodIn_of _ (by decide +kernel)) ggX6_prepares_X6_ones
theorem dX6_prepares_0 : decode cX6_prepares 0 = .ok (.aload_n 0, 1) := by decide +kernel
theorem dX6_prepares_1 : decode cX6_prepares 1 = .ok (.bipush 99, 2) := by decide +kernel
theorem dX6_prepares_3 : decode cX6_prepares 3 = .ok (.putfield 55, 3) := by decide +kernel
theorem dX6_prepares_6 : decode cX6_prepares 6 = .ok (.iconst 0, 1) := by decide +kernel
theorem dX6_prepares_7 : decode cX6_prepares 7 = .ok (.istore_n 1, 1) := by decide +kernel
theorem dX6_prepares_8 : decode cX6_prepares 8 = .ok (.iload_n 1, 1) := by decide +kernel
theorem dX6_prepares_9 : decode cX6_prepares 9 = .ok (.bipush 16, 2) := by decide +kernel
theorem dX6_prepares_11 : decode cX6_prepares 11 = .ok (.if_icmp .ge 99, 3) := by decide +kernel
theorem dX6_prepares_14 : decode cX6_prepares 14 = .ok (.aload_n 0, 1) := by decide +kernel
theorem dX6_prepares_15 : decode cX6_prepares 15 = .ok (.getfield 27, 3) := by decide +kernel
theorem dX6_prepares_18 : decode cX6_prepares 18 = .ok (.iload_n 1, 1) := by decide +kernel
theorem dX6_prepares_19 : decode cX6_prepares 19 = .ok (.iconst 0, 1) := by decide +kernel
theorem dX6_prepares_20 : decode cX6_prepares 20 = .ok (.iastore, 1) := by decide +kernel
theorem dX6_prepares_21 : decode cX6_prepares 21 = .ok (.iconst 0, 1) := by decide +kernel
theorem dX6_prepares_22 : decode cX6_prepares 22 = .ok (.istore_n 2, 1) := by decide +kernel
theorem dX6_prepares_23 : decode cX6_prepares 23 = .ok (.iload_n 2, 1) := by decide +kernel
theorem dX6_prepares_24 : decode cX6_prepares 24 = .ok (.iconst 4, 1) := by decide +kernel
theorem dX6_prepares_25 : decode cX6_prepares 25 = .ok (.if_icmp .ge 39, 3) := by decide +kernel
theorem dX6_prepares_28 : decode cX6_prepares 28 = .ok (.aload_n 0, 1) := by decide +kernel
theorem dX6_prepares_29 : decode cX6_prepares 29 = .ok (.getfield 27, 3) := by decide +kernel
theorem dX6_prepares_32 : decode cX6_prepares 32 = .ok (.iload_n 1, 1) := by decide +kernel
theorem dX6_prepares_33 : decode cX6_prepares 33 = .ok (.dup2, 1) := by decide +kernel
theorem dX6_prepares_34 : decode cX6_prepares 34 = .ok (.iaload, 1) := by decide +kernel
theorem dX6_prepares_35 : decode cX6_prepares 35 = .ok (.iload_n 1, 1) := by decide +kernel
theorem dX6_prepares_36 : decode cX6_prepares 36 = .ok (.iload_n 2, 1) := by decide +kernel
theorem dX6_prepares_37 : decode cX6_prepares 37 = .ok (.ishr, 1) := by decide +kernel
theorem dX6_prepares_38 : decode cX6_prepares 38 = .ok (.iconst 1, 1) := by decide +kernel
theorem dX6_prepares_39 : decode cX6_prepares 39 = .ok (.iand, 1) := by decide +kernel
theorem dX6_prepares_40 : decode cX6_prepares 40 = .ok (.iconst 1, 1) := by decide +kernel
theorem dX6_prepares_41 : decode cX6_prepares 41 = .ok (.if_icmp .ne 14, 3) := by decide +kernel
theorem dX6_prepares_44 : decode cX6_prepares 44 = .ok (.aload_n 0, 1) := by decide +kernel
theorem dX6_prepares_45 : decode cX6_prepares 45 = .ok (.getfield 7, 3) := by decide +kernel
theorem dX6_prepares_48 : decode cX6_prepares 48 = .ok (.iconst 3, 1) := by decide +kernel
theorem dX6_prepares_49 : decode cX6_prepares 49 = .ok (.iload_n 2, 1) := by decide +kernel
theorem dX6_prepares_50 : decode cX6_prepares 50 = .ok (.iadd, 1) := by decide +kernel
theorem dX6_prepares_51 : decode cX6_prepares 51 = .ok (.iaload, 1) := by decide +kernel
theorem dX6_prepares_52 : decode cX6_prepares 52 = .ok (.goto 4, 3) := by decide +kernel
theorem dX6_prepares_55 : decode cX6_prepares 55 = .ok (.iconst 0, 1) := by decide +kernel
theorem dX6_prepares_56 : decode cX6_prepares 56 = .ok (.ixor, 1) := by decide +kernel
theorem dX6_prepares_57 : decode cX6_prepares 57 = .ok (.iastore, 1) := by decide +kernel
theorem dX6_prepares_58 : decode cX6_prepares 58 = .ok (.iinc 2 1, 3) := by decide +kernel
theorem dX6_prepares_61 : decode cX6_prepares 61 = .ok (.goto (-38), 3) := by decide +kernel
theorem dX6_prepares_64 : decode cX6_prepares 64 = .ok (.aload_n 0, 1) := by decide +kernel
theorem dX6_prepares_65 : decode cX6_prepares 65 = .ok (.iload_n 1, 1) := by decide +kernel
theorem dX6_prepares_66 : decode cX6_prepares 66 = .ok (.ifCond .le 31, 3) := by decide +kernel
theorem dX6_prepares_69 : decode cX6_prepares 69 = .ok (.aload_n 0, 1) := by decide +kernel
theorem dX6_prepares_70 : decode cX6_prepares 70 = .ok (.getfield 27, 3) := by decide +kernel
theorem dX6_prepares_73 : decode cX6_prepares 73 = .ok (.iload_n 1, 1) := by decide +kernel
theorem dX6_prepares_74 : decode cX6_prepares 74 = .ok (.iaload, 1) := by decide +kernel
theorem dX6_prepares_75 : decode cX6_prepares 75 = .ok (.invokestatic 59, 3) := by decide +kernel
theorem dX6_prepares_78 : decode cX6_prepares 78 = .ok (.aload_n 0, 1) := by decide +kernel
theorem dX6_prepares_79 : decode cX6_prepares 79 = .ok (.getfield 55, 3) := by decide +kernel
theorem dX6_prepares_82 : decode cX6_prepares 82 = .ok (.if_icmp .ge 15, 3) := by decide +kernel
theorem dX6_prepares_85 : decode cX6_prepares 85 = .ok (.aload_n 0, 1) := by decide +kernel
theorem dX6_prepares_86 : decode cX6_prepares 86 = .ok (.getfield 27, 3) := by decide +kernel
theorem dX6_prepares_89 : decode cX6_prepares 89 = .ok (.iload_n 1, 1) := by decide +kernel
theorem dX6_prepares_90 : decode cX6_prepares 90 = .ok (.iaload, 1) := by decide +kernel
theorem dX6_prepares_91 : decode cX6_prepares 91 = .ok (.invokestatic 59, 3) := by decide +kernel
theorem dX6_prepares_94 : decode cX6_prepares 94 = .ok (.goto 7, 3) := by decide +kernel
theorem dX6_prepares_97 : decode cX6_prepares 97 = .ok (.aload_n 0, 1) := by decide +kernel
theorem dX6_prepares_98 : decode cX6_prepares 98 = .ok (.getfield 55, 3) := by decide +kernel
theorem dX6_prepares_101 : decode cX6_prepares 101 = .ok (.putfield 55, 3) := by decide +kernel
theorem dX6_prepares_104 : decode cX6_prepares 104 = .ok (.iinc 1 1, 3) := by decide +kernel
theorem dX6_prepares_107 : decode cX6_prepares 107 = .ok (.goto (-99), 3) := by decide +kernel
theorem dX6_prepares_110 : decode cX6_prepares 110 = .ok (.iconst 0, 1) := by decide +kernel
theorem dX6_prepares_111 : decode cX6_prepares 111 = .ok (.istore_n 1, 1) := by decide +kernel
theorem dX6_prepares_112 : decode cX6_prepares 112 = .ok (.iload_n 1, 1) := by decide +kernel
theorem dX6_prepares_113 : decode cX6_prepares 113 = .ok (.iconst 1, 1) := by decide +kernel
theorem dX6_prepares_114 : decode cX6_prepares 114 = .ok (.aload_n 0, 1) := by decide +kernel
theorem dX6_prepares_115 : decode cX6_prepares 115 = .ok (.getfield 7, 3) := by decide +kernel
theorem dX6_prepares_118 : decode cX6_prepares 118 = .ok (.iconst 2, 1) := by decide +kernel
theorem dX6_prepares_119 : decode cX6_prepares 119 = .ok (.iaload, 1) := by decide +kernel
theorem dX6_prepares_120 : decode cX6_prepares 120 = .ok (.ishl, 1) := by decide +kernel
theorem dX6_prepares_121 : decode cX6_prepares 121 = .ok (.if_icmp .ge 67, 3) := by decide +kernel
theorem dX6_prepares_124 : decode cX6_prepares 124 = .ok (.aload_n 0, 1) := by decide +kernel
theorem dX6_prepares_125 : decode cX6_prepares 125 = .ok (.getfield 33, 3) := by decide +kernel
theorem dX6_prepares_128 : decode cX6_prepares 128 = .ok (.iload_n 1, 1) := by decide +kernel
theorem dX6_prepares_129 : decode cX6_prepares 129 = .ok (.bipush 99, 2) := by decide +kernel
theorem dX6_prepares_131 : decode cX6_prepares 131 = .ok (.iastore, 1) := by decide +kernel
theorem dX6_prepares_132 : decode cX6_prepares 132 = .ok (.iconst 0, 1) := by decide +kernel
theorem dX6_prepares_133 : decode cX6_prepares 133 = .ok (.istore_n 2, 1) := by decide +kernel
theorem dX6_prepares_134 : decode cX6_prepares 134 = .ok (.iload_n 2, 1) := by decide +kernel
theorem dX6_prepares_135 : decode cX6_prepares 135 = .ok (.bipush 16, 2) := by decide +kernel
theorem dX6_prepares_137 : decode cX6_prepares 137 = .ok (.if_icmp .ge 45, 3) := by decide +kernel
theorem dX6_prepares_140 : decode cX6_prepares 140 = .ok (.iload_n 1, 1) := by decide +kernel
theorem dX6_prepares_141 : decode cX6_prepares 141 = .ok (.aload_n 0, 1) := by decide +kernel
theorem dX6_prepares_142 : decode cX6_prepares 142 = .ok (.getfield 27, 3) := by decide +kernel
theorem dX6_prepares_145 : decode cX6_prepares 145 = .ok (.iload_n 2, 1) := by decide +kernel
theorem dX6_prepares_146 : decode cX6_prepares 146 = .ok (.iaload, 1) := by decide +kernel
theorem dX6_prepares_147 : decode cX6_prepares 147 = .ok (.ixor, 1) := by decide +kernel
theorem dX6_prepares_148 : decode cX6_prepares 148 = .ok (.invokestatic 59, 3) := by decide +kernel
theorem dX6_prepares_151 : decode cX6_prepares 151 = .ok (.istore_n 3, 1) := by decide +kernel
theorem dX6_prepares_152 : decode cX6_prepares 152 = .ok (.iload_n 3, 1) := by decide +kernel
theorem dX6_prepares_153 : decode cX6_prepares 153 = .ok (.aload_n 0, 1) := by decide +kernel
theorem dX6_prepares_154 : decode cX6_prepares 154 = .ok (.getfield 33, 3) := by decide +kernel
theorem dX6_prepares_157 : decode cX6_prepares 157 = .ok (.iload_n 1, 1) := by decide +kernel
theorem dX6_prepares_158 : decode cX6_prepares 158 = .ok (.iaload, 1) := by decide +kernel
theorem dX6_prepares_159 : decode cX6_prepares 159 = .ok (.if_icmp .ge 17, 3) := by decide +kernel
theorem dX6_prepares_162 : decode cX6_prepares 162 = .ok (.aload_n 0, 1) := by decide +kernel
theorem dX6_prepares_163 : decode cX6_prepares 163 = .ok (.getfield 33, 3) := by decide +kernel
theorem dX6_prepares_166 : decode cX6_prepares 166 = .ok (.iload_n 1, 1) := by decide +kernel
theorem dX6_prepares_167 : decode cX6_prepares 167 = .ok (.iload_n 3, 1) := by decide +kernel
theorem dX6_prepares_168 : decode cX6_prepares 168 = .ok (.iastore, 1) := by decide +kernel
theorem dX6_prepares_169 : decode cX6_prepares 169 = .ok (.aload_n 0, 1) := by decide +kernel
theorem dX6_prepares_170 : decode cX6_prepares 170 = .ok (.getfield 30, 3) := by decide +kernel
theorem dX6_prepares_173 : decode cX6_prepares 173 = .ok (.iload_n 1, 1) := by decide +kernel
theorem dX6_prepares_174 : decode cX6_prepares 174 = .ok (.iload_n 2, 1) := by decide +kernel
theorem dX6_prepares_175 : decode cX6_prepares 175 = .ok (.iastore, 1) := by decide +kernel
theorem dX6_prepares_176 : decode cX6_prepares 176 = .ok (.iinc 2 1, 3) := by decide +kernel
theorem dX6_prepares_179 : decode cX6_prepares 179 = .ok (.goto (-45), 3) := by decide +kernel
theorem dX6_prepares_182 : decode cX6_prepares 182 = .ok (.iinc 1 1, 3) := by decide +kernel
theorem dX6_prepares_185 : decode cX6_prepares 185 = .ok (.goto (-73), 3) := by decide +kernel
theorem dX6_prepares_188 : decode cX6_prepares 188 = .ok (.return_, 1) := by decide +kernel
set_option maxRecDepth 20000 in
theorem ggX6_isBlock_X6_in : GoodIn wsX6_isBlock wsX6_in := goodIn_r _ [5] (by decide +kernel) (by decide +kernel)
set_option maxRecDepth 20000 in
theorem gX6_isBlock_X6_in : GoodIn wsX6_isBlock (va_wsS RX6 63 yX6_in wsX6_in) := goodIn_app (goodIn_of _ (by decide +kernel)) ggX6_isBlock_X6_in
theorem dX6_isBlock_0 : decode cX6_isBlock 0 = .ok (.iload_n 1, 1) := by decide +kernel
theorem dX6_isBlock_1 : decode cX6_isBlock 1 = .ok (.iconst 0, 1) := by decide +kernel
theorem dX6_isBlock_2 : decode cX6_isBlock 2 = .ok (.aload_n 0, 1) := by decide +kernel
theorem dX6_isBlock_3 : decode cX6_isBlock 3 = .ok (.getfield 7, 3) := by decide +kernel
theorem dX6_isBlock_6 : decode cX6_isBlock 6 = .ok (.iconst 0, 1) := by decide +kernel
theorem dX6_isBlock_7 : decode cX6_isBlock 7 = .ok (.iaload, 1) := by decide +kernel
theorem dX6_isBlock_8 : decode cX6_isBlock 8 = .ok (.iconst 1, 1) := by decide +kernel
theorem dX6_isBlock_9 : decode cX6_isBlock 9 = .ok (.isub, 1) := by decide +kernel
theorem dX6_isBlock_10 : decode cX6_isBlock 10 = .ok (.invokestatic 63, 3) := by decide +kernel
theorem dX6_isBlock_13 : decode cX6_isBlock 13 = .ok (.ireturn, 1) := by decide +kernel
theorem dX6_isLost_0 : decode cX6_isLost 0 = .ok (.aload_n 0, 1) := by decide +kernel
theorem dX6_isLost_1 : decode cX6_isLost 1 = .ok (.getfield 7, 3) := by decide +kernel
theorem dX6_isLost_4 : decode cX6_isLost 4 = .ok (.bipush 7, 2) := by decide +kernel
theorem dX6_isLost_6 : decode cX6_isLost 6 = .ok (.iaload, 1) := by decide +kernel
theorem dX6_isLost_7 : decode cX6_isLost 7 = .ok (.iload_n 1, 1) := by decide +kernel
theorem dX6_isLost_8 : decode cX6_isLost 8 = .ok (.ishr, 1) := by decide +kernel
theorem dX6_isLost_9 : decode cX6_isLost 9 = .ok (.iconst 1, 1) := by decide +kernel
theorem dX6_isLost_10 : decode cX6_isLost 10 = .ok (.iand, 1) := by decide +kernel
theorem dX6_isLost_11 : decode cX6_isLost 11 = .ok (.iconst 1, 1) := by decide +kernel
theorem dX6_isLost_12 : decode cX6_isLost 12 = .ok (.if_icmp .ne 7, 3) := by decide +kernel
theorem dX6_isLost_15 : decode cX6_isLost 15 = .ok (.iconst 1, 1) := by decide +kernel
theorem dX6_isLost_16 : decode cX6_isLost 16 = .ok (.goto 4, 3) := by decide +kernel
theorem dX6_isLost_19 : decode cX6_isLost 19 = .ok (.iconst 0, 1) := by decide +kernel
theorem dX6_isLost_20 : decode cX6_isLost 20 = .ok (.ireturn, 1) := by decide +kernel
theorem dX6_messages_0 : decode cX6_messages 0 = .ok (.iconst 1, 1) := by decide +kernel
theorem dX6_messages_1 : decode cX6_messages 1 = .ok (.iconst 4, 1) := by decide +kernel
theorem dX6_messages_2 : decode cX6_messages 2 = .ok (.aload_n 0, 1) := by decide +kernel
theorem dX6_messages_3 : decode cX6_messages 3 = .ok (.getfield 7, 3) := by decide +kernel
theorem dX6_messages_6 : decode cX6_messages 6 = .ok (.iconst 1, 1) := by decide +kernel
theorem dX6_messages_7 : decode cX6_messages 7 = .ok (.iaload, 1) := by decide +kernel
theorem dX6_messages_8 : decode cX6_messages 8 = .ok (.imul, 1) := by decide +kernel
theorem dX6_messages_9 : decode cX6_messages 9 = .ok (.ishl, 1) := by decide +kernel
theorem dX6_messages_10 : decode cX6_messages 10 = .ok (.ireturn, 1) := by decide +kernel
set_option maxRecDepth 20000 in
theorem ggX6_isMessage_X6_messages : GoodIn wsX6_isMessage wsX6_messages := goodIn_r _ [5, 6, 10, 11, 12, 13, 14, 15, 16, 17, 18, 19, 20, 21, 22, 23, 24, 25, 26] (by decide +kernel) (by decide +kernel)
set_option maxRecDepth 20000 in
theorem gX6_isMessage_X6_messages : GoodIn wsX6_isMessage (wsV RX6 67 RX6 yX6_messages wsX6_messages) := goodIn_app (goodIn_of _ (by decide +kernel)) ggX6_isMessage_X6_messages
set_option maxRecDepth 20000 in
theorem ggX6_isMessage_X6_in : GoodIn wsX6_isMessage wsX6_in := goodIn_r _ [9] (by decide +kernel) (by decide +kernel)
set_option maxRecDepth 20000 in
theorem gX6_isMessage_X6_in : GoodIn wsX6_isMessage (va_wsS RX6 63 yX6_in wsX6_in) := goodIn_app (goodIn_of _ (by decide +kernel)) ggX6_isMessage_X6_in
theorem dX6_isMessage_0 : decode cX6_isMessage 0 = .ok (.iload_n 1, 1) := by decide +kernel
theorem dX6_isMessage_1 : decode cX6_isMessage 1 = .ok (.iconst 0, 1) := by decide +kernel
theorem dX6_isMessage_2 : decode cX6_isMessage 2 = .ok (.aload_n 0, 1) := by decide +kernel
theorem dX6_isMessage_3 : decode cX6_isMessage 3 = .ok (.invokevirtual 67, 3) := by decide +kernel
theorem dX6_isMessage_6 : decode cX6_isMessage 6 = .ok (.iconst 1, 1) := by decide +kernel
theorem dX6_isMessage_7 : decode cX6_isMessage 7 = .ok (.isub, 1) := by decide +kernel
theorem dX6_isMessage_8 : decode cX6_isMessage 8 = .ok (.invokestatic 63, 3) := by decide +kernel
theorem dX6_isMessage_11 : decode cX6_isMessage 11 = .ok (.ireturn, 1) := by decide +kernel
theorem dX6_distance_0 : decode cX6_distance 0 = .ok (.aload_n 0, 1) := by decide +kernel
theorem dX6_distance_1 : decode cX6_distance 1 = .ok (.getfield 7, 3) := by decide +kernel
theorem dX6_distance_4 : decode cX6_distance 4 = .ok (.iconst 0, 1) := by decide +kernel
theorem dX6_distance_5 : decode cX6_distance 5 = .ok (.iaload, 1) := by decide +kernel
theorem dX6_distance_6 : decode cX6_distance 6 = .ok (.aload_n 0, 1) := by decide +kernel
theorem dX6_distance_7 : decode cX6_distance 7 = .ok (.getfield 7, 3) := by decide +kernel
theorem dX6_distance_10 : decode cX6_distance 10 = .ok (.iconst 1, 1) := by decide +kernel
theorem dX6_distance_11 : decode cX6_distance 11 = .ok (.iaload, 1) := by decide +kernel
theorem dX6_distance_12 : decode cX6_distance 12 = .ok (.isub, 1) := by decide +kernel
theorem dX6_distance_13 : decode cX6_distance 13 = .ok (.iconst 1, 1) := by decide +kernel
theorem dX6_distance_14 : decode cX6_distance 14 = .ok (.iadd, 1) := by decide +kernel
theorem dX6_distance_15 : decode cX6_distance 15 = .ok (.ireturn, 1) := by decide +kernel
theorem dX6_records_0 : decode cX6_records 0 = .ok (.aload_n 0, 1) := by decide +kernel
theorem dX6_records_1 : decode cX6_records 1 = .ok (.getfield 71, 3) := by decide +kernel
theorem dX6_records_4 : decode cX6_records 4 = .ok (.bipush 6, 2) := by decide +kernel
theorem dX6_records_6 : decode cX6_records 6 = .ok (.if_icmp .ne 42, 3) := by decide +kernel
theorem dX6_records_9 : decode cX6_records 9 = .ok (.iconst 0, 1) := by decide +kernel
theorem dX6_records_10 : decode cX6_records 10 = .ok (.istore_n 1, 1) := by decide +kernel
theorem dX6_records_11 : decode cX6_records 11 = .ok (.iload_n 1, 1) := by decide +kernel
theorem dX6_records_12 : decode cX6_records 12 = .ok (.bipush 105, 2) := by decide +kernel
theorem dX6_records_14 : decode cX6_records 14 = .ok (.if_icmp .ge 24, 3) := by decide +kernel
theorem dX6_records_17 : decode cX6_records 17 = .ok (.aload_n 0, 1) := by decide +kernel
theorem dX6_records_18 : decode cX6_records 18 = .ok (.getfield 13, 3) := by decide +kernel
theorem dX6_records_21 : decode cX6_records 21 = .ok (.iload_n 1, 1) := by decide +kernel
theorem dX6_records_22 : decode cX6_records 22 = .ok (.aload_n 0, 1) := by decide +kernel
theorem dX6_records_23 : decode cX6_records 23 = .ok (.getfield 13, 3) := by decide +kernel
theorem dX6_records_26 : decode cX6_records 26 = .ok (.iload_n 1, 1) := by decide +kernel
theorem dX6_records_27 : decode cX6_records 27 = .ok (.bipush 21, 2) := by decide +kernel
theorem dX6_records_29 : decode cX6_records 29 = .ok (.iadd, 1) := by decide +kernel
theorem dX6_records_30 : decode cX6_records 30 = .ok (.iaload, 1) := by decide +kernel
theorem dX6_records_31 : decode cX6_records 31 = .ok (.iastore, 1) := by decide +kernel
theorem dX6_records_32 : decode cX6_records 32 = .ok (.iinc 1 1, 3) := by decide +kernel
theorem dX6_records_35 : decode cX6_records 35 = .ok (.goto (-24), 3) := by decide +kernel
theorem dX6_records_38 : decode cX6_records 38 = .ok (.aload_n 0, 1) := by decide +kernel
theorem dX6_records_39 : decode cX6_records 39 = .ok (.dup, 1) := by decide +kernel
theorem dX6_records_40 : decode cX6_records 40 = .ok (.getfield 71, 3) := by decide +kernel
theorem dX6_records_43 : decode cX6_records 43 = .ok (.iconst 1, 1) := by decide +kernel
theorem dX6_records_44 : decode cX6_records 44 = .ok (.isub, 1) := by decide +kernel
theorem dX6_records_45 : decode cX6_records 45 = .ok (.putfield 71, 3) := by decide +kernel
theorem dX6_records_48 : decode cX6_records 48 = .ok (.iconst 0, 1) := by decide +kernel
theorem dX6_records_49 : decode cX6_records 49 = .ok (.istore_n 1, 1) := by decide +kernel
theorem dX6_records_50 : decode cX6_records 50 = .ok (.iload_n 1, 1) := by decide +kernel
theorem dX6_records_51 : decode cX6_records 51 = .ok (.bipush 21, 2) := by decide +kernel
theorem dX6_records_53 : decode cX6_records 53 = .ok (.if_icmp .ge 29, 3) := by decide +kernel
theorem dX6_records_56 : decode cX6_records 56 = .ok (.aload_n 0, 1) := by decide +kernel
theorem dX6_records_57 : decode cX6_records 57 = .ok (.getfield 13, 3) := by decide +kernel
theorem dX6_records_60 : decode cX6_records 60 = .ok (.bipush 21, 2) := by decide +kernel
theorem dX6_records_62 : decode cX6_records 62 = .ok (.aload_n 0, 1) := by decide +kernel
theorem dX6_records_63 : decode cX6_records 63 = .ok (.getfield 71, 3) := by decide +kernel
theorem dX6_records_66 : decode cX6_records 66 = .ok (.imul, 1) := by decide +kernel
theorem dX6_records_67 : decode cX6_records 67 = .ok (.iload_n 1, 1) := by decide +kernel
theorem dX6_records_68 : decode cX6_records 68 = .ok (.iadd, 1) := by decide +kernel
theorem dX6_records_69 : decode cX6_records 69 = .ok (.aload_n 0, 1) := by decide +kernel
theorem dX6_records_70 : decode cX6_records 70 = .ok (.getfield 7, 3) := by decide +kernel
theorem dX6_records_73 : decode cX6_records 73 = .ok (.iload_n 1, 1) := by decide +kernel
theorem dX6_records_74 : decode cX6_records 74 = .ok (.iaload, 1) := by decide +kernel
theorem dX6_records_75 : decode cX6_records 75 = .ok (.iastore, 1) := by decide +kernel
theorem dX6_records_76 : decode cX6_records 76 = .ok (.iinc 1 1, 3) := by decide +kernel
theorem dX6_records_79 : decode cX6_records 79 = .ok (.goto (-29), 3) := by decide +kernel
theorem dX6_records_82 : decode cX6_records 82 = .ok (.aload_n 0, 1) := by decide +kernel
theorem dX6_records_83 : decode cX6_records 83 = .ok (.dup, 1) := by decide +kernel
theorem dX6_records_84 : decode cX6_records 84 = .ok (.getfield 71, 3) := by decide +kernel
theorem dX6_records_87 : decode cX6_records 87 = .ok (.iconst 1, 1) := by decide +kernel
theorem dX6_records_88 : decode cX6_records 88 = .ok (.iadd, 1) := by decide +kernel
theorem dX6_records_89 : decode cX6_records 89 = .ok (.putfield 71, 3) := by decide +kernel
theorem dX6_records_92 : decode cX6_records 92 = .ok (.return_, 1) := by decide +kernel
theorem dX6_empties_0 : decode cX6_empties 0 = .ok (.iconst 0, 1) := by decide +kernel
theorem dX6_empties_1 : decode cX6_empties 1 = .ok (.istore_n 1, 1) := by decide +kernel
theorem dX6_empties_2 : decode cX6_empties 2 = .ok (.iload_n 1, 1) := by decide +kernel
theorem dX6_empties_3 : decode cX6_empties 3 = .ok (.bipush 12, 2) := by decide +kernel
theorem dX6_empties_5 : decode cX6_empties 5 = .ok (.if_icmp .ge 19, 3) := by decide +kernel
theorem dX6_empties_8 : decode cX6_empties 8 = .ok (.aload_n 0, 1) := by decide +kernel
theorem dX6_empties_9 : decode cX6_empties 9 = .ok (.getfield 7, 3) := by decide +kernel
theorem dX6_empties_12 : decode cX6_empties 12 = .ok (.bipush 9, 2) := by decide +kernel
theorem dX6_empties_14 : decode cX6_empties 14 = .ok (.iload_n 1, 1) := by decide +kernel
theorem dX6_empties_15 : decode cX6_empties 15 = .ok (.iadd, 1) := by decide +kernel
theorem dX6_empties_16 : decode cX6_empties 16 = .ok (.iconst 0, 1) := by decide +kernel
theorem dX6_empties_17 : decode cX6_empties 17 = .ok (.iastore, 1) := by decide +kernel
theorem dX6_empties_18 : decode cX6_empties 18 = .ok (.iinc 1 1, 3) := by decide +kernel
theorem dX6_empties_21 : decode cX6_empties 21 = .ok (.goto (-19), 3) := by decide +kernel
theorem dX6_empties_24 : decode cX6_empties 24 = .ok (.aload_n 0, 1) := by decide +kernel
theorem dX6_empties_25 : decode cX6_empties 25 = .ok (.getfield 7, 3) := by decide +kernel
theorem dX6_empties_28 : decode cX6_empties 28 = .ok (.bipush 7, 2) := by decide +kernel
theorem dX6_empties_30 : decode cX6_empties 30 = .ok (.iconst 0, 1) := by decide +kernel
theorem dX6_empties_31 : decode cX6_empties 31 = .ok (.iastore, 1) := by decide +kernel
theorem dX6_empties_32 : decode cX6_empties 32 = .ok (.aload_n 0, 1) := by decide +kernel
theorem dX6_empties_33 : decode cX6_empties 33 = .ok (.getfield 7, 3) := by decide +kernel
theorem dX6_empties_36 : decode cX6_empties 36 = .ok (.bipush 8, 2) := by decide +kernel
theorem dX6_empties_38 : decode cX6_empties 38 = .ok (.iconst 0, 1) := by decide +kernel
theorem dX6_empties_39 : decode cX6_empties 39 = .ok (.iastore, 1) := by decide +kernel
theorem dX6_empties_40 : decode cX6_empties 40 = .ok (.return_, 1) := by decide +kernel
set_option maxRecDepth 20000 in
theorem ggX6_setOuter_X6_in : GoodIn wsX6_setOuter wsX6_in := goodIn_r _ [5] (by decide +kernel) (by decide +kernel)
set_option maxRecDepth 20000 in
theorem gX6_setOuter_X6_in : GoodIn wsX6_setOuter (va_wsS RX6 63 yX6_in wsX6_in) := goodIn_app (goodIn_of _ (by decide +kernel)) ggX6_setOuter_X6_in
set_option maxRecDepth 20000 in
theorem ggX6_setOuter_X6_records : GoodIn wsX6_setOuter wsX6_records := goodIn_r _ [9, 10, 11, 1, 16, 17, 18, 19, 20, 21, 22, 23, 24, 25, 26, 27, 28, 29, 30, 31, 32] (by decide +kernel) (by decide +kernel)
set_option maxRecDepth 20000 in
theorem gX6_setOuter_X6_records : GoodIn wsX6_setOuter (wsV RX6 74 RX6 yX6_records wsX6_records) := goodIn_app (goodIn_of _ (by decide +kernel)) ggX6_setOuter_X6_records
set_option maxRecDepth 20000 in
theorem ggX6_setOuter_X6_empties : GoodIn wsX6_setOuter wsX6_empties := goodIn_r _ [15, 1, 16, 17, 18, 19, 20, 21, 22, 23, 24, 25, 26, 27, 28, 29, 30, 31, 32] (by decide +kernel) (by decide +kernel)
set_option maxRecDepth 20000 in
theorem gX6_setOuter_X6_empties : GoodIn wsX6_setOuter (wsV RX6 77 RX6 yX6_empties wsX6_empties) := goodIn_app (goodIn_of _ (by decide +kernel)) ggX6_setOuter_X6_empties
theorem dX6_setOuter_0 : decode cX6_setOuter 0 = .ok (.iload_n 1, 1) := by decide +kernel
theorem dX6_setOuter_1 : decode cX6_setOuter 1 = .ok (.iconst 3, 1) := by decide +kernel
theorem dX6_setOuter_2 : decode cX6_setOuter 2 = .ok (.bipush 12, 2) := by decide +kernel
theorem dX6_setOuter_4 : decode cX6_setOuter 4 = .ok (.invokestatic 63, 3) := by decide +kernel
theorem dX6_setOuter_7 : decode cX6_setOuter 7 = .ok (.ifCond .eq 17, 3) := by decide +kernel
theorem dX6_setOuter_10 : decode cX6_setOuter 10 = .ok (.iload_n 2, 1) := by decide +kernel
theorem dX6_setOuter_11 : decode cX6_setOuter 11 = .ok (.iconst 1, 1) := by decide +kernel
theorem dX6_setOuter_12 : decode cX6_setOuter 12 = .ok (.iconst 3, 1) := by decide +kernel
theorem dX6_setOuter_13 : decode cX6_setOuter 13 = .ok (.invokestatic 63, 3) := by decide +kernel
theorem dX6_setOuter_16 : decode cX6_setOuter 16 = .ok (.ifCond .eq 8, 3) := by decide +kernel
theorem dX6_setOuter_19 : decode cX6_setOuter 19 = .ok (.iload_n 2, 1) := by decide +kernel
theorem dX6_setOuter_20 : decode cX6_setOuter 20 = .ok (.iload_n 1, 1) := by decide +kernel
theorem dX6_setOuter_21 : decode cX6_setOuter 21 = .ok (.if_icmp .lt 7, 3) := by decide +kernel
theorem dX6_setOuter_24 : decode cX6_setOuter 24 = .ok (.sipush (-1001), 3) := by decide +kernel
theorem dX6_setOuter_27 : decode cX6_setOuter 27 = .ok (.ireturn, 1) := by decide +kernel
theorem dX6_setOuter_28 : decode cX6_setOuter 28 = .ok (.aload_n 0, 1) := by decide +kernel
theorem dX6_setOuter_29 : decode cX6_setOuter 29 = .ok (.invokevirtual 74, 3) := by decide +kernel
theorem dX6_setOuter_32 : decode cX6_setOuter 32 = .ok (.bipush 10, 2) := by decide +kernel
theorem dX6_setOuter_34 : decode cX6_setOuter 34 = .ok (.aload_n 0, 1) := by decide +kernel
theorem dX6_setOuter_35 : decode cX6_setOuter 35 = .ok (.getfield 7, 3) := by decide +kernel
theorem dX6_setOuter_38 : decode cX6_setOuter 38 = .ok (.iconst 0, 1) := by decide +kernel
theorem dX6_setOuter_39 : decode cX6_setOuter 39 = .ok (.iaload, 1) := by decide +kernel
theorem dX6_setOuter_40 : decode cX6_setOuter 40 = .ok (.imul, 1) := by decide +kernel
theorem dX6_setOuter_41 : decode cX6_setOuter 41 = .ok (.aload_n 0, 1) := by decide +kernel
theorem dX6_setOuter_42 : decode cX6_setOuter 42 = .ok (.getfield 7, 3) := by decide +kernel
theorem dX6_setOuter_45 : decode cX6_setOuter 45 = .ok (.iconst 1, 1) := by decide +kernel
theorem dX6_setOuter_46 : decode cX6_setOuter 46 = .ok (.iaload, 1) := by decide +kernel
theorem dX6_setOuter_47 : decode cX6_setOuter 47 = .ok (.iadd, 1) := by decide +kernel
theorem dX6_setOuter_48 : decode cX6_setOuter 48 = .ok (.istore_n 3, 1) := by decide +kernel
theorem dX6_setOuter_49 : decode cX6_setOuter 49 = .ok (.aload_n 0, 1) := by decide +kernel
theorem dX6_setOuter_50 : decode cX6_setOuter 50 = .ok (.getfield 7, 3) := by decide +kernel
theorem dX6_setOuter_53 : decode cX6_setOuter 53 = .ok (.iconst 0, 1) := by decide +kernel
theorem dX6_setOuter_54 : decode cX6_setOuter 54 = .ok (.iload_n 1, 1) := by decide +kernel
theorem dX6_setOuter_55 : decode cX6_setOuter 55 = .ok (.iastore, 1) := by decide +kernel
theorem dX6_setOuter_56 : decode cX6_setOuter 56 = .ok (.aload_n 0, 1) := by decide +kernel
theorem dX6_setOuter_57 : decode cX6_setOuter 57 = .ok (.getfield 7, 3) := by decide +kernel
theorem dX6_setOuter_60 : decode cX6_setOuter 60 = .ok (.iconst 1, 1) := by decide +kernel
theorem dX6_setOuter_61 : decode cX6_setOuter 61 = .ok (.iload_n 2, 1) := by decide +kernel
theorem dX6_setOuter_62 : decode cX6_setOuter 62 = .ok (.iastore, 1) := by decide +kernel
theorem dX6_setOuter_63 : decode cX6_setOuter 63 = .ok (.aload_n 0, 1) := by decide +kernel
theorem dX6_setOuter_64 : decode cX6_setOuter 64 = .ok (.invokevirtual 77, 3) := by decide +kernel
theorem dX6_setOuter_67 : decode cX6_setOuter 67 = .ok (.iload_n 3, 1) := by decide +kernel
theorem dX6_setOuter_68 : decode cX6_setOuter 68 = .ok (.ireturn, 1) := by decide +kernel
set_option maxRecDepth 20000 in
theorem ggX6_generator_X6_in : GoodIn wsX6_generator wsX6_in := goodIn_r _ [6] (by decide +kernel) (by decide +kernel)
set_option maxRecDepth 20000 in
theorem gX6_generator_X6_in : GoodIn wsX6_generator (va_wsS RX6 63 yX6_in wsX6_in) := goodIn_app (goodIn_of _ (by decide +kernel)) ggX6_generator_X6_in
theorem dX6_generator_0 : decode cX6_generator 0 = .ok (.iload_n 1, 1) := by decide +kernel
theorem dX6_generator_1 : decode cX6_generator 1 = .ok (.iconst 1, 1) := by decide +kernel
theorem dX6_generator_2 : decode cX6_generator 2 = .ok (.sipush 1023, 3) := by decide +kernel
theorem dX6_generator_5 : decode cX6_generator 5 = .ok (.invokestatic 63, 3) := by decide +kernel
theorem dX6_generator_8 : decode cX6_generator 8 = .ok (.ifCond .ne 7, 3) := by decide +kernel
theorem dX6_generator_11 : decode cX6_generator 11 = .ok (.sipush (-1001), 3) := by decide +kernel
theorem dX6_generator_14 : decode cX6_generator 14 = .ok (.ireturn, 1) := by decide +kernel
theorem dX6_generator_15 : decode cX6_generator 15 = .ok (.aload_n 0, 1) := by decide +kernel
theorem dX6_generator_16 : decode cX6_generator 16 = .ok (.getfield 80, 3) := by decide +kernel
theorem dX6_generator_19 : decode cX6_generator 19 = .ok (.iconst 4, 1) := by decide +kernel
theorem dX6_generator_20 : decode cX6_generator 20 = .ok (.if_icmp .ne 7, 3) := by decide +kernel
theorem dX6_generator_23 : decode cX6_generator 23 = .ok (.sipush (-1003), 3) := by decide +kernel
theorem dX6_generator_26 : decode cX6_generator 26 = .ok (.ireturn, 1) := by decide +kernel
theorem dX6_generator_27 : decode cX6_generator 27 = .ok (.aload_n 0, 1) := by decide +kernel
theorem dX6_generator_28 : decode cX6_generator 28 = .ok (.getfield 16, 3) := by decide +kernel
theorem dX6_generator_31 : decode cX6_generator 31 = .ok (.aload_n 0, 1) := by decide +kernel
theorem dX6_generator_32 : decode cX6_generator 32 = .ok (.getfield 80, 3) := by decide +kernel
theorem dX6_generator_35 : decode cX6_generator 35 = .ok (.iload_n 1, 1) := by decide +kernel
theorem dX6_generator_36 : decode cX6_generator 36 = .ok (.iastore, 1) := by decide +kernel
theorem dX6_generator_37 : decode cX6_generator 37 = .ok (.aload_n 0, 1) := by decide +kernel
theorem dX6_generator_38 : decode cX6_generator 38 = .ok (.dup, 1) := by decide +kernel
theorem dX6_generator_39 : decode cX6_generator 39 = .ok (.getfield 80, 3) := by decide +kernel
theorem dX6_generator_42 : decode cX6_generator 42 = .ok (.iconst 1, 1) := by decide +kernel
theorem dX6_generator_43 : decode cX6_generator 43 = .ok (.iadd, 1) := by decide +kernel
theorem dX6_generator_44 : decode cX6_generator 44 = .ok (.putfield 80, 3) := by decide +kernel
theorem dX6_generator_47 : decode cX6_generator 47 = .ok (.aload_n 0, 1) := by decide +kernel
theorem dX6_generator_48 : decode cX6_generator 48 = .ok (.getfield 80, 3) := by decide +kernel
theorem dX6_generator_51 : decode cX6_generator 51 = .ok (.ireturn, 1) := by decide +kernel
theorem dX6_clearGenerators_0 : decode cX6_clearGenerators 0 = .ok (.aload_n 0, 1) := by decide +kernel
theorem dX6_clearGenerators_1 : decode cX6_clearGenerators 1 = .ok (.getfield 80, 3) := by decide +kernel
theorem dX6_clearGenerators_4 : decode cX6_clearGenerators 4 = .ok (.istore_n 1, 1) := by decide +kernel
theorem dX6_clearGenerators_5 : decode cX6_clearGenerators 5 = .ok (.aload_n 0, 1) := by decide +kernel
theorem dX6_clearGenerators_6 : decode cX6_clearGenerators 6 = .ok (.iconst 0, 1) := by decide +kernel
theorem dX6_clearGenerators_7 : decode cX6_clearGenerators 7 = .ok (.putfield 80, 3) := by decide +kernel
theorem dX6_clearGenerators_10 : decode cX6_clearGenerators 10 = .ok (.iload_n 1, 1) := by decide +kernel
theorem dX6_clearGenerators_11 : decode cX6_clearGenerators 11 = .ok (.ireturn, 1) := by decide +kernel
theorem dX6_areGenerators_0 : decode cX6_areGenerators 0 = .ok (.aload_n 0, 1) := by decide +kernel
theorem dX6_areGenerators_1 : decode cX6_areGenerators 1 = .ok (.getfield 80, 3) := by decide +kernel
theorem dX6_areGenerators_4 : decode cX6_areGenerators 4 = .ok (.iconst 4, 1) := by decide +kernel
theorem dX6_areGenerators_5 : decode cX6_areGenerators 5 = .ok (.if_icmp .ne 7, 3) := by decide +kernel
theorem dX6_areGenerators_8 : decode cX6_areGenerators 8 = .ok (.iconst 1, 1) := by decide +kernel
theorem dX6_areGenerators_9 : decode cX6_areGenerators 9 = .ok (.goto 4, 3) := by decide +kernel
theorem dX6_areGenerators_12 : decode cX6_areGenerators 12 = .ok (.iconst 0, 1) := by decide +kernel
theorem dX6_areGenerators_13 : decode cX6_areGenerators 13 = .ok (.istore_n 2, 1) := by decide +kernel
theorem dX6_areGenerators_14 : decode cX6_areGenerators 14 = .ok (.iconst 1, 1) := by decide +kernel
theorem dX6_areGenerators_15 : decode cX6_areGenerators 15 = .ok (.istore_n 3, 1) := by decide +kernel
theorem dX6_areGenerators_16 : decode cX6_areGenerators 16 = .ok (.iload_n 3, 1) := by decide +kernel
theorem dX6_areGenerators_17 : decode cX6_areGenerators 17 = .ok (.bipush 16, 2) := by decide +kernel
theorem dX6_areGenerators_19 : decode cX6_areGenerators 19 = .ok (.if_icmp .ge 95, 3) := by decide +kernel
theorem dX6_areGenerators_22 : decode cX6_areGenerators 22 = .ok (.iload_n 2, 1) := by decide +kernel
theorem dX6_areGenerators_23 : decode cX6_areGenerators 23 = .ok (.ifCond .eq 91, 3) := by decide +kernel
theorem dX6_areGenerators_26 : decode cX6_areGenerators 26 = .ok (.iconst 0, 1) := by decide +kernel
theorem dX6_areGenerators_27 : decode cX6_areGenerators 27 = .ok (.istore 4, 2) := by decide +kernel
theorem dX6_areGenerators_29 : decode cX6_areGenerators 29 = .ok (.iconst 0, 1) := by decide +kernel
theorem dX6_areGenerators_30 : decode cX6_areGenerators 30 = .ok (.istore 5, 2) := by decide +kernel
theorem dX6_areGenerators_32 : decode cX6_areGenerators 32 = .ok (.iload 5, 2) := by decide +kernel
theorem dX6_areGenerators_34 : decode cX6_areGenerators 34 = .ok (.iconst 4, 1) := by decide +kernel
theorem dX6_areGenerators_35 : decode cX6_areGenerators 35 = .ok (.if_icmp .ge 58, 3) := by decide +kernel
theorem dX6_areGenerators_38 : decode cX6_areGenerators 38 = .ok (.iload 4, 2) := by decide +kernel
theorem dX6_areGenerators_40 : decode cX6_areGenerators 40 = .ok (.iload_n 3, 1) := by decide +kernel
theorem dX6_areGenerators_41 : decode cX6_areGenerators 41 = .ok (.iload 5, 2) := by decide +kernel
theorem dX6_areGenerators_43 : decode cX6_areGenerators 43 = .ok (.ishr, 1) := by decide +kernel
theorem dX6_areGenerators_44 : decode cX6_areGenerators 44 = .ok (.iconst 1, 1) := by decide +kernel
theorem dX6_areGenerators_45 : decode cX6_areGenerators 45 = .ok (.iand, 1) := by decide +kernel
theorem dX6_areGenerators_46 : decode cX6_areGenerators 46 = .ok (.iconst 1, 1) := by decide +kernel
theorem dX6_areGenerators_47 : decode cX6_areGenerators 47 = .ok (.if_icmp .ne 13, 3) := by decide +kernel
theorem dX6_areGenerators_50 : decode cX6_areGenerators 50 = .ok (.aload_n 0, 1) := by decide +kernel
theorem dX6_areGenerators_51 : decode cX6_areGenerators 51 = .ok (.getfield 16, 3) := by decide +kernel
theorem dX6_areGenerators_54 : decode cX6_areGenerators 54 = .ok (.iload 5, 2) := by decide +kernel
theorem dX6_areGenerators_56 : decode cX6_areGenerators 56 = .ok (.iaload, 1) := by decide +kernel
theorem dX6_areGenerators_57 : decode cX6_areGenerators 57 = .ok (.goto 4, 3) := by decide +kernel
theorem dX6_areGenerators_60 : decode cX6_areGenerators 60 = .ok (.iconst 0, 1) := by decide +kernel
theorem dX6_areGenerators_61 : decode cX6_areGenerators 61 = .ok (.ixor, 1) := by decide +kernel
theorem dX6_areGenerators_62 : decode cX6_areGenerators 62 = .ok (.istore 4, 2) := by decide +kernel
theorem dX6_areGenerators_64 : decode cX6_areGenerators 64 = .ok (.iload_n 2, 1) := by decide +kernel
theorem dX6_areGenerators_65 : decode cX6_areGenerators 65 = .ok (.ifCond .eq 20, 3) := by decide +kernel
theorem dX6_areGenerators_68 : decode cX6_areGenerators 68 = .ok (.aload_n 0, 1) := by decide +kernel
theorem dX6_areGenerators_69 : decode cX6_areGenerators 69 = .ok (.getfield 16, 3) := by decide +kernel
theorem dX6_areGenerators_72 : decode cX6_areGenerators 72 = .ok (.iload 5, 2) := by decide +kernel
theorem dX6_areGenerators_74 : decode cX6_areGenerators 74 = .ok (.iaload, 1) := by decide +kernel
theorem dX6_areGenerators_75 : decode cX6_areGenerators 75 = .ok (.iconst 1, 1) := by decide +kernel
theorem dX6_areGenerators_76 : decode cX6_areGenerators 76 = .ok (.iload_n 1, 1) := by decide +kernel
theorem dX6_areGenerators_77 : decode cX6_areGenerators 77 = .ok (.ishl, 1) := by decide +kernel
theorem dX6_areGenerators_78 : decode cX6_areGenerators 78 = .ok (.if_icmp .ge 7, 3) := by decide +kernel
theorem dX6_areGenerators_81 : decode cX6_areGenerators 81 = .ok (.iconst 1, 1) := by decide +kernel
theorem dX6_areGenerators_82 : decode cX6_areGenerators 82 = .ok (.goto 4, 3) := by decide +kernel
theorem dX6_areGenerators_85 : decode cX6_areGenerators 85 = .ok (.iconst 0, 1) := by decide +kernel
theorem dX6_areGenerators_86 : decode cX6_areGenerators 86 = .ok (.istore_n 2, 1) := by decide +kernel
theorem dX6_areGenerators_87 : decode cX6_areGenerators 87 = .ok (.iinc 5 1, 3) := by decide +kernel
theorem dX6_areGenerators_90 : decode cX6_areGenerators 90 = .ok (.goto (-58), 3) := by decide +kernel
theorem dX6_areGenerators_93 : decode cX6_areGenerators 93 = .ok (.iload_n 2, 1) := by decide +kernel
theorem dX6_areGenerators_94 : decode cX6_areGenerators 94 = .ok (.ifCond .eq 12, 3) := by decide +kernel
theorem dX6_areGenerators_97 : decode cX6_areGenerators 97 = .ok (.iload 4, 2) := by decide +kernel
theorem dX6_areGenerators_99 : decode cX6_areGenerators 99 = .ok (.ifCond .eq 7, 3) := by decide +kernel
theorem dX6_areGenerators_102 : decode cX6_areGenerators 102 = .ok (.iconst 1, 1) := by decide +kernel
theorem dX6_areGenerators_103 : decode cX6_areGenerators 103 = .ok (.goto 4, 3) := by decide +kernel
theorem dX6_areGenerators_106 : decode cX6_areGenerators 106 = .ok (.iconst 0, 1) := by decide +kernel
theorem dX6_areGenerators_107 : decode cX6_areGenerators 107 = .ok (.istore_n 2, 1) := by decide +kernel
theorem dX6_areGenerators_108 : decode cX6_areGenerators 108 = .ok (.iinc 3 1, 3) := by decide +kernel
theorem dX6_areGenerators_111 : decode cX6_areGenerators 111 = .ok (.goto (-95), 3) := by decide +kernel
theorem dX6_areGenerators_114 : decode cX6_areGenerators 114 = .ok (.iload_n 2, 1) := by decide +kernel
theorem dX6_areGenerators_115 : decode cX6_areGenerators 115 = .ok (.ireturn, 1) := by decide +kernel
set_option maxRecDepth 20000 in
theorem ggX6_setInner_X6_in : GoodIn wsX6_setInner wsX6_in := goodIn_r _ [8] (by decide +kernel) (by decide +kernel)
set_option maxRecDepth 20000 in
theorem gX6_setInner_X6_in : GoodIn wsX6_setInner (va_wsS RX6 63 yX6_in wsX6_in) := goodIn_app (goodIn_of _ (by decide +kernel)) ggX6_setInner_X6_in
set_option maxRecDepth 20000 in
theorem ggX6_setInner_X6_areGenerators : GoodIn wsX6_setInner wsX6_areGenerators := goodIn_r _ [12, 3, 2, 33, 34, 35, 36, 37, 38, 39, 40, 41, 42, 43, 44, 45, 46, 47, 48, 49] (by decide +kernel) (by decide +kernel)
set_option maxRecDepth 20000 in
theorem gX6_setInner_X6_areGenerators : GoodIn wsX6_setInner (wsV RX6 83 RX6 yX6_areGenerators wsX6_areGenerators) := goodIn_app (goodIn_of _ (by decide +kernel)) ggX6_setInner_X6_areGenerators
set_option maxRecDepth 20000 in
theorem ggX6_setInner_X6_records : GoodIn wsX6_setInner wsX6_records := goodIn_r _ [16, 17, 18, 1, 33, 34, 35, 36, 37, 38, 39, 40, 41, 42, 43, 44, 45, 46, 47, 48, 49] (by decide +kernel) (by decide +kernel)
set_option maxRecDepth 20000 in
theorem gX6_setInner_X6_records : GoodIn wsX6_setInner (wsV RX6 74 RX6 yX6_records wsX6_records) := goodIn_app (goodIn_of _ (by decide +kernel)) ggX6_setInner_X6_records
set_option maxRecDepth 20000 in
theorem ggX6_setInner_X6_empties : GoodIn wsX6_setInner wsX6_empties := goodIn_r _ [22, 1, 33, 34, 35, 36, 37, 38, 39, 40, 41, 42, 43, 44, 45, 46, 47, 48, 49] (by decide +kernel) (by decide +kernel)
set_option maxRecDepth 20000 in
theorem gX6_setInner_X6_empties : GoodIn wsX6_setInner (wsV RX6 77 RX6 yX6_empties wsX6_empties) := goodIn_app (goodIn_of _ (by decide +kernel)) ggX6_setInner_X6_empties
set_option maxRecDepth 20000 in
theorem ggX6_setInner_X6_prepares : GoodIn wsX6_setInner wsX6_prepares := goodIn_r _ [26, 4, 27, 1, 28, 29, 30, 31, 7, 32, 33, 34, 35, 36, 37, 38, 39, 40, 41, 42, 43, 44, 45, 46, 47, 48, 49] (by decide +kernel) (by decide +kernel)
set_option maxRecDepth 20000 in
theorem gX6_setInner_X6_prepares : GoodIn wsX6_setInner (wsV RX6 52 RX6 yX6_prepares wsX6_prepares) := goodIn_app (goodIn_of _ (by decide +kernel)) ggX6_setInner_X6_prepares
theorem dX6_setInner_0 : decode cX6_setInner 0 = .ok (.iload_n 1, 1) := by decide +kernel
theorem dX6_setInner_1 : decode cX6_setInner 1 = .ok (.iconst 4, 1) := by decide +kernel
theorem dX6_setInner_2 : decode cX6_setInner 2 = .ok (.bipush 10, 2) := by decide +kernel
theorem dX6_setInner_4 : decode cX6_setInner 4 = .ok (.invokestatic 63, 3) := by decide +kernel
theorem dX6_setInner_7 : decode cX6_setInner 7 = .ok (.ifCond .ne 7, 3) := by decide +kernel
theorem dX6_setInner_10 : decode cX6_setInner 10 = .ok (.sipush (-1001), 3) := by decide +kernel
theorem dX6_setInner_13 : decode cX6_setInner 13 = .ok (.ireturn, 1) := by decide +kernel
theorem dX6_setInner_14 : decode cX6_setInner 14 = .ok (.aload_n 0, 1) := by decide +kernel
theorem dX6_setInner_15 : decode cX6_setInner 15 = .ok (.iload_n 1, 1) := by decide +kernel
theorem dX6_setInner_16 : decode cX6_setInner 16 = .ok (.invokevirtual 83, 3) := by decide +kernel
theorem dX6_setInner_19 : decode cX6_setInner 19 = .ok (.ifCond .ne 7, 3) := by decide +kernel
theorem dX6_setInner_22 : decode cX6_setInner 22 = .ok (.sipush (-1002), 3) := by decide +kernel
theorem dX6_setInner_25 : decode cX6_setInner 25 = .ok (.ireturn, 1) := by decide +kernel
theorem dX6_setInner_26 : decode cX6_setInner 26 = .ok (.aload_n 0, 1) := by decide +kernel
theorem dX6_setInner_27 : decode cX6_setInner 27 = .ok (.invokevirtual 74, 3) := by decide +kernel
theorem dX6_setInner_30 : decode cX6_setInner 30 = .ok (.aload_n 0, 1) := by decide +kernel
theorem dX6_setInner_31 : decode cX6_setInner 31 = .ok (.getfield 7, 3) := by decide +kernel
theorem dX6_setInner_34 : decode cX6_setInner 34 = .ok (.iconst 2, 1) := by decide +kernel
theorem dX6_setInner_35 : decode cX6_setInner 35 = .ok (.iload_n 1, 1) := by decide +kernel
theorem dX6_setInner_36 : decode cX6_setInner 36 = .ok (.iastore, 1) := by decide +kernel
theorem dX6_setInner_37 : decode cX6_setInner 37 = .ok (.iconst 0, 1) := by decide +kernel
theorem dX6_setInner_38 : decode cX6_setInner 38 = .ok (.istore_n 2, 1) := by decide +kernel
theorem dX6_setInner_39 : decode cX6_setInner 39 = .ok (.iload_n 2, 1) := by decide +kernel
theorem dX6_setInner_40 : decode cX6_setInner 40 = .ok (.iconst 4, 1) := by decide +kernel
theorem dX6_setInner_41 : decode cX6_setInner 41 = .ok (.if_icmp .ge 23, 3) := by decide +kernel
theorem dX6_setInner_44 : decode cX6_setInner 44 = .ok (.aload_n 0, 1) := by decide +kernel
theorem dX6_setInner_45 : decode cX6_setInner 45 = .ok (.getfield 7, 3) := by decide +kernel
theorem dX6_setInner_48 : decode cX6_setInner 48 = .ok (.iconst 3, 1) := by decide +kernel
theorem dX6_setInner_49 : decode cX6_setInner 49 = .ok (.iload_n 2, 1) := by decide +kernel
theorem dX6_setInner_50 : decode cX6_setInner 50 = .ok (.iadd, 1) := by decide +kernel
theorem dX6_setInner_51 : decode cX6_setInner 51 = .ok (.aload_n 0, 1) := by decide +kernel
theorem dX6_setInner_52 : decode cX6_setInner 52 = .ok (.getfield 16, 3) := by decide +kernel
theorem dX6_setInner_55 : decode cX6_setInner 55 = .ok (.iload_n 2, 1) := by decide +kernel
theorem dX6_setInner_56 : decode cX6_setInner 56 = .ok (.iaload, 1) := by decide +kernel
theorem dX6_setInner_57 : decode cX6_setInner 57 = .ok (.iastore, 1) := by decide +kernel
theorem dX6_setInner_58 : decode cX6_setInner 58 = .ok (.iinc 2 1, 3) := by decide +kernel
theorem dX6_setInner_61 : decode cX6_setInner 61 = .ok (.goto (-22), 3) := by decide +kernel
theorem dX6_setInner_64 : decode cX6_setInner 64 = .ok (.aload_n 0, 1) := by decide +kernel
theorem dX6_setInner_65 : decode cX6_setInner 65 = .ok (.iconst 0, 1) := by decide +kernel
theorem dX6_setInner_66 : decode cX6_setInner 66 = .ok (.putfield 80, 3) := by decide +kernel
theorem dX6_setInner_69 : decode cX6_setInner 69 = .ok (.aload_n 0, 1) := by decide +kernel
theorem dX6_setInner_70 : decode cX6_setInner 70 = .ok (.invokevirtual 77, 3) := by decide +kernel
theorem dX6_setInner_73 : decode cX6_setInner 73 = .ok (.aload_n 0, 1) := by decide +kernel
theorem dX6_setInner_74 : decode cX6_setInner 74 = .ok (.invokevirtual 52, 3) := by decide +kernel
theorem dX6_setInner_77 : decode cX6_setInner 77 = .ok (.aload_n 0, 1) := by decide +kernel
theorem dX6_setInner_78 : decode cX6_setInner 78 = .ok (.getfield 55, 3) := by decide +kernel
theorem dX6_setInner_81 : decode cX6_setInner 81 = .ok (.ireturn, 1) := by decide +kernel
set_option maxRecDepth 20000 in
theorem ggX6_undo_X6_prepares : GoodIn wsX6_undo wsX6_prepares := goodIn_r _ [8, 9, 10, 2, 11, 12, 13, 14, 7, 15, 16, 17, 18, 19, 20, 21, 22, 23, 24, 25, 26, 27, 28, 29, 30, 31, 32] (by decide +kernel) (by decide +kernel)
set_option maxRecDepth 20000 in
theorem gX6_undo_X6_prepares : GoodIn wsX6_undo (wsV RX6 52 RX6 yX6_prepares wsX6_prepares) := goodIn_app (goodIn_of _ (by decide +kernel)) ggX6_undo_X6_prepares
theorem dX6_undo_0 : decode cX6_undo 0 = .ok (.aload_n 0, 1) := by decide +kernel
theorem dX6_undo_1 : decode cX6_undo 1 = .ok (.getfield 71, 3) := by decide +kernel
theorem dX6_undo_4 : decode cX6_undo 4 = .ok (.ifCond .ne 7, 3) := by decide +kernel
theorem dX6_undo_7 : decode cX6_undo 7 = .ok (.sipush (-1002), 3) := by decide +kernel
theorem dX6_undo_10 : decode cX6_undo 10 = .ok (.ireturn, 1) := by decide +kernel
theorem dX6_undo_11 : decode cX6_undo 11 = .ok (.aload_n 0, 1) := by decide +kernel
theorem dX6_undo_12 : decode cX6_undo 12 = .ok (.dup, 1) := by decide +kernel
theorem dX6_undo_13 : decode cX6_undo 13 = .ok (.getfield 71, 3) := by decide +kernel
theorem dX6_undo_16 : decode cX6_undo 16 = .ok (.iconst 1, 1) := by decide +kernel
theorem dX6_undo_17 : decode cX6_undo 17 = .ok (.isub, 1) := by decide +kernel
theorem dX6_undo_18 : decode cX6_undo 18 = .ok (.putfield 71, 3) := by decide +kernel
theorem dX6_undo_21 : decode cX6_undo 21 = .ok (.iconst 0, 1) := by decide +kernel
theorem dX6_undo_22 : decode cX6_undo 22 = .ok (.istore_n 1, 1) := by decide +kernel
theorem dX6_undo_23 : decode cX6_undo 23 = .ok (.iload_n 1, 1) := by decide +kernel
theorem dX6_undo_24 : decode cX6_undo 24 = .ok (.bipush 21, 2) := by decide +kernel
theorem dX6_undo_26 : decode cX6_undo 26 = .ok (.if_icmp .ge 29, 3) := by decide +kernel
theorem dX6_undo_29 : decode cX6_undo 29 = .ok (.aload_n 0, 1) := by decide +kernel
theorem dX6_undo_30 : decode cX6_undo 30 = .ok (.getfield 7, 3) := by decide +kernel
theorem dX6_undo_33 : decode cX6_undo 33 = .ok (.iload_n 1, 1) := by decide +kernel
theorem dX6_undo_34 : decode cX6_undo 34 = .ok (.aload_n 0, 1) := by decide +kernel
theorem dX6_undo_35 : decode cX6_undo 35 = .ok (.getfield 13, 3) := by decide +kernel
theorem dX6_undo_38 : decode cX6_undo 38 = .ok (.bipush 21, 2) := by decide +kernel
theorem dX6_undo_40 : decode cX6_undo 40 = .ok (.aload_n 0, 1) := by decide +kernel
theorem dX6_undo_41 : decode cX6_undo 41 = .ok (.getfield 71, 3) := by decide +kernel
theorem dX6_undo_44 : decode cX6_undo 44 = .ok (.imul, 1) := by decide +kernel
theorem dX6_undo_45 : decode cX6_undo 45 = .ok (.iload_n 1, 1) := by decide +kernel
theorem dX6_undo_46 : decode cX6_undo 46 = .ok (.iadd, 1) := by decide +kernel
theorem dX6_undo_47 : decode cX6_undo 47 = .ok (.iaload, 1) := by decide +kernel
theorem dX6_undo_48 : decode cX6_undo 48 = .ok (.iastore, 1) := by decide +kernel
theorem dX6_undo_49 : decode cX6_undo 49 = .ok (.iinc 1 1, 3) := by decide +kernel
theorem dX6_undo_52 : decode cX6_undo 52 = .ok (.goto (-29), 3) := by decide +kernel
theorem dX6_undo_55 : decode cX6_undo 55 = .ok (.aload_n 0, 1) := by decide +kernel
theorem dX6_undo_56 : decode cX6_undo 56 = .ok (.invokevirtual 52, 3) := by decide +kernel
theorem dX6_undo_59 : decode cX6_undo 59 = .ok (.aload_n 0, 1) := by decide +kernel
theorem dX6_undo_60 : decode cX6_undo 60 = .ok (.getfield 71, 3) := by decide +kernel
theorem dX6_undo_63 : decode cX6_undo 63 = .ok (.ireturn, 1) := by decide +kernel
set_option maxRecDepth 20000 in
theorem ggX6_wrongBits_X6_isLost : GoodIn wsX6_wrongBits wsX6_isLost := goodIn_r _ [8, 1, 12, 13, 14, 15, 16, 17, 18, 19, 20, 21, 22, 23, 24, 25, 26, 27, 28] (by decide +kernel) (by decide +kernel)
set_option maxRecDepth 20000 in
theorem gX6_wrongBits_X6_isLost : GoodIn wsX6_wrongBits (wsV RX6 87 RX6 yX6_isLost wsX6_isLost) := goodIn_app (goodIn_of _ (by decide +kernel)) ggX6_wrongBits_X6_isLost
set_option maxRecDepth 20000 in
theorem ggX6_wrongBits_X6_ones : GoodIn wsX6_wrongBits wsX6_ones := goodIn_r _ [11] (by decide +kernel) (by decide +kernel)
set_option maxRecDepth 20000 in
theorem gX6_wrongBits_X6_ones : GoodIn wsX6_wrongBits (va_wsS RX6 59 yX6_ones wsX6_ones) := goodIn_app (goodIn_of _ (by decide +kernel)) ggX6_wrongBits_X6_ones
theorem dX6_wrongBits_0 : decode cX6_wrongBits 0 = .ok (.iconst 0, 1) := by decide +kernel
theorem dX6_wrongBits_1 : decode cX6_wrongBits 1 = .ok (.istore_n 1, 1) := by decide +kernel
theorem dX6_wrongBits_2 : decode cX6_wrongBits 2 = .ok (.iconst 0, 1) := by decide +kernel
theorem dX6_wrongBits_3 : decode cX6_wrongBits 3 = .ok (.istore_n 2, 1) := by decide +kernel
theorem dX6_wrongBits_4 : decode cX6_wrongBits 4 = .ok (.iload_n 2, 1) := by decide +kernel
theorem dX6_wrongBits_5 : decode cX6_wrongBits 5 = .ok (.aload_n 0, 1) := by decide +kernel
theorem dX6_wrongBits_6 : decode cX6_wrongBits 6 = .ok (.getfield 7, 3) := by decide +kernel
theorem dX6_wrongBits_9 : decode cX6_wrongBits 9 = .ok (.iconst 0, 1) := by decide +kernel
theorem dX6_wrongBits_10 : decode cX6_wrongBits 10 = .ok (.iaload, 1) := by decide +kernel
theorem dX6_wrongBits_11 : decode cX6_wrongBits 11 = .ok (.if_icmp .ge 59, 3) := by decide +kernel
theorem dX6_wrongBits_14 : decode cX6_wrongBits 14 = .ok (.iload_n 1, 1) := by decide +kernel
theorem dX6_wrongBits_15 : decode cX6_wrongBits 15 = .ok (.aload_n 0, 1) := by decide +kernel
theorem dX6_wrongBits_16 : decode cX6_wrongBits 16 = .ok (.iload_n 2, 1) := by decide +kernel
theorem dX6_wrongBits_17 : decode cX6_wrongBits 17 = .ok (.invokevirtual 87, 3) := by decide +kernel
theorem dX6_wrongBits_20 : decode cX6_wrongBits 20 = .ok (.ifCond .eq 7, 3) := by decide +kernel
theorem dX6_wrongBits_23 : decode cX6_wrongBits 23 = .ok (.iconst 0, 1) := by decide +kernel
theorem dX6_wrongBits_24 : decode cX6_wrongBits 24 = .ok (.goto 38, 3) := by decide +kernel
theorem dX6_wrongBits_27 : decode cX6_wrongBits 27 = .ok (.aload_n 0, 1) := by decide +kernel
theorem dX6_wrongBits_28 : decode cX6_wrongBits 28 = .ok (.getfield 7, 3) := by decide +kernel
theorem dX6_wrongBits_31 : decode cX6_wrongBits 31 = .ok (.bipush 9, 2) := by decide +kernel
theorem dX6_wrongBits_33 : decode cX6_wrongBits 33 = .ok (.iload_n 2, 1) := by decide +kernel
theorem dX6_wrongBits_34 : decode cX6_wrongBits 34 = .ok (.iadd, 1) := by decide +kernel
theorem dX6_wrongBits_35 : decode cX6_wrongBits 35 = .ok (.iaload, 1) := by decide +kernel
theorem dX6_wrongBits_36 : decode cX6_wrongBits 36 = .ok (.aload_n 0, 1) := by decide +kernel
theorem dX6_wrongBits_37 : decode cX6_wrongBits 37 = .ok (.getfield 27, 3) := by decide +kernel
theorem dX6_wrongBits_40 : decode cX6_wrongBits 40 = .ok (.aload_n 0, 1) := by decide +kernel
theorem dX6_wrongBits_41 : decode cX6_wrongBits 41 = .ok (.getfield 23, 3) := by decide +kernel
theorem dX6_wrongBits_44 : decode cX6_wrongBits 44 = .ok (.bipush 12, 2) := by decide +kernel
theorem dX6_wrongBits_46 : decode cX6_wrongBits 46 = .ok (.aload_n 0, 1) := by decide +kernel
theorem dX6_wrongBits_47 : decode cX6_wrongBits 47 = .ok (.getfield 7, 3) := by decide +kernel
theorem dX6_wrongBits_50 : decode cX6_wrongBits 50 = .ok (.bipush 8, 2) := by decide +kernel
theorem dX6_wrongBits_52 : decode cX6_wrongBits 52 = .ok (.iaload, 1) := by decide +kernel
theorem dX6_wrongBits_53 : decode cX6_wrongBits 53 = .ok (.imul, 1) := by decide +kernel
theorem dX6_wrongBits_54 : decode cX6_wrongBits 54 = .ok (.iload_n 2, 1) := by decide +kernel
theorem dX6_wrongBits_55 : decode cX6_wrongBits 55 = .ok (.iadd, 1) := by decide +kernel
theorem dX6_wrongBits_56 : decode cX6_wrongBits 56 = .ok (.baload, 1) := by decide +kernel
theorem dX6_wrongBits_57 : decode cX6_wrongBits 57 = .ok (.iaload, 1) := by decide +kernel
theorem dX6_wrongBits_58 : decode cX6_wrongBits 58 = .ok (.ixor, 1) := by decide +kernel
theorem dX6_wrongBits_59 : decode cX6_wrongBits 59 = .ok (.invokestatic 59, 3) := by decide +kernel
theorem dX6_wrongBits_62 : decode cX6_wrongBits 62 = .ok (.iadd, 1) := by decide +kernel
theorem dX6_wrongBits_63 : decode cX6_wrongBits 63 = .ok (.istore_n 1, 1) := by decide +kernel
theorem dX6_wrongBits_64 : decode cX6_wrongBits 64 = .ok (.iinc 2 1, 3) := by decide +kernel
theorem dX6_wrongBits_67 : decode cX6_wrongBits 67 = .ok (.goto (-63), 3) := by decide +kernel
theorem dX6_wrongBits_70 : decode cX6_wrongBits 70 = .ok (.iload_n 1, 1) := by decide +kernel
theorem dX6_wrongBits_71 : decode cX6_wrongBits 71 = .ok (.ireturn, 1) := by decide +kernel
set_option maxRecDepth 20000 in
theorem ggX6_count_X6_distance : GoodIn wsX6_count wsX6_distance := goodIn_r _ [9, 1, 23, 24, 25, 26, 27, 28, 29, 30, 31, 32, 33, 34, 35, 36, 37, 38, 39] (by decide +kernel) (by decide +kernel)
set_option maxRecDepth 20000 in
theorem gX6_count_X6_distance : GoodIn wsX6_count (wsV RX6 90 RX6 yX6_distance wsX6_distance) := goodIn_app (goodIn_of _ (by decide +kernel)) ggX6_count_X6_distance
set_option maxRecDepth 20000 in
theorem ggX6_count_X6_ones : GoodIn wsX6_count wsX6_ones := goodIn_r _ [12] (by decide +kernel) (by decide +kernel)
set_option maxRecDepth 20000 in
theorem gX6_count_X6_ones : GoodIn wsX6_count (va_wsS RX6 59 yX6_ones wsX6_ones) := goodIn_app (goodIn_of _ (by decide +kernel)) ggX6_count_X6_ones
set_option maxRecDepth 20000 in
theorem ggX6_count_X6_wrongBits : GoodIn wsX6_count wsX6_wrongBits := goodIn_r _ [16, 1, 17, 18, 19, 20, 21, 8, 22, 10, 11, 12, 23, 24, 25, 26, 27, 28, 29, 30, 31, 32, 33, 34, 35, 36, 37, 38, 39] (by decide +kernel) (by decide +kernel)
set_option maxRecDepth 20000 in
theorem gX6_count_X6_wrongBits : GoodIn wsX6_count (wsV RX6 93 RX6 yX6_wrongBits wsX6_wrongBits) := goodIn_app (goodIn_of _ (by decide +kernel)) ggX6_count_X6_wrongBits
theorem dX6_count_0 : decode cX6_count 0 = .ok (.iload_n 1, 1) := by decide +kernel
theorem dX6_count_1 : decode cX6_count 1 = .ok (.tableswitch 108 0 8 #[51, 58, 65, 70, 77, 82, 87, 92, 103], 51) := by decide +kernel
theorem dX6_count_52 : decode cX6_count 52 = .ok (.aload_n 0, 1) := by decide +kernel
theorem dX6_count_53 : decode cX6_count 53 = .ok (.getfield 7, 3) := by decide +kernel
theorem dX6_count_56 : decode cX6_count 56 = .ok (.iconst 0, 1) := by decide +kernel
theorem dX6_count_57 : decode cX6_count 57 = .ok (.iaload, 1) := by decide +kernel
theorem dX6_count_58 : decode cX6_count 58 = .ok (.ireturn, 1) := by decide +kernel
theorem dX6_count_59 : decode cX6_count 59 = .ok (.aload_n 0, 1) := by decide +kernel
theorem dX6_count_60 : decode cX6_count 60 = .ok (.getfield 7, 3) := by decide +kernel
theorem dX6_count_63 : decode cX6_count 63 = .ok (.iconst 1, 1) := by decide +kernel
theorem dX6_count_64 : decode cX6_count 64 = .ok (.iaload, 1) := by decide +kernel
theorem dX6_count_65 : decode cX6_count 65 = .ok (.ireturn, 1) := by decide +kernel
theorem dX6_count_66 : decode cX6_count 66 = .ok (.aload_n 0, 1) := by decide +kernel
theorem dX6_count_67 : decode cX6_count 67 = .ok (.invokevirtual 90, 3) := by decide +kernel
theorem dX6_count_70 : decode cX6_count 70 = .ok (.ireturn, 1) := by decide +kernel
theorem dX6_count_71 : decode cX6_count 71 = .ok (.aload_n 0, 1) := by decide +kernel
theorem dX6_count_72 : decode cX6_count 72 = .ok (.getfield 7, 3) := by decide +kernel
theorem dX6_count_75 : decode cX6_count 75 = .ok (.iconst 2, 1) := by decide +kernel
theorem dX6_count_76 : decode cX6_count 76 = .ok (.iaload, 1) := by decide +kernel
theorem dX6_count_77 : decode cX6_count 77 = .ok (.ireturn, 1) := by decide +kernel
theorem dX6_count_78 : decode cX6_count 78 = .ok (.aload_n 0, 1) := by decide +kernel
theorem dX6_count_79 : decode cX6_count 79 = .ok (.getfield 55, 3) := by decide +kernel
theorem dX6_count_82 : decode cX6_count 82 = .ok (.ireturn, 1) := by decide +kernel
theorem dX6_count_83 : decode cX6_count 83 = .ok (.aload_n 0, 1) := by decide +kernel
theorem dX6_count_84 : decode cX6_count 84 = .ok (.getfield 80, 3) := by decide +kernel
theorem dX6_count_87 : decode cX6_count 87 = .ok (.ireturn, 1) := by decide +kernel
theorem dX6_count_88 : decode cX6_count 88 = .ok (.aload_n 0, 1) := by decide +kernel
theorem dX6_count_89 : decode cX6_count 89 = .ok (.getfield 71, 3) := by decide +kernel
theorem dX6_count_92 : decode cX6_count 92 = .ok (.ireturn, 1) := by decide +kernel
theorem dX6_count_93 : decode cX6_count 93 = .ok (.aload_n 0, 1) := by decide +kernel
theorem dX6_count_94 : decode cX6_count 94 = .ok (.getfield 7, 3) := by decide +kernel
theorem dX6_count_97 : decode cX6_count 97 = .ok (.bipush 7, 2) := by decide +kernel
theorem dX6_count_99 : decode cX6_count 99 = .ok (.iaload, 1) := by decide +kernel
theorem dX6_count_100 : decode cX6_count 100 = .ok (.invokestatic 59, 3) := by decide +kernel
theorem dX6_count_103 : decode cX6_count 103 = .ok (.ireturn, 1) := by decide +kernel
theorem dX6_count_104 : decode cX6_count 104 = .ok (.aload_n 0, 1) := by decide +kernel
theorem dX6_count_105 : decode cX6_count 105 = .ok (.invokevirtual 93, 3) := by decide +kernel
theorem dX6_count_108 : decode cX6_count 108 = .ok (.ireturn, 1) := by decide +kernel
theorem dX6_count_109 : decode cX6_count 109 = .ok (.sipush (-1001), 3) := by decide +kernel
theorem dX6_count_112 : decode cX6_count 112 = .ok (.ireturn, 1) := by decide +kernel
set_option maxRecDepth 20000 in
theorem ggX6_wordOf_X6_in : GoodIn wsX6_wordOf wsX6_in := goodIn_r _ [5] (by decide +kernel) (by decide +kernel)
set_option maxRecDepth 20000 in
theorem gX6_wordOf_X6_in : GoodIn wsX6_wordOf (va_wsS RX6 63 yX6_in wsX6_in) := goodIn_app (goodIn_of _ (by decide +kernel)) ggX6_wordOf_X6_in
theorem dX6_wordOf_0 : decode cX6_wordOf 0 = .ok (.iload_n 1, 1) := by decide +kernel
theorem dX6_wordOf_1 : decode cX6_wordOf 1 = .ok (.iconst 0, 1) := by decide +kernel
theorem dX6_wordOf_2 : decode cX6_wordOf 2 = .ok (.bipush 15, 2) := by decide +kernel
theorem dX6_wordOf_4 : decode cX6_wordOf 4 = .ok (.invokestatic 63, 3) := by decide +kernel
theorem dX6_wordOf_7 : decode cX6_wordOf 7 = .ok (.ifCond .eq 12, 3) := by decide +kernel
theorem dX6_wordOf_10 : decode cX6_wordOf 10 = .ok (.aload_n 0, 1) := by decide +kernel
theorem dX6_wordOf_11 : decode cX6_wordOf 11 = .ok (.getfield 27, 3) := by decide +kernel
theorem dX6_wordOf_14 : decode cX6_wordOf 14 = .ok (.iload_n 1, 1) := by decide +kernel
theorem dX6_wordOf_15 : decode cX6_wordOf 15 = .ok (.iaload, 1) := by decide +kernel
theorem dX6_wordOf_16 : decode cX6_wordOf 16 = .ok (.goto 6, 3) := by decide +kernel
theorem dX6_wordOf_19 : decode cX6_wordOf 19 = .ok (.sipush (-1001), 3) := by decide +kernel
theorem dX6_wordOf_22 : decode cX6_wordOf 22 = .ok (.ireturn, 1) := by decide +kernel
set_option maxRecDepth 20000 in
theorem ggX6_product_X6_in : GoodIn wsX6_product wsX6_in := goodIn_r _ [5] (by decide +kernel) (by decide +kernel)
set_option maxRecDepth 20000 in
theorem gX6_product_X6_in : GoodIn wsX6_product (va_wsS RX6 63 yX6_in wsX6_in) := goodIn_app (goodIn_of _ (by decide +kernel)) ggX6_product_X6_in
theorem dX6_product_0 : decode cX6_product 0 = .ok (.iload_n 1, 1) := by decide +kernel
theorem dX6_product_1 : decode cX6_product 1 = .ok (.iconst 0, 1) := by decide +kernel
theorem dX6_product_2 : decode cX6_product 2 = .ok (.bipush 15, 2) := by decide +kernel
theorem dX6_product_4 : decode cX6_product 4 = .ok (.invokestatic 63, 3) := by decide +kernel
theorem dX6_product_7 : decode cX6_product 7 = .ok (.ifCond .eq 27, 3) := by decide +kernel
theorem dX6_product_10 : decode cX6_product 10 = .ok (.iload_n 2, 1) := by decide +kernel
theorem dX6_product_11 : decode cX6_product 11 = .ok (.iconst 0, 1) := by decide +kernel
theorem dX6_product_12 : decode cX6_product 12 = .ok (.bipush 15, 2) := by decide +kernel
theorem dX6_product_14 : decode cX6_product 14 = .ok (.invokestatic 63, 3) := by decide +kernel
theorem dX6_product_17 : decode cX6_product 17 = .ok (.ifCond .eq 17, 3) := by decide +kernel
theorem dX6_product_20 : decode cX6_product 20 = .ok (.aload_n 0, 1) := by decide +kernel
theorem dX6_product_21 : decode cX6_product 21 = .ok (.getfield 19, 3) := by decide +kernel
theorem dX6_product_24 : decode cX6_product 24 = .ok (.bipush 16, 2) := by decide +kernel
theorem dX6_product_26 : decode cX6_product 26 = .ok (.iload_n 1, 1) := by decide +kernel
theorem dX6_product_27 : decode cX6_product 27 = .ok (.imul, 1) := by decide +kernel
theorem dX6_product_28 : decode cX6_product 28 = .ok (.iload_n 2, 1) := by decide +kernel
theorem dX6_product_29 : decode cX6_product 29 = .ok (.iadd, 1) := by decide +kernel
theorem dX6_product_30 : decode cX6_product 30 = .ok (.iaload, 1) := by decide +kernel
theorem dX6_product_31 : decode cX6_product 31 = .ok (.goto 6, 3) := by decide +kernel
theorem dX6_product_34 : decode cX6_product 34 = .ok (.sipush (-1001), 3) := by decide +kernel
theorem dX6_product_37 : decode cX6_product 37 = .ok (.ireturn, 1) := by decide +kernel
set_option maxRecDepth 20000 in
theorem ggX6_symbolFor_X6_isMessage : GoodIn wsX6_symbolFor wsX6_isMessage := goodIn_r _ [6, 7, 8, 9, 5, 10, 11, 12, 13, 14, 19, 20, 21, 22, 23, 24, 25, 26, 27, 28, 29, 30, 31, 32, 33, 34, 35] (by decide +kernel) (by decide +kernel)
set_option maxRecDepth 20000 in
theorem gX6_symbolFor_X6_isMessage : GoodIn wsX6_symbolFor (wsV RX6 96 RX6 yX6_isMessage wsX6_isMessage) := goodIn_app (goodIn_of _ (by decide +kernel)) ggX6_symbolFor_X6_isMessage
set_option maxRecDepth 20000 in
theorem ggX6_symbolFor_X6_isBlock : GoodIn wsX6_symbolFor wsX6_isBlock := goodIn_r _ [18, 11, 12, 13, 5, 14, 19, 20, 21, 22, 23, 24, 25, 26, 27, 28, 29, 30, 31, 32, 33, 34, 35] (by decide +kernel) (by decide +kernel)
set_option maxRecDepth 20000 in
theorem gX6_symbolFor_X6_isBlock : GoodIn wsX6_symbolFor (wsV RX6 99 RX6 yX6_isBlock wsX6_isBlock) := goodIn_app (goodIn_of _ (by decide +kernel)) ggX6_symbolFor_X6_isBlock
theorem dX6_symbolFor_0 : decode cX6_symbolFor 0 = .ok (.aload_n 0, 1) := by decide +kernel
theorem dX6_symbolFor_1 : decode cX6_symbolFor 1 = .ok (.iload_n 1, 1) := by decide +kernel
theorem dX6_symbolFor_2 : decode cX6_symbolFor 2 = .ok (.invokevirtual 96, 3) := by decide +kernel
theorem dX6_symbolFor_5 : decode cX6_symbolFor 5 = .ok (.ifCond .eq 25, 3) := by decide +kernel
theorem dX6_symbolFor_8 : decode cX6_symbolFor 8 = .ok (.aload_n 0, 1) := by decide +kernel
theorem dX6_symbolFor_9 : decode cX6_symbolFor 9 = .ok (.iload_n 2, 1) := by decide +kernel
theorem dX6_symbolFor_10 : decode cX6_symbolFor 10 = .ok (.invokevirtual 99, 3) := by decide +kernel
theorem dX6_symbolFor_13 : decode cX6_symbolFor 13 = .ok (.ifCond .eq 17, 3) := by decide +kernel
theorem dX6_symbolFor_16 : decode cX6_symbolFor 16 = .ok (.aload_n 0, 1) := by decide +kernel
theorem dX6_symbolFor_17 : decode cX6_symbolFor 17 = .ok (.getfield 23, 3) := by decide +kernel
theorem dX6_symbolFor_20 : decode cX6_symbolFor 20 = .ok (.bipush 12, 2) := by decide +kernel
theorem dX6_symbolFor_22 : decode cX6_symbolFor 22 = .ok (.iload_n 1, 1) := by decide +kernel
theorem dX6_symbolFor_23 : decode cX6_symbolFor 23 = .ok (.imul, 1) := by decide +kernel
theorem dX6_symbolFor_24 : decode cX6_symbolFor 24 = .ok (.iload_n 2, 1) := by decide +kernel
theorem dX6_symbolFor_25 : decode cX6_symbolFor 25 = .ok (.iadd, 1) := by decide +kernel
theorem dX6_symbolFor_26 : decode cX6_symbolFor 26 = .ok (.baload, 1) := by decide +kernel
theorem dX6_symbolFor_27 : decode cX6_symbolFor 27 = .ok (.goto 6, 3) := by decide +kernel
theorem dX6_symbolFor_30 : decode cX6_symbolFor 30 = .ok (.sipush (-1001), 3) := by decide +kernel
theorem dX6_symbolFor_33 : decode cX6_symbolFor 33 = .ok (.ireturn, 1) := by decide +kernel
set_option maxRecDepth 20000 in
theorem ggX6_send_X6_isMessage : GoodIn wsX6_send wsX6_isMessage := goodIn_r _ [8, 9, 10, 11, 7, 12, 1, 13, 14, 15, 29, 30, 31, 32, 33, 34, 35, 36, 37, 38, 39, 40, 41, 42, 43, 44, 45] (by decide +kernel) (by decide +kernel)
set_option maxRecDepth 20000 in
theorem gX6_send_X6_isMessage : GoodIn wsX6_send (wsV RX6 96 RX6 yX6_isMessage wsX6_isMessage) := goodIn_app (goodIn_of _ (by decide +kernel)) ggX6_send_X6_isMessage
set_option maxRecDepth 20000 in
theorem ggX6_send_X6_records : GoodIn wsX6_send wsX6_records := goodIn_r _ [19, 20, 21, 1, 29, 30, 31, 32, 33, 34, 35, 36, 37, 38, 39, 40, 41, 42, 43, 44, 45] (by decide +kernel) (by decide +kernel)
set_option maxRecDepth 20000 in
theorem gX6_send_X6_records : GoodIn wsX6_send (wsV RX6 74 RX6 yX6_records wsX6_records) := goodIn_app (goodIn_of _ (by decide +kernel)) ggX6_send_X6_records
set_option maxRecDepth 20000 in
theorem ggX6_send_X6_empties : GoodIn wsX6_send wsX6_empties := goodIn_r _ [25, 1, 29, 30, 31, 32, 33, 34, 35, 36, 37, 38, 39, 40, 41, 42, 43, 44, 45] (by decide +kernel) (by decide +kernel)
set_option maxRecDepth 20000 in
theorem gX6_send_X6_empties : GoodIn wsX6_send (wsV RX6 77 RX6 yX6_empties wsX6_empties) := goodIn_app (goodIn_of _ (by decide +kernel)) ggX6_send_X6_empties
set_option maxRecDepth 20000 in
theorem ggX6_send_X6_ones : GoodIn wsX6_send wsX6_ones := goodIn_r _ [28] (by decide +kernel) (by decide +kernel)
set_option maxRecDepth 20000 in
theorem gX6_send_X6_ones : GoodIn wsX6_send (va_wsS RX6 59 yX6_ones wsX6_ones) := goodIn_app (goodIn_of _ (by decide +kernel)) ggX6_send_X6_ones
theorem dX6_send_0 : decode cX6_send 0 = .ok (.aload_n 0, 1) := by decide +kernel
theorem dX6_send_1 : decode cX6_send 1 = .ok (.iload_n 1, 1) := by decide +kernel
theorem dX6_send_2 : decode cX6_send 2 = .ok (.invokevirtual 96, 3) := by decide +kernel
theorem dX6_send_5 : decode cX6_send 5 = .ok (.ifCond .ne 7, 3) := by decide +kernel
theorem dX6_send_8 : decode cX6_send 8 = .ok (.sipush (-1001), 3) := by decide +kernel
theorem dX6_send_11 : decode cX6_send 11 = .ok (.ireturn, 1) := by decide +kernel
theorem dX6_send_12 : decode cX6_send 12 = .ok (.aload_n 0, 1) := by decide +kernel
theorem dX6_send_13 : decode cX6_send 13 = .ok (.invokevirtual 74, 3) := by decide +kernel
theorem dX6_send_16 : decode cX6_send 16 = .ok (.aload_n 0, 1) := by decide +kernel
theorem dX6_send_17 : decode cX6_send 17 = .ok (.invokevirtual 77, 3) := by decide +kernel
theorem dX6_send_20 : decode cX6_send 20 = .ok (.aload_n 0, 1) := by decide +kernel
theorem dX6_send_21 : decode cX6_send 21 = .ok (.getfield 7, 3) := by decide +kernel
theorem dX6_send_24 : decode cX6_send 24 = .ok (.bipush 8, 2) := by decide +kernel
theorem dX6_send_26 : decode cX6_send 26 = .ok (.iload_n 1, 1) := by decide +kernel
theorem dX6_send_27 : decode cX6_send 27 = .ok (.iastore, 1) := by decide +kernel
theorem dX6_send_28 : decode cX6_send 28 = .ok (.iconst 0, 1) := by decide +kernel
theorem dX6_send_29 : decode cX6_send 29 = .ok (.istore_n 2, 1) := by decide +kernel
theorem dX6_send_30 : decode cX6_send 30 = .ok (.iconst 0, 1) := by decide +kernel
theorem dX6_send_31 : decode cX6_send 31 = .ok (.istore_n 3, 1) := by decide +kernel
theorem dX6_send_32 : decode cX6_send 32 = .ok (.iload_n 3, 1) := by decide +kernel
theorem dX6_send_33 : decode cX6_send 33 = .ok (.aload_n 0, 1) := by decide +kernel
theorem dX6_send_34 : decode cX6_send 34 = .ok (.getfield 7, 3) := by decide +kernel
theorem dX6_send_37 : decode cX6_send 37 = .ok (.iconst 0, 1) := by decide +kernel
theorem dX6_send_38 : decode cX6_send 38 = .ok (.iaload, 1) := by decide +kernel
theorem dX6_send_39 : decode cX6_send 39 = .ok (.if_icmp .ge 49, 3) := by decide +kernel
theorem dX6_send_42 : decode cX6_send 42 = .ok (.aload_n 0, 1) := by decide +kernel
theorem dX6_send_43 : decode cX6_send 43 = .ok (.getfield 7, 3) := by decide +kernel
theorem dX6_send_46 : decode cX6_send 46 = .ok (.bipush 9, 2) := by decide +kernel
theorem dX6_send_48 : decode cX6_send 48 = .ok (.iload_n 3, 1) := by decide +kernel
theorem dX6_send_49 : decode cX6_send 49 = .ok (.iadd, 1) := by decide +kernel
theorem dX6_send_50 : decode cX6_send 50 = .ok (.aload_n 0, 1) := by decide +kernel
theorem dX6_send_51 : decode cX6_send 51 = .ok (.getfield 27, 3) := by decide +kernel
theorem dX6_send_54 : decode cX6_send 54 = .ok (.aload_n 0, 1) := by decide +kernel
theorem dX6_send_55 : decode cX6_send 55 = .ok (.getfield 23, 3) := by decide +kernel
theorem dX6_send_58 : decode cX6_send 58 = .ok (.bipush 12, 2) := by decide +kernel
theorem dX6_send_60 : decode cX6_send 60 = .ok (.iload_n 1, 1) := by decide +kernel
theorem dX6_send_61 : decode cX6_send 61 = .ok (.imul, 1) := by decide +kernel
theorem dX6_send_62 : decode cX6_send 62 = .ok (.iload_n 3, 1) := by decide +kernel
theorem dX6_send_63 : decode cX6_send 63 = .ok (.iadd, 1) := by decide +kernel
theorem dX6_send_64 : decode cX6_send 64 = .ok (.baload, 1) := by decide +kernel
theorem dX6_send_65 : decode cX6_send 65 = .ok (.iaload, 1) := by decide +kernel
theorem dX6_send_66 : decode cX6_send 66 = .ok (.iastore, 1) := by decide +kernel
theorem dX6_send_67 : decode cX6_send 67 = .ok (.iload_n 2, 1) := by decide +kernel
theorem dX6_send_68 : decode cX6_send 68 = .ok (.aload_n 0, 1) := by decide +kernel
theorem dX6_send_69 : decode cX6_send 69 = .ok (.getfield 7, 3) := by decide +kernel
theorem dX6_send_72 : decode cX6_send 72 = .ok (.bipush 9, 2) := by decide +kernel
theorem dX6_send_74 : decode cX6_send 74 = .ok (.iload_n 3, 1) := by decide +kernel
theorem dX6_send_75 : decode cX6_send 75 = .ok (.iadd, 1) := by decide +kernel
theorem dX6_send_76 : decode cX6_send 76 = .ok (.iaload, 1) := by decide +kernel
theorem dX6_send_77 : decode cX6_send 77 = .ok (.invokestatic 59, 3) := by decide +kernel
theorem dX6_send_80 : decode cX6_send 80 = .ok (.iadd, 1) := by decide +kernel
theorem dX6_send_81 : decode cX6_send 81 = .ok (.istore_n 2, 1) := by decide +kernel
theorem dX6_send_82 : decode cX6_send 82 = .ok (.iinc 3 1, 3) := by decide +kernel
theorem dX6_send_85 : decode cX6_send 85 = .ok (.goto (-53), 3) := by decide +kernel
theorem dX6_send_88 : decode cX6_send 88 = .ok (.iload_n 2, 1) := by decide +kernel
theorem dX6_send_89 : decode cX6_send 89 = .ok (.ireturn, 1) := by decide +kernel
set_option maxRecDepth 20000 in
theorem ggX6_flip_X6_isBlock : GoodIn wsX6_flip wsX6_isBlock := goodIn_r _ [7, 1, 8, 9, 6, 10, 21, 22, 23, 24, 25, 26, 27, 28, 29, 30, 31, 32, 33, 34, 35, 36, 37] (by decide +kernel) (by decide +kernel)
set_option maxRecDepth 20000 in
theorem gX6_flip_X6_isBlock : GoodIn wsX6_flip (wsV RX6 99 RX6 yX6_isBlock wsX6_isBlock) := goodIn_app (goodIn_of _ (by decide +kernel)) ggX6_flip_X6_isBlock
set_option maxRecDepth 20000 in
theorem ggX6_flip_X6_in : GoodIn wsX6_flip wsX6_in := goodIn_r _ [10] (by decide +kernel) (by decide +kernel)
set_option maxRecDepth 20000 in
theorem gX6_flip_X6_in : GoodIn wsX6_flip (va_wsS RX6 63 yX6_in wsX6_in) := goodIn_app (goodIn_of _ (by decide +kernel)) ggX6_flip_X6_in
set_option maxRecDepth 20000 in
theorem ggX6_flip_X6_isLost : GoodIn wsX6_flip wsX6_isLost := goodIn_r _ [14, 1, 21, 22, 23, 24, 25, 26, 27, 28, 29, 30, 31, 32, 33, 34, 35, 36, 37] (by decide +kernel) (by decide +kernel)
set_option maxRecDepth 20000 in
theorem gX6_flip_X6_isLost : GoodIn wsX6_flip (wsV RX6 87 RX6 yX6_isLost wsX6_isLost) := goodIn_app (goodIn_of _ (by decide +kernel)) ggX6_flip_X6_isLost
set_option maxRecDepth 20000 in
theorem ggX6_flip_X6_records : GoodIn wsX6_flip wsX6_records := goodIn_r _ [18, 19, 20, 1, 21, 22, 23, 24, 25, 26, 27, 28, 29, 30, 31, 32, 33, 34, 35, 36, 37] (by decide +kernel) (by decide +kernel)
set_option maxRecDepth 20000 in
theorem gX6_flip_X6_records : GoodIn wsX6_flip (wsV RX6 74 RX6 yX6_records wsX6_records) := goodIn_app (goodIn_of _ (by decide +kernel)) ggX6_flip_X6_records
theorem dX6_flip_0 : decode cX6_flip 0 = .ok (.aload_n 0, 1) := by decide +kernel
theorem dX6_flip_1 : decode cX6_flip 1 = .ok (.iload_n 1, 1) := by decide +kernel
theorem dX6_flip_2 : decode cX6_flip 2 = .ok (.invokevirtual 99, 3) := by decide +kernel
theorem dX6_flip_5 : decode cX6_flip 5 = .ok (.ifCond .eq 21, 3) := by decide +kernel
theorem dX6_flip_8 : decode cX6_flip 8 = .ok (.iload_n 2, 1) := by decide +kernel
theorem dX6_flip_9 : decode cX6_flip 9 = .ok (.iconst 1, 1) := by decide +kernel
theorem dX6_flip_10 : decode cX6_flip 10 = .ok (.iconst 1, 1) := by decide +kernel
theorem dX6_flip_11 : decode cX6_flip 11 = .ok (.aload_n 0, 1) := by decide +kernel
theorem dX6_flip_12 : decode cX6_flip 12 = .ok (.getfield 7, 3) := by decide +kernel
theorem dX6_flip_15 : decode cX6_flip 15 = .ok (.iconst 2, 1) := by decide +kernel
theorem dX6_flip_16 : decode cX6_flip 16 = .ok (.iaload, 1) := by decide +kernel
theorem dX6_flip_17 : decode cX6_flip 17 = .ok (.ishl, 1) := by decide +kernel
theorem dX6_flip_18 : decode cX6_flip 18 = .ok (.iconst 1, 1) := by decide +kernel
theorem dX6_flip_19 : decode cX6_flip 19 = .ok (.isub, 1) := by decide +kernel
theorem dX6_flip_20 : decode cX6_flip 20 = .ok (.invokestatic 63, 3) := by decide +kernel
theorem dX6_flip_23 : decode cX6_flip 23 = .ok (.ifCond .ne 7, 3) := by decide +kernel
theorem dX6_flip_26 : decode cX6_flip 26 = .ok (.sipush (-1001), 3) := by decide +kernel
theorem dX6_flip_29 : decode cX6_flip 29 = .ok (.ireturn, 1) := by decide +kernel
theorem dX6_flip_30 : decode cX6_flip 30 = .ok (.aload_n 0, 1) := by decide +kernel
theorem dX6_flip_31 : decode cX6_flip 31 = .ok (.iload_n 1, 1) := by decide +kernel
theorem dX6_flip_32 : decode cX6_flip 32 = .ok (.invokevirtual 87, 3) := by decide +kernel
theorem dX6_flip_35 : decode cX6_flip 35 = .ok (.ifCond .eq 7, 3) := by decide +kernel
theorem dX6_flip_38 : decode cX6_flip 38 = .ok (.sipush (-1002), 3) := by decide +kernel
theorem dX6_flip_41 : decode cX6_flip 41 = .ok (.ireturn, 1) := by decide +kernel
theorem dX6_flip_42 : decode cX6_flip 42 = .ok (.aload_n 0, 1) := by decide +kernel
theorem dX6_flip_43 : decode cX6_flip 43 = .ok (.invokevirtual 74, 3) := by decide +kernel
theorem dX6_flip_46 : decode cX6_flip 46 = .ok (.aload_n 0, 1) := by decide +kernel
theorem dX6_flip_47 : decode cX6_flip 47 = .ok (.getfield 7, 3) := by decide +kernel
theorem dX6_flip_50 : decode cX6_flip 50 = .ok (.bipush 9, 2) := by decide +kernel
theorem dX6_flip_52 : decode cX6_flip 52 = .ok (.iload_n 1, 1) := by decide +kernel
theorem dX6_flip_53 : decode cX6_flip 53 = .ok (.iadd, 1) := by decide +kernel
theorem dX6_flip_54 : decode cX6_flip 54 = .ok (.dup2, 1) := by decide +kernel
theorem dX6_flip_55 : decode cX6_flip 55 = .ok (.iaload, 1) := by decide +kernel
theorem dX6_flip_56 : decode cX6_flip 56 = .ok (.iload_n 2, 1) := by decide +kernel
theorem dX6_flip_57 : decode cX6_flip 57 = .ok (.ixor, 1) := by decide +kernel
theorem dX6_flip_58 : decode cX6_flip 58 = .ok (.iastore, 1) := by decide +kernel
theorem dX6_flip_59 : decode cX6_flip 59 = .ok (.aload_n 0, 1) := by decide +kernel
theorem dX6_flip_60 : decode cX6_flip 60 = .ok (.getfield 33, 3) := by decide +kernel
theorem dX6_flip_63 : decode cX6_flip 63 = .ok (.aload_n 0, 1) := by decide +kernel
theorem dX6_flip_64 : decode cX6_flip 64 = .ok (.getfield 7, 3) := by decide +kernel
theorem dX6_flip_67 : decode cX6_flip 67 = .ok (.bipush 9, 2) := by decide +kernel
theorem dX6_flip_69 : decode cX6_flip 69 = .ok (.iload_n 1, 1) := by decide +kernel
theorem dX6_flip_70 : decode cX6_flip 70 = .ok (.iadd, 1) := by decide +kernel
theorem dX6_flip_71 : decode cX6_flip 71 = .ok (.iaload, 1) := by decide +kernel
theorem dX6_flip_72 : decode cX6_flip 72 = .ok (.iaload, 1) := by decide +kernel
theorem dX6_flip_73 : decode cX6_flip 73 = .ok (.ireturn, 1) := by decide +kernel
set_option maxRecDepth 20000 in
theorem ggX6_lose_X6_isBlock : GoodIn wsX6_lose wsX6_isBlock := goodIn_r _ [6, 1, 7, 8, 5, 9, 16, 17, 18, 19, 20, 21, 22, 23, 24, 25, 26, 27, 28, 29, 30, 31, 32] (by decide +kernel) (by decide +kernel)
set_option maxRecDepth 20000 in
theorem gX6_lose_X6_isBlock : GoodIn wsX6_lose (wsV RX6 99 RX6 yX6_isBlock wsX6_isBlock) := goodIn_app (goodIn_of _ (by decide +kernel)) ggX6_lose_X6_isBlock
set_option maxRecDepth 20000 in
theorem ggX6_lose_X6_in : GoodIn wsX6_lose wsX6_in := goodIn_r _ [9] (by decide +kernel) (by decide +kernel)
set_option maxRecDepth 20000 in
theorem gX6_lose_X6_in : GoodIn wsX6_lose (va_wsS RX6 63 yX6_in wsX6_in) := goodIn_app (goodIn_of _ (by decide +kernel)) ggX6_lose_X6_in
set_option maxRecDepth 20000 in
theorem ggX6_lose_X6_records : GoodIn wsX6_lose wsX6_records := goodIn_r _ [13, 14, 15, 1, 16, 17, 18, 19, 20, 21, 22, 23, 24, 25, 26, 27, 28, 29, 30, 31, 32] (by decide +kernel) (by decide +kernel)
set_option maxRecDepth 20000 in
theorem gX6_lose_X6_records : GoodIn wsX6_lose (wsV RX6 74 RX6 yX6_records wsX6_records) := goodIn_app (goodIn_of _ (by decide +kernel)) ggX6_lose_X6_records
theorem dX6_lose_0 : decode cX6_lose 0 = .ok (.aload_n 0, 1) := by decide +kernel
theorem dX6_lose_1 : decode cX6_lose 1 = .ok (.iload_n 1, 1) := by decide +kernel
theorem dX6_lose_2 : decode cX6_lose 2 = .ok (.invokevirtual 99, 3) := by decide +kernel
theorem dX6_lose_5 : decode cX6_lose 5 = .ok (.ifCond .eq 12, 3) := by decide +kernel
theorem dX6_lose_8 : decode cX6_lose 8 = .ok (.iload_n 2, 1) := by decide +kernel
theorem dX6_lose_9 : decode cX6_lose 9 = .ok (.iconst 0, 1) := by decide +kernel
theorem dX6_lose_10 : decode cX6_lose 10 = .ok (.iconst 1, 1) := by decide +kernel
theorem dX6_lose_11 : decode cX6_lose 11 = .ok (.invokestatic 63, 3) := by decide +kernel
theorem dX6_lose_14 : decode cX6_lose 14 = .ok (.ifCond .ne 7, 3) := by decide +kernel
theorem dX6_lose_17 : decode cX6_lose 17 = .ok (.sipush (-1001), 3) := by decide +kernel
theorem dX6_lose_20 : decode cX6_lose 20 = .ok (.ireturn, 1) := by decide +kernel
theorem dX6_lose_21 : decode cX6_lose 21 = .ok (.aload_n 0, 1) := by decide +kernel
theorem dX6_lose_22 : decode cX6_lose 22 = .ok (.invokevirtual 74, 3) := by decide +kernel
theorem dX6_lose_25 : decode cX6_lose 25 = .ok (.aload_n 0, 1) := by decide +kernel
theorem dX6_lose_26 : decode cX6_lose 26 = .ok (.getfield 7, 3) := by decide +kernel
theorem dX6_lose_29 : decode cX6_lose 29 = .ok (.bipush 7, 2) := by decide +kernel
theorem dX6_lose_31 : decode cX6_lose 31 = .ok (.iaload, 1) := by decide +kernel
theorem dX6_lose_32 : decode cX6_lose 32 = .ok (.iload_n 1, 1) := by decide +kernel
theorem dX6_lose_33 : decode cX6_lose 33 = .ok (.ishr, 1) := by decide +kernel
theorem dX6_lose_34 : decode cX6_lose 34 = .ok (.iconst 1, 1) := by decide +kernel
theorem dX6_lose_35 : decode cX6_lose 35 = .ok (.iand, 1) := by decide +kernel
theorem dX6_lose_36 : decode cX6_lose 36 = .ok (.istore_n 3, 1) := by decide +kernel
theorem dX6_lose_37 : decode cX6_lose 37 = .ok (.aload_n 0, 1) := by decide +kernel
theorem dX6_lose_38 : decode cX6_lose 38 = .ok (.getfield 7, 3) := by decide +kernel
theorem dX6_lose_41 : decode cX6_lose 41 = .ok (.bipush 7, 2) := by decide +kernel
theorem dX6_lose_43 : decode cX6_lose 43 = .ok (.aload_n 0, 1) := by decide +kernel
theorem dX6_lose_44 : decode cX6_lose 44 = .ok (.getfield 7, 3) := by decide +kernel
theorem dX6_lose_47 : decode cX6_lose 47 = .ok (.bipush 7, 2) := by decide +kernel
theorem dX6_lose_49 : decode cX6_lose 49 = .ok (.iaload, 1) := by decide +kernel
theorem dX6_lose_50 : decode cX6_lose 50 = .ok (.iconst 1, 1) := by decide +kernel
theorem dX6_lose_51 : decode cX6_lose 51 = .ok (.iload_n 1, 1) := by decide +kernel
theorem dX6_lose_52 : decode cX6_lose 52 = .ok (.ishl, 1) := by decide +kernel
theorem dX6_lose_53 : decode cX6_lose 53 = .ok (.iconst (-1), 1) := by decide +kernel
theorem dX6_lose_54 : decode cX6_lose 54 = .ok (.ixor, 1) := by decide +kernel
theorem dX6_lose_55 : decode cX6_lose 55 = .ok (.iand, 1) := by decide +kernel
theorem dX6_lose_56 : decode cX6_lose 56 = .ok (.iload_n 2, 1) := by decide +kernel
theorem dX6_lose_57 : decode cX6_lose 57 = .ok (.iload_n 1, 1) := by decide +kernel
theorem dX6_lose_58 : decode cX6_lose 58 = .ok (.ishl, 1) := by decide +kernel
theorem dX6_lose_59 : decode cX6_lose 59 = .ok (.ior, 1) := by decide +kernel
theorem dX6_lose_60 : decode cX6_lose 60 = .ok (.iastore, 1) := by decide +kernel
theorem dX6_lose_61 : decode cX6_lose 61 = .ok (.iload_n 3, 1) := by decide +kernel
theorem dX6_lose_62 : decode cX6_lose 62 = .ok (.ireturn, 1) := by decide +kernel
set_option maxRecDepth 20000 in
theorem ggX6_burst_X6_in : GoodIn wsX6_burst wsX6_in := goodIn_r _ [5] (by decide +kernel) (by decide +kernel)
set_option maxRecDepth 20000 in
theorem gX6_burst_X6_in : GoodIn wsX6_burst (va_wsS RX6 63 yX6_in wsX6_in) := goodIn_app (goodIn_of _ (by decide +kernel)) ggX6_burst_X6_in
set_option maxRecDepth 20000 in
theorem ggX6_burst_X6_records : GoodIn wsX6_burst wsX6_records := goodIn_r _ [9, 10, 11, 1, 12, 13, 14, 15, 16, 17, 18, 19, 20, 21, 22, 23, 24, 25, 26, 27, 28] (by decide +kernel) (by decide +kernel)
set_option maxRecDepth 20000 in
theorem gX6_burst_X6_records : GoodIn wsX6_burst (wsV RX6 74 RX6 yX6_records wsX6_records) := goodIn_app (goodIn_of _ (by decide +kernel)) ggX6_burst_X6_records
theorem dX6_burst_0 : decode cX6_burst 0 = .ok (.aload_n 0, 1) := by decide +kernel
theorem dX6_burst_1 : decode cX6_burst 1 = .ok (.getfield 7, 3) := by decide +kernel
theorem dX6_burst_4 : decode cX6_burst 4 = .ok (.iconst 0, 1) := by decide +kernel
theorem dX6_burst_5 : decode cX6_burst 5 = .ok (.iaload, 1) := by decide +kernel
theorem dX6_burst_6 : decode cX6_burst 6 = .ok (.aload_n 0, 1) := by decide +kernel
theorem dX6_burst_7 : decode cX6_burst 7 = .ok (.getfield 7, 3) := by decide +kernel
theorem dX6_burst_10 : decode cX6_burst 10 = .ok (.iconst 2, 1) := by decide +kernel
theorem dX6_burst_11 : decode cX6_burst 11 = .ok (.iaload, 1) := by decide +kernel
theorem dX6_burst_12 : decode cX6_burst 12 = .ok (.imul, 1) := by decide +kernel
theorem dX6_burst_13 : decode cX6_burst 13 = .ok (.istore_n 3, 1) := by decide +kernel
theorem dX6_burst_14 : decode cX6_burst 14 = .ok (.iload_n 1, 1) := by decide +kernel
theorem dX6_burst_15 : decode cX6_burst 15 = .ok (.iconst 0, 1) := by decide +kernel
theorem dX6_burst_16 : decode cX6_burst 16 = .ok (.iload_n 3, 1) := by decide +kernel
theorem dX6_burst_17 : decode cX6_burst 17 = .ok (.iconst 1, 1) := by decide +kernel
theorem dX6_burst_18 : decode cX6_burst 18 = .ok (.isub, 1) := by decide +kernel
theorem dX6_burst_19 : decode cX6_burst 19 = .ok (.invokestatic 63, 3) := by decide +kernel
theorem dX6_burst_22 : decode cX6_burst 22 = .ok (.ifCond .eq 14, 3) := by decide +kernel
theorem dX6_burst_25 : decode cX6_burst 25 = .ok (.iload_n 2, 1) := by decide +kernel
theorem dX6_burst_26 : decode cX6_burst 26 = .ok (.iconst 1, 1) := by decide +kernel
theorem dX6_burst_27 : decode cX6_burst 27 = .ok (.iload_n 3, 1) := by decide +kernel
theorem dX6_burst_28 : decode cX6_burst 28 = .ok (.iload_n 1, 1) := by decide +kernel
theorem dX6_burst_29 : decode cX6_burst 29 = .ok (.isub, 1) := by decide +kernel
theorem dX6_burst_30 : decode cX6_burst 30 = .ok (.invokestatic 63, 3) := by decide +kernel
theorem dX6_burst_33 : decode cX6_burst 33 = .ok (.ifCond .ne 7, 3) := by decide +kernel
theorem dX6_burst_36 : decode cX6_burst 36 = .ok (.sipush (-1001), 3) := by decide +kernel
theorem dX6_burst_39 : decode cX6_burst 39 = .ok (.ireturn, 1) := by decide +kernel
theorem dX6_burst_40 : decode cX6_burst 40 = .ok (.aload_n 0, 1) := by decide +kernel
theorem dX6_burst_41 : decode cX6_burst 41 = .ok (.invokevirtual 74, 3) := by decide +kernel
theorem dX6_burst_44 : decode cX6_burst 44 = .ok (.iload_n 1, 1) := by decide +kernel
theorem dX6_burst_45 : decode cX6_burst 45 = .ok (.istore 4, 2) := by decide +kernel
theorem dX6_burst_47 : decode cX6_burst 47 = .ok (.iload 4, 2) := by decide +kernel
theorem dX6_burst_49 : decode cX6_burst 49 = .ok (.iload_n 1, 1) := by decide +kernel
theorem dX6_burst_50 : decode cX6_burst 50 = .ok (.iload_n 2, 1) := by decide +kernel
theorem dX6_burst_51 : decode cX6_burst 51 = .ok (.iadd, 1) := by decide +kernel
theorem dX6_burst_52 : decode cX6_burst 52 = .ok (.if_icmp .ge 40, 3) := by decide +kernel
theorem dX6_burst_55 : decode cX6_burst 55 = .ok (.aload_n 0, 1) := by decide +kernel
theorem dX6_burst_56 : decode cX6_burst 56 = .ok (.getfield 7, 3) := by decide +kernel
theorem dX6_burst_59 : decode cX6_burst 59 = .ok (.bipush 9, 2) := by decide +kernel
theorem dX6_burst_61 : decode cX6_burst 61 = .ok (.iload 4, 2) := by decide +kernel
theorem dX6_burst_63 : decode cX6_burst 63 = .ok (.aload_n 0, 1) := by decide +kernel
theorem dX6_burst_64 : decode cX6_burst 64 = .ok (.getfield 7, 3) := by decide +kernel
theorem dX6_burst_67 : decode cX6_burst 67 = .ok (.iconst 2, 1) := by decide +kernel
theorem dX6_burst_68 : decode cX6_burst 68 = .ok (.iaload, 1) := by decide +kernel
theorem dX6_burst_69 : decode cX6_burst 69 = .ok (.idiv, 1) := by decide +kernel
theorem dX6_burst_70 : decode cX6_burst 70 = .ok (.iadd, 1) := by decide +kernel
theorem dX6_burst_71 : decode cX6_burst 71 = .ok (.dup2, 1) := by decide +kernel
theorem dX6_burst_72 : decode cX6_burst 72 = .ok (.iaload, 1) := by decide +kernel
theorem dX6_burst_73 : decode cX6_burst 73 = .ok (.iconst 1, 1) := by decide +kernel
theorem dX6_burst_74 : decode cX6_burst 74 = .ok (.iload 4, 2) := by decide +kernel
theorem dX6_burst_76 : decode cX6_burst 76 = .ok (.aload_n 0, 1) := by decide +kernel
theorem dX6_burst_77 : decode cX6_burst 77 = .ok (.getfield 7, 3) := by decide +kernel
theorem dX6_burst_80 : decode cX6_burst 80 = .ok (.iconst 2, 1) := by decide +kernel
theorem dX6_burst_81 : decode cX6_burst 81 = .ok (.iaload, 1) := by decide +kernel
theorem dX6_burst_82 : decode cX6_burst 82 = .ok (.irem, 1) := by decide +kernel
theorem dX6_burst_83 : decode cX6_burst 83 = .ok (.ishl, 1) := by decide +kernel
theorem dX6_burst_84 : decode cX6_burst 84 = .ok (.ixor, 1) := by decide +kernel
theorem dX6_burst_85 : decode cX6_burst 85 = .ok (.iastore, 1) := by decide +kernel
theorem dX6_burst_86 : decode cX6_burst 86 = .ok (.iinc 4 1, 3) := by decide +kernel
theorem dX6_burst_89 : decode cX6_burst 89 = .ok (.goto (-42), 3) := by decide +kernel
theorem dX6_burst_92 : decode cX6_burst 92 = .ok (.iload_n 1, 1) := by decide +kernel
theorem dX6_burst_93 : decode cX6_burst 93 = .ok (.iload_n 2, 1) := by decide +kernel
theorem dX6_burst_94 : decode cX6_burst 94 = .ok (.iadd, 1) := by decide +kernel
theorem dX6_burst_95 : decode cX6_burst 95 = .ok (.iconst 1, 1) := by decide +kernel
theorem dX6_burst_96 : decode cX6_burst 96 = .ok (.isub, 1) := by decide +kernel
theorem dX6_burst_97 : decode cX6_burst 97 = .ok (.aload_n 0, 1) := by decide +kernel
theorem dX6_burst_98 : decode cX6_burst 98 = .ok (.getfield 7, 3) := by decide +kernel
theorem dX6_burst_101 : decode cX6_burst 101 = .ok (.iconst 2, 1) := by decide +kernel
theorem dX6_burst_102 : decode cX6_burst 102 = .ok (.iaload, 1) := by decide +kernel
theorem dX6_burst_103 : decode cX6_burst 103 = .ok (.idiv, 1) := by decide +kernel
theorem dX6_burst_104 : decode cX6_burst 104 = .ok (.iload_n 1, 1) := by decide +kernel
theorem dX6_burst_105 : decode cX6_burst 105 = .ok (.aload_n 0, 1) := by decide +kernel
theorem dX6_burst_106 : decode cX6_burst 106 = .ok (.getfield 7, 3) := by decide +kernel
theorem dX6_burst_109 : decode cX6_burst 109 = .ok (.iconst 2, 1) := by decide +kernel
theorem dX6_burst_110 : decode cX6_burst 110 = .ok (.iaload, 1) := by decide +kernel
theorem dX6_burst_111 : decode cX6_burst 111 = .ok (.idiv, 1) := by decide +kernel
theorem dX6_burst_112 : decode cX6_burst 112 = .ok (.isub, 1) := by decide +kernel
theorem dX6_burst_113 : decode cX6_burst 113 = .ok (.iconst 1, 1) := by decide +kernel
theorem dX6_burst_114 : decode cX6_burst 114 = .ok (.iadd, 1) := by decide +kernel
theorem dX6_burst_115 : decode cX6_burst 115 = .ok (.ireturn, 1) := by decide +kernel
set_option maxRecDepth 20000 in
theorem ggX6_sendCascade_X6_decode : GoodIn wsX6_sendCascade wsX6_decode := goodIn_r _ [8, 9, 10, 11, 12, 7, 13, 14, 15, 16, 17, 18, 1, 19, 20, 21, 22, 23, 24, 25, 26, 27, 28, 29, 30, 31, 32, 33, 34, 35, 36, 37, 3, 38, 39, 40, 41, 42, 43, 44, 45, 46, 47, 48, 49, 50, 51, 52, 53, 63, 64, 65, 66, 67, 68, 69, 70, 71, 72, 73, 74, 75, 76, 77, 78, 79] (by decide +kernel) (by decide +kernel)
set_option maxRecDepth 20000 in
theorem gX6_sendCascade_X6_decode : GoodIn wsX6_sendCascade (wsV RX6 102 RX6 yX6_decode wsX6_decode) := goodIn_app (goodIn_of _ (by decide +kernel)) ggX6_sendCascade_X6_decode
set_option maxRecDepth 20000 in
theorem ggX6_sendCascade_X6_records : GoodIn wsX6_sendCascade wsX6_records := goodIn_r _ [57, 58, 59, 1, 63, 64, 65, 66, 67, 68, 69, 70, 71, 72, 73, 74, 75, 76, 77, 78, 79] (by decide +kernel) (by decide +kernel)
set_option maxRecDepth 20000 in
theorem gX6_sendCascade_X6_records : GoodIn wsX6_sendCascade (wsV RX6 74 RX6 yX6_records wsX6_records) := goodIn_app (goodIn_of _ (by decide +kernel)) ggX6_sendCascade_X6_records
set_option maxRecDepth 20000 in
theorem ggX6_sendCascade_X6_ones : GoodIn wsX6_sendCascade wsX6_ones := goodIn_r _ [62] (by decide +kernel) (by decide +kernel)
set_option maxRecDepth 20000 in
theorem gX6_sendCascade_X6_ones : GoodIn wsX6_sendCascade (va_wsS RX6 59 yX6_ones wsX6_ones) := goodIn_app (goodIn_of _ (by decide +kernel)) ggX6_sendCascade_X6_ones
theorem dX6_sendCascade_0 : decode cX6_sendCascade 0 = .ok (.aload_n 0, 1) := by decide +kernel
theorem dX6_sendCascade_1 : decode cX6_sendCascade 1 = .ok (.invokevirtual 102, 3) := by decide +kernel
theorem dX6_sendCascade_4 : decode cX6_sendCascade 4 = .ok (.istore_n 1, 1) := by decide +kernel
theorem dX6_sendCascade_5 : decode cX6_sendCascade 5 = .ok (.iload_n 1, 1) := by decide +kernel
theorem dX6_sendCascade_6 : decode cX6_sendCascade 6 = .ok (.ifCond .ge 7, 3) := by decide +kernel
theorem dX6_sendCascade_9 : decode cX6_sendCascade 9 = .ok (.sipush (-1002), 3) := by decide +kernel
theorem dX6_sendCascade_12 : decode cX6_sendCascade 12 = .ok (.ireturn, 1) := by decide +kernel
theorem dX6_sendCascade_13 : decode cX6_sendCascade 13 = .ok (.aload_n 0, 1) := by decide +kernel
theorem dX6_sendCascade_14 : decode cX6_sendCascade 14 = .ok (.invokevirtual 74, 3) := by decide +kernel
theorem dX6_sendCascade_17 : decode cX6_sendCascade 17 = .ok (.aload_n 0, 1) := by decide +kernel
theorem dX6_sendCascade_18 : decode cX6_sendCascade 18 = .ok (.getfield 7, 3) := by decide +kernel
theorem dX6_sendCascade_21 : decode cX6_sendCascade 21 = .ok (.bipush 8, 2) := by decide +kernel
theorem dX6_sendCascade_23 : decode cX6_sendCascade 23 = .ok (.iload_n 1, 1) := by decide +kernel
theorem dX6_sendCascade_24 : decode cX6_sendCascade 24 = .ok (.iastore, 1) := by decide +kernel
theorem dX6_sendCascade_25 : decode cX6_sendCascade 25 = .ok (.iconst 0, 1) := by decide +kernel
theorem dX6_sendCascade_26 : decode cX6_sendCascade 26 = .ok (.istore_n 2, 1) := by decide +kernel
theorem dX6_sendCascade_27 : decode cX6_sendCascade 27 = .ok (.iconst 0, 1) := by decide +kernel
theorem dX6_sendCascade_28 : decode cX6_sendCascade 28 = .ok (.istore_n 3, 1) := by decide +kernel
theorem dX6_sendCascade_29 : decode cX6_sendCascade 29 = .ok (.iload_n 3, 1) := by decide +kernel
theorem dX6_sendCascade_30 : decode cX6_sendCascade 30 = .ok (.aload_n 0, 1) := by decide +kernel
theorem dX6_sendCascade_31 : decode cX6_sendCascade 31 = .ok (.getfield 7, 3) := by decide +kernel
theorem dX6_sendCascade_34 : decode cX6_sendCascade 34 = .ok (.iconst 0, 1) := by decide +kernel
theorem dX6_sendCascade_35 : decode cX6_sendCascade 35 = .ok (.iaload, 1) := by decide +kernel
theorem dX6_sendCascade_36 : decode cX6_sendCascade 36 = .ok (.if_icmp .ge 92, 3) := by decide +kernel
theorem dX6_sendCascade_39 : decode cX6_sendCascade 39 = .ok (.aload_n 0, 1) := by decide +kernel
theorem dX6_sendCascade_40 : decode cX6_sendCascade 40 = .ok (.getfield 27, 3) := by decide +kernel
theorem dX6_sendCascade_43 : decode cX6_sendCascade 43 = .ok (.aload_n 0, 1) := by decide +kernel
theorem dX6_sendCascade_44 : decode cX6_sendCascade 44 = .ok (.getfield 23, 3) := by decide +kernel
theorem dX6_sendCascade_47 : decode cX6_sendCascade 47 = .ok (.bipush 12, 2) := by decide +kernel
theorem dX6_sendCascade_49 : decode cX6_sendCascade 49 = .ok (.iload_n 1, 1) := by decide +kernel
theorem dX6_sendCascade_50 : decode cX6_sendCascade 50 = .ok (.imul, 1) := by decide +kernel
theorem dX6_sendCascade_51 : decode cX6_sendCascade 51 = .ok (.iload_n 3, 1) := by decide +kernel
theorem dX6_sendCascade_52 : decode cX6_sendCascade 52 = .ok (.iadd, 1) := by decide +kernel
theorem dX6_sendCascade_53 : decode cX6_sendCascade 53 = .ok (.baload, 1) := by decide +kernel
theorem dX6_sendCascade_54 : decode cX6_sendCascade 54 = .ok (.iaload, 1) := by decide +kernel
theorem dX6_sendCascade_55 : decode cX6_sendCascade 55 = .ok (.istore 4, 2) := by decide +kernel
theorem dX6_sendCascade_57 : decode cX6_sendCascade 57 = .ok (.aload_n 0, 1) := by decide +kernel
theorem dX6_sendCascade_58 : decode cX6_sendCascade 58 = .ok (.getfield 7, 3) := by decide +kernel
theorem dX6_sendCascade_61 : decode cX6_sendCascade 61 = .ok (.bipush 9, 2) := by decide +kernel
theorem dX6_sendCascade_63 : decode cX6_sendCascade 63 = .ok (.iload_n 3, 1) := by decide +kernel
theorem dX6_sendCascade_64 : decode cX6_sendCascade 64 = .ok (.iadd, 1) := by decide +kernel
theorem dX6_sendCascade_65 : decode cX6_sendCascade 65 = .ok (.iaload, 1) := by decide +kernel
theorem dX6_sendCascade_66 : decode cX6_sendCascade 66 = .ok (.iload 4, 2) := by decide +kernel
theorem dX6_sendCascade_68 : decode cX6_sendCascade 68 = .ok (.ixor, 1) := by decide +kernel
theorem dX6_sendCascade_69 : decode cX6_sendCascade 69 = .ok (.istore 5, 2) := by decide +kernel
theorem dX6_sendCascade_71 : decode cX6_sendCascade 71 = .ok (.iload 5, 2) := by decide +kernel
theorem dX6_sendCascade_73 : decode cX6_sendCascade 73 = .ok (.iconst 1, 1) := by decide +kernel
theorem dX6_sendCascade_74 : decode cX6_sendCascade 74 = .ok (.ishl, 1) := by decide +kernel
theorem dX6_sendCascade_75 : decode cX6_sendCascade 75 = .ok (.iconst 1, 1) := by decide +kernel
theorem dX6_sendCascade_76 : decode cX6_sendCascade 76 = .ok (.aload_n 0, 1) := by decide +kernel
theorem dX6_sendCascade_77 : decode cX6_sendCascade 77 = .ok (.getfield 7, 3) := by decide +kernel
theorem dX6_sendCascade_80 : decode cX6_sendCascade 80 = .ok (.iconst 2, 1) := by decide +kernel
theorem dX6_sendCascade_81 : decode cX6_sendCascade 81 = .ok (.iaload, 1) := by decide +kernel
theorem dX6_sendCascade_82 : decode cX6_sendCascade 82 = .ok (.ishl, 1) := by decide +kernel
theorem dX6_sendCascade_83 : decode cX6_sendCascade 83 = .ok (.iconst 1, 1) := by decide +kernel
theorem dX6_sendCascade_84 : decode cX6_sendCascade 84 = .ok (.isub, 1) := by decide +kernel
theorem dX6_sendCascade_85 : decode cX6_sendCascade 85 = .ok (.iand, 1) := by decide +kernel
theorem dX6_sendCascade_86 : decode cX6_sendCascade 86 = .ok (.iload 5, 2) := by decide +kernel
theorem dX6_sendCascade_88 : decode cX6_sendCascade 88 = .ok (.aload_n 0, 1) := by decide +kernel
theorem dX6_sendCascade_89 : decode cX6_sendCascade 89 = .ok (.getfield 7, 3) := by decide +kernel
theorem dX6_sendCascade_92 : decode cX6_sendCascade 92 = .ok (.iconst 2, 1) := by decide +kernel
theorem dX6_sendCascade_93 : decode cX6_sendCascade 93 = .ok (.iaload, 1) := by decide +kernel
theorem dX6_sendCascade_94 : decode cX6_sendCascade 94 = .ok (.iconst 1, 1) := by decide +kernel
theorem dX6_sendCascade_95 : decode cX6_sendCascade 95 = .ok (.isub, 1) := by decide +kernel
theorem dX6_sendCascade_96 : decode cX6_sendCascade 96 = .ok (.ishr, 1) := by decide +kernel
theorem dX6_sendCascade_97 : decode cX6_sendCascade 97 = .ok (.ior, 1) := by decide +kernel
theorem dX6_sendCascade_98 : decode cX6_sendCascade 98 = .ok (.istore 6, 2) := by decide +kernel
theorem dX6_sendCascade_100 : decode cX6_sendCascade 100 = .ok (.aload_n 0, 1) := by decide +kernel
theorem dX6_sendCascade_101 : decode cX6_sendCascade 101 = .ok (.getfield 7, 3) := by decide +kernel
theorem dX6_sendCascade_104 : decode cX6_sendCascade 104 = .ok (.bipush 9, 2) := by decide +kernel
theorem dX6_sendCascade_106 : decode cX6_sendCascade 106 = .ok (.iload_n 3, 1) := by decide +kernel
theorem dX6_sendCascade_107 : decode cX6_sendCascade 107 = .ok (.iadd, 1) := by decide +kernel
theorem dX6_sendCascade_108 : decode cX6_sendCascade 108 = .ok (.iload 4, 2) := by decide +kernel
theorem dX6_sendCascade_110 : decode cX6_sendCascade 110 = .ok (.iload 6, 2) := by decide +kernel
theorem dX6_sendCascade_112 : decode cX6_sendCascade 112 = .ok (.ixor, 1) := by decide +kernel
theorem dX6_sendCascade_113 : decode cX6_sendCascade 113 = .ok (.iastore, 1) := by decide +kernel
theorem dX6_sendCascade_114 : decode cX6_sendCascade 114 = .ok (.iload_n 2, 1) := by decide +kernel
theorem dX6_sendCascade_115 : decode cX6_sendCascade 115 = .ok (.iload 6, 2) := by decide +kernel
theorem dX6_sendCascade_117 : decode cX6_sendCascade 117 = .ok (.invokestatic 59, 3) := by decide +kernel
theorem dX6_sendCascade_120 : decode cX6_sendCascade 120 = .ok (.iadd, 1) := by decide +kernel
theorem dX6_sendCascade_121 : decode cX6_sendCascade 121 = .ok (.istore_n 2, 1) := by decide +kernel
theorem dX6_sendCascade_122 : decode cX6_sendCascade 122 = .ok (.iinc 3 1, 3) := by decide +kernel
theorem dX6_sendCascade_125 : decode cX6_sendCascade 125 = .ok (.goto (-96), 3) := by decide +kernel
theorem dX6_sendCascade_128 : decode cX6_sendCascade 128 = .ok (.iload_n 2, 1) := by decide +kernel
theorem dX6_sendCascade_129 : decode cX6_sendCascade 129 = .ok (.ireturn, 1) := by decide +kernel
set_option maxRecDepth 20000 in
theorem ggX6_received_X6_isBlock : GoodIn wsX6_received wsX6_isBlock := goodIn_r _ [6, 1, 7, 8, 5, 9, 14, 15, 16, 17, 18, 19, 20, 21, 22, 23, 24, 25, 26, 27, 28, 29, 30] (by decide +kernel) (by decide +kernel)
set_option maxRecDepth 20000 in
theorem gX6_received_X6_isBlock : GoodIn wsX6_received (wsV RX6 99 RX6 yX6_isBlock wsX6_isBlock) := goodIn_app (goodIn_of _ (by decide +kernel)) ggX6_received_X6_isBlock
set_option maxRecDepth 20000 in
theorem ggX6_received_X6_isLost : GoodIn wsX6_received wsX6_isLost := goodIn_r _ [13, 1, 14, 15, 16, 17, 18, 19, 20, 21, 22, 23, 24, 25, 26, 27, 28, 29, 30] (by decide +kernel) (by decide +kernel)
set_option maxRecDepth 20000 in
theorem gX6_received_X6_isLost : GoodIn wsX6_received (wsV RX6 87 RX6 yX6_isLost wsX6_isLost) := goodIn_app (goodIn_of _ (by decide +kernel)) ggX6_received_X6_isLost
theorem dX6_received_0 : decode cX6_received 0 = .ok (.aload_n 0, 1) := by decide +kernel
theorem dX6_received_1 : decode cX6_received 1 = .ok (.iload_n 1, 1) := by decide +kernel
theorem dX6_received_2 : decode cX6_received 2 = .ok (.invokevirtual 99, 3) := by decide +kernel
theorem dX6_received_5 : decode cX6_received 5 = .ok (.ifCond .ne 9, 3) := by decide +kernel
theorem dX6_received_8 : decode cX6_received 8 = .ok (.sipush (-1001), 3) := by decide +kernel
theorem dX6_received_11 : decode cX6_received 11 = .ok (.goto 26, 3) := by decide +kernel
theorem dX6_received_14 : decode cX6_received 14 = .ok (.aload_n 0, 1) := by decide +kernel
theorem dX6_received_15 : decode cX6_received 15 = .ok (.iload_n 1, 1) := by decide +kernel
theorem dX6_received_16 : decode cX6_received 16 = .ok (.invokevirtual 87, 3) := by decide +kernel
theorem dX6_received_19 : decode cX6_received 19 = .ok (.ifCond .eq 9, 3) := by decide +kernel
theorem dX6_received_22 : decode cX6_received 22 = .ok (.sipush (-1004), 3) := by decide +kernel
theorem dX6_received_25 : decode cX6_received 25 = .ok (.goto 12, 3) := by decide +kernel
theorem dX6_received_28 : decode cX6_received 28 = .ok (.aload_n 0, 1) := by decide +kernel
theorem dX6_received_29 : decode cX6_received 29 = .ok (.getfield 7, 3) := by decide +kernel
theorem dX6_received_32 : decode cX6_received 32 = .ok (.bipush 9, 2) := by decide +kernel
theorem dX6_received_34 : decode cX6_received 34 = .ok (.iload_n 1, 1) := by decide +kernel
theorem dX6_received_35 : decode cX6_received 35 = .ok (.iadd, 1) := by decide +kernel
theorem dX6_received_36 : decode cX6_received 36 = .ok (.iaload, 1) := by decide +kernel
theorem dX6_received_37 : decode cX6_received 37 = .ok (.ireturn, 1) := by decide +kernel
theorem dX6_sent_0 : decode cX6_sent 0 = .ok (.aload_n 0, 1) := by decide +kernel
theorem dX6_sent_1 : decode cX6_sent 1 = .ok (.getfield 7, 3) := by decide +kernel
theorem dX6_sent_4 : decode cX6_sent 4 = .ok (.bipush 8, 2) := by decide +kernel
theorem dX6_sent_6 : decode cX6_sent 6 = .ok (.iaload, 1) := by decide +kernel
theorem dX6_sent_7 : decode cX6_sent 7 = .ok (.ireturn, 1) := by decide +kernel
set_option maxRecDepth 20000 in
theorem ggX6_judges_X6_isLost : GoodIn wsX6_judges wsX6_isLost := goodIn_r _ [13, 1, 14, 15, 16, 17, 18, 19, 20, 21, 22, 23, 24, 25, 26, 27, 28, 29, 30] (by decide +kernel) (by decide +kernel)
set_option maxRecDepth 20000 in
theorem gX6_judges_X6_isLost : GoodIn wsX6_judges (wsV RX6 87 RX6 yX6_isLost wsX6_isLost) := goodIn_app (goodIn_of _ (by decide +kernel)) ggX6_judges_X6_isLost
theorem dX6_judges_0 : decode cX6_judges 0 = .ok (.iconst 0, 1) := by decide +kernel
theorem dX6_judges_1 : decode cX6_judges 1 = .ok (.istore_n 1, 1) := by decide +kernel
theorem dX6_judges_2 : decode cX6_judges 2 = .ok (.iload_n 1, 1) := by decide +kernel
theorem dX6_judges_3 : decode cX6_judges 3 = .ok (.aload_n 0, 1) := by decide +kernel
theorem dX6_judges_4 : decode cX6_judges 4 = .ok (.getfield 7, 3) := by decide +kernel
theorem dX6_judges_7 : decode cX6_judges 7 = .ok (.iconst 0, 1) := by decide +kernel
theorem dX6_judges_8 : decode cX6_judges 8 = .ok (.iaload, 1) := by decide +kernel
theorem dX6_judges_9 : decode cX6_judges 9 = .ok (.if_icmp .ge 174, 3) := by decide +kernel
theorem dX6_judges_12 : decode cX6_judges 12 = .ok (.aload_n 0, 1) := by decide +kernel
theorem dX6_judges_13 : decode cX6_judges 13 = .ok (.getfield 36, 3) := by decide +kernel
theorem dX6_judges_16 : decode cX6_judges 16 = .ok (.iload_n 1, 1) := by decide +kernel
theorem dX6_judges_17 : decode cX6_judges 17 = .ok (.aload_n 0, 1) := by decide +kernel
theorem dX6_judges_18 : decode cX6_judges 18 = .ok (.iload_n 1, 1) := by decide +kernel
theorem dX6_judges_19 : decode cX6_judges 19 = .ok (.invokevirtual 87, 3) := by decide +kernel
theorem dX6_judges_22 : decode cX6_judges 22 = .ok (.ifCond .eq 7, 3) := by decide +kernel
theorem dX6_judges_25 : decode cX6_judges 25 = .ok (.iconst 0, 1) := by decide +kernel
theorem dX6_judges_26 : decode cX6_judges 26 = .ok (.goto 17, 3) := by decide +kernel
theorem dX6_judges_29 : decode cX6_judges 29 = .ok (.aload_n 0, 1) := by decide +kernel
theorem dX6_judges_30 : decode cX6_judges 30 = .ok (.getfield 30, 3) := by decide +kernel
theorem dX6_judges_33 : decode cX6_judges 33 = .ok (.aload_n 0, 1) := by decide +kernel
theorem dX6_judges_34 : decode cX6_judges 34 = .ok (.getfield 7, 3) := by decide +kernel
theorem dX6_judges_37 : decode cX6_judges 37 = .ok (.bipush 9, 2) := by decide +kernel
theorem dX6_judges_39 : decode cX6_judges 39 = .ok (.iload_n 1, 1) := by decide +kernel
theorem dX6_judges_40 : decode cX6_judges 40 = .ok (.iadd, 1) := by decide +kernel
theorem dX6_judges_41 : decode cX6_judges 41 = .ok (.iaload, 1) := by decide +kernel
theorem dX6_judges_42 : decode cX6_judges 42 = .ok (.iaload, 1) := by decide +kernel
theorem dX6_judges_43 : decode cX6_judges 43 = .ok (.iastore, 1) := by decide +kernel
theorem dX6_judges_44 : decode cX6_judges 44 = .ok (.aload_n 0, 1) := by decide +kernel
theorem dX6_judges_45 : decode cX6_judges 45 = .ok (.getfield 39, 3) := by decide +kernel
theorem dX6_judges_48 : decode cX6_judges 48 = .ok (.iload_n 1, 1) := by decide +kernel
theorem dX6_judges_49 : decode cX6_judges 49 = .ok (.aload_n 0, 1) := by decide +kernel
theorem dX6_judges_50 : decode cX6_judges 50 = .ok (.iload_n 1, 1) := by decide +kernel
theorem dX6_judges_51 : decode cX6_judges 51 = .ok (.invokevirtual 87, 3) := by decide +kernel
theorem dX6_judges_54 : decode cX6_judges 54 = .ok (.ifCond .eq 7, 3) := by decide +kernel
theorem dX6_judges_57 : decode cX6_judges 57 = .ok (.iconst 0, 1) := by decide +kernel
theorem dX6_judges_58 : decode cX6_judges 58 = .ok (.goto 17, 3) := by decide +kernel
theorem dX6_judges_61 : decode cX6_judges 61 = .ok (.aload_n 0, 1) := by decide +kernel
theorem dX6_judges_62 : decode cX6_judges 62 = .ok (.getfield 33, 3) := by decide +kernel
theorem dX6_judges_65 : decode cX6_judges 65 = .ok (.aload_n 0, 1) := by decide +kernel
theorem dX6_judges_66 : decode cX6_judges 66 = .ok (.getfield 7, 3) := by decide +kernel
theorem dX6_judges_69 : decode cX6_judges 69 = .ok (.bipush 9, 2) := by decide +kernel
theorem dX6_judges_71 : decode cX6_judges 71 = .ok (.iload_n 1, 1) := by decide +kernel
theorem dX6_judges_72 : decode cX6_judges 72 = .ok (.iadd, 1) := by decide +kernel
theorem dX6_judges_73 : decode cX6_judges 73 = .ok (.iaload, 1) := by decide +kernel
theorem dX6_judges_74 : decode cX6_judges 74 = .ok (.iaload, 1) := by decide +kernel
theorem dX6_judges_75 : decode cX6_judges 75 = .ok (.iastore, 1) := by decide +kernel
theorem dX6_judges_76 : decode cX6_judges 76 = .ok (.aload_n 0, 1) := by decide +kernel
theorem dX6_judges_77 : decode cX6_judges 77 = .ok (.getfield 42, 3) := by decide +kernel
theorem dX6_judges_80 : decode cX6_judges 80 = .ok (.iload_n 1, 1) := by decide +kernel
theorem dX6_judges_81 : decode cX6_judges 81 = .ok (.aload_n 0, 1) := by decide +kernel
theorem dX6_judges_82 : decode cX6_judges 82 = .ok (.iload_n 1, 1) := by decide +kernel
theorem dX6_judges_83 : decode cX6_judges 83 = .ok (.invokevirtual 87, 3) := by decide +kernel
theorem dX6_judges_86 : decode cX6_judges 86 = .ok (.ifCond .ne 18, 3) := by decide +kernel
theorem dX6_judges_89 : decode cX6_judges 89 = .ok (.aload_n 0, 1) := by decide +kernel
theorem dX6_judges_90 : decode cX6_judges 90 = .ok (.getfield 55, 3) := by decide +kernel
theorem dX6_judges_93 : decode cX6_judges 93 = .ok (.iconst 2, 1) := by decide +kernel
theorem dX6_judges_94 : decode cX6_judges 94 = .ok (.aload_n 0, 1) := by decide +kernel
theorem dX6_judges_95 : decode cX6_judges 95 = .ok (.getfield 39, 3) := by decide +kernel
theorem dX6_judges_98 : decode cX6_judges 98 = .ok (.iload_n 1, 1) := by decide +kernel
theorem dX6_judges_99 : decode cX6_judges 99 = .ok (.iaload, 1) := by decide +kernel
theorem dX6_judges_100 : decode cX6_judges 100 = .ok (.imul, 1) := by decide +kernel
theorem dX6_judges_101 : decode cX6_judges 101 = .ok (.if_icmp .ge 7, 3) := by decide +kernel
theorem dX6_judges_104 : decode cX6_judges 104 = .ok (.iconst 0, 1) := by decide +kernel
theorem dX6_judges_105 : decode cX6_judges 105 = .ok (.goto 16, 3) := by decide +kernel
theorem dX6_judges_108 : decode cX6_judges 108 = .ok (.aload_n 0, 1) := by decide +kernel
theorem dX6_judges_109 : decode cX6_judges 109 = .ok (.getfield 55, 3) := by decide +kernel
theorem dX6_judges_112 : decode cX6_judges 112 = .ok (.iconst 2, 1) := by decide +kernel
theorem dX6_judges_113 : decode cX6_judges 113 = .ok (.aload_n 0, 1) := by decide +kernel
theorem dX6_judges_114 : decode cX6_judges 114 = .ok (.getfield 39, 3) := by decide +kernel
theorem dX6_judges_117 : decode cX6_judges 117 = .ok (.iload_n 1, 1) := by decide +kernel
theorem dX6_judges_118 : decode cX6_judges 118 = .ok (.iaload, 1) := by decide +kernel
theorem dX6_judges_119 : decode cX6_judges 119 = .ok (.imul, 1) := by decide +kernel
theorem dX6_judges_120 : decode cX6_judges 120 = .ok (.isub, 1) := by decide +kernel
theorem dX6_judges_121 : decode cX6_judges 121 = .ok (.iastore, 1) := by decide +kernel
theorem dX6_judges_122 : decode cX6_judges 122 = .ok (.iload_n 1, 1) := by decide +kernel
theorem dX6_judges_123 : decode cX6_judges 123 = .ok (.istore_n 2, 1) := by decide +kernel
theorem dX6_judges_124 : decode cX6_judges 124 = .ok (.iload_n 2, 1) := by decide +kernel
theorem dX6_judges_125 : decode cX6_judges 125 = .ok (.ifCond .le 45, 3) := by decide +kernel
theorem dX6_judges_128 : decode cX6_judges 128 = .ok (.aload_n 0, 1) := by decide +kernel
theorem dX6_judges_129 : decode cX6_judges 129 = .ok (.getfield 42, 3) := by decide +kernel
theorem dX6_judges_132 : decode cX6_judges 132 = .ok (.aload_n 0, 1) := by decide +kernel
theorem dX6_judges_133 : decode cX6_judges 133 = .ok (.getfield 45, 3) := by decide +kernel
theorem dX6_judges_136 : decode cX6_judges 136 = .ok (.iload_n 2, 1) := by decide +kernel
theorem dX6_judges_137 : decode cX6_judges 137 = .ok (.iconst 1, 1) := by decide +kernel
theorem dX6_judges_138 : decode cX6_judges 138 = .ok (.isub, 1) := by decide +kernel
theorem dX6_judges_139 : decode cX6_judges 139 = .ok (.iaload, 1) := by decide +kernel
theorem dX6_judges_140 : decode cX6_judges 140 = .ok (.iaload, 1) := by decide +kernel
theorem dX6_judges_141 : decode cX6_judges 141 = .ok (.aload_n 0, 1) := by decide +kernel
theorem dX6_judges_142 : decode cX6_judges 142 = .ok (.getfield 42, 3) := by decide +kernel
theorem dX6_judges_145 : decode cX6_judges 145 = .ok (.iload_n 1, 1) := by decide +kernel
theorem dX6_judges_146 : decode cX6_judges 146 = .ok (.iaload, 1) := by decide +kernel
theorem dX6_judges_147 : decode cX6_judges 147 = .ok (.if_icmp .le 23, 3) := by decide +kernel
theorem dX6_judges_150 : decode cX6_judges 150 = .ok (.aload_n 0, 1) := by decide +kernel
theorem dX6_judges_151 : decode cX6_judges 151 = .ok (.getfield 45, 3) := by decide +kernel
theorem dX6_judges_154 : decode cX6_judges 154 = .ok (.iload_n 2, 1) := by decide +kernel
theorem dX6_judges_155 : decode cX6_judges 155 = .ok (.aload_n 0, 1) := by decide +kernel
theorem dX6_judges_156 : decode cX6_judges 156 = .ok (.getfield 45, 3) := by decide +kernel
theorem dX6_judges_159 : decode cX6_judges 159 = .ok (.iload_n 2, 1) := by decide +kernel
theorem dX6_judges_160 : decode cX6_judges 160 = .ok (.iconst 1, 1) := by decide +kernel
theorem dX6_judges_161 : decode cX6_judges 161 = .ok (.isub, 1) := by decide +kernel
theorem dX6_judges_162 : decode cX6_judges 162 = .ok (.iaload, 1) := by decide +kernel
theorem dX6_judges_163 : decode cX6_judges 163 = .ok (.iastore, 1) := by decide +kernel
theorem dX6_judges_164 : decode cX6_judges 164 = .ok (.iinc 2 (-1), 3) := by decide +kernel
theorem dX6_judges_167 : decode cX6_judges 167 = .ok (.goto (-43), 3) := by decide +kernel
theorem dX6_judges_170 : decode cX6_judges 170 = .ok (.aload_n 0, 1) := by decide +kernel
theorem dX6_judges_171 : decode cX6_judges 171 = .ok (.getfield 45, 3) := by decide +kernel
theorem dX6_judges_174 : decode cX6_judges 174 = .ok (.iload_n 2, 1) := by decide +kernel
theorem dX6_judges_175 : decode cX6_judges 175 = .ok (.iload_n 1, 1) := by decide +kernel
theorem dX6_judges_176 : decode cX6_judges 176 = .ok (.iastore, 1) := by decide +kernel
theorem dX6_judges_177 : decode cX6_judges 177 = .ok (.iinc 1 1, 3) := by decide +kernel
theorem dX6_judges_180 : decode cX6_judges 180 = .ok (.goto (-178), 3) := by decide +kernel
theorem dX6_judges_183 : decode cX6_judges 183 = .ok (.return_, 1) := by decide +kernel
theorem dX6_placeOf_0 : decode cX6_placeOf 0 = .ok (.iconst 0, 1) := by decide +kernel
theorem dX6_placeOf_1 : decode cX6_placeOf 1 = .ok (.istore_n 2, 1) := by decide +kernel
theorem dX6_placeOf_2 : decode cX6_placeOf 2 = .ok (.aload_n 0, 1) := by decide +kernel
theorem dX6_placeOf_3 : decode cX6_placeOf 3 = .ok (.getfield 45, 3) := by decide +kernel
theorem dX6_placeOf_6 : decode cX6_placeOf 6 = .ok (.iload_n 2, 1) := by decide +kernel
theorem dX6_placeOf_7 : decode cX6_placeOf 7 = .ok (.iaload, 1) := by decide +kernel
theorem dX6_placeOf_8 : decode cX6_placeOf 8 = .ok (.iload_n 1, 1) := by decide +kernel
theorem dX6_placeOf_9 : decode cX6_placeOf 9 = .ok (.if_icmp .eq 9, 3) := by decide +kernel
theorem dX6_placeOf_12 : decode cX6_placeOf 12 = .ok (.iinc 2 1, 3) := by decide +kernel
theorem dX6_placeOf_15 : decode cX6_placeOf 15 = .ok (.goto (-13), 3) := by decide +kernel
theorem dX6_placeOf_18 : decode cX6_placeOf 18 = .ok (.iload_n 2, 1) := by decide +kernel
theorem dX6_placeOf_19 : decode cX6_placeOf 19 = .ok (.ireturn, 1) := by decide +kernel
set_option maxRecDepth 20000 in
theorem ggX6_block_X6_isBlock : GoodIn wsX6_block wsX6_isBlock := goodIn_r _ [10, 5, 11, 12, 9, 13, 30, 31, 32, 33, 34, 35, 36, 37, 38, 39, 40, 41, 42, 43, 44, 45, 46] (by decide +kernel) (by decide +kernel)
set_option maxRecDepth 20000 in
theorem gX6_block_X6_isBlock : GoodIn wsX6_block (wsV RX6 99 RX6 yX6_isBlock wsX6_isBlock) := goodIn_app (goodIn_of _ (by decide +kernel)) ggX6_block_X6_isBlock
set_option maxRecDepth 20000 in
theorem ggX6_block_X6_in : GoodIn wsX6_block wsX6_in := goodIn_r _ [13] (by decide +kernel) (by decide +kernel)
set_option maxRecDepth 20000 in
theorem gX6_block_X6_in : GoodIn wsX6_block (va_wsS RX6 63 yX6_in wsX6_in) := goodIn_app (goodIn_of _ (by decide +kernel)) ggX6_block_X6_in
set_option maxRecDepth 20000 in
theorem ggX6_block_X6_judges : GoodIn wsX6_block wsX6_judges := goodIn_r _ [17, 5, 1, 18, 2, 19, 3, 20, 21, 22, 23, 24, 9, 25, 30, 31, 32, 33, 34, 35, 36, 37, 38, 39, 40, 41, 42, 43, 44, 45, 46] (by decide +kernel) (by decide +kernel)
set_option maxRecDepth 20000 in
theorem gX6_block_X6_judges : GoodIn wsX6_block (wsV RX6 105 RX6 yX6_judges wsX6_judges) := goodIn_app (goodIn_of _ (by decide +kernel)) ggX6_block_X6_judges
set_option maxRecDepth 20000 in
theorem ggX6_block_X6_placeOf : GoodIn wsX6_block wsX6_placeOf := goodIn_r _ [29, 21, 30, 31, 32, 33, 34, 35, 36, 37, 38, 39, 40, 41, 42, 43, 44, 45, 46] (by decide +kernel) (by decide +kernel)
set_option maxRecDepth 20000 in
theorem gX6_block_X6_placeOf : GoodIn wsX6_block (wsV RX6 108 RX6 yX6_placeOf wsX6_placeOf) := goodIn_app (goodIn_of _ (by decide +kernel)) ggX6_block_X6_placeOf
theorem dX6_block_0 : decode cX6_block 0 = .ok (.aload_n 0, 1) := by decide +kernel
theorem dX6_block_1 : decode cX6_block 1 = .ok (.iload_n 1, 1) := by decide +kernel
theorem dX6_block_2 : decode cX6_block 2 = .ok (.invokevirtual 99, 3) := by decide +kernel
theorem dX6_block_5 : decode cX6_block 5 = .ok (.ifCond .eq 12, 3) := by decide +kernel
theorem dX6_block_8 : decode cX6_block 8 = .ok (.iload_n 2, 1) := by decide +kernel
theorem dX6_block_9 : decode cX6_block 9 = .ok (.iconst 0, 1) := by decide +kernel
theorem dX6_block_10 : decode cX6_block 10 = .ok (.iconst 4, 1) := by decide +kernel
theorem dX6_block_11 : decode cX6_block 11 = .ok (.invokestatic 63, 3) := by decide +kernel
theorem dX6_block_14 : decode cX6_block 14 = .ok (.ifCond .ne 7, 3) := by decide +kernel
theorem dX6_block_17 : decode cX6_block 17 = .ok (.sipush (-1001), 3) := by decide +kernel
theorem dX6_block_20 : decode cX6_block 20 = .ok (.ireturn, 1) := by decide +kernel
theorem dX6_block_21 : decode cX6_block 21 = .ok (.aload_n 0, 1) := by decide +kernel
theorem dX6_block_22 : decode cX6_block 22 = .ok (.invokevirtual 105, 3) := by decide +kernel
theorem dX6_block_25 : decode cX6_block 25 = .ok (.iload_n 2, 1) := by decide +kernel
theorem dX6_block_26 : decode cX6_block 26 = .ok (.tableswitch 57 0 3 #[30, 37, 44, 51], 30) := by decide +kernel
theorem dX6_block_56 : decode cX6_block 56 = .ok (.aload_n 0, 1) := by decide +kernel
theorem dX6_block_57 : decode cX6_block 57 = .ok (.getfield 36, 3) := by decide +kernel
theorem dX6_block_60 : decode cX6_block 60 = .ok (.iload_n 1, 1) := by decide +kernel
theorem dX6_block_61 : decode cX6_block 61 = .ok (.iaload, 1) := by decide +kernel
theorem dX6_block_62 : decode cX6_block 62 = .ok (.ireturn, 1) := by decide +kernel
theorem dX6_block_63 : decode cX6_block 63 = .ok (.aload_n 0, 1) := by decide +kernel
theorem dX6_block_64 : decode cX6_block 64 = .ok (.getfield 39, 3) := by decide +kernel
theorem dX6_block_67 : decode cX6_block 67 = .ok (.iload_n 1, 1) := by decide +kernel
theorem dX6_block_68 : decode cX6_block 68 = .ok (.iaload, 1) := by decide +kernel
theorem dX6_block_69 : decode cX6_block 69 = .ok (.ireturn, 1) := by decide +kernel
theorem dX6_block_70 : decode cX6_block 70 = .ok (.aload_n 0, 1) := by decide +kernel
theorem dX6_block_71 : decode cX6_block 71 = .ok (.getfield 42, 3) := by decide +kernel
theorem dX6_block_74 : decode cX6_block 74 = .ok (.iload_n 1, 1) := by decide +kernel
theorem dX6_block_75 : decode cX6_block 75 = .ok (.iaload, 1) := by decide +kernel
theorem dX6_block_76 : decode cX6_block 76 = .ok (.ireturn, 1) := by decide +kernel
theorem dX6_block_77 : decode cX6_block 77 = .ok (.aload_n 0, 1) := by decide +kernel
theorem dX6_block_78 : decode cX6_block 78 = .ok (.iload_n 1, 1) := by decide +kernel
theorem dX6_block_79 : decode cX6_block 79 = .ok (.invokevirtual 108, 3) := by decide +kernel
theorem dX6_block_82 : decode cX6_block 82 = .ok (.ireturn, 1) := by decide +kernel
theorem dX6_block_83 : decode cX6_block 83 = .ok (.aload_n 0, 1) := by decide +kernel
theorem dX6_block_84 : decode cX6_block 84 = .ok (.getfield 36, 3) := by decide +kernel
theorem dX6_block_87 : decode cX6_block 87 = .ok (.iload_n 1, 1) := by decide +kernel
theorem dX6_block_88 : decode cX6_block 88 = .ok (.iaload, 1) := by decide +kernel
theorem dX6_block_89 : decode cX6_block 89 = .ok (.aload_n 0, 1) := by decide +kernel
theorem dX6_block_90 : decode cX6_block 90 = .ok (.getfield 23, 3) := by decide +kernel
theorem dX6_block_93 : decode cX6_block 93 = .ok (.bipush 12, 2) := by decide +kernel
theorem dX6_block_95 : decode cX6_block 95 = .ok (.aload_n 0, 1) := by decide +kernel
theorem dX6_block_96 : decode cX6_block 96 = .ok (.getfield 7, 3) := by decide +kernel
theorem dX6_block_99 : decode cX6_block 99 = .ok (.bipush 8, 2) := by decide +kernel
theorem dX6_block_101 : decode cX6_block 101 = .ok (.iaload, 1) := by decide +kernel
theorem dX6_block_102 : decode cX6_block 102 = .ok (.imul, 1) := by decide +kernel
theorem dX6_block_103 : decode cX6_block 103 = .ok (.iload_n 1, 1) := by decide +kernel
theorem dX6_block_104 : decode cX6_block 104 = .ok (.iadd, 1) := by decide +kernel
theorem dX6_block_105 : decode cX6_block 105 = .ok (.baload, 1) := by decide +kernel
theorem dX6_block_106 : decode cX6_block 106 = .ok (.if_icmp .ne 7, 3) := by decide +kernel
theorem dX6_block_109 : decode cX6_block 109 = .ok (.iconst 1, 1) := by decide +kernel
theorem dX6_block_110 : decode cX6_block 110 = .ok (.goto 4, 3) := by decide +kernel
theorem dX6_block_113 : decode cX6_block 113 = .ok (.iconst 0, 1) := by decide +kernel
theorem dX6_block_114 : decode cX6_block 114 = .ok (.ireturn, 1) := by decide +kernel
set_option maxRecDepth 20000 in
theorem ggX6_blockAt_X6_isBlock : GoodIn wsX6_blockAt wsX6_isBlock := goodIn_r _ [6, 7, 8, 9, 5, 10, 25, 26, 27, 28, 29, 30, 31, 32, 33, 34, 35, 36, 37, 38, 39, 40, 41] (by decide +kernel) (by decide +kernel)
set_option maxRecDepth 20000 in
theorem gX6_blockAt_X6_isBlock : GoodIn wsX6_blockAt (wsV RX6 99 RX6 yX6_isBlock wsX6_isBlock) := goodIn_app (goodIn_of _ (by decide +kernel)) ggX6_blockAt_X6_isBlock
set_option maxRecDepth 20000 in
theorem ggX6_blockAt_X6_judges : GoodIn wsX6_blockAt wsX6_judges := goodIn_r _ [14, 7, 15, 16, 17, 18, 19, 20, 1, 21, 22, 23, 5, 24, 25, 26, 27, 28, 29, 30, 31, 32, 33, 34, 35, 36, 37, 38, 39, 40, 41] (by decide +kernel) (by decide +kernel)
set_option maxRecDepth 20000 in
theorem gX6_blockAt_X6_judges : GoodIn wsX6_blockAt (wsV RX6 105 RX6 yX6_judges wsX6_judges) := goodIn_app (goodIn_of _ (by decide +kernel)) ggX6_blockAt_X6_judges
theorem dX6_blockAt_0 : decode cX6_blockAt 0 = .ok (.aload_n 0, 1) := by decide +kernel
theorem dX6_blockAt_1 : decode cX6_blockAt 1 = .ok (.iload_n 1, 1) := by decide +kernel
theorem dX6_blockAt_2 : decode cX6_blockAt 2 = .ok (.invokevirtual 99, 3) := by decide +kernel
theorem dX6_blockAt_5 : decode cX6_blockAt 5 = .ok (.ifCond .ne 7, 3) := by decide +kernel
theorem dX6_blockAt_8 : decode cX6_blockAt 8 = .ok (.sipush (-1001), 3) := by decide +kernel
theorem dX6_blockAt_11 : decode cX6_blockAt 11 = .ok (.ireturn, 1) := by decide +kernel
theorem dX6_blockAt_12 : decode cX6_blockAt 12 = .ok (.aload_n 0, 1) := by decide +kernel
theorem dX6_blockAt_13 : decode cX6_blockAt 13 = .ok (.invokevirtual 105, 3) := by decide +kernel
theorem dX6_blockAt_16 : decode cX6_blockAt 16 = .ok (.aload_n 0, 1) := by decide +kernel
theorem dX6_blockAt_17 : decode cX6_blockAt 17 = .ok (.getfield 45, 3) := by decide +kernel
theorem dX6_blockAt_20 : decode cX6_blockAt 20 = .ok (.iload_n 1, 1) := by decide +kernel
theorem dX6_blockAt_21 : decode cX6_blockAt 21 = .ok (.iaload, 1) := by decide +kernel
theorem dX6_blockAt_22 : decode cX6_blockAt 22 = .ok (.ireturn, 1) := by decide +kernel
set_option maxRecDepth 20000 in
theorem ggX6_strength_X6_isBlock : GoodIn wsX6_strength wsX6_isBlock := goodIn_r _ [7, 1, 8, 9, 6, 10, 18, 19, 20, 21, 22, 23, 24, 25, 26, 27, 28, 29, 30, 31, 32, 33, 34] (by decide +kernel) (by decide +kernel)
set_option maxRecDepth 20000 in
theorem gX6_strength_X6_isBlock : GoodIn wsX6_strength (wsV RX6 99 RX6 yX6_isBlock wsX6_isBlock) := goodIn_app (goodIn_of _ (by decide +kernel)) ggX6_strength_X6_isBlock
set_option maxRecDepth 20000 in
theorem ggX6_strength_X6_isLost : GoodIn wsX6_strength wsX6_isLost := goodIn_r _ [14, 1, 18, 19, 20, 21, 22, 23, 24, 25, 26, 27, 28, 29, 30, 31, 32, 33, 34] (by decide +kernel) (by decide +kernel)
set_option maxRecDepth 20000 in
theorem gX6_strength_X6_isLost : GoodIn wsX6_strength (wsV RX6 87 RX6 yX6_isLost wsX6_isLost) := goodIn_app (goodIn_of _ (by decide +kernel)) ggX6_strength_X6_isLost
set_option maxRecDepth 20000 in
theorem ggX6_strength_X6_ones : GoodIn wsX6_strength wsX6_ones := goodIn_r _ [17] (by decide +kernel) (by decide +kernel)
set_option maxRecDepth 20000 in
theorem gX6_strength_X6_ones : GoodIn wsX6_strength (va_wsS RX6 59 yX6_ones wsX6_ones) := goodIn_app (goodIn_of _ (by decide +kernel)) ggX6_strength_X6_ones
theorem dX6_strength_0 : decode cX6_strength 0 = .ok (.aload_n 0, 1) := by decide +kernel
theorem dX6_strength_1 : decode cX6_strength 1 = .ok (.iload_n 1, 1) := by decide +kernel
theorem dX6_strength_2 : decode cX6_strength 2 = .ok (.invokevirtual 99, 3) := by decide +kernel
theorem dX6_strength_5 : decode cX6_strength 5 = .ok (.ifCond .ne 7, 3) := by decide +kernel
theorem dX6_strength_8 : decode cX6_strength 8 = .ok (.sipush (-1001), 3) := by decide +kernel
theorem dX6_strength_11 : decode cX6_strength 11 = .ok (.ireturn, 1) := by decide +kernel
theorem dX6_strength_12 : decode cX6_strength 12 = .ok (.aload_n 0, 1) := by decide +kernel
theorem dX6_strength_13 : decode cX6_strength 13 = .ok (.iload_n 1, 1) := by decide +kernel
theorem dX6_strength_14 : decode cX6_strength 14 = .ok (.invokevirtual 87, 3) := by decide +kernel
theorem dX6_strength_17 : decode cX6_strength 17 = .ok (.ifCond .eq 7, 3) := by decide +kernel
theorem dX6_strength_20 : decode cX6_strength 20 = .ok (.sipush (-1002), 3) := by decide +kernel
theorem dX6_strength_23 : decode cX6_strength 23 = .ok (.ireturn, 1) := by decide +kernel
theorem dX6_strength_24 : decode cX6_strength 24 = .ok (.bipush 99, 2) := by decide +kernel
theorem dX6_strength_26 : decode cX6_strength 26 = .ok (.istore_n 2, 1) := by decide +kernel
theorem dX6_strength_27 : decode cX6_strength 27 = .ok (.iconst 0, 1) := by decide +kernel
theorem dX6_strength_28 : decode cX6_strength 28 = .ok (.istore_n 3, 1) := by decide +kernel
theorem dX6_strength_29 : decode cX6_strength 29 = .ok (.iload_n 3, 1) := by decide +kernel
theorem dX6_strength_30 : decode cX6_strength 30 = .ok (.iconst 1, 1) := by decide +kernel
theorem dX6_strength_31 : decode cX6_strength 31 = .ok (.aload_n 0, 1) := by decide +kernel
theorem dX6_strength_32 : decode cX6_strength 32 = .ok (.getfield 7, 3) := by decide +kernel
theorem dX6_strength_35 : decode cX6_strength 35 = .ok (.iconst 2, 1) := by decide +kernel
theorem dX6_strength_36 : decode cX6_strength 36 = .ok (.iaload, 1) := by decide +kernel
theorem dX6_strength_37 : decode cX6_strength 37 = .ok (.ishl, 1) := by decide +kernel
theorem dX6_strength_38 : decode cX6_strength 38 = .ok (.if_icmp .ge 61, 3) := by decide +kernel
theorem dX6_strength_41 : decode cX6_strength 41 = .ok (.iload_n 3, 1) := by decide +kernel
theorem dX6_strength_42 : decode cX6_strength 42 = .ok (.aload_n 0, 1) := by decide +kernel
theorem dX6_strength_43 : decode cX6_strength 43 = .ok (.getfield 7, 3) := by decide +kernel
theorem dX6_strength_46 : decode cX6_strength 46 = .ok (.bipush 9, 2) := by decide +kernel
theorem dX6_strength_48 : decode cX6_strength 48 = .ok (.iload_n 1, 1) := by decide +kernel
theorem dX6_strength_49 : decode cX6_strength 49 = .ok (.iadd, 1) := by decide +kernel
theorem dX6_strength_50 : decode cX6_strength 50 = .ok (.iaload, 1) := by decide +kernel
theorem dX6_strength_51 : decode cX6_strength 51 = .ok (.ixor, 1) := by decide +kernel
theorem dX6_strength_52 : decode cX6_strength 52 = .ok (.invokestatic 59, 3) := by decide +kernel
theorem dX6_strength_55 : decode cX6_strength 55 = .ok (.istore 4, 2) := by decide +kernel
theorem dX6_strength_57 : decode cX6_strength 57 = .ok (.aload_n 0, 1) := by decide +kernel
theorem dX6_strength_58 : decode cX6_strength 58 = .ok (.getfield 30, 3) := by decide +kernel
theorem dX6_strength_61 : decode cX6_strength 61 = .ok (.iload_n 3, 1) := by decide +kernel
theorem dX6_strength_62 : decode cX6_strength 62 = .ok (.iaload, 1) := by decide +kernel
theorem dX6_strength_63 : decode cX6_strength 63 = .ok (.aload_n 0, 1) := by decide +kernel
theorem dX6_strength_64 : decode cX6_strength 64 = .ok (.getfield 30, 3) := by decide +kernel
theorem dX6_strength_67 : decode cX6_strength 67 = .ok (.aload_n 0, 1) := by decide +kernel
theorem dX6_strength_68 : decode cX6_strength 68 = .ok (.getfield 7, 3) := by decide +kernel
theorem dX6_strength_71 : decode cX6_strength 71 = .ok (.bipush 9, 2) := by decide +kernel
theorem dX6_strength_73 : decode cX6_strength 73 = .ok (.iload_n 1, 1) := by decide +kernel
theorem dX6_strength_74 : decode cX6_strength 74 = .ok (.iadd, 1) := by decide +kernel
theorem dX6_strength_75 : decode cX6_strength 75 = .ok (.iaload, 1) := by decide +kernel
theorem dX6_strength_76 : decode cX6_strength 76 = .ok (.iaload, 1) := by decide +kernel
theorem dX6_strength_77 : decode cX6_strength 77 = .ok (.if_icmp .eq 14, 3) := by decide +kernel
theorem dX6_strength_80 : decode cX6_strength 80 = .ok (.iload 4, 2) := by decide +kernel
theorem dX6_strength_82 : decode cX6_strength 82 = .ok (.iload_n 2, 1) := by decide +kernel
theorem dX6_strength_83 : decode cX6_strength 83 = .ok (.if_icmp .ge 8, 3) := by decide +kernel
theorem dX6_strength_86 : decode cX6_strength 86 = .ok (.iload 4, 2) := by decide +kernel
theorem dX6_strength_88 : decode cX6_strength 88 = .ok (.goto 4, 3) := by decide +kernel
theorem dX6_strength_91 : decode cX6_strength 91 = .ok (.iload_n 2, 1) := by decide +kernel
theorem dX6_strength_92 : decode cX6_strength 92 = .ok (.istore_n 2, 1) := by decide +kernel
theorem dX6_strength_93 : decode cX6_strength 93 = .ok (.iinc 3 1, 3) := by decide +kernel
theorem dX6_strength_96 : decode cX6_strength 96 = .ok (.goto (-67), 3) := by decide +kernel
theorem dX6_strength_99 : decode cX6_strength 99 = .ok (.iload_n 2, 1) := by decide +kernel
theorem dX6_strength_100 : decode cX6_strength 100 = .ok (.ireturn, 1) := by decide +kernel
theorem dX6_scoreOf_0 : decode cX6_scoreOf 0 = .ok (.iconst 0, 1) := by decide +kernel
theorem dX6_scoreOf_1 : decode cX6_scoreOf 1 = .ok (.istore_n 2, 1) := by decide +kernel
theorem dX6_scoreOf_2 : decode cX6_scoreOf 2 = .ok (.iconst 0, 1) := by decide +kernel
theorem dX6_scoreOf_3 : decode cX6_scoreOf 3 = .ok (.istore_n 3, 1) := by decide +kernel
theorem dX6_scoreOf_4 : decode cX6_scoreOf 4 = .ok (.iload_n 3, 1) := by decide +kernel
theorem dX6_scoreOf_5 : decode cX6_scoreOf 5 = .ok (.aload_n 0, 1) := by decide +kernel
theorem dX6_scoreOf_6 : decode cX6_scoreOf 6 = .ok (.getfield 7, 3) := by decide +kernel
theorem dX6_scoreOf_9 : decode cX6_scoreOf 9 = .ok (.iconst 0, 1) := by decide +kernel
theorem dX6_scoreOf_10 : decode cX6_scoreOf 10 = .ok (.iaload, 1) := by decide +kernel
theorem dX6_scoreOf_11 : decode cX6_scoreOf 11 = .ok (.if_icmp .ge 48, 3) := by decide +kernel
theorem dX6_scoreOf_14 : decode cX6_scoreOf 14 = .ok (.iload_n 2, 1) := by decide +kernel
theorem dX6_scoreOf_15 : decode cX6_scoreOf 15 = .ok (.aload_n 0, 1) := by decide +kernel
theorem dX6_scoreOf_16 : decode cX6_scoreOf 16 = .ok (.getfield 36, 3) := by decide +kernel
theorem dX6_scoreOf_19 : decode cX6_scoreOf 19 = .ok (.iload_n 3, 1) := by decide +kernel
theorem dX6_scoreOf_20 : decode cX6_scoreOf 20 = .ok (.iaload, 1) := by decide +kernel
theorem dX6_scoreOf_21 : decode cX6_scoreOf 21 = .ok (.aload_n 0, 1) := by decide +kernel
theorem dX6_scoreOf_22 : decode cX6_scoreOf 22 = .ok (.getfield 23, 3) := by decide +kernel
theorem dX6_scoreOf_25 : decode cX6_scoreOf 25 = .ok (.bipush 12, 2) := by decide +kernel
theorem dX6_scoreOf_27 : decode cX6_scoreOf 27 = .ok (.iload_n 1, 1) := by decide +kernel
theorem dX6_scoreOf_28 : decode cX6_scoreOf 28 = .ok (.imul, 1) := by decide +kernel
theorem dX6_scoreOf_29 : decode cX6_scoreOf 29 = .ok (.iload_n 3, 1) := by decide +kernel
theorem dX6_scoreOf_30 : decode cX6_scoreOf 30 = .ok (.iadd, 1) := by decide +kernel
theorem dX6_scoreOf_31 : decode cX6_scoreOf 31 = .ok (.baload, 1) := by decide +kernel
theorem dX6_scoreOf_32 : decode cX6_scoreOf 32 = .ok (.if_icmp .ne 12, 3) := by decide +kernel
theorem dX6_scoreOf_35 : decode cX6_scoreOf 35 = .ok (.aload_n 0, 1) := by decide +kernel
theorem dX6_scoreOf_36 : decode cX6_scoreOf 36 = .ok (.getfield 42, 3) := by decide +kernel
theorem dX6_scoreOf_39 : decode cX6_scoreOf 39 = .ok (.iload_n 3, 1) := by decide +kernel
theorem dX6_scoreOf_40 : decode cX6_scoreOf 40 = .ok (.iaload, 1) := by decide +kernel
theorem dX6_scoreOf_41 : decode cX6_scoreOf 41 = .ok (.goto 10, 3) := by decide +kernel
theorem dX6_scoreOf_44 : decode cX6_scoreOf 44 = .ok (.aload_n 0, 1) := by decide +kernel
theorem dX6_scoreOf_45 : decode cX6_scoreOf 45 = .ok (.getfield 42, 3) := by decide +kernel
theorem dX6_scoreOf_48 : decode cX6_scoreOf 48 = .ok (.iload_n 3, 1) := by decide +kernel
theorem dX6_scoreOf_49 : decode cX6_scoreOf 49 = .ok (.iaload, 1) := by decide +kernel
theorem dX6_scoreOf_50 : decode cX6_scoreOf 50 = .ok (.ineg, 1) := by decide +kernel
theorem dX6_scoreOf_51 : decode cX6_scoreOf 51 = .ok (.iadd, 1) := by decide +kernel
theorem dX6_scoreOf_52 : decode cX6_scoreOf 52 = .ok (.istore_n 2, 1) := by decide +kernel
theorem dX6_scoreOf_53 : decode cX6_scoreOf 53 = .ok (.iinc 3 1, 3) := by decide +kernel
theorem dX6_scoreOf_56 : decode cX6_scoreOf 56 = .ok (.goto (-52), 3) := by decide +kernel
theorem dX6_scoreOf_59 : decode cX6_scoreOf 59 = .ok (.iload_n 2, 1) := by decide +kernel
theorem dX6_scoreOf_60 : decode cX6_scoreOf 60 = .ok (.ireturn, 1) := by decide +kernel
set_option maxRecDepth 20000 in
theorem ggX6_bar_X6_distance : GoodIn wsX6_bar wsX6_distance := goodIn_r _ [7, 2, 8, 9, 10, 11, 12, 13, 14, 15, 16, 17, 18, 19, 20, 21, 22, 23, 24] (by decide +kernel) (by decide +kernel)
set_option maxRecDepth 20000 in
theorem gX6_bar_X6_distance : GoodIn wsX6_bar (wsV RX6 90 RX6 yX6_distance wsX6_distance) := goodIn_app (goodIn_of _ (by decide +kernel)) ggX6_bar_X6_distance
theorem dX6_bar_0 : decode cX6_bar 0 = .ok (.aload_n 0, 1) := by decide +kernel
theorem dX6_bar_1 : decode cX6_bar 1 = .ok (.getfield 55, 3) := by decide +kernel
theorem dX6_bar_4 : decode cX6_bar 4 = .ok (.aload_n 0, 1) := by decide +kernel
theorem dX6_bar_5 : decode cX6_bar 5 = .ok (.getfield 7, 3) := by decide +kernel
theorem dX6_bar_8 : decode cX6_bar 8 = .ok (.iconst 0, 1) := by decide +kernel
theorem dX6_bar_9 : decode cX6_bar 9 = .ok (.iaload, 1) := by decide +kernel
theorem dX6_bar_10 : decode cX6_bar 10 = .ok (.aload_n 0, 1) := by decide +kernel
theorem dX6_bar_11 : decode cX6_bar 11 = .ok (.invokevirtual 90, 3) := by decide +kernel
theorem dX6_bar_14 : decode cX6_bar 14 = .ok (.isub, 1) := by decide +kernel
theorem dX6_bar_15 : decode cX6_bar 15 = .ok (.imul, 1) := by decide +kernel
theorem dX6_bar_16 : decode cX6_bar 16 = .ok (.ireturn, 1) := by decide +kernel
set_option maxRecDepth 20000 in
theorem ggX6_isResult_X6_distance : GoodIn wsX6_isResult wsX6_distance := goodIn_r _ [9, 1, 10, 11, 12, 13, 14, 15, 16, 17, 18, 19, 20, 21, 22, 23, 24, 25, 26] (by decide +kernel) (by decide +kernel)
set_option maxRecDepth 20000 in
theorem gX6_isResult_X6_distance : GoodIn wsX6_isResult (wsV RX6 90 RX6 yX6_distance wsX6_distance) := goodIn_app (goodIn_of _ (by decide +kernel)) ggX6_isResult_X6_distance
theorem dX6_isResult_0 : decode cX6_isResult 0 = .ok (.iconst 0, 1) := by decide +kernel
theorem dX6_isResult_1 : decode cX6_isResult 1 = .ok (.istore_n 3, 1) := by decide +kernel
theorem dX6_isResult_2 : decode cX6_isResult 2 = .ok (.iload_n 2, 1) := by decide +kernel
theorem dX6_isResult_3 : decode cX6_isResult 3 = .ok (.istore 4, 2) := by decide +kernel
theorem dX6_isResult_5 : decode cX6_isResult 5 = .ok (.iload 4, 2) := by decide +kernel
theorem dX6_isResult_7 : decode cX6_isResult 7 = .ok (.aload_n 0, 1) := by decide +kernel
theorem dX6_isResult_8 : decode cX6_isResult 8 = .ok (.getfield 7, 3) := by decide +kernel
theorem dX6_isResult_11 : decode cX6_isResult 11 = .ok (.iconst 0, 1) := by decide +kernel
theorem dX6_isResult_12 : decode cX6_isResult 12 = .ok (.iaload, 1) := by decide +kernel
theorem dX6_isResult_13 : decode cX6_isResult 13 = .ok (.if_icmp .ge 49, 3) := by decide +kernel
theorem dX6_isResult_16 : decode cX6_isResult 16 = .ok (.iload_n 3, 1) := by decide +kernel
theorem dX6_isResult_17 : decode cX6_isResult 17 = .ok (.aload_n 0, 1) := by decide +kernel
theorem dX6_isResult_18 : decode cX6_isResult 18 = .ok (.getfield 36, 3) := by decide +kernel
theorem dX6_isResult_21 : decode cX6_isResult 21 = .ok (.aload_n 0, 1) := by decide +kernel
theorem dX6_isResult_22 : decode cX6_isResult 22 = .ok (.getfield 45, 3) := by decide +kernel
theorem dX6_isResult_25 : decode cX6_isResult 25 = .ok (.iload 4, 2) := by decide +kernel
theorem dX6_isResult_27 : decode cX6_isResult 27 = .ok (.iaload, 1) := by decide +kernel
theorem dX6_isResult_28 : decode cX6_isResult 28 = .ok (.iaload, 1) := by decide +kernel
theorem dX6_isResult_29 : decode cX6_isResult 29 = .ok (.aload_n 0, 1) := by decide +kernel
theorem dX6_isResult_30 : decode cX6_isResult 30 = .ok (.getfield 23, 3) := by decide +kernel
theorem dX6_isResult_33 : decode cX6_isResult 33 = .ok (.bipush 12, 2) := by decide +kernel
theorem dX6_isResult_35 : decode cX6_isResult 35 = .ok (.iload_n 1, 1) := by decide +kernel
theorem dX6_isResult_36 : decode cX6_isResult 36 = .ok (.imul, 1) := by decide +kernel
theorem dX6_isResult_37 : decode cX6_isResult 37 = .ok (.aload_n 0, 1) := by decide +kernel
theorem dX6_isResult_38 : decode cX6_isResult 38 = .ok (.getfield 45, 3) := by decide +kernel
theorem dX6_isResult_41 : decode cX6_isResult 41 = .ok (.iload 4, 2) := by decide +kernel
theorem dX6_isResult_43 : decode cX6_isResult 43 = .ok (.iaload, 1) := by decide +kernel
theorem dX6_isResult_44 : decode cX6_isResult 44 = .ok (.iadd, 1) := by decide +kernel
theorem dX6_isResult_45 : decode cX6_isResult 45 = .ok (.baload, 1) := by decide +kernel
theorem dX6_isResult_46 : decode cX6_isResult 46 = .ok (.if_icmp .ne 7, 3) := by decide +kernel
theorem dX6_isResult_49 : decode cX6_isResult 49 = .ok (.iconst 0, 1) := by decide +kernel
theorem dX6_isResult_50 : decode cX6_isResult 50 = .ok (.goto 4, 3) := by decide +kernel
theorem dX6_isResult_53 : decode cX6_isResult 53 = .ok (.iconst 1, 1) := by decide +kernel
theorem dX6_isResult_54 : decode cX6_isResult 54 = .ok (.iadd, 1) := by decide +kernel
theorem dX6_isResult_55 : decode cX6_isResult 55 = .ok (.istore_n 3, 1) := by decide +kernel
theorem dX6_isResult_56 : decode cX6_isResult 56 = .ok (.iinc 4 1, 3) := by decide +kernel
theorem dX6_isResult_59 : decode cX6_isResult 59 = .ok (.goto (-54), 3) := by decide +kernel
theorem dX6_isResult_62 : decode cX6_isResult 62 = .ok (.iconst 2, 1) := by decide +kernel
theorem dX6_isResult_63 : decode cX6_isResult 63 = .ok (.iload_n 3, 1) := by decide +kernel
theorem dX6_isResult_64 : decode cX6_isResult 64 = .ok (.imul, 1) := by decide +kernel
theorem dX6_isResult_65 : decode cX6_isResult 65 = .ok (.iload_n 2, 1) := by decide +kernel
theorem dX6_isResult_66 : decode cX6_isResult 66 = .ok (.iadd, 1) := by decide +kernel
theorem dX6_isResult_67 : decode cX6_isResult 67 = .ok (.aload_n 0, 1) := by decide +kernel
theorem dX6_isResult_68 : decode cX6_isResult 68 = .ok (.invokevirtual 90, 3) := by decide +kernel
theorem dX6_isResult_71 : decode cX6_isResult 71 = .ok (.if_icmp .ge 7, 3) := by decide +kernel
theorem dX6_isResult_74 : decode cX6_isResult 74 = .ok (.iconst 1, 1) := by decide +kernel
theorem dX6_isResult_75 : decode cX6_isResult 75 = .ok (.goto 4, 3) := by decide +kernel
theorem dX6_isResult_78 : decode cX6_isResult 78 = .ok (.iconst 0, 1) := by decide +kernel
theorem dX6_isResult_79 : decode cX6_isResult 79 = .ok (.ireturn, 1) := by decide +kernel
set_option maxRecDepth 20000 in
theorem ggX6_trialOf_X6_distance : GoodIn wsX6_trialOf wsX6_distance := goodIn_r _ [5, 6, 14, 15, 16, 17, 18, 19, 20, 21, 22, 23, 24, 25, 26, 27, 28, 29, 30] (by decide +kernel) (by decide +kernel)
set_option maxRecDepth 20000 in
theorem gX6_trialOf_X6_distance : GoodIn wsX6_trialOf (wsV RX6 90 RX6 yX6_distance wsX6_distance) := goodIn_app (goodIn_of _ (by decide +kernel)) ggX6_trialOf_X6_distance
set_option maxRecDepth 20000 in
theorem ggX6_trialOf_X6_isResult : GoodIn wsX6_trialOf wsX6_isResult := goodIn_r _ [10, 6, 11, 12, 13, 1, 2, 3, 4, 5, 14, 15, 16, 17, 18, 19, 20, 21, 22, 23, 24, 25, 26, 27, 28, 29, 30] (by decide +kernel) (by decide +kernel)
set_option maxRecDepth 20000 in
theorem gX6_trialOf_X6_isResult : GoodIn wsX6_trialOf (wsV RX6 111 RX6 yX6_isResult wsX6_isResult) := goodIn_app (goodIn_of _ (by decide +kernel)) ggX6_trialOf_X6_isResult
theorem dX6_trialOf_0 : decode cX6_trialOf 0 = .ok (.iconst 0, 1) := by decide +kernel
theorem dX6_trialOf_1 : decode cX6_trialOf 1 = .ok (.istore_n 2, 1) := by decide +kernel
theorem dX6_trialOf_2 : decode cX6_trialOf 2 = .ok (.iload_n 2, 1) := by decide +kernel
theorem dX6_trialOf_3 : decode cX6_trialOf 3 = .ok (.aload_n 0, 1) := by decide +kernel
theorem dX6_trialOf_4 : decode cX6_trialOf 4 = .ok (.invokevirtual 90, 3) := by decide +kernel
theorem dX6_trialOf_7 : decode cX6_trialOf 7 = .ok (.if_icmp .ge 20, 3) := by decide +kernel
theorem dX6_trialOf_10 : decode cX6_trialOf 10 = .ok (.aload_n 0, 1) := by decide +kernel
theorem dX6_trialOf_11 : decode cX6_trialOf 11 = .ok (.iload_n 1, 1) := by decide +kernel
theorem dX6_trialOf_12 : decode cX6_trialOf 12 = .ok (.iload_n 2, 1) := by decide +kernel
theorem dX6_trialOf_13 : decode cX6_trialOf 13 = .ok (.invokevirtual 111, 3) := by decide +kernel
theorem dX6_trialOf_16 : decode cX6_trialOf 16 = .ok (.ifCond .eq 5, 3) := by decide +kernel
theorem dX6_trialOf_19 : decode cX6_trialOf 19 = .ok (.iload_n 2, 1) := by decide +kernel
theorem dX6_trialOf_20 : decode cX6_trialOf 20 = .ok (.ireturn, 1) := by decide +kernel
theorem dX6_trialOf_21 : decode cX6_trialOf 21 = .ok (.iinc 2 1, 3) := by decide +kernel
theorem dX6_trialOf_24 : decode cX6_trialOf 24 = .ok (.goto (-22), 3) := by decide +kernel
theorem dX6_trialOf_27 : decode cX6_trialOf 27 = .ok (.iconst (-1), 1) := by decide +kernel
theorem dX6_trialOf_28 : decode cX6_trialOf 28 = .ok (.ireturn, 1) := by decide +kernel
set_option maxRecDepth 20000 in
theorem ggX6_decodes_X6_judges : GoodIn wsX6_decodes wsX6_judges := goodIn_r _ [7, 8, 9, 10, 11, 12, 13, 14, 15, 16, 17, 18, 6, 19, 45, 46, 47, 48, 49, 50, 51, 52, 53, 54, 55, 56, 57, 58, 59, 60, 61] (by decide +kernel) (by decide +kernel)
set_option maxRecDepth 20000 in
theorem gX6_decodes_X6_judges : GoodIn wsX6_decodes (wsV RX6 105 RX6 yX6_judges wsX6_judges) := goodIn_app (goodIn_of _ (by decide +kernel)) ggX6_decodes_X6_judges
set_option maxRecDepth 20000 in
theorem ggX6_decodes_X6_messages : GoodIn wsX6_decodes wsX6_messages := goodIn_r _ [23, 8, 45, 46, 47, 48, 49, 50, 51, 52, 53, 54, 55, 56, 57, 58, 59, 60, 61] (by decide +kernel) (by decide +kernel)
set_option maxRecDepth 20000 in
theorem gX6_decodes_X6_messages : GoodIn wsX6_decodes (wsV RX6 67 RX6 yX6_messages wsX6_messages) := goodIn_app (goodIn_of _ (by decide +kernel)) ggX6_decodes_X6_messages
set_option maxRecDepth 20000 in
theorem ggX6_decodes_X6_scoreOf : GoodIn wsX6_decodes wsX6_scoreOf := goodIn_r _ [27, 8, 9, 28, 13, 45, 46, 47, 48, 49, 50, 51, 52, 53, 54, 55, 56, 57, 58, 59, 60, 61] (by decide +kernel) (by decide +kernel)
set_option maxRecDepth 20000 in
theorem gX6_decodes_X6_scoreOf : GoodIn wsX6_decodes (wsV RX6 121 RX6 yX6_scoreOf wsX6_scoreOf) := goodIn_app (goodIn_of _ (by decide +kernel)) ggX6_decodes_X6_scoreOf
set_option maxRecDepth 20000 in
theorem ggX6_decodes_X6_bar : GoodIn wsX6_decodes wsX6_bar := goodIn_r _ [32, 14, 8, 33, 34, 35, 6, 36, 45, 46, 47, 48, 49, 50, 51, 52, 53, 54, 55, 56, 57, 58, 59, 60, 61] (by decide +kernel) (by decide +kernel)
set_option maxRecDepth 20000 in
theorem gX6_decodes_X6_bar : GoodIn wsX6_decodes (wsV RX6 124 RX6 yX6_bar wsX6_bar) := goodIn_app (goodIn_of _ (by decide +kernel)) ggX6_decodes_X6_bar
set_option maxRecDepth 20000 in
theorem ggX6_decodes_X6_trialOf : GoodIn wsX6_decodes wsX6_trialOf := goodIn_r _ [40, 33, 34, 35, 6, 36, 8, 41, 42, 43, 44, 9, 15, 28, 45, 46, 47, 48, 49, 50, 51, 52, 53, 54, 55, 56, 57, 58, 59, 60, 61] (by decide +kernel) (by decide +kernel)
set_option maxRecDepth 20000 in
theorem gX6_decodes_X6_trialOf : GoodIn wsX6_decodes (wsV RX6 127 RX6 yX6_trialOf wsX6_trialOf) := goodIn_app (goodIn_of _ (by decide +kernel)) ggX6_decodes_X6_trialOf
theorem dX6_decodes_0 : decode cX6_decodes 0 = .ok (.aload_n 0, 1) := by decide +kernel
theorem dX6_decodes_1 : decode cX6_decodes 1 = .ok (.invokevirtual 105, 3) := by decide +kernel
theorem dX6_decodes_4 : decode cX6_decodes 4 = .ok (.aload_n 0, 1) := by decide +kernel
theorem dX6_decodes_5 : decode cX6_decodes 5 = .ok (.sipush (-1004), 3) := by decide +kernel
theorem dX6_decodes_8 : decode cX6_decodes 8 = .ok (.putfield 115, 3) := by decide +kernel
theorem dX6_decodes_11 : decode cX6_decodes 11 = .ok (.aload_n 0, 1) := by decide +kernel
theorem dX6_decodes_12 : decode cX6_decodes 12 = .ok (.sipush (-1004), 3) := by decide +kernel
theorem dX6_decodes_15 : decode cX6_decodes 15 = .ok (.putfield 118, 3) := by decide +kernel
theorem dX6_decodes_18 : decode cX6_decodes 18 = .ok (.iconst 0, 1) := by decide +kernel
theorem dX6_decodes_19 : decode cX6_decodes 19 = .ok (.istore_n 1, 1) := by decide +kernel
theorem dX6_decodes_20 : decode cX6_decodes 20 = .ok (.iload_n 1, 1) := by decide +kernel
theorem dX6_decodes_21 : decode cX6_decodes 21 = .ok (.aload_n 0, 1) := by decide +kernel
theorem dX6_decodes_22 : decode cX6_decodes 22 = .ok (.invokevirtual 67, 3) := by decide +kernel
theorem dX6_decodes_25 : decode cX6_decodes 25 = .ok (.if_icmp .ge 56, 3) := by decide +kernel
theorem dX6_decodes_28 : decode cX6_decodes 28 = .ok (.aload_n 0, 1) := by decide +kernel
theorem dX6_decodes_29 : decode cX6_decodes 29 = .ok (.iload_n 1, 1) := by decide +kernel
theorem dX6_decodes_30 : decode cX6_decodes 30 = .ok (.invokevirtual 121, 3) := by decide +kernel
theorem dX6_decodes_33 : decode cX6_decodes 33 = .ok (.aload_n 0, 1) := by decide +kernel
theorem dX6_decodes_34 : decode cX6_decodes 34 = .ok (.invokevirtual 124, 3) := by decide +kernel
theorem dX6_decodes_37 : decode cX6_decodes 37 = .ok (.if_icmp .le 38, 3) := by decide +kernel
theorem dX6_decodes_40 : decode cX6_decodes 40 = .ok (.aload_n 0, 1) := by decide +kernel
theorem dX6_decodes_41 : decode cX6_decodes 41 = .ok (.iload_n 1, 1) := by decide +kernel
theorem dX6_decodes_42 : decode cX6_decodes 42 = .ok (.invokevirtual 127, 3) := by decide +kernel
theorem dX6_decodes_45 : decode cX6_decodes 45 = .ok (.istore_n 2, 1) := by decide +kernel
theorem dX6_decodes_46 : decode cX6_decodes 46 = .ok (.iload_n 2, 1) := by decide +kernel
theorem dX6_decodes_47 : decode cX6_decodes 47 = .ok (.ifCond .lt 28, 3) := by decide +kernel
theorem dX6_decodes_50 : decode cX6_decodes 50 = .ok (.aload_n 0, 1) := by decide +kernel
theorem dX6_decodes_51 : decode cX6_decodes 51 = .ok (.getfield 118, 3) := by decide +kernel
theorem dX6_decodes_54 : decode cX6_decodes 54 = .ok (.ifCond .lt 11, 3) := by decide +kernel
theorem dX6_decodes_57 : decode cX6_decodes 57 = .ok (.iload_n 2, 1) := by decide +kernel
theorem dX6_decodes_58 : decode cX6_decodes 58 = .ok (.aload_n 0, 1) := by decide +kernel
theorem dX6_decodes_59 : decode cX6_decodes 59 = .ok (.getfield 118, 3) := by decide +kernel
theorem dX6_decodes_62 : decode cX6_decodes 62 = .ok (.if_icmp .ge 13, 3) := by decide +kernel
theorem dX6_decodes_65 : decode cX6_decodes 65 = .ok (.aload_n 0, 1) := by decide +kernel
theorem dX6_decodes_66 : decode cX6_decodes 66 = .ok (.iload_n 1, 1) := by decide +kernel
theorem dX6_decodes_67 : decode cX6_decodes 67 = .ok (.putfield 115, 3) := by decide +kernel
theorem dX6_decodes_70 : decode cX6_decodes 70 = .ok (.aload_n 0, 1) := by decide +kernel
theorem dX6_decodes_71 : decode cX6_decodes 71 = .ok (.iload_n 2, 1) := by decide +kernel
theorem dX6_decodes_72 : decode cX6_decodes 72 = .ok (.putfield 118, 3) := by decide +kernel
theorem dX6_decodes_75 : decode cX6_decodes 75 = .ok (.iinc 1 1, 3) := by decide +kernel
theorem dX6_decodes_78 : decode cX6_decodes 78 = .ok (.goto (-58), 3) := by decide +kernel
theorem dX6_decodes_81 : decode cX6_decodes 81 = .ok (.return_, 1) := by decide +kernel
set_option maxRecDepth 20000 in
theorem ggX6_trial_X6_distance : GoodIn wsX6_trial wsX6_distance := goodIn_r _ [5, 6, 34, 35, 36, 37, 38, 39, 40, 41, 42, 43, 44, 45, 46, 47, 48, 49, 50] (by decide +kernel) (by decide +kernel)
set_option maxRecDepth 20000 in
theorem gX6_trial_X6_distance : GoodIn wsX6_trial (wsV RX6 90 RX6 yX6_distance wsX6_distance) := goodIn_app (goodIn_of _ (by decide +kernel)) ggX6_trial_X6_distance
set_option maxRecDepth 20000 in
theorem ggX6_trial_X6_in : GoodIn wsX6_trial wsX6_in := goodIn_r _ [9] (by decide +kernel) (by decide +kernel)
set_option maxRecDepth 20000 in
theorem gX6_trial_X6_in : GoodIn wsX6_trial (va_wsS RX6 63 yX6_in wsX6_in) := goodIn_app (goodIn_of _ (by decide +kernel)) ggX6_trial_X6_in
set_option maxRecDepth 20000 in
theorem ggX6_trial_X6_judges : GoodIn wsX6_trial wsX6_judges := goodIn_r _ [13, 6, 14, 15, 16, 17, 18, 19, 20, 21, 22, 23, 4, 24, 34, 35, 36, 37, 38, 39, 40, 41, 42, 43, 44, 45, 46, 47, 48, 49, 50] (by decide +kernel) (by decide +kernel)
set_option maxRecDepth 20000 in
theorem gX6_trial_X6_judges : GoodIn wsX6_trial (wsV RX6 105 RX6 yX6_judges wsX6_judges) := goodIn_app (goodIn_of _ (by decide +kernel)) ggX6_trial_X6_judges
set_option maxRecDepth 20000 in
theorem ggX6_trial_X6_messages : GoodIn wsX6_trial wsX6_messages := goodIn_r _ [28, 6, 34, 35, 36, 37, 38, 39, 40, 41, 42, 43, 44, 45, 46, 47, 48, 49, 50] (by decide +kernel) (by decide +kernel)
set_option maxRecDepth 20000 in
theorem gX6_trial_X6_messages : GoodIn wsX6_trial (wsV RX6 67 RX6 yX6_messages wsX6_messages) := goodIn_app (goodIn_of _ (by decide +kernel)) ggX6_trial_X6_messages
set_option maxRecDepth 20000 in
theorem ggX6_trial_X6_isResult : GoodIn wsX6_trial wsX6_isResult := goodIn_r _ [32, 6, 14, 20, 33, 1, 2, 3, 4, 5, 34, 35, 36, 37, 38, 39, 40, 41, 42, 43, 44, 45, 46, 47, 48, 49, 50] (by decide +kernel) (by decide +kernel)
set_option maxRecDepth 20000 in
theorem gX6_trial_X6_isResult : GoodIn wsX6_trial (wsV RX6 111 RX6 yX6_isResult wsX6_isResult) := goodIn_app (goodIn_of _ (by decide +kernel)) ggX6_trial_X6_isResult
theorem dX6_trial_0 : decode cX6_trial 0 = .ok (.iload_n 1, 1) := by decide +kernel
theorem dX6_trial_1 : decode cX6_trial 1 = .ok (.iconst 0, 1) := by decide +kernel
theorem dX6_trial_2 : decode cX6_trial 2 = .ok (.aload_n 0, 1) := by decide +kernel
theorem dX6_trial_3 : decode cX6_trial 3 = .ok (.invokevirtual 90, 3) := by decide +kernel
theorem dX6_trial_6 : decode cX6_trial 6 = .ok (.iconst 1, 1) := by decide +kernel
theorem dX6_trial_7 : decode cX6_trial 7 = .ok (.isub, 1) := by decide +kernel
theorem dX6_trial_8 : decode cX6_trial 8 = .ok (.invokestatic 63, 3) := by decide +kernel
theorem dX6_trial_11 : decode cX6_trial 11 = .ok (.ifCond .ne 7, 3) := by decide +kernel
theorem dX6_trial_14 : decode cX6_trial 14 = .ok (.sipush (-1001), 3) := by decide +kernel
theorem dX6_trial_17 : decode cX6_trial 17 = .ok (.ireturn, 1) := by decide +kernel
theorem dX6_trial_18 : decode cX6_trial 18 = .ok (.aload_n 0, 1) := by decide +kernel
theorem dX6_trial_19 : decode cX6_trial 19 = .ok (.invokevirtual 105, 3) := by decide +kernel
theorem dX6_trial_22 : decode cX6_trial 22 = .ok (.iconst 0, 1) := by decide +kernel
theorem dX6_trial_23 : decode cX6_trial 23 = .ok (.istore_n 2, 1) := by decide +kernel
theorem dX6_trial_24 : decode cX6_trial 24 = .ok (.iload_n 2, 1) := by decide +kernel
theorem dX6_trial_25 : decode cX6_trial 25 = .ok (.aload_n 0, 1) := by decide +kernel
theorem dX6_trial_26 : decode cX6_trial 26 = .ok (.invokevirtual 67, 3) := by decide +kernel
theorem dX6_trial_29 : decode cX6_trial 29 = .ok (.if_icmp .ge 20, 3) := by decide +kernel
theorem dX6_trial_32 : decode cX6_trial 32 = .ok (.aload_n 0, 1) := by decide +kernel
theorem dX6_trial_33 : decode cX6_trial 33 = .ok (.iload_n 2, 1) := by decide +kernel
theorem dX6_trial_34 : decode cX6_trial 34 = .ok (.iload_n 1, 1) := by decide +kernel
theorem dX6_trial_35 : decode cX6_trial 35 = .ok (.invokevirtual 111, 3) := by decide +kernel
theorem dX6_trial_38 : decode cX6_trial 38 = .ok (.ifCond .eq 5, 3) := by decide +kernel
theorem dX6_trial_41 : decode cX6_trial 41 = .ok (.iload_n 2, 1) := by decide +kernel
theorem dX6_trial_42 : decode cX6_trial 42 = .ok (.ireturn, 1) := by decide +kernel
theorem dX6_trial_43 : decode cX6_trial 43 = .ok (.iinc 2 1, 3) := by decide +kernel
theorem dX6_trial_46 : decode cX6_trial 46 = .ok (.goto (-22), 3) := by decide +kernel
theorem dX6_trial_49 : decode cX6_trial 49 = .ok (.sipush (-1004), 3) := by decide +kernel
theorem dX6_trial_52 : decode cX6_trial 52 = .ok (.ireturn, 1) := by decide +kernel
set_option maxRecDepth 20000 in
theorem ggX6_score_X6_isMessage : GoodIn wsX6_score wsX6_isMessage := goodIn_r _ [5, 6, 7, 8, 4, 9, 10, 11, 12, 13, 34, 35, 36, 37, 38, 39, 40, 41, 42, 43, 44, 45, 46, 47, 48, 49, 50] (by decide +kernel) (by decide +kernel)
set_option maxRecDepth 20000 in
theorem gX6_score_X6_isMessage : GoodIn wsX6_score (wsV RX6 96 RX6 yX6_isMessage wsX6_isMessage) := goodIn_app (goodIn_of _ (by decide +kernel)) ggX6_score_X6_isMessage
set_option maxRecDepth 20000 in
theorem ggX6_score_X6_judges : GoodIn wsX6_score wsX6_judges := goodIn_r _ [17, 10, 18, 19, 20, 21, 22, 23, 24, 25, 26, 27, 4, 28, 34, 35, 36, 37, 38, 39, 40, 41, 42, 43, 44, 45, 46, 47, 48, 49, 50] (by decide +kernel) (by decide +kernel)
set_option maxRecDepth 20000 in
theorem gX6_score_X6_judges : GoodIn wsX6_score (wsV RX6 105 RX6 yX6_judges wsX6_judges) := goodIn_app (goodIn_of _ (by decide +kernel)) ggX6_score_X6_judges
set_option maxRecDepth 20000 in
theorem ggX6_score_X6_scoreOf : GoodIn wsX6_score wsX6_scoreOf := goodIn_r _ [32, 10, 18, 33, 22, 34, 35, 36, 37, 38, 39, 40, 41, 42, 43, 44, 45, 46, 47, 48, 49, 50] (by decide +kernel) (by decide +kernel)
set_option maxRecDepth 20000 in
theorem gX6_score_X6_scoreOf : GoodIn wsX6_score (wsV RX6 121 RX6 yX6_scoreOf wsX6_scoreOf) := goodIn_app (goodIn_of _ (by decide +kernel)) ggX6_score_X6_scoreOf
theorem dX6_score_0 : decode cX6_score 0 = .ok (.aload_n 0, 1) := by decide +kernel
theorem dX6_score_1 : decode cX6_score 1 = .ok (.iload_n 1, 1) := by decide +kernel
theorem dX6_score_2 : decode cX6_score 2 = .ok (.invokevirtual 96, 3) := by decide +kernel
theorem dX6_score_5 : decode cX6_score 5 = .ok (.ifCond .ne 7, 3) := by decide +kernel
theorem dX6_score_8 : decode cX6_score 8 = .ok (.sipush (-1001), 3) := by decide +kernel
theorem dX6_score_11 : decode cX6_score 11 = .ok (.ireturn, 1) := by decide +kernel
theorem dX6_score_12 : decode cX6_score 12 = .ok (.aload_n 0, 1) := by decide +kernel
theorem dX6_score_13 : decode cX6_score 13 = .ok (.invokevirtual 105, 3) := by decide +kernel
theorem dX6_score_16 : decode cX6_score 16 = .ok (.aload_n 0, 1) := by decide +kernel
theorem dX6_score_17 : decode cX6_score 17 = .ok (.iload_n 1, 1) := by decide +kernel
theorem dX6_score_18 : decode cX6_score 18 = .ok (.invokevirtual 121, 3) := by decide +kernel
theorem dX6_score_21 : decode cX6_score 21 = .ok (.ireturn, 1) := by decide +kernel
set_option maxRecDepth 20000 in
theorem ggX6_lawful_X6_judges : GoodIn wsX6_lawful wsX6_judges := goodIn_r _ [5, 6, 7, 8, 9, 10, 11, 12, 13, 14, 15, 16, 4, 17, 35, 36, 37, 38, 39, 40, 41, 42, 43, 44, 45, 46, 47, 48, 49, 50, 51] (by decide +kernel) (by decide +kernel)
set_option maxRecDepth 20000 in
theorem gX6_lawful_X6_judges : GoodIn wsX6_lawful (wsV RX6 105 RX6 yX6_judges wsX6_judges) := goodIn_app (goodIn_of _ (by decide +kernel)) ggX6_lawful_X6_judges
set_option maxRecDepth 20000 in
theorem ggX6_lawful_X6_messages : GoodIn wsX6_lawful wsX6_messages := goodIn_r _ [21, 6, 35, 36, 37, 38, 39, 40, 41, 42, 43, 44, 45, 46, 47, 48, 49, 50, 51] (by decide +kernel) (by decide +kernel)
set_option maxRecDepth 20000 in
theorem gX6_lawful_X6_messages : GoodIn wsX6_lawful (wsV RX6 67 RX6 yX6_messages wsX6_messages) := goodIn_app (goodIn_of _ (by decide +kernel)) ggX6_lawful_X6_messages
set_option maxRecDepth 20000 in
theorem ggX6_lawful_X6_scoreOf : GoodIn wsX6_lawful wsX6_scoreOf := goodIn_r _ [25, 6, 7, 26, 11, 35, 36, 37, 38, 39, 40, 41, 42, 43, 44, 45, 46, 47, 48, 49, 50, 51] (by decide +kernel) (by decide +kernel)
set_option maxRecDepth 20000 in
theorem gX6_lawful_X6_scoreOf : GoodIn wsX6_lawful (wsV RX6 121 RX6 yX6_scoreOf wsX6_scoreOf) := goodIn_app (goodIn_of _ (by decide +kernel)) ggX6_lawful_X6_scoreOf
set_option maxRecDepth 20000 in
theorem ggX6_lawful_X6_bar : GoodIn wsX6_lawful wsX6_bar := goodIn_r _ [30, 12, 6, 31, 32, 33, 4, 34, 35, 36, 37, 38, 39, 40, 41, 42, 43, 44, 45, 46, 47, 48, 49, 50, 51] (by decide +kernel) (by decide +kernel)
set_option maxRecDepth 20000 in
theorem gX6_lawful_X6_bar : GoodIn wsX6_lawful (wsV RX6 124 RX6 yX6_bar wsX6_bar) := goodIn_app (goodIn_of _ (by decide +kernel)) ggX6_lawful_X6_bar
theorem dX6_lawful_0 : decode cX6_lawful 0 = .ok (.aload_n 0, 1) := by decide +kernel
theorem dX6_lawful_1 : decode cX6_lawful 1 = .ok (.invokevirtual 105, 3) := by decide +kernel
theorem dX6_lawful_4 : decode cX6_lawful 4 = .ok (.iconst 0, 1) := by decide +kernel
theorem dX6_lawful_5 : decode cX6_lawful 5 = .ok (.istore_n 1, 1) := by decide +kernel
theorem dX6_lawful_6 : decode cX6_lawful 6 = .ok (.iconst 0, 1) := by decide +kernel
theorem dX6_lawful_7 : decode cX6_lawful 7 = .ok (.istore_n 2, 1) := by decide +kernel
theorem dX6_lawful_8 : decode cX6_lawful 8 = .ok (.iload_n 2, 1) := by decide +kernel
theorem dX6_lawful_9 : decode cX6_lawful 9 = .ok (.aload_n 0, 1) := by decide +kernel
theorem dX6_lawful_10 : decode cX6_lawful 10 = .ok (.invokevirtual 67, 3) := by decide +kernel
theorem dX6_lawful_13 : decode cX6_lawful 13 = .ok (.if_icmp .ge 29, 3) := by decide +kernel
theorem dX6_lawful_16 : decode cX6_lawful 16 = .ok (.iload_n 1, 1) := by decide +kernel
theorem dX6_lawful_17 : decode cX6_lawful 17 = .ok (.aload_n 0, 1) := by decide +kernel
theorem dX6_lawful_18 : decode cX6_lawful 18 = .ok (.iload_n 2, 1) := by decide +kernel
theorem dX6_lawful_19 : decode cX6_lawful 19 = .ok (.invokevirtual 121, 3) := by decide +kernel
theorem dX6_lawful_22 : decode cX6_lawful 22 = .ok (.aload_n 0, 1) := by decide +kernel
theorem dX6_lawful_23 : decode cX6_lawful 23 = .ok (.invokevirtual 124, 3) := by decide +kernel
theorem dX6_lawful_26 : decode cX6_lawful 26 = .ok (.if_icmp .le 7, 3) := by decide +kernel
theorem dX6_lawful_29 : decode cX6_lawful 29 = .ok (.iconst 1, 1) := by decide +kernel
theorem dX6_lawful_30 : decode cX6_lawful 30 = .ok (.goto 4, 3) := by decide +kernel
theorem dX6_lawful_33 : decode cX6_lawful 33 = .ok (.iconst 0, 1) := by decide +kernel
theorem dX6_lawful_34 : decode cX6_lawful 34 = .ok (.iadd, 1) := by decide +kernel
theorem dX6_lawful_35 : decode cX6_lawful 35 = .ok (.istore_n 1, 1) := by decide +kernel
theorem dX6_lawful_36 : decode cX6_lawful 36 = .ok (.iinc 2 1, 3) := by decide +kernel
theorem dX6_lawful_39 : decode cX6_lawful 39 = .ok (.goto (-31), 3) := by decide +kernel
theorem dX6_lawful_42 : decode cX6_lawful 42 = .ok (.iload_n 1, 1) := by decide +kernel
theorem dX6_lawful_43 : decode cX6_lawful 43 = .ok (.ireturn, 1) := by decide +kernel
set_option maxRecDepth 20000 in
theorem ggX6_decode_X6_decodes : GoodIn wsX6_decode wsX6_decodes := goodIn_r _ [6, 1, 7, 8, 9, 10, 5, 11, 12, 13, 14, 15, 16, 17, 18, 19, 20, 21, 22, 23, 24, 25, 26, 27, 28, 29, 30, 31, 32, 33, 34, 35, 36, 37, 38, 39, 40, 41, 42, 43, 44, 45, 46, 47, 48, 49, 50, 51, 52, 53, 54, 55, 56, 57, 58, 59, 60, 61, 62, 63, 64, 65] (by decide +kernel) (by decide +kernel)
set_option maxRecDepth 20000 in
theorem gX6_decode_X6_decodes : GoodIn wsX6_decode (wsV RX6 130 RX6 yX6_decodes wsX6_decodes) := goodIn_app (goodIn_of _ (by decide +kernel)) ggX6_decode_X6_decodes
theorem dX6_decode_0 : decode cX6_decode 0 = .ok (.aload_n 0, 1) := by decide +kernel
theorem dX6_decode_1 : decode cX6_decode 1 = .ok (.invokevirtual 130, 3) := by decide +kernel
theorem dX6_decode_4 : decode cX6_decode 4 = .ok (.aload_n 0, 1) := by decide +kernel
theorem dX6_decode_5 : decode cX6_decode 5 = .ok (.getfield 115, 3) := by decide +kernel
theorem dX6_decode_8 : decode cX6_decode 8 = .ok (.ireturn, 1) := by decide +kernel
set_option maxRecDepth 20000 in
theorem ggX6_decidingTrial_X6_decodes : GoodIn wsX6_decidingTrial wsX6_decodes := goodIn_r _ [6, 7, 1, 8, 9, 10, 5, 11, 12, 13, 14, 15, 16, 17, 18, 19, 20, 21, 22, 23, 24, 25, 26, 27, 28, 29, 30, 31, 32, 33, 34, 35, 36, 37, 38, 39, 40, 41, 42, 43, 44, 45, 46, 47, 48, 49, 50, 51, 52, 53, 54, 55, 56, 57, 58, 59, 60, 61, 62, 63, 64, 65] (by decide +kernel) (by decide +kernel)
set_option maxRecDepth 20000 in
theorem gX6_decidingTrial_X6_decodes : GoodIn wsX6_decidingTrial (wsV RX6 130 RX6 yX6_decodes wsX6_decodes) := goodIn_app (goodIn_of _ (by decide +kernel)) ggX6_decidingTrial_X6_decodes
theorem dX6_decidingTrial_0 : decode cX6_decidingTrial 0 = .ok (.aload_n 0, 1) := by decide +kernel
theorem dX6_decidingTrial_1 : decode cX6_decidingTrial 1 = .ok (.invokevirtual 130, 3) := by decide +kernel
theorem dX6_decidingTrial_4 : decode cX6_decidingTrial 4 = .ok (.aload_n 0, 1) := by decide +kernel
theorem dX6_decidingTrial_5 : decode cX6_decidingTrial 5 = .ok (.getfield 118, 3) := by decide +kernel
theorem dX6_decidingTrial_8 : decode cX6_decidingTrial 8 = .ok (.ireturn, 1) := by decide +kernel
set_option maxRecDepth 20000 in
theorem ggX6_margin_X6_decodes : GoodIn wsX6_margin wsX6_decodes := goodIn_r _ [6, 1, 7, 8, 9, 10, 5, 11, 12, 13, 14, 15, 16, 17, 18, 19, 20, 21, 22, 23, 24, 25, 26, 27, 28, 29, 30, 31, 32, 33, 34, 35, 36, 37, 38, 39, 40, 41, 42, 43, 44, 45, 46, 47, 48, 49, 50, 51, 52, 53, 54, 55, 56, 57, 58, 59, 60, 61, 62, 63, 64, 65] (by decide +kernel) (by decide +kernel)
set_option maxRecDepth 20000 in
theorem gX6_margin_X6_decodes : GoodIn wsX6_margin (wsV RX6 130 RX6 yX6_decodes wsX6_decodes) := goodIn_app (goodIn_of _ (by decide +kernel)) ggX6_margin_X6_decodes
set_option maxRecDepth 20000 in
theorem ggX6_margin_X6_scoreOf : GoodIn wsX6_margin wsX6_scoreOf := goodIn_r _ [31, 12, 13, 32, 17, 49, 50, 51, 52, 53, 54, 55, 56, 57, 58, 59, 60, 61, 62, 63, 64, 65] (by decide +kernel) (by decide +kernel)
set_option maxRecDepth 20000 in
theorem gX6_margin_X6_scoreOf : GoodIn wsX6_margin (wsV RX6 121 RX6 yX6_scoreOf wsX6_scoreOf) := goodIn_app (goodIn_of _ (by decide +kernel)) ggX6_margin_X6_scoreOf
set_option maxRecDepth 20000 in
theorem ggX6_margin_X6_bar : GoodIn wsX6_margin wsX6_bar := goodIn_r _ [36, 18, 12, 37, 38, 39, 5, 40, 49, 50, 51, 52, 53, 54, 55, 56, 57, 58, 59, 60, 61, 62, 63, 64, 65] (by decide +kernel) (by decide +kernel)
set_option maxRecDepth 20000 in
theorem gX6_margin_X6_bar : GoodIn wsX6_margin (wsV RX6 124 RX6 yX6_bar wsX6_bar) := goodIn_app (goodIn_of _ (by decide +kernel)) ggX6_margin_X6_bar
theorem dX6_margin_0 : decode cX6_margin 0 = .ok (.aload_n 0, 1) := by decide +kernel
theorem dX6_margin_1 : decode cX6_margin 1 = .ok (.invokevirtual 130, 3) := by decide +kernel
theorem dX6_margin_4 : decode cX6_margin 4 = .ok (.aload_n 0, 1) := by decide +kernel
theorem dX6_margin_5 : decode cX6_margin 5 = .ok (.getfield 115, 3) := by decide +kernel
theorem dX6_margin_8 : decode cX6_margin 8 = .ok (.ifCond .ge 9, 3) := by decide +kernel
theorem dX6_margin_11 : decode cX6_margin 11 = .ok (.sipush (-1004), 3) := by decide +kernel
theorem dX6_margin_14 : decode cX6_margin 14 = .ok (.goto 16, 3) := by decide +kernel
theorem dX6_margin_17 : decode cX6_margin 17 = .ok (.aload_n 0, 1) := by decide +kernel
theorem dX6_margin_18 : decode cX6_margin 18 = .ok (.aload_n 0, 1) := by decide +kernel
theorem dX6_margin_19 : decode cX6_margin 19 = .ok (.getfield 115, 3) := by decide +kernel
theorem dX6_margin_22 : decode cX6_margin 22 = .ok (.invokevirtual 121, 3) := by decide +kernel
theorem dX6_margin_25 : decode cX6_margin 25 = .ok (.aload_n 0, 1) := by decide +kernel
theorem dX6_margin_26 : decode cX6_margin 26 = .ok (.invokevirtual 124, 3) := by decide +kernel
theorem dX6_margin_29 : decode cX6_margin 29 = .ok (.isub, 1) := by decide +kernel
theorem dX6_margin_30 : decode cX6_margin 30 = .ok (.ireturn, 1) := by decide +kernel
set_option maxRecDepth 20000 in
theorem ggX6_wastedTrials_X6_judges : GoodIn wsX6_wastedTrials wsX6_judges := goodIn_r _ [5, 6, 7, 8, 9, 10, 11, 12, 13, 14, 15, 16, 4, 17, 39, 40, 41, 42, 43, 44, 45, 46, 47, 48, 49, 50, 51, 52, 53, 54, 55] (by decide +kernel) (by decide +kernel)
set_option maxRecDepth 20000 in
theorem gX6_wastedTrials_X6_judges : GoodIn wsX6_wastedTrials (wsV RX6 105 RX6 yX6_judges wsX6_judges) := goodIn_app (goodIn_of _ (by decide +kernel)) ggX6_wastedTrials_X6_judges
set_option maxRecDepth 20000 in
theorem ggX6_wastedTrials_X6_distance : GoodIn wsX6_wastedTrials wsX6_distance := goodIn_r _ [21, 6, 39, 40, 41, 42, 43, 44, 45, 46, 47, 48, 49, 50, 51, 52, 53, 54, 55] (by decide +kernel) (by decide +kernel)
set_option maxRecDepth 20000 in
theorem gX6_wastedTrials_X6_distance : GoodIn wsX6_wastedTrials (wsV RX6 90 RX6 yX6_distance wsX6_distance) := goodIn_app (goodIn_of _ (by decide +kernel)) ggX6_wastedTrials_X6_distance
set_option maxRecDepth 20000 in
theorem ggX6_wastedTrials_X6_messages : GoodIn wsX6_wastedTrials wsX6_messages := goodIn_r _ [25, 6, 39, 40, 41, 42, 43, 44, 45, 46, 47, 48, 49, 50, 51, 52, 53, 54, 55] (by decide +kernel) (by decide +kernel)
set_option maxRecDepth 20000 in
theorem gX6_wastedTrials_X6_messages : GoodIn wsX6_wastedTrials (wsV RX6 67 RX6 yX6_messages wsX6_messages) := goodIn_app (goodIn_of _ (by decide +kernel)) ggX6_wastedTrials_X6_messages
set_option maxRecDepth 20000 in
theorem ggX6_wastedTrials_X6_scoreOf : GoodIn wsX6_wastedTrials wsX6_scoreOf := goodIn_r _ [29, 6, 7, 30, 11, 39, 40, 41, 42, 43, 44, 45, 46, 47, 48, 49, 50, 51, 52, 53, 54, 55] (by decide +kernel) (by decide +kernel)
set_option maxRecDepth 20000 in
theorem gX6_wastedTrials_X6_scoreOf : GoodIn wsX6_wastedTrials (wsV RX6 121 RX6 yX6_scoreOf wsX6_scoreOf) := goodIn_app (goodIn_of _ (by decide +kernel)) ggX6_wastedTrials_X6_scoreOf
set_option maxRecDepth 20000 in
theorem ggX6_wastedTrials_X6_bar : GoodIn wsX6_wastedTrials wsX6_bar := goodIn_r _ [34, 12, 6, 18, 19, 20, 4, 21, 39, 40, 41, 42, 43, 44, 45, 46, 47, 48, 49, 50, 51, 52, 53, 54, 55] (by decide +kernel) (by decide +kernel)
set_option maxRecDepth 20000 in
theorem gX6_wastedTrials_X6_bar : GoodIn wsX6_wastedTrials (wsV RX6 124 RX6 yX6_bar wsX6_bar) := goodIn_app (goodIn_of _ (by decide +kernel)) ggX6_wastedTrials_X6_bar
set_option maxRecDepth 20000 in
theorem ggX6_wastedTrials_X6_isResult : GoodIn wsX6_wastedTrials wsX6_isResult := goodIn_r _ [38, 6, 7, 13, 30, 18, 19, 20, 4, 21, 39, 40, 41, 42, 43, 44, 45, 46, 47, 48, 49, 50, 51, 52, 53, 54, 55] (by decide +kernel) (by decide +kernel)
set_option maxRecDepth 20000 in
theorem gX6_wastedTrials_X6_isResult : GoodIn wsX6_wastedTrials (wsV RX6 111 RX6 yX6_isResult wsX6_isResult) := goodIn_app (goodIn_of _ (by decide +kernel)) ggX6_wastedTrials_X6_isResult
theorem dX6_wastedTrials_0 : decode cX6_wastedTrials 0 = .ok (.aload_n 0, 1) := by decide +kernel
theorem dX6_wastedTrials_1 : decode cX6_wastedTrials 1 = .ok (.invokevirtual 105, 3) := by decide +kernel
theorem dX6_wastedTrials_4 : decode cX6_wastedTrials 4 = .ok (.aload_n 0, 1) := by decide +kernel
theorem dX6_wastedTrials_5 : decode cX6_wastedTrials 5 = .ok (.invokevirtual 90, 3) := by decide +kernel
theorem dX6_wastedTrials_8 : decode cX6_wastedTrials 8 = .ok (.istore_n 1, 1) := by decide +kernel
theorem dX6_wastedTrials_9 : decode cX6_wastedTrials 9 = .ok (.iconst 0, 1) := by decide +kernel
theorem dX6_wastedTrials_10 : decode cX6_wastedTrials 10 = .ok (.istore_n 2, 1) := by decide +kernel
theorem dX6_wastedTrials_11 : decode cX6_wastedTrials 11 = .ok (.iload_n 2, 1) := by decide +kernel
theorem dX6_wastedTrials_12 : decode cX6_wastedTrials 12 = .ok (.aload_n 0, 1) := by decide +kernel
theorem dX6_wastedTrials_13 : decode cX6_wastedTrials 13 = .ok (.invokevirtual 67, 3) := by decide +kernel
theorem dX6_wastedTrials_16 : decode cX6_wastedTrials 16 = .ok (.if_icmp .ge 54, 3) := by decide +kernel
theorem dX6_wastedTrials_19 : decode cX6_wastedTrials 19 = .ok (.aload_n 0, 1) := by decide +kernel
theorem dX6_wastedTrials_20 : decode cX6_wastedTrials 20 = .ok (.iload_n 2, 1) := by decide +kernel
theorem dX6_wastedTrials_21 : decode cX6_wastedTrials 21 = .ok (.invokevirtual 121, 3) := by decide +kernel
theorem dX6_wastedTrials_24 : decode cX6_wastedTrials 24 = .ok (.aload_n 0, 1) := by decide +kernel
theorem dX6_wastedTrials_25 : decode cX6_wastedTrials 25 = .ok (.invokevirtual 124, 3) := by decide +kernel
theorem dX6_wastedTrials_28 : decode cX6_wastedTrials 28 = .ok (.if_icmp .le 36, 3) := by decide +kernel
theorem dX6_wastedTrials_31 : decode cX6_wastedTrials 31 = .ok (.iconst 0, 1) := by decide +kernel
theorem dX6_wastedTrials_32 : decode cX6_wastedTrials 32 = .ok (.istore_n 3, 1) := by decide +kernel
theorem dX6_wastedTrials_33 : decode cX6_wastedTrials 33 = .ok (.iload_n 3, 1) := by decide +kernel
theorem dX6_wastedTrials_34 : decode cX6_wastedTrials 34 = .ok (.aload_n 0, 1) := by decide +kernel
theorem dX6_wastedTrials_35 : decode cX6_wastedTrials 35 = .ok (.invokevirtual 90, 3) := by decide +kernel
theorem dX6_wastedTrials_38 : decode cX6_wastedTrials 38 = .ok (.if_icmp .ge 26, 3) := by decide +kernel
theorem dX6_wastedTrials_41 : decode cX6_wastedTrials 41 = .ok (.iload_n 1, 1) := by decide +kernel
theorem dX6_wastedTrials_42 : decode cX6_wastedTrials 42 = .ok (.aload_n 0, 1) := by decide +kernel
theorem dX6_wastedTrials_43 : decode cX6_wastedTrials 43 = .ok (.iload_n 2, 1) := by decide +kernel
theorem dX6_wastedTrials_44 : decode cX6_wastedTrials 44 = .ok (.iload_n 3, 1) := by decide +kernel
theorem dX6_wastedTrials_45 : decode cX6_wastedTrials 45 = .ok (.invokevirtual 111, 3) := by decide +kernel
theorem dX6_wastedTrials_48 : decode cX6_wastedTrials 48 = .ok (.ifCond .eq 7, 3) := by decide +kernel
theorem dX6_wastedTrials_51 : decode cX6_wastedTrials 51 = .ok (.iconst 1, 1) := by decide +kernel
theorem dX6_wastedTrials_52 : decode cX6_wastedTrials 52 = .ok (.goto 4, 3) := by decide +kernel
theorem dX6_wastedTrials_55 : decode cX6_wastedTrials 55 = .ok (.iconst 0, 1) := by decide +kernel
theorem dX6_wastedTrials_56 : decode cX6_wastedTrials 56 = .ok (.isub, 1) := by decide +kernel
theorem dX6_wastedTrials_57 : decode cX6_wastedTrials 57 = .ok (.istore_n 1, 1) := by decide +kernel
theorem dX6_wastedTrials_58 : decode cX6_wastedTrials 58 = .ok (.iinc 3 1, 3) := by decide +kernel
theorem dX6_wastedTrials_61 : decode cX6_wastedTrials 61 = .ok (.goto (-28), 3) := by decide +kernel
theorem dX6_wastedTrials_64 : decode cX6_wastedTrials 64 = .ok (.iinc 2 1, 3) := by decide +kernel
theorem dX6_wastedTrials_67 : decode cX6_wastedTrials 67 = .ok (.goto (-56), 3) := by decide +kernel
theorem dX6_wastedTrials_70 : decode cX6_wastedTrials 70 = .ok (.iload_n 1, 1) := by decide +kernel
theorem dX6_wastedTrials_71 : decode cX6_wastedTrials 71 = .ok (.ireturn, 1) := by decide +kernel
set_option maxRecDepth 20000 in
theorem ggX6_isGuaranteed_X6_wrongBits : GoodIn wsX6_isGuaranteed wsX6_wrongBits := goodIn_r _ [7, 2, 8, 9, 10, 11, 12, 6, 13, 14, 15, 16, 21, 22, 23, 24, 25, 26, 27, 28, 29, 30, 31, 32, 33, 34, 35, 36, 37] (by decide +kernel) (by decide +kernel)
set_option maxRecDepth 20000 in
theorem gX6_isGuaranteed_X6_wrongBits : GoodIn wsX6_isGuaranteed (wsV RX6 93 RX6 yX6_wrongBits wsX6_wrongBits) := goodIn_app (goodIn_of _ (by decide +kernel)) ggX6_isGuaranteed_X6_wrongBits
set_option maxRecDepth 20000 in
theorem ggX6_isGuaranteed_X6_ones : GoodIn wsX6_isGuaranteed wsX6_ones := goodIn_r _ [16] (by decide +kernel) (by decide +kernel)
set_option maxRecDepth 20000 in
theorem gX6_isGuaranteed_X6_ones : GoodIn wsX6_isGuaranteed (va_wsS RX6 59 yX6_ones wsX6_ones) := goodIn_app (goodIn_of _ (by decide +kernel)) ggX6_isGuaranteed_X6_ones
set_option maxRecDepth 20000 in
theorem ggX6_isGuaranteed_X6_distance : GoodIn wsX6_isGuaranteed wsX6_distance := goodIn_r _ [20, 2, 21, 22, 23, 24, 25, 26, 27, 28, 29, 30, 31, 32, 33, 34, 35, 36, 37] (by decide +kernel) (by decide +kernel)
set_option maxRecDepth 20000 in
theorem gX6_isGuaranteed_X6_distance : GoodIn wsX6_isGuaranteed (wsV RX6 90 RX6 yX6_distance wsX6_distance) := goodIn_app (goodIn_of _ (by decide +kernel)) ggX6_isGuaranteed_X6_distance
theorem dX6_isGuaranteed_0 : decode cX6_isGuaranteed 0 = .ok (.iconst 2, 1) := by decide +kernel
theorem dX6_isGuaranteed_1 : decode cX6_isGuaranteed 1 = .ok (.aload_n 0, 1) := by decide +kernel
theorem dX6_isGuaranteed_2 : decode cX6_isGuaranteed 2 = .ok (.invokevirtual 93, 3) := by decide +kernel
theorem dX6_isGuaranteed_5 : decode cX6_isGuaranteed 5 = .ok (.imul, 1) := by decide +kernel
theorem dX6_isGuaranteed_6 : decode cX6_isGuaranteed 6 = .ok (.aload_n 0, 1) := by decide +kernel
theorem dX6_isGuaranteed_7 : decode cX6_isGuaranteed 7 = .ok (.getfield 55, 3) := by decide +kernel
theorem dX6_isGuaranteed_10 : decode cX6_isGuaranteed 10 = .ok (.aload_n 0, 1) := by decide +kernel
theorem dX6_isGuaranteed_11 : decode cX6_isGuaranteed 11 = .ok (.getfield 7, 3) := by decide +kernel
theorem dX6_isGuaranteed_14 : decode cX6_isGuaranteed 14 = .ok (.bipush 7, 2) := by decide +kernel
theorem dX6_isGuaranteed_16 : decode cX6_isGuaranteed 16 = .ok (.iaload, 1) := by decide +kernel
theorem dX6_isGuaranteed_17 : decode cX6_isGuaranteed 17 = .ok (.invokestatic 59, 3) := by decide +kernel
theorem dX6_isGuaranteed_20 : decode cX6_isGuaranteed 20 = .ok (.imul, 1) := by decide +kernel
theorem dX6_isGuaranteed_21 : decode cX6_isGuaranteed 21 = .ok (.iadd, 1) := by decide +kernel
theorem dX6_isGuaranteed_22 : decode cX6_isGuaranteed 22 = .ok (.aload_n 0, 1) := by decide +kernel
theorem dX6_isGuaranteed_23 : decode cX6_isGuaranteed 23 = .ok (.getfield 55, 3) := by decide +kernel
theorem dX6_isGuaranteed_26 : decode cX6_isGuaranteed 26 = .ok (.aload_n 0, 1) := by decide +kernel
theorem dX6_isGuaranteed_27 : decode cX6_isGuaranteed 27 = .ok (.invokevirtual 90, 3) := by decide +kernel
theorem dX6_isGuaranteed_30 : decode cX6_isGuaranteed 30 = .ok (.imul, 1) := by decide +kernel
theorem dX6_isGuaranteed_31 : decode cX6_isGuaranteed 31 = .ok (.if_icmp .ge 7, 3) := by decide +kernel
theorem dX6_isGuaranteed_34 : decode cX6_isGuaranteed 34 = .ok (.iconst 1, 1) := by decide +kernel
theorem dX6_isGuaranteed_35 : decode cX6_isGuaranteed 35 = .ok (.goto 4, 3) := by decide +kernel
theorem dX6_isGuaranteed_38 : decode cX6_isGuaranteed 38 = .ok (.iconst 0, 1) := by decide +kernel
theorem dX6_isGuaranteed_39 : decode cX6_isGuaranteed 39 = .ok (.ireturn, 1) := by decide +kernel
set_option maxRecDepth 20000 in
theorem ggX6_isRight_X6_decodes : GoodIn wsX6_isRight wsX6_decodes := goodIn_r _ [7, 1, 8, 9, 10, 11, 6, 12, 2, 13, 14, 15, 16, 17, 18, 19, 20, 21, 22, 23, 24, 25, 26, 27, 28, 29, 30, 31, 32, 33, 34, 35, 36, 37, 38, 39, 40, 41, 42, 43, 44, 45, 46, 47, 48, 49, 50, 51, 52, 53, 54, 55, 56, 57, 58, 59, 60, 61, 62, 63, 64, 65] (by decide +kernel) (by decide +kernel)
set_option maxRecDepth 20000 in
theorem gX6_isRight_X6_decodes : GoodIn wsX6_isRight (wsV RX6 130 RX6 yX6_decodes wsX6_decodes) := goodIn_app (goodIn_of _ (by decide +kernel)) ggX6_isRight_X6_decodes
theorem dX6_isRight_0 : decode cX6_isRight 0 = .ok (.aload_n 0, 1) := by decide +kernel
theorem dX6_isRight_1 : decode cX6_isRight 1 = .ok (.invokevirtual 130, 3) := by decide +kernel
theorem dX6_isRight_4 : decode cX6_isRight 4 = .ok (.aload_n 0, 1) := by decide +kernel
theorem dX6_isRight_5 : decode cX6_isRight 5 = .ok (.getfield 115, 3) := by decide +kernel
theorem dX6_isRight_8 : decode cX6_isRight 8 = .ok (.aload_n 0, 1) := by decide +kernel
theorem dX6_isRight_9 : decode cX6_isRight 9 = .ok (.getfield 7, 3) := by decide +kernel
theorem dX6_isRight_12 : decode cX6_isRight 12 = .ok (.bipush 8, 2) := by decide +kernel
theorem dX6_isRight_14 : decode cX6_isRight 14 = .ok (.iaload, 1) := by decide +kernel
theorem dX6_isRight_15 : decode cX6_isRight 15 = .ok (.if_icmp .ne 7, 3) := by decide +kernel
theorem dX6_isRight_18 : decode cX6_isRight 18 = .ok (.iconst 1, 1) := by decide +kernel
theorem dX6_isRight_19 : decode cX6_isRight 19 = .ok (.goto 4, 3) := by decide +kernel
theorem dX6_isRight_22 : decode cX6_isRight 22 = .ok (.iconst 0, 1) := by decide +kernel
theorem dX6_isRight_23 : decode cX6_isRight 23 = .ok (.ireturn, 1) := by decide +kernel
set_option maxRecDepth 20000 in
theorem ggX6_fragileBits_X6_isLost : GoodIn wsX6_fragileBits wsX6_isLost := goodIn_r _ [6, 1, 53, 54, 55, 56, 57, 58, 59, 60, 61, 62, 63, 64, 65, 66, 67, 68, 69] (by decide +kernel) (by decide +kernel)
set_option maxRecDepth 20000 in
theorem gX6_fragileBits_X6_isLost : GoodIn wsX6_fragileBits (wsV RX6 87 RX6 yX6_isLost wsX6_isLost) := goodIn_app (goodIn_of _ (by decide +kernel)) ggX6_fragileBits_X6_isLost
set_option maxRecDepth 20000 in
theorem ggX6_fragileBits_X6_isRight : GoodIn wsX6_fragileBits wsX6_isRight := goodIn_r _ [10, 11, 1, 12, 13, 14, 5, 15, 16, 17, 18, 19, 20, 21, 22, 23, 24, 25, 26, 27, 2, 3, 4, 6, 28, 29, 30, 31, 32, 33, 34, 35, 36, 37, 38, 39, 40, 41, 42, 43, 44, 45, 46, 47, 48, 49, 50, 51, 52, 53, 54, 55, 56, 57, 58, 59, 60, 61, 62, 63, 64, 65, 66, 67, 68, 69] (by decide +kernel) (by decide +kernel)
set_option maxRecDepth 20000 in
theorem gX6_fragileBits_X6_isRight : GoodIn wsX6_fragileBits (wsV RX6 133 RX6 yX6_isRight wsX6_isRight) := goodIn_app (goodIn_of _ (by decide +kernel)) ggX6_fragileBits_X6_isRight
theorem dX6_fragileBits_0 : decode cX6_fragileBits 0 = .ok (.iconst 0, 1) := by decide +kernel
theorem dX6_fragileBits_1 : decode cX6_fragileBits 1 = .ok (.istore_n 1, 1) := by decide +kernel
theorem dX6_fragileBits_2 : decode cX6_fragileBits 2 = .ok (.iconst 0, 1) := by decide +kernel
theorem dX6_fragileBits_3 : decode cX6_fragileBits 3 = .ok (.istore_n 2, 1) := by decide +kernel
theorem dX6_fragileBits_4 : decode cX6_fragileBits 4 = .ok (.iload_n 2, 1) := by decide +kernel
theorem dX6_fragileBits_5 : decode cX6_fragileBits 5 = .ok (.aload_n 0, 1) := by decide +kernel
theorem dX6_fragileBits_6 : decode cX6_fragileBits 6 = .ok (.getfield 7, 3) := by decide +kernel
theorem dX6_fragileBits_9 : decode cX6_fragileBits 9 = .ok (.iconst 0, 1) := by decide +kernel
theorem dX6_fragileBits_10 : decode cX6_fragileBits 10 = .ok (.iaload, 1) := by decide +kernel
theorem dX6_fragileBits_11 : decode cX6_fragileBits 11 = .ok (.if_icmp .ge 80, 3) := by decide +kernel
theorem dX6_fragileBits_14 : decode cX6_fragileBits 14 = .ok (.iconst 0, 1) := by decide +kernel
theorem dX6_fragileBits_15 : decode cX6_fragileBits 15 = .ok (.istore_n 3, 1) := by decide +kernel
theorem dX6_fragileBits_16 : decode cX6_fragileBits 16 = .ok (.iload_n 3, 1) := by decide +kernel
theorem dX6_fragileBits_17 : decode cX6_fragileBits 17 = .ok (.aload_n 0, 1) := by decide +kernel
theorem dX6_fragileBits_18 : decode cX6_fragileBits 18 = .ok (.getfield 7, 3) := by decide +kernel
theorem dX6_fragileBits_21 : decode cX6_fragileBits 21 = .ok (.iconst 2, 1) := by decide +kernel
theorem dX6_fragileBits_22 : decode cX6_fragileBits 22 = .ok (.iaload, 1) := by decide +kernel
theorem dX6_fragileBits_23 : decode cX6_fragileBits 23 = .ok (.if_icmp .ge 62, 3) := by decide +kernel
theorem dX6_fragileBits_26 : decode cX6_fragileBits 26 = .ok (.aload_n 0, 1) := by decide +kernel
theorem dX6_fragileBits_27 : decode cX6_fragileBits 27 = .ok (.iload_n 2, 1) := by decide +kernel
theorem dX6_fragileBits_28 : decode cX6_fragileBits 28 = .ok (.invokevirtual 87, 3) := by decide +kernel
theorem dX6_fragileBits_31 : decode cX6_fragileBits 31 = .ok (.ifCond .ne 54, 3) := by decide +kernel
theorem dX6_fragileBits_34 : decode cX6_fragileBits 34 = .ok (.aload_n 0, 1) := by decide +kernel
theorem dX6_fragileBits_35 : decode cX6_fragileBits 35 = .ok (.getfield 7, 3) := by decide +kernel
theorem dX6_fragileBits_38 : decode cX6_fragileBits 38 = .ok (.bipush 9, 2) := by decide +kernel
theorem dX6_fragileBits_40 : decode cX6_fragileBits 40 = .ok (.iload_n 2, 1) := by decide +kernel
theorem dX6_fragileBits_41 : decode cX6_fragileBits 41 = .ok (.iadd, 1) := by decide +kernel
theorem dX6_fragileBits_42 : decode cX6_fragileBits 42 = .ok (.dup2, 1) := by decide +kernel
theorem dX6_fragileBits_43 : decode cX6_fragileBits 43 = .ok (.iaload, 1) := by decide +kernel
theorem dX6_fragileBits_44 : decode cX6_fragileBits 44 = .ok (.iconst 1, 1) := by decide +kernel
theorem dX6_fragileBits_45 : decode cX6_fragileBits 45 = .ok (.iload_n 3, 1) := by decide +kernel
theorem dX6_fragileBits_46 : decode cX6_fragileBits 46 = .ok (.ishl, 1) := by decide +kernel
theorem dX6_fragileBits_47 : decode cX6_fragileBits 47 = .ok (.ixor, 1) := by decide +kernel
theorem dX6_fragileBits_48 : decode cX6_fragileBits 48 = .ok (.iastore, 1) := by decide +kernel
theorem dX6_fragileBits_49 : decode cX6_fragileBits 49 = .ok (.iload_n 1, 1) := by decide +kernel
theorem dX6_fragileBits_50 : decode cX6_fragileBits 50 = .ok (.aload_n 0, 1) := by decide +kernel
theorem dX6_fragileBits_51 : decode cX6_fragileBits 51 = .ok (.invokevirtual 133, 3) := by decide +kernel
theorem dX6_fragileBits_54 : decode cX6_fragileBits 54 = .ok (.ifCond .eq 7, 3) := by decide +kernel
theorem dX6_fragileBits_57 : decode cX6_fragileBits 57 = .ok (.iconst 0, 1) := by decide +kernel
theorem dX6_fragileBits_58 : decode cX6_fragileBits 58 = .ok (.goto 4, 3) := by decide +kernel
theorem dX6_fragileBits_61 : decode cX6_fragileBits 61 = .ok (.iconst 1, 1) := by decide +kernel
theorem dX6_fragileBits_62 : decode cX6_fragileBits 62 = .ok (.iadd, 1) := by decide +kernel
theorem dX6_fragileBits_63 : decode cX6_fragileBits 63 = .ok (.istore_n 1, 1) := by decide +kernel
theorem dX6_fragileBits_64 : decode cX6_fragileBits 64 = .ok (.aload_n 0, 1) := by decide +kernel
theorem dX6_fragileBits_65 : decode cX6_fragileBits 65 = .ok (.getfield 7, 3) := by decide +kernel
theorem dX6_fragileBits_68 : decode cX6_fragileBits 68 = .ok (.bipush 9, 2) := by decide +kernel
theorem dX6_fragileBits_70 : decode cX6_fragileBits 70 = .ok (.iload_n 2, 1) := by decide +kernel
theorem dX6_fragileBits_71 : decode cX6_fragileBits 71 = .ok (.iadd, 1) := by decide +kernel
theorem dX6_fragileBits_72 : decode cX6_fragileBits 72 = .ok (.dup2, 1) := by decide +kernel
theorem dX6_fragileBits_73 : decode cX6_fragileBits 73 = .ok (.iaload, 1) := by decide +kernel
theorem dX6_fragileBits_74 : decode cX6_fragileBits 74 = .ok (.iconst 1, 1) := by decide +kernel
theorem dX6_fragileBits_75 : decode cX6_fragileBits 75 = .ok (.iload_n 3, 1) := by decide +kernel
theorem dX6_fragileBits_76 : decode cX6_fragileBits 76 = .ok (.ishl, 1) := by decide +kernel
theorem dX6_fragileBits_77 : decode cX6_fragileBits 77 = .ok (.ixor, 1) := by decide +kernel
theorem dX6_fragileBits_78 : decode cX6_fragileBits 78 = .ok (.iastore, 1) := by decide +kernel
theorem dX6_fragileBits_79 : decode cX6_fragileBits 79 = .ok (.iinc 3 1, 3) := by decide +kernel
theorem dX6_fragileBits_82 : decode cX6_fragileBits 82 = .ok (.goto (-66), 3) := by decide +kernel
theorem dX6_fragileBits_85 : decode cX6_fragileBits 85 = .ok (.iinc 2 1, 3) := by decide +kernel
theorem dX6_fragileBits_88 : decode cX6_fragileBits 88 = .ok (.goto (-84), 3) := by decide +kernel
theorem dX6_fragileBits_91 : decode cX6_fragileBits 91 = .ok (.iload_n 1, 1) := by decide +kernel
theorem dX6_fragileBits_92 : decode cX6_fragileBits 92 = .ok (.ireturn, 1) := by decide +kernel
set_option maxRecDepth 20000 in
theorem ggX6_fragileBlocks_X6_isRight : GoodIn wsX6_fragileBlocks wsX6_isRight := goodIn_r _ [6, 7, 1, 8, 9, 10, 5, 11, 12, 13, 14, 15, 16, 17, 18, 19, 20, 21, 22, 23, 24, 25, 26, 27, 28, 29, 30, 31, 32, 33, 34, 35, 36, 37, 38, 39, 40, 41, 42, 43, 44, 45, 46, 47, 48, 49, 50, 51, 52, 53, 54, 55, 56, 57, 58, 59, 60, 61, 62, 63, 64, 65, 66, 67, 68, 69] (by decide +kernel) (by decide +kernel)
set_option maxRecDepth 20000 in
theorem gX6_fragileBlocks_X6_isRight : GoodIn wsX6_fragileBlocks (wsV RX6 133 RX6 yX6_isRight wsX6_isRight) := goodIn_app (goodIn_of _ (by decide +kernel)) ggX6_fragileBlocks_X6_isRight
theorem dX6_fragileBlocks_0 : decode cX6_fragileBlocks 0 = .ok (.iconst 0, 1) := by decide +kernel
theorem dX6_fragileBlocks_1 : decode cX6_fragileBlocks 1 = .ok (.istore_n 1, 1) := by decide +kernel
theorem dX6_fragileBlocks_2 : decode cX6_fragileBlocks 2 = .ok (.aload_n 0, 1) := by decide +kernel
theorem dX6_fragileBlocks_3 : decode cX6_fragileBlocks 3 = .ok (.getfield 7, 3) := by decide +kernel
theorem dX6_fragileBlocks_6 : decode cX6_fragileBlocks 6 = .ok (.bipush 7, 2) := by decide +kernel
theorem dX6_fragileBlocks_8 : decode cX6_fragileBlocks 8 = .ok (.iaload, 1) := by decide +kernel
theorem dX6_fragileBlocks_9 : decode cX6_fragileBlocks 9 = .ok (.istore_n 2, 1) := by decide +kernel
theorem dX6_fragileBlocks_10 : decode cX6_fragileBlocks 10 = .ok (.iconst 0, 1) := by decide +kernel
theorem dX6_fragileBlocks_11 : decode cX6_fragileBlocks 11 = .ok (.istore_n 3, 1) := by decide +kernel
theorem dX6_fragileBlocks_12 : decode cX6_fragileBlocks 12 = .ok (.iload_n 3, 1) := by decide +kernel
theorem dX6_fragileBlocks_13 : decode cX6_fragileBlocks 13 = .ok (.aload_n 0, 1) := by decide +kernel
theorem dX6_fragileBlocks_14 : decode cX6_fragileBlocks 14 = .ok (.getfield 7, 3) := by decide +kernel
theorem dX6_fragileBlocks_17 : decode cX6_fragileBlocks 17 = .ok (.iconst 0, 1) := by decide +kernel
theorem dX6_fragileBlocks_18 : decode cX6_fragileBlocks 18 = .ok (.iaload, 1) := by decide +kernel
theorem dX6_fragileBlocks_19 : decode cX6_fragileBlocks 19 = .ok (.if_icmp .ge 36, 3) := by decide +kernel
theorem dX6_fragileBlocks_22 : decode cX6_fragileBlocks 22 = .ok (.aload_n 0, 1) := by decide +kernel
theorem dX6_fragileBlocks_23 : decode cX6_fragileBlocks 23 = .ok (.getfield 7, 3) := by decide +kernel
theorem dX6_fragileBlocks_26 : decode cX6_fragileBlocks 26 = .ok (.bipush 7, 2) := by decide +kernel
theorem dX6_fragileBlocks_28 : decode cX6_fragileBlocks 28 = .ok (.iload_n 2, 1) := by decide +kernel
theorem dX6_fragileBlocks_29 : decode cX6_fragileBlocks 29 = .ok (.iconst 1, 1) := by decide +kernel
theorem dX6_fragileBlocks_30 : decode cX6_fragileBlocks 30 = .ok (.iload_n 3, 1) := by decide +kernel
theorem dX6_fragileBlocks_31 : decode cX6_fragileBlocks 31 = .ok (.ishl, 1) := by decide +kernel
theorem dX6_fragileBlocks_32 : decode cX6_fragileBlocks 32 = .ok (.ior, 1) := by decide +kernel
theorem dX6_fragileBlocks_33 : decode cX6_fragileBlocks 33 = .ok (.iastore, 1) := by decide +kernel
theorem dX6_fragileBlocks_34 : decode cX6_fragileBlocks 34 = .ok (.iload_n 1, 1) := by decide +kernel
theorem dX6_fragileBlocks_35 : decode cX6_fragileBlocks 35 = .ok (.aload_n 0, 1) := by decide +kernel
theorem dX6_fragileBlocks_36 : decode cX6_fragileBlocks 36 = .ok (.invokevirtual 133, 3) := by decide +kernel
theorem dX6_fragileBlocks_39 : decode cX6_fragileBlocks 39 = .ok (.ifCond .eq 7, 3) := by decide +kernel
theorem dX6_fragileBlocks_42 : decode cX6_fragileBlocks 42 = .ok (.iconst 0, 1) := by decide +kernel
theorem dX6_fragileBlocks_43 : decode cX6_fragileBlocks 43 = .ok (.goto 4, 3) := by decide +kernel
theorem dX6_fragileBlocks_46 : decode cX6_fragileBlocks 46 = .ok (.iconst 1, 1) := by decide +kernel
theorem dX6_fragileBlocks_47 : decode cX6_fragileBlocks 47 = .ok (.iadd, 1) := by decide +kernel
theorem dX6_fragileBlocks_48 : decode cX6_fragileBlocks 48 = .ok (.istore_n 1, 1) := by decide +kernel
theorem dX6_fragileBlocks_49 : decode cX6_fragileBlocks 49 = .ok (.iinc 3 1, 3) := by decide +kernel
theorem dX6_fragileBlocks_52 : decode cX6_fragileBlocks 52 = .ok (.goto (-40), 3) := by decide +kernel
theorem dX6_fragileBlocks_55 : decode cX6_fragileBlocks 55 = .ok (.aload_n 0, 1) := by decide +kernel
theorem dX6_fragileBlocks_56 : decode cX6_fragileBlocks 56 = .ok (.getfield 7, 3) := by decide +kernel
theorem dX6_fragileBlocks_59 : decode cX6_fragileBlocks 59 = .ok (.bipush 7, 2) := by decide +kernel
theorem dX6_fragileBlocks_61 : decode cX6_fragileBlocks 61 = .ok (.iload_n 2, 1) := by decide +kernel
theorem dX6_fragileBlocks_62 : decode cX6_fragileBlocks 62 = .ok (.iastore, 1) := by decide +kernel
theorem dX6_fragileBlocks_63 : decode cX6_fragileBlocks 63 = .ok (.iload_n 1, 1) := by decide +kernel
theorem dX6_fragileBlocks_64 : decode cX6_fragileBlocks 64 = .ok (.ireturn, 1) := by decide +kernel
set_option maxRecDepth 20000 in
theorem ggX6_nearest_X6_in : GoodIn wsX6_nearest wsX6_in := goodIn_r _ [7] (by decide +kernel) (by decide +kernel)
set_option maxRecDepth 20000 in
theorem gX6_nearest_X6_in : GoodIn wsX6_nearest (va_wsS RX6 63 yX6_in wsX6_in) := goodIn_app (goodIn_of _ (by decide +kernel)) ggX6_nearest_X6_in
set_option maxRecDepth 20000 in
theorem ggX6_nearest_X6_decodes : GoodIn wsX6_nearest wsX6_decodes := goodIn_r _ [11, 1, 12, 13, 14, 15, 6, 16, 2, 17, 18, 19, 20, 21, 22, 23, 24, 25, 26, 27, 28, 29, 30, 31, 32, 33, 34, 35, 3, 36, 37, 38, 39, 40, 41, 42, 43, 44, 45, 46, 47, 48, 49, 50, 51, 52, 53, 54, 55, 56, 57, 58, 59, 60, 61, 62, 63, 64, 65, 66, 67, 68] (by decide +kernel) (by decide +kernel)
set_option maxRecDepth 20000 in
theorem gX6_nearest_X6_decodes : GoodIn wsX6_nearest (wsV RX6 130 RX6 yX6_decodes wsX6_decodes) := goodIn_app (goodIn_of _ (by decide +kernel)) ggX6_nearest_X6_decodes
set_option maxRecDepth 20000 in
theorem ggX6_nearest_X6_messages : GoodIn wsX6_nearest wsX6_messages := goodIn_r _ [31, 2, 52, 53, 54, 55, 56, 57, 58, 59, 60, 61, 62, 63, 64, 65, 66, 67, 68] (by decide +kernel) (by decide +kernel)
set_option maxRecDepth 20000 in
theorem gX6_nearest_X6_messages : GoodIn wsX6_nearest (wsV RX6 67 RX6 yX6_messages wsX6_messages) := goodIn_app (goodIn_of _ (by decide +kernel)) ggX6_nearest_X6_messages
theorem dX6_nearest_0 : decode cX6_nearest 0 = .ok (.iload_n 1, 1) := by decide +kernel
theorem dX6_nearest_1 : decode cX6_nearest 1 = .ok (.iconst 0, 1) := by decide +kernel
theorem dX6_nearest_2 : decode cX6_nearest 2 = .ok (.iconst 1, 1) := by decide +kernel
theorem dX6_nearest_3 : decode cX6_nearest 3 = .ok (.invokestatic 63, 3) := by decide +kernel
theorem dX6_nearest_6 : decode cX6_nearest 6 = .ok (.ifCond .ne 7, 3) := by decide +kernel
theorem dX6_nearest_9 : decode cX6_nearest 9 = .ok (.sipush (-1001), 3) := by decide +kernel
theorem dX6_nearest_12 : decode cX6_nearest 12 = .ok (.ireturn, 1) := by decide +kernel
theorem dX6_nearest_13 : decode cX6_nearest 13 = .ok (.aload_n 0, 1) := by decide +kernel
theorem dX6_nearest_14 : decode cX6_nearest 14 = .ok (.invokevirtual 130, 3) := by decide +kernel
theorem dX6_nearest_17 : decode cX6_nearest 17 = .ok (.aload_n 0, 1) := by decide +kernel
theorem dX6_nearest_18 : decode cX6_nearest 18 = .ok (.getfield 115, 3) := by decide +kernel
theorem dX6_nearest_21 : decode cX6_nearest 21 = .ok (.ifCond .ge 7, 3) := by decide +kernel
theorem dX6_nearest_24 : decode cX6_nearest 24 = .ok (.sipush (-1004), 3) := by decide +kernel
theorem dX6_nearest_27 : decode cX6_nearest 27 = .ok (.ireturn, 1) := by decide +kernel
theorem dX6_nearest_28 : decode cX6_nearest 28 = .ok (.bipush 99, 2) := by decide +kernel
theorem dX6_nearest_30 : decode cX6_nearest 30 = .ok (.istore_n 2, 1) := by decide +kernel
theorem dX6_nearest_31 : decode cX6_nearest 31 = .ok (.iconst 0, 1) := by decide +kernel
theorem dX6_nearest_32 : decode cX6_nearest 32 = .ok (.istore_n 3, 1) := by decide +kernel
theorem dX6_nearest_33 : decode cX6_nearest 33 = .ok (.iconst 0, 1) := by decide +kernel
theorem dX6_nearest_34 : decode cX6_nearest 34 = .ok (.istore 4, 2) := by decide +kernel
theorem dX6_nearest_36 : decode cX6_nearest 36 = .ok (.iload 4, 2) := by decide +kernel
theorem dX6_nearest_38 : decode cX6_nearest 38 = .ok (.aload_n 0, 1) := by decide +kernel
theorem dX6_nearest_39 : decode cX6_nearest 39 = .ok (.invokevirtual 67, 3) := by decide +kernel
theorem dX6_nearest_42 : decode cX6_nearest 42 = .ok (.if_icmp .ge 94, 3) := by decide +kernel
theorem dX6_nearest_45 : decode cX6_nearest 45 = .ok (.iconst 0, 1) := by decide +kernel
theorem dX6_nearest_46 : decode cX6_nearest 46 = .ok (.istore 5, 2) := by decide +kernel
theorem dX6_nearest_48 : decode cX6_nearest 48 = .ok (.iconst 0, 1) := by decide +kernel
theorem dX6_nearest_49 : decode cX6_nearest 49 = .ok (.istore 6, 2) := by decide +kernel
theorem dX6_nearest_51 : decode cX6_nearest 51 = .ok (.iload 6, 2) := by decide +kernel
theorem dX6_nearest_53 : decode cX6_nearest 53 = .ok (.aload_n 0, 1) := by decide +kernel
theorem dX6_nearest_54 : decode cX6_nearest 54 = .ok (.getfield 7, 3) := by decide +kernel
theorem dX6_nearest_57 : decode cX6_nearest 57 = .ok (.iconst 0, 1) := by decide +kernel
theorem dX6_nearest_58 : decode cX6_nearest 58 = .ok (.iaload, 1) := by decide +kernel
theorem dX6_nearest_59 : decode cX6_nearest 59 = .ok (.if_icmp .ge 50, 3) := by decide +kernel
theorem dX6_nearest_62 : decode cX6_nearest 62 = .ok (.iload 5, 2) := by decide +kernel
theorem dX6_nearest_64 : decode cX6_nearest 64 = .ok (.aload_n 0, 1) := by decide +kernel
theorem dX6_nearest_65 : decode cX6_nearest 65 = .ok (.getfield 23, 3) := by decide +kernel
theorem dX6_nearest_68 : decode cX6_nearest 68 = .ok (.bipush 12, 2) := by decide +kernel
theorem dX6_nearest_70 : decode cX6_nearest 70 = .ok (.iload 4, 2) := by decide +kernel
theorem dX6_nearest_72 : decode cX6_nearest 72 = .ok (.imul, 1) := by decide +kernel
theorem dX6_nearest_73 : decode cX6_nearest 73 = .ok (.iload 6, 2) := by decide +kernel
theorem dX6_nearest_75 : decode cX6_nearest 75 = .ok (.iadd, 1) := by decide +kernel
theorem dX6_nearest_76 : decode cX6_nearest 76 = .ok (.baload, 1) := by decide +kernel
theorem dX6_nearest_77 : decode cX6_nearest 77 = .ok (.aload_n 0, 1) := by decide +kernel
theorem dX6_nearest_78 : decode cX6_nearest 78 = .ok (.getfield 23, 3) := by decide +kernel
theorem dX6_nearest_81 : decode cX6_nearest 81 = .ok (.bipush 12, 2) := by decide +kernel
theorem dX6_nearest_83 : decode cX6_nearest 83 = .ok (.aload_n 0, 1) := by decide +kernel
theorem dX6_nearest_84 : decode cX6_nearest 84 = .ok (.getfield 115, 3) := by decide +kernel
theorem dX6_nearest_87 : decode cX6_nearest 87 = .ok (.imul, 1) := by decide +kernel
theorem dX6_nearest_88 : decode cX6_nearest 88 = .ok (.iload 6, 2) := by decide +kernel
theorem dX6_nearest_90 : decode cX6_nearest 90 = .ok (.iadd, 1) := by decide +kernel
theorem dX6_nearest_91 : decode cX6_nearest 91 = .ok (.baload, 1) := by decide +kernel
theorem dX6_nearest_92 : decode cX6_nearest 92 = .ok (.if_icmp .ne 7, 3) := by decide +kernel
theorem dX6_nearest_95 : decode cX6_nearest 95 = .ok (.iconst 0, 1) := by decide +kernel
theorem dX6_nearest_96 : decode cX6_nearest 96 = .ok (.goto 4, 3) := by decide +kernel
theorem dX6_nearest_99 : decode cX6_nearest 99 = .ok (.iconst 1, 1) := by decide +kernel
theorem dX6_nearest_100 : decode cX6_nearest 100 = .ok (.iadd, 1) := by decide +kernel
theorem dX6_nearest_101 : decode cX6_nearest 101 = .ok (.istore 5, 2) := by decide +kernel
theorem dX6_nearest_103 : decode cX6_nearest 103 = .ok (.iinc 6 1, 3) := by decide +kernel
theorem dX6_nearest_106 : decode cX6_nearest 106 = .ok (.goto (-55), 3) := by decide +kernel
theorem dX6_nearest_109 : decode cX6_nearest 109 = .ok (.iload 4, 2) := by decide +kernel
theorem dX6_nearest_111 : decode cX6_nearest 111 = .ok (.aload_n 0, 1) := by decide +kernel
theorem dX6_nearest_112 : decode cX6_nearest 112 = .ok (.getfield 115, 3) := by decide +kernel
theorem dX6_nearest_115 : decode cX6_nearest 115 = .ok (.if_icmp .eq 15, 3) := by decide +kernel
theorem dX6_nearest_118 : decode cX6_nearest 118 = .ok (.iload 5, 2) := by decide +kernel
theorem dX6_nearest_120 : decode cX6_nearest 120 = .ok (.iload_n 2, 1) := by decide +kernel
theorem dX6_nearest_121 : decode cX6_nearest 121 = .ok (.if_icmp .ge 9, 3) := by decide +kernel
theorem dX6_nearest_124 : decode cX6_nearest 124 = .ok (.iload 5, 2) := by decide +kernel
theorem dX6_nearest_126 : decode cX6_nearest 126 = .ok (.istore_n 2, 1) := by decide +kernel
theorem dX6_nearest_127 : decode cX6_nearest 127 = .ok (.iload 4, 2) := by decide +kernel
theorem dX6_nearest_129 : decode cX6_nearest 129 = .ok (.istore_n 3, 1) := by decide +kernel
theorem dX6_nearest_130 : decode cX6_nearest 130 = .ok (.iinc 4 1, 3) := by decide +kernel
theorem dX6_nearest_133 : decode cX6_nearest 133 = .ok (.goto (-97), 3) := by decide +kernel
theorem dX6_nearest_136 : decode cX6_nearest 136 = .ok (.iload_n 1, 1) := by decide +kernel
theorem dX6_nearest_137 : decode cX6_nearest 137 = .ok (.ifCond .ne 7, 3) := by decide +kernel
theorem dX6_nearest_140 : decode cX6_nearest 140 = .ok (.iload_n 2, 1) := by decide +kernel
theorem dX6_nearest_141 : decode cX6_nearest 141 = .ok (.goto 4, 3) := by decide +kernel
theorem dX6_nearest_144 : decode cX6_nearest 144 = .ok (.iload_n 3, 1) := by decide +kernel
theorem dX6_nearest_145 : decode cX6_nearest 145 = .ok (.ireturn, 1) := by decide +kernel
end
section
/-! numbers of ones -/
def popc (x : Nat) : Nat := x % 2 + x / 2 % 2 + x / 4 % 2 + x / 8 % 2 + x / 16 % 2 + x / 32 % 2 + x / 64 % 2 + x / 128 % 2 + x / 256 % 2 + x / 512 % 2 + x / 1024 % 2 + x / 2048 % 2
theorem popc_le (x : Nat) : popc x ≤ 12 := by unfold popc; omega
theorem popc_0 : popc 0 = 0 := by decide
def zswar (x : Nat) : Nat :=
  let v1 := x - (x / 2 ^ 1 &&& 1431655765)
  let v2 := (v1 &&& 858993459) + (v1 / 2 ^ 2 &&& 858993459)
  let v3 := (v2 + v2 / 2 ^ 4) &&& 252645135
  let v4 := v3 + v3 / 2 ^ 8
  let v5 := v4 + v4 / 2 ^ 16
  v5 &&& 63
theorem zswar_ok : ∀ x, x < 4096 → zswar x = popc x := by
  have h : (List.range 4096).all (fun x => zswar x == popc x) = true := by decide +kernel
  intro x hx
  have := List.all_eq_true.mp h x (List.mem_range.mpr hx)
  exact eq_of_beq this
theorem popc_step : ∀ v, v < 4096 → v ≠ 0 → popc (v &&& (v - 1)) + 1 = popc v := by
  have h : (List.range 4096).all (fun v => v == 0 || popc (v &&& (v - 1)) + 1 == popc v) = true := by decide +kernel
  intro v hv h0
  have h1 := List.all_eq_true.mp h v (List.mem_range.mpr hv)
  simp only [Bool.or_eq_true, beq_iff_eq] at h1
  exact h1.resolve_left h0
theorem xor_lt {a b : Nat} (n : Nat) (ha : a < 2 ^ n) (hb : b < 2 ^ n) : a ^^^ b < 2 ^ n := Nat.xor_lt_two_pow ha hb
theorem xor_1024 {a b : Nat} (ha : a < 1024) (hb : b < 1024) : a ^^^ b < 1024 := Nat.xor_lt_two_pow (n := 10) ha hb
/-! the field of 16 numbers: the product, as the class makes it and as the reference does -/
def fpS (a b : Nat) : Nat → Nat × Nat
  | 0 => (0, a)
  | i + 1 => (if b / 2 ^ i % 2 = 1 then (fpS a b i).1 ^^^ (fpS a b i).2 else (fpS a b i).1, if 16 ≤ (fpS a b i).2 * 2 then (fpS a b i).2 * 2 ^^^ 19 else (fpS a b i).2 * 2)
def gmul (a b : Nat) : Nat := (fpS a b 4).1
def mlA (a b : Nat) : Nat → Nat
  | 0 => 0
  | i + 1 => mlA a b i ^^^ (if b / 2 ^ i % 2 = 1 then a * 2 ^ i else 0)
/-- what is left when the bits from 6 down to 7 - i are gone -/
def mlB (x : Nat) : Nat → Nat
  | 0 => x
  | i + 1 => mlB x i ^^^ (if mlB x i / 2 ^ (6 - i) % 2 = 1 then 19 * 2 ^ (2 - i) else 0)
def all16 (p : Nat → Nat → Bool) : Bool := (List.range 16).all (fun a => (List.range 16).all (fun b => p a b))
theorem all16_ok {p : Nat → Nat → Bool} (h : all16 p = true) {a b : Nat} (ha : a < 16) (hb : b < 16) : p a b = true := List.all_eq_true.mp (List.all_eq_true.mp h a (List.mem_range.mpr ha)) b (List.mem_range.mpr hb)
theorem fpS_lt {a b i : Nat} (ha : a < 16) (hb : b < 16) (hi : i ≤ 4) : (fpS a b i).1 < 16 ∧ (fpS a b i).2 < 16 := by
  have h : all16 (fun a b => (List.range 5).all (fun i => decide ((fpS a b i).1 < 16 ∧ (fpS a b i).2 < 16))) = true := by decide +kernel
  exact of_decide_eq_true (List.all_eq_true.mp (all16_ok h ha hb) i (List.mem_range.mpr (by omega)))
theorem gmul_lt {a b : Nat} (ha : a < 16) (hb : b < 16) : gmul a b < 16 := (fpS_lt ha hb (Nat.le_refl 4)).1
theorem mlA_lt {a b i : Nat} (ha : a < 16) (hb : b < 16) (hi : i ≤ 4) : mlA a b i < 128 := by
  have h : all16 (fun a b => (List.range 5).all (fun i => decide (mlA a b i < 128))) = true := by decide +kernel
  exact of_decide_eq_true (List.all_eq_true.mp (all16_ok h ha hb) i (List.mem_range.mpr (by omega)))
theorem mlB_lt {x i : Nat} (hx : x < 128) (hi : i ≤ 3) : mlB x i < 128 := by
  have h : (List.range 128).all (fun x => (List.range 4).all (fun i => decide (mlB x i < 128))) = true := by decide +kernel
  exact of_decide_eq_true (List.all_eq_true.mp (List.all_eq_true.mp h x (List.mem_range.mpr hx)) i (List.mem_range.mpr (by omega)))
theorem ml_ok {a b : Nat} (ha : a < 16) (hb : b < 16) : mlB (mlA a b 4) 3 = gmul a b := by
  have h : all16 (fun a b => mlB (mlA a b 4) 3 == gmul a b) = true := by decide +kernel
  exact eq_of_beq (all16_ok h ha hb)
theorem gmul_sq {a b : Nat} (ha : a < 16) (hb : b < 16) : gmul a (gmul b b) = gmul (gmul a b) b := by
  have h : all16 (fun a b => gmul a (gmul b b) == gmul (gmul a b) b) = true := by decide +kernel
  exact eq_of_beq (all16_ok h ha hb)
/-- what a mask says of place j -/
def zL (L j : Nat) : Nat := L / 2 ^ j % 2
/-- the generators of a state -/
def zg (σ : Nat → Nat) (j : Nat) : Nat := if j < 4 then σ (3 + j) else 0
theorem znand1 (a : Nat) : nI a &&& nI 1 = nI (a % 2) := by rw [nx_and, Nat.and_one_is_mod]
theorem zland1 (a : Nat) : lN a &&& lN 1 = lN (a % 2) := by rw [fb_andL, Nat.and_one_is_mod]
theorem zand15 (a : Nat) : nI a &&& nI 15 = nI (a % 16) := by rw [nx_and, show (15 : Nat) = 2 ^ 4 - 1 from rfl, Nat.and_two_pow_sub_one_eq_mod]
/-- the first i numbers of f, then those of g -/
def zmx (i : Nat) (f g : Nat → Nat) : Nat → Nat := fun j => if j < i then f j else g j
theorem zmx_0 (f g : Nat → Nat) : zmx 0 f g = g := funext fun j => if_neg (Nat.not_lt_zero j)
theorem zmx_in {i j : Nat} (f g : Nat → Nat) (h : j < i) : zmx i f g j = f j := if_pos h
theorem zmx_out {i j : Nat} (f g : Nat → Nat) (h : i ≤ j) : zmx i f g j = g j := if_neg (by omega)
theorem zmx_up (i : Nat) (f g : Nat → Nat) : va_up (zmx i f g) i (f i) = zmx (i + 1) f g := by
  funext j
  unfold va_up zmx
  by_cases h : j = i
  · subst h; rw [if_pos rfl, if_pos (by omega)]
  · rw [if_neg h]
    by_cases c : j < i
    · rw [if_pos c, if_pos (by omega)]
    · rw [if_neg c, if_neg (by omega)]
/-! the words of the inner code -/
def gw (g : Nat → Nat) (s : Nat) : Nat → Nat
  | 0 => 0
  | i + 1 => gw g s i ^^^ (if s / 2 ^ i % 2 = 1 then g i else 0)
theorem gw_lt {g : Nat → Nat} {s : Nat} (n : Nat) : ∀ {i : Nat}, (∀ j, j < i → g j < 2 ^ n) → gw g s i < 2 ^ n
  | 0, _ => Nat.two_pow_pos n
  | i + 1, h => by
    refine Nat.xor_lt_two_pow (gw_lt n (fun j hj => h j (by omega))) ?_
    by_cases c : s / 2 ^ i % 2 = 1
    · rw [if_pos c]; exact h i (by omega)
    · rw [if_neg c]; exact Nat.two_pow_pos n
theorem gw_cong {g g2 : Nat → Nat} {s : Nat} : ∀ {i : Nat}, (∀ j, j < i → g j = g2 j) → gw g s i = gw g2 s i
  | 0, _ => rfl
  | i + 1, h => by
    show gw g s i ^^^ _ = gw g2 s i ^^^ _
    rw [gw_cong (fun j hj => h j (by omega)), h i (by omega)]
/-- the word of a symbol -/
def wdS (σ : Nat → Nat) (s : Nat) : Nat := gw (zg σ) s 4
/-- the least number of ones in a word of the symbols 1 to i - 1, c where there is none below c -/
def dmin (W : Nat → Nat) (c : Nat) : Nat → Nat
  | 0 => c
  | i + 1 => if i = 0 then c else min (dmin W c i) (popc (W i))
def ddS (σ : Nat → Nat) : Nat := dmin (wdS σ) 10 16
/-- the lowest symbol below i + 1 whose word is the closest to w -/
def sym (W : Nat → Nat) (w : Nat) : Nat → Nat
  | 0 => 0
  | i + 1 => if popc (w ^^^ W (i + 1)) < popc (w ^^^ W (sym W w i)) then i + 1 else sym W w i
theorem sym_le (W : Nat → Nat) (w : Nat) : ∀ i, sym W w i ≤ i
  | 0 => Nat.le_refl 0
  | i + 1 => by
    have h := sym_le W w i
    unfold sym
    by_cases c : popc (w ^^^ W (i + 1)) < popc (w ^^^ W (sym W w i))
    · rw [if_pos c]; exact Nat.le_refl _
    · rw [if_neg c]; omega
def syS (σ : Nat → Nat) (w : Nat) : Nat := sym (wdS σ) w 15
def gpS (σ : Nat → Nat) (w : Nat) : Nat := popc (w ^^^ wdS σ (syS σ w))
/-! twelve numbers below 16 in one -/
def pak (f : Nat → Nat) : Nat → Nat
  | 0 => 0
  | b + 1 => pak f b ||| f b * 2 ^ (4 * b)
theorem pak_lt {f : Nat → Nat} : ∀ {b : Nat}, (∀ j, j < b → f j < 16) → pak f b < 2 ^ (4 * b)
  | 0, _ => Nat.zero_lt_one
  | b + 1, h => by
    have h1 : pak f b < 2 ^ (4 * b) := pak_lt (fun j hj => h j (by omega))
    have e : 2 ^ (4 * (b + 1)) = 16 * 2 ^ (4 * b) := by rw [show 4 * (b + 1) = 4 * b + 4 from by omega, Nat.pow_add]; omega
    have h2 : f b * 2 ^ (4 * b) < 2 ^ (4 * (b + 1)) := by
      rw [e]; exact Nat.mul_lt_mul_of_pos_right (h b (by omega)) (Nat.two_pow_pos _)
    exact Nat.or_lt_two_pow (Nat.lt_of_lt_of_le h1 (Nat.pow_le_pow_right (by decide) (by omega))) h2
theorem pak_bit {f : Nat → Nat} : ∀ {b : Nat}, (∀ j, j < b → f j < 16) → ∀ i, (pak f b).testBit i = (decide (i < 4 * b) && (f (i / 4)).testBit (i % 4))
  | 0, _, i => by simp [pak]
  | b + 1, h, i => by
    have h1 := pak_bit (f := f) (b := b) (fun j hj => h j (by omega)) i
    show (pak f b ||| f b * 2 ^ (4 * b)).testBit i = _
    rw [Nat.testBit_or, h1, Nat.testBit_mul_two_pow]
    by_cases c1 : i < 4 * b
    · have c2 : ¬ 4 * b ≤ i := by omega
      have c3 : i < 4 * (b + 1) := by omega
      simp [c1, c2, c3]
    · by_cases c3 : i < 4 * (b + 1)
      · have c2 : 4 * b ≤ i := by omega
        have e1 : i / 4 = b := by omega
        have e2 : i % 4 = i - 4 * b := by omega
        simp [c1, c2, c3, e1, e2]
      · have c2 : 4 * b ≤ i := by omega
        have e0 : (f b).testBit (i - 4 * b) = false := Nat.testBit_lt_two_pow (Nat.lt_of_lt_of_le (h b (by omega)) (show 2 ^ 4 ≤ 2 ^ (i - 4 * b) from Nat.pow_le_pow_right (by decide) (by omega)))
        simp [c1, c2, c3, e0]
theorem pak_cong {f g : Nat → Nat} : ∀ {b : Nat}, (∀ j, j < b → f j = g j) → pak f b = pak g b
  | 0, _ => rfl
  | b + 1, h => by
    show pak f b ||| _ = pak g b ||| _
    rw [pak_cong (fun j hj => h j (by omega)), h b (by omega)]
/-- numbers whose bits below 48 agree -/
theorem pak_ext {x y : Nat} {b : Nat} (hx : x < 2 ^ b) (hy : y < 2 ^ b) (h : ∀ i, i < b → x.testBit i = y.testBit i) : x = y := by
  apply Nat.eq_of_testBit_eq
  intro i
  by_cases c : i < b
  · exact h i c
  · rw [Nat.testBit_lt_two_pow (Nat.lt_of_lt_of_le hx (Nat.pow_le_pow_right (by decide) (by omega))), Nat.testBit_lt_two_pow (Nat.lt_of_lt_of_le hy (Nat.pow_le_pow_right (by decide) (by omega)))]
theorem pak_xor {f g : Nat → Nat} {b : Nat} (hf : ∀ j, j < b → f j < 16) (hg : ∀ j, j < b → g j < 16) : pak f b ^^^ pak g b = pak (fun j => f j ^^^ g j) b := by
  have hfg : ∀ j, j < b → (fun j => f j ^^^ g j) j < 16 := fun j hj => Nat.xor_lt_two_pow (n := 4) (hf j hj) (hg j hj)
  apply pak_ext (Nat.xor_lt_two_pow (pak_lt hf) (pak_lt hg)) (pak_lt hfg)
  intro i hi
  rw [Nat.testBit_xor, pak_bit hf, pak_bit hg, pak_bit hfg]
  simp [hi]
theorem pak_and {f g : Nat → Nat} {b : Nat} (hf : ∀ j, j < b → f j < 16) (hg : ∀ j, j < b → g j < 16) : pak f b &&& pak g b = pak (fun j => f j &&& g j) b := by
  have hfg : ∀ j, j < b → (fun j => f j &&& g j) j < 16 := fun j hj => Nat.and_lt_two_pow (n := 4) _ (hg j hj)
  apply pak_ext (Nat.and_lt_two_pow _ (pak_lt hg)) (pak_lt hfg)
  intro i hi
  rw [Nat.testBit_and, pak_bit hf, pak_bit hg, pak_bit hfg]
  simp [hi]
/-- a number that is 0 from a place on -/
theorem pak_zero {f : Nat → Nat} {n : Nat} : ∀ {b : Nat}, n ≤ b → (∀ j, n ≤ j → j < b → f j = 0) → pak f b = pak f n
  | 0, h, _ => by rw [show n = 0 from by omega]
  | b + 1, h, hz => by
    rcases Nat.lt_or_ge b n with c | c
    · rw [show n = b + 1 from by omega]
    · show pak f b ||| f b * 2 ^ (4 * b) = _
      rw [hz b c (by omega), Nat.zero_mul, Nat.or_zero, pak_zero c (fun j h1 h2 => hz j h1 (by omega))]
theorem pak_at {f : Nat → Nat} {b j : Nat} (hf : ∀ j, j < b → f j < 16) (hj : j < b) : pak f b / 2 ^ (4 * j) % 16 = f j := by
  apply Nat.eq_of_testBit_eq
  intro i
  rw [show (16 : Nat) = 2 ^ 4 from rfl, Nat.testBit_mod_two_pow, Nat.testBit_div_two_pow, pak_bit hf]
  by_cases c : i < 4
  · have e1 : (i + 4 * j) / 4 = j := by omega
    have e2 : (i + 4 * j) % 4 = i := by omega
    have e3 : i + 4 * j < 4 * b := by omega
    simp [c, e1, e2, e3]
  · have e0 : (f j).testBit i = false := Nat.testBit_lt_two_pow (Nat.lt_of_lt_of_le (hf j hj) (show 2 ^ 4 ≤ 2 ^ i from Nat.pow_le_pow_right (by decide) (by omega)))
    simp [c, e0]
def zOnes : Nat := 18764998447377
/-- marks the symbols that are not 0 -/
def mkS (x : Nat) : Nat := ((x ||| x / 2 ^ 1) ||| (x ||| x / 2 ^ 1) / 2 ^ 2) &&& zOnes
def b01 (p : Bool) : Nat := if p then 1 else 0
theorem b01_lt (p : Bool) : b01 p < 16 := by cases p <;> decide
/-- marks of the places where p holds -/
def mkP (p : Nat → Bool) : Nat := pak (fun j => b01 (p j)) 12
theorem mkP_lt (p : Nat → Bool) : mkP p < 2 ^ 48 := pak_lt (b := 12) (fun j _ => b01_lt (p j))
theorem zOnes_pak : zOnes = mkP (fun _ => true) := by decide +kernel
theorem bit_1 (p : Bool) (i : Nat) : (b01 p).testBit i = (p && decide (i = 0)) := by
  cases p
  · simp [b01]
  · by_cases h : i = 0
    · subst h; rfl
    · obtain ⟨k, rfl⟩ : ∃ k, i = k + 1 := ⟨i - 1, by omega⟩
      simp [b01, Nat.testBit_succ]
theorem mkP_bit (p : Nat → Bool) (i : Nat) : (mkP p).testBit i = (decide (i < 48) && (p (i / 4) && decide (i % 4 = 0))) := by
  show (pak (fun j => b01 (p j)) 12).testBit i = _
  rw [pak_bit (fun j _ => b01_lt (p j)), bit_1]
theorem nib_0 (x : Nat) (hx : x < 16) : (x.testBit 0 || x.testBit 1 || x.testBit 2 || x.testBit 3) = !(x == 0) := by
  have h : (List.range 16).all (fun x => (x.testBit 0 || x.testBit 1 || x.testBit 2 || x.testBit 3) == !(x == 0)) = true := by decide
  exact eq_of_beq (List.all_eq_true.mp h x (List.mem_range.mpr hx))
theorem mkS_pak {f : Nat → Nat} (hf : ∀ j, j < 12 → f j < 16) : mkS (pak f 12) = mkP (fun j => !(f j == 0)) := by
  have hp := pak_lt hf
  have h1 : mkS (pak f 12) < 2 ^ 48 := Nat.lt_of_le_of_lt Nat.and_le_right (by decide)
  apply pak_ext h1 (mkP_lt _)
  intro i hi
  rw [mkP_bit]
  unfold mkS
  rw [zOnes_pak, Nat.testBit_and, mkP_bit]
  simp only [Nat.testBit_or, Nat.testBit_div_two_pow, pak_bit hf]
  by_cases c : i % 4 = 0
  · have e1 : (i + 1) / 4 = i / 4 := by omega
    have e2 : (i + 2) / 4 = i / 4 := by omega
    have e3 : (i + 2 + 1) / 4 = i / 4 := by omega
    have m1 : (i + 1) % 4 = 1 := by omega
    have m2 : (i + 2) % 4 = 2 := by omega
    have m3 : (i + 2 + 1) % 4 = 3 := by omega
    have l0 : i < 48 := hi
    have l1 : i + 1 < 48 := by omega
    have l2 : i + 2 < 48 := by omega
    have l3 : i + 2 + 1 < 48 := by omega
    have hn := nib_0 (f (i / 4)) (hf _ (by omega))
    simp only [e1, e2, e3, m1, m2, m3, c, l0, l1, l2, l3, decide_true, Bool.true_and, Bool.and_true]
    rw [← hn]
    simp only [Bool.or_assoc]
  · simp [c]
theorem mkP_and (p q : Nat → Bool) : mkP p &&& mkP q = mkP (fun j => p j && q j) := by
  apply pak_ext (Nat.and_lt_two_pow _ (mkP_lt q)) (mkP_lt _)
  intro i hi
  rw [Nat.testBit_and, mkP_bit, mkP_bit, mkP_bit]
  by_cases c : i % 4 = 0 <;> simp [hi, c]
theorem mkP_cong {p q : Nat → Bool} (h : ∀ j, j < 12 → p j = q j) : mkP p = mkP q := pak_cong (fun j hj => by rw [h j hj])
/-- how many of the first n places p holds at -/
def cnt (p : Nat → Bool) : Nat → Nat
  | 0 => 0
  | n + 1 => cnt p n + b01 (p n)
def mkN (m : Nat) : Nat := mkP (fun j => m / 2 ^ j % 2 == 1)
def zswL (x : Nat) : Nat :=
  let v1 := x - (x / 2 ^ 1 &&& 6148914691236517205)
  let v2 := (v1 &&& 3689348814741910323) + (v1 / 2 ^ 2 &&& 3689348814741910323)
  let v3 := (v2 + v2 / 2 ^ 4) &&& 1085102592571150095
  let v4 := v3 + v3 / 2 ^ 8
  let v5 := v4 + v4 / 2 ^ 16
  let v6 := v5 + v5 / 2 ^ 32
  v6 &&& 127
theorem zswL_N : ∀ m, m < 4096 → zswL (mkN m) = cnt (fun j => m / 2 ^ j % 2 == 1) 12 := by
  have h : (List.range 4096).all (fun m => zswL (mkN m) == cnt (fun j => m / 2 ^ j % 2 == 1) 12) = true := by decide +kernel
  intro m hm
  exact eq_of_beq (List.all_eq_true.mp h m (List.mem_range.mpr hm))
theorem cnt_cong {p q : Nat → Bool} : ∀ {n : Nat}, (∀ j, j < n → p j = q j) → cnt p n = cnt q n
  | 0, _ => rfl
  | n + 1, h => by
    show cnt p n + _ = cnt q n + _
    rw [cnt_cong (fun j hj => h j (by omega)), h n (by omega)]
/-- the number whose bits are p -/
def pm (p : Nat → Bool) : Nat → Nat
  | 0 => 0
  | n + 1 => pm p n + b01 (p n) * 2 ^ n
theorem pm_ok (p : Nat → Bool) : ∀ n, pm p n < 2 ^ n ∧ ∀ j, j < n → (pm p n / 2 ^ j % 2 == 1) = p j
  | 0 => ⟨Nat.zero_lt_one, fun j hj => absurd hj (Nat.not_lt_zero j)⟩
  | n + 1 => by
    obtain ⟨h1, h2⟩ := pm_ok p n
    have e2 : 2 ^ (n + 1) = 2 * 2 ^ n := by rw [Nat.pow_succ]; omega
    have e : pm p (n + 1) = pm p n + b01 (p n) * 2 ^ n := rfl
    refine ⟨by rw [e, e2]; cases p n <;> simp [b01] <;> omega, fun j hj => ?_⟩
    rw [e]
    by_cases c : j = n
    · subst c
      rw [Nat.add_mul_div_right _ _ (Nat.two_pow_pos j), Nat.div_eq_of_lt h1]
      cases p j <;> simp [b01]
    · have hj' : j < n := by omega
      rw [← h2 j hj']
      obtain ⟨d, rfl⟩ : ∃ d, n = j + 1 + d := ⟨n - j - 1, by omega⟩
      have e3 : b01 (p (j + 1 + d)) * 2 ^ (j + 1 + d) = (b01 (p (j + 1 + d)) * 2 ^ d * 2) * 2 ^ j := by
        rw [show 2 ^ (j + 1 + d) = 2 ^ d * 2 * 2 ^ j from by rw [Nat.pow_add, Nat.pow_add, Nat.pow_one, Nat.mul_comm, Nat.mul_assoc, Nat.mul_comm (2 ^ j) 2]]
        simp [Nat.mul_assoc]
      rw [e3, Nat.add_mul_div_right _ _ (Nat.two_pow_pos j), Nat.add_mul_mod_self_right]
theorem zswL_ok (p : Nat → Bool) : zswL (mkP p) = cnt p 12 := by
  obtain ⟨h1, h2⟩ := pm_ok p 12
  have e : mkP p = mkN (pm p 12) := mkP_cong (fun j hj => (h2 j hj).symm)
  rw [e, zswL_N _ h1]
  exact cnt_cong h2
theorem cnt_le (p : Nat → Bool) : ∀ n, cnt p n ≤ n
  | 0 => Nat.le_refl 0
  | n + 1 => by
    have := cnt_le p n
    show cnt p n + b01 (p n) ≤ n + 1
    cases p n <;> simp [b01] <;> omega
/-! the outer code -/
def psym (i v j : Nat) : Nat := if i = 0 then v else if i = 1 then gmul v (j + 1) else gmul (gmul v (j + 1)) (j + 1)
theorem psym_lt {i v j : Nat} (hv : v < 16) (hj : j < 12) : psym i v j < 16 := by
  unfold psym
  split
  · exact hv
  · split
    · exact gmul_lt hv (by omega)
    · exact gmul_lt (gmul_lt hv (by omega)) (by omega)
def zParts (q : Nat) : Nat := pak (psym (q / 16) (q % 16)) 12
/-- the symbol of block j in the codeword of message m -/
def zcw (m j : Nat) : Nat := m % 16 ^^^ gmul (m / 16 % 16) (j + 1) ^^^ gmul (m / 256) (gmul (j + 1) (j + 1))
def zcwP (m : Nat) : Nat := zParts (m % 16) ^^^ zParts (16 + m / 16 % 16) ^^^ zParts (32 + m / 256 % 16)
theorem zcw_lt {m j : Nat} (hm : m < 4096) (hj : j < 12) : zcw m j < 16 := Nat.xor_lt_two_pow (n := 4) (Nat.xor_lt_two_pow (n := 4) (by omega) (gmul_lt (by omega) (by omega))) (gmul_lt (by omega) (gmul_lt (by omega) (by omega)))
theorem zcwP_ok {m : Nat} (hm : m < 4096) : zcwP m = pak (zcw m) 12 := by
  have a0 : ∀ j, j < 12 → psym (m % 16 / 16) (m % 16 % 16) j < 16 := fun j hj => psym_lt (by omega) hj
  have a1 : ∀ j, j < 12 → psym ((16 + m / 16 % 16) / 16) ((16 + m / 16 % 16) % 16) j < 16 := fun j hj => psym_lt (by omega) hj
  have a2 : ∀ j, j < 12 → psym ((32 + m / 256 % 16) / 16) ((32 + m / 256 % 16) % 16) j < 16 := fun j hj => psym_lt (by omega) hj
  unfold zcwP zParts
  rw [pak_xor a0 a1, pak_xor (fun j hj => Nat.xor_lt_two_pow (n := 4) (a0 j hj) (a1 j hj)) a2]
  apply pak_cong
  intro j hj
  have e0 : m % 16 / 16 = 0 := by omega
  have e1 : (16 + m / 16 % 16) / 16 = 1 := by omega
  have e2 : (32 + m / 256 % 16) / 16 = 2 := by omega
  have f0 : m % 16 % 16 = m % 16 := by omega
  have f1 : (16 + m / 16 % 16) % 16 = m / 16 % 16 := by omega
  have f2 : (32 + m / 256 % 16) % 16 = m / 256 := by omega
  simp only [e0, e1, e2, f0, f1, f2]
  show m % 16 ^^^ gmul (m / 16 % 16) (j + 1) ^^^ gmul (gmul (m / 256) (j + 1)) (j + 1) = _
  rw [← gmul_sq (by omega) (by omega)]
  rfl
theorem zcwP_lt {m : Nat} (hm : m < 4096) : zcwP m < 2 ^ 48 := by rw [zcwP_ok hm]; exact pak_lt (b := 12) (fun j hj => zcw_lt hm hj)
/-! one block -/
def itC (wd : Nat → Nat) (σ : Nat → Nat) (j : Nat) : Nat := if zL (σ 7) j = 1 then 0 else sym wd (σ (9 + j)) 15
def faC (wd : Nat → Nat) (σ : Nat → Nat) (j : Nat) : Nat := if zL (σ 7) j = 1 then 0 else popc (σ (9 + j) ^^^ wd (sym wd (σ (9 + j)) 15))
def trC (wd : Nat → Nat) (dd : Nat) (σ : Nat → Nat) (j : Nat) : Nat := if zL (σ 7) j = 1 then 0 else dd - 2 * faC wd σ j
/-- the blocks ahead of block j, by reliability, then by number -/
def befP (r : Nat → Nat) (j i : Nat) : Bool := decide (r i < r j ∨ (r i = r j ∧ i < j))
def bef (r : Nat → Nat) (N j : Nat) : Nat := cnt (befP r j) N
/-- the order after i blocks: block j stands at its place -/
def ordI (pl r : Nat → Nat) : Nat → Nat → Nat
  | 0 => r
  | i + 1 => va_up (ordI pl r i) (pl i) i
/-- the score by the marks of the blocks that differ -/
def scD (d : Nat) (r : Nat → Nat) : Nat → Int
  | 0 => 0
  | i + 1 => scD d r i + (if d / 2 ^ (4 * i) % 2 = 1 then -((r i : Nat) : Int) else ((r i : Nat) : Int))
/-- the blocks that stay when the first i of the order are erased -/
def kp (r : Nat → Nat) (N : Nat) : Nat → Nat → Bool
  | 0 => fun j => decide (j < N)
  | i + 1 => fun j => kp r N i j && !(j == r i)
/-- bits to another symbol -/
def stN (W : Nat → Nat) (w c g i : Nat) : Nat := if i < c then (popc (w ^^^ W i) - g + 1) / 2 else (popc (w ^^^ W i) - g) / 2 + 1
def stL (W : Nat → Nat) (w c g : Nat) : Nat → Nat
  | 0 => 10
  | i + 1 => if i = c then stL W w c g i else min (stL W w c g i) (stN W w c g i)
theorem sym_min (W : Nat → Nat) (w : Nat) : ∀ i j, j ≤ i → popc (w ^^^ W (sym W w i)) ≤ popc (w ^^^ W j)
  | 0, j, h => by rw [show j = 0 from by omega]; exact Nat.le_refl _
  | i + 1, j, h => by
    have hi := sym_min W w i
    have e : sym W w (i + 1) = if popc (w ^^^ W (i + 1)) < popc (w ^^^ W (sym W w i)) then i + 1 else sym W w i := rfl
    rw [e]
    by_cases c : popc (w ^^^ W (i + 1)) < popc (w ^^^ W (sym W w i))
    · rw [if_pos c]
      by_cases hj : j = i + 1
      · rw [hj]; exact Nat.le_refl _
      · have := hi j (by omega); omega
    · rw [if_neg c]
      by_cases hj : j = i + 1
      · rw [hj]; omega
      · exact hi j (by omega)
theorem dmin_le (W : Nat → Nat) (c : Nat) : ∀ i, dmin W c i ≤ c
  | 0 => Nat.le_refl c
  | i + 1 => by
    have := dmin_le W c i
    unfold dmin
    split
    · exact Nat.le_refl c
    · exact Nat.le_trans (Nat.min_le_left _ _) this
theorem mk_marks : ∀ n, n ≤ 12 → 18764998447377 &&& (1 * 2 ^ (4 * n) - 1) = mkP (fun j => decide (j < n)) := by
  have h : (List.range 13).all (fun n => 18764998447377 &&& (1 * 2 ^ (4 * n) - 1) == mkP (fun j => decide (j < n))) = true := by decide +kernel
  intro n hn
  exact eq_of_beq (List.all_eq_true.mp h n (List.mem_range.mpr (by omega)))
/-- what a state keeps at all times -/
def zWF (σ : Nat → Nat) : Prop := 3 ≤ σ 0 ∧ σ 0 ≤ 12 ∧ 1 ≤ σ 1 ∧ σ 1 ≤ 3 ∧ σ 1 < σ 0 ∧ 4 ≤ σ 2 ∧ σ 2 ≤ 10 ∧ (∀ j, j < 4 → σ (3 + j) < 2 ^ σ 2) ∧ σ 7 < 4096 ∧ σ 8 < 2 ^ (4 * σ 1) ∧ (∀ j, j < 12 → σ (9 + j) < 2 ^ σ 2) ∧ ∀ s, 0 < s → s < 16 → ¬ wdS σ s = 0
theorem zg_b {σ : Nat → Nat} (h : zWF σ) : ∀ j, j < 4 → zg σ j < 2 ^ σ 2 := fun j hj => by
  unfold zg; rw [if_pos hj]; exact h.2.2.2.2.2.2.2.1 j hj
theorem zp_b {b : Nat} (h : b ≤ 10) : 2 ^ b ≤ 1024 := (Nat.pow_le_pow_right (by decide) h : 2 ^ b ≤ 2 ^ 10)
theorem zp_k {k : Nat} (h : k ≤ 3) : 2 ^ (4 * k) ≤ 4096 := (Nat.pow_le_pow_right (by decide) (by omega) : 2 ^ (4 * k) ≤ 2 ^ 12)
theorem zwd_b {σ : Nat → Nat} (h : zWF σ) (s : Nat) : wdS σ s < 2 ^ σ 2 := gw_lt (σ 2) (zg_b h)
theorem zwd_1024 {σ : Nat → Nat} (h : zWF σ) (s : Nat) : wdS σ s < 1024 := Nat.lt_of_lt_of_le (zwd_b h s) (zp_b h.2.2.2.2.2.2.1)
theorem zL_01 (L j : Nat) : zL L j < 2 := Nat.mod_lt _ (by decide)
theorem zw_1024 {σ : Nat → Nat} (h : zWF σ) {j : Nat} (hj : j < 12) : σ (9 + j) < 1024 := Nat.lt_of_lt_of_le (h.2.2.2.2.2.2.2.2.2.2.1 j hj) (zp_b h.2.2.2.2.2.2.1)
theorem gw_1024 {g : Nat → Nat} {s : Nat} (h : ∀ j, j < 4 → g j < 1024) : gw g s 4 < 1024 := gw_lt 10 h
theorem dd_le (σ : Nat → Nat) : ddS σ ≤ 10 := dmin_le _ _ _
theorem stL_le (W : Nat → Nat) (w c g : Nat) : ∀ i, stL W w c g i ≤ 10
  | 0 => Nat.le_refl 10
  | i + 1 => by
    have := stL_le W w c g i
    unfold stL
    split
    · exact this
    · exact Nat.le_trans (Nat.min_le_left _ _) this
theorem stN_le (W : Nat → Nat) (w c g i : Nat) : stN W w c g i ≤ 7 := by
  have := popc_le (w ^^^ W i)
  unfold stN
  split <;> omega
end
section
theorem zupdZ (W : Nat → Nat) (i : Nat) {v : Nat} (hv : v < 2) : upd (fun j => nI (W j)) i (vp_nar .boolean (nI v)) = fun j => nI (va_up W i v j) := by
  have e : vp_nar .boolean (nI v) = nI v := by
    rcases (show v = 0 ∨ v = 1 by omega) with rfl | rfl <;> rfl
  rw [e, zupd]
theorem zupdB (W : Nat → Nat) (i : Nat) {v : Nat} (hv : v < 128) : upd (fun j => nI (W j)) i (vp_nar .byte (nI v)) = fun j => nI (va_up W i v j) := by
  rw [vp_nar_byte, fa_byte_small hv, zupd]
/-- the cells of the class, by the numbers of its state -/
def CXr (Y : Nat → ClassId) (A : Nat → Nat) (B : Nat → Nat) (n k b L sn : Nat) (g w : Nat → Nat) (hn : Nat) (h : Nat → Nat → Nat) (wd : Nat → Nat) (dd : Nat) (r0 : Nat → Nat) (r1 : Nat → Nat) (r2 : Nat → Nat) (r3 : Nat → Nat) (r4 : Nat → Nat) (rl : Nat) (rp : Nat) (rb : Nat) (wt : Nat → Nat) (wn : Nat) : va_W := [(A 0, .inr (5, [.ref (A 1), .ref (A 5), .ref (A 7), .ref (A 9), .ref (A 11), .ref (A 17), .int (nI wn)])),
  (A 1, .inr (4, [.int (nI (n)), .int (nI (k)), .int (nI (b)), .ref (A 2), .ref (A 3), .ref (A 4), .int (nI (sn))])),
  (A 2, .inl (Y 0, 4, .inl (fun j => nI (g j)))),
  (A 3, .inl (Y 0, 12, .inl (fun j => nI (w j)))),
  (A 4, .inl (Y 1, 12, .inl (fun j => nI (zL L j)))),
  (A 5, .inr (0, [.ref (A 6), .int (nI hn)])),
  (A 6, .inl (Y 4, 6, .inr (.inr (.inr (.inr (fun j => some (B (4 * j)))))))),
  (A 7, .inr (1, [.ref (A 8), .int (nI dd)])),
  (A 8, .inl (Y 0, 16, .inl (fun j => nI (wd j)))),
  (A 9, .inr (2, [.ref (A 10)])),
  (A 10, .inl (Y 2, 48, .inr (.inl (fun j => lN (zParts j))))),
  (A 11, .inr (3, [.ref (A 12), .ref (A 13), .ref (A 14), .ref (A 15), .ref (A 16), .int (nI rl), .long (lN (rp)), .long (lN (rb))])),
  (A 12, .inl (Y 0, 12, .inl (fun j => nI (r0 j)))),
  (A 13, .inl (Y 0, 12, .inl (fun j => nI (r1 j)))),
  (A 14, .inl (Y 0, 12, .inl (fun j => nI (r2 j)))),
  (A 15, .inl (Y 0, 12, .inl (fun j => nI (r3 j)))),
  (A 16, .inl (Y 0, 12, .inl (fun j => nI (r4 j)))),
  (A 17, .inl (Y 0, 4, .inl (fun j => nI (wt j)))),
  (B 0, .inr (4, [.int (nI (h 0 0)), .int (nI (h 0 1)), .int (nI (h 0 2)), .ref (B 1), .ref (B 2), .ref (B 3), .int (nI (h 0 8))])),
  (B 1, .inl (Y 0, 4, .inl (fun j => nI (zg (h 0) j)))),
  (B 2, .inl (Y 0, 12, .inl (fun j => nI (h 0 (9 + j))))),
  (B 3, .inl (Y 1, 12, .inl (fun j => nI (zL (h 0 7) j)))),
  (B 4, .inr (4, [.int (nI (h 1 0)), .int (nI (h 1 1)), .int (nI (h 1 2)), .ref (B 5), .ref (B 6), .ref (B 7), .int (nI (h 1 8))])),
  (B 5, .inl (Y 0, 4, .inl (fun j => nI (zg (h 1) j)))),
  (B 6, .inl (Y 0, 12, .inl (fun j => nI (h 1 (9 + j))))),
  (B 7, .inl (Y 1, 12, .inl (fun j => nI (zL (h 1 7) j)))),
  (B 8, .inr (4, [.int (nI (h 2 0)), .int (nI (h 2 1)), .int (nI (h 2 2)), .ref (B 9), .ref (B 10), .ref (B 11), .int (nI (h 2 8))])),
  (B 9, .inl (Y 0, 4, .inl (fun j => nI (zg (h 2) j)))),
  (B 10, .inl (Y 0, 12, .inl (fun j => nI (h 2 (9 + j))))),
  (B 11, .inl (Y 1, 12, .inl (fun j => nI (zL (h 2 7) j)))),
  (B 12, .inr (4, [.int (nI (h 3 0)), .int (nI (h 3 1)), .int (nI (h 3 2)), .ref (B 13), .ref (B 14), .ref (B 15), .int (nI (h 3 8))])),
  (B 13, .inl (Y 0, 4, .inl (fun j => nI (zg (h 3) j)))),
  (B 14, .inl (Y 0, 12, .inl (fun j => nI (h 3 (9 + j))))),
  (B 15, .inl (Y 1, 12, .inl (fun j => nI (zL (h 3 7) j)))),
  (B 16, .inr (4, [.int (nI (h 4 0)), .int (nI (h 4 1)), .int (nI (h 4 2)), .ref (B 17), .ref (B 18), .ref (B 19), .int (nI (h 4 8))])),
  (B 17, .inl (Y 0, 4, .inl (fun j => nI (zg (h 4) j)))),
  (B 18, .inl (Y 0, 12, .inl (fun j => nI (h 4 (9 + j))))),
  (B 19, .inl (Y 1, 12, .inl (fun j => nI (zL (h 4 7) j)))),
  (B 20, .inr (4, [.int (nI (h 5 0)), .int (nI (h 5 1)), .int (nI (h 5 2)), .ref (B 21), .ref (B 22), .ref (B 23), .int (nI (h 5 8))])),
  (B 21, .inl (Y 0, 4, .inl (fun j => nI (zg (h 5) j)))),
  (B 22, .inl (Y 0, 12, .inl (fun j => nI (h 5 (9 + j))))),
  (B 23, .inl (Y 1, 12, .inl (fun j => nI (zL (h 5 7) j))))]
/-- the cells of the class: the state is σ (n, k, b, four generators, the mask of the lost blocks, the message, twelve words), h the states of the history -/
def CX (Y : Nat → ClassId) (A : Nat → Nat) (B : Nat → Nat) (σ : Nat → Nat) (hn : Nat) (h : Nat → Nat → Nat) (wd : Nat → Nat) (dd : Nat) (r0 : Nat → Nat) (r1 : Nat → Nat) (r2 : Nat → Nat) (r3 : Nat → Nat) (r4 : Nat → Nat) (rl : Nat) (rp : Nat) (rb : Nat) (wt : Nat → Nat) (wn : Nat) : va_W := CXr Y A B (σ 0) (σ 1) (σ 2) (σ 7) (σ 8) (zg σ) (fun j => σ (9 + j)) hn h wd dd r0 r1 r2 r3 r4 rl rp rb wt wn
/-- the cells of the reference -/
def MX (Y : Nat → ClassId) (A : Nat → Nat) (σ : Nat → Nat) (hf : Nat → Nat) (hn : Nat) (wt : Nat → Nat) (wn : Nat) (tm : Nat → Nat) (cd : Nat → Nat) (wd : Nat → Nat) (sy : Nat → Nat) (gp : Nat → Nat) (ls : Nat) (i0 : Nat → Nat) (i1 : Nat → Nat) (i2 : Nat → Nat) (i3 : Nat → Nat) (fo : Int32) (de : Int32) : va_W := [(A 0, .inr (6, [.ref (A 1), .ref (A 2), .int (nI hn), .ref (A 3), .int (nI wn), .ref (A 4), .ref (A 5), .ref (A 6), .ref (A 7), .ref (A 8), .int (nI ls), .ref (A 9), .ref (A 10), .ref (A 11), .ref (A 12), .int (fo), .int (de)])),
  (A 1, .inl (Y 0, 21, .inl (fun j => nI (σ j)))),
  (A 2, .inl (Y 0, 126, .inl (fun j => nI (hf j)))),
  (A 3, .inl (Y 0, 4, .inl (fun j => nI (wt j)))),
  (A 4, .inl (Y 0, 256, .inl (fun j => nI (tm j)))),
  (A 5, .inl (Y 3, 49152, .inl (fun j => nI (cd j)))),
  (A 6, .inl (Y 0, 16, .inl (fun j => nI (wd j)))),
  (A 7, .inl (Y 0, 1024, .inl (fun j => nI (sy j)))),
  (A 8, .inl (Y 0, 1024, .inl (fun j => nI (gp j)))),
  (A 9, .inl (Y 0, 12, .inl (fun j => nI (i0 j)))),
  (A 10, .inl (Y 0, 12, .inl (fun j => nI (i1 j)))),
  (A 11, .inl (Y 0, 12, .inl (fun j => nI (i2 j)))),
  (A 12, .inl (Y 0, 12, .inl (fun j => nI (i3 j))))]
theorem CX_of {Y : Nat → ClassId} {A : Nat → Nat} {B : Nat → Nat} {σ : Nat → Nat} {hn : Nat} {h : Nat → Nat → Nat} {wd : Nat → Nat} {dd : Nat} {r0 : Nat → Nat} {r1 : Nat → Nat} {r2 : Nat → Nat} {r3 : Nat → Nat} {r4 : Nat → Nat} {rl : Nat} {rp : Nat} {rb : Nat} {wt : Nat → Nat} {wn : Nat} {n k b L sn : Nat} {g w : Nat → Nat} (h0 : σ 0 = n) (h1 : σ 1 = k) (h2 : σ 2 = b) (h7 : σ 7 = L) (h8 : σ 8 = sn) (hg : ∀ j, zg σ j = g j) (hw : ∀ j, σ (9 + j) = w j) : CXr Y A B n k b L sn g w hn h wd dd r0 r1 r2 r3 r4 rl rp rb wt wn = CX Y A B σ hn h wd dd r0 r1 r2 r3 r4 rl rp rb wt wn := by
  have eg : zg σ = g := funext hg
  have ew : (fun j => σ (9 + j)) = w := funext hw
  unfold CX
  rw [h0, h1, h2, h7, h8, eg, ew]
theorem zu_ne (σ : Nat → Nat) (k v : Nat) {j : Nat} (h : j ≠ k) : va_up σ k v j = σ j := if_neg h
theorem zu_eq (σ : Nat → Nat) (k v : Nat) : va_up σ k v k = v := if_pos rfl
theorem zg_ne (σ : Nat → Nat) (k v : Nat) (h : k < 3 ∨ 7 ≤ k) (j : Nat) : zg (va_up σ k v) j = zg σ j := by
  unfold zg
  by_cases h4 : j < 4
  · rw [if_pos h4, if_pos h4, zu_ne _ _ _ (by omega)]
  · rw [if_neg h4, if_neg h4]
theorem zg_lt (σ : Nat → Nat) {j : Nat} (h : j < 4) : zg σ j = σ (3 + j) := if_pos h
theorem CX_f0 {Y : Nat → ClassId} {A : Nat → Nat} {B : Nat → Nat} {σ : Nat → Nat} {hn : Nat} {h : Nat → Nat → Nat} {wd : Nat → Nat} {dd : Nat} {r0 : Nat → Nat} {r1 : Nat → Nat} {r2 : Nat → Nat} {r3 : Nat → Nat} {r4 : Nat → Nat} {rl : Nat} {rp : Nat} {rb : Nat} {wt : Nat → Nat} {wn : Nat} {v : Nat} : (CX Y A B σ hn h wd dd r0 r1 r2 r3 r4 rl rp rb wt wn).set 1 (A 1, .inr (4, [.int (nI v), .int (nI (σ 1)), .int (nI (σ 2)), .ref (A 2), .ref (A 3), .ref (A 4), .int (nI (σ 8))])) = CX Y A B (va_up σ 0 v) hn h wd dd r0 r1 r2 r3 r4 rl rp rb wt wn := by
  show CXr Y A B v (σ 1) (σ 2) (σ 7) (σ 8) (zg σ) (fun j => σ (9 + j)) hn h wd dd r0 r1 r2 r3 r4 rl rp rb wt wn = _
  exact CX_of (zu_eq σ 0 v) (zu_ne σ 0 v (by decide)) (zu_ne σ 0 v (by decide)) (zu_ne σ 0 v (by decide)) (zu_ne σ 0 v (by decide)) (zg_ne σ 0 v (by decide)) (fun j => zu_ne σ 0 v (by omega))
theorem CX_f1 {Y : Nat → ClassId} {A : Nat → Nat} {B : Nat → Nat} {σ : Nat → Nat} {hn : Nat} {h : Nat → Nat → Nat} {wd : Nat → Nat} {dd : Nat} {r0 : Nat → Nat} {r1 : Nat → Nat} {r2 : Nat → Nat} {r3 : Nat → Nat} {r4 : Nat → Nat} {rl : Nat} {rp : Nat} {rb : Nat} {wt : Nat → Nat} {wn : Nat} {v : Nat} : (CX Y A B σ hn h wd dd r0 r1 r2 r3 r4 rl rp rb wt wn).set 1 (A 1, .inr (4, [.int (nI (σ 0)), .int (nI v), .int (nI (σ 2)), .ref (A 2), .ref (A 3), .ref (A 4), .int (nI (σ 8))])) = CX Y A B (va_up σ 1 v) hn h wd dd r0 r1 r2 r3 r4 rl rp rb wt wn := by
  show CXr Y A B (σ 0) v (σ 2) (σ 7) (σ 8) (zg σ) (fun j => σ (9 + j)) hn h wd dd r0 r1 r2 r3 r4 rl rp rb wt wn = _
  exact CX_of (zu_ne σ 1 v (by decide)) (zu_eq σ 1 v) (zu_ne σ 1 v (by decide)) (zu_ne σ 1 v (by decide)) (zu_ne σ 1 v (by decide)) (zg_ne σ 1 v (by decide)) (fun j => zu_ne σ 1 v (by omega))
theorem CX_f2 {Y : Nat → ClassId} {A : Nat → Nat} {B : Nat → Nat} {σ : Nat → Nat} {hn : Nat} {h : Nat → Nat → Nat} {wd : Nat → Nat} {dd : Nat} {r0 : Nat → Nat} {r1 : Nat → Nat} {r2 : Nat → Nat} {r3 : Nat → Nat} {r4 : Nat → Nat} {rl : Nat} {rp : Nat} {rb : Nat} {wt : Nat → Nat} {wn : Nat} {v : Nat} : (CX Y A B σ hn h wd dd r0 r1 r2 r3 r4 rl rp rb wt wn).set 1 (A 1, .inr (4, [.int (nI (σ 0)), .int (nI (σ 1)), .int (nI v), .ref (A 2), .ref (A 3), .ref (A 4), .int (nI (σ 8))])) = CX Y A B (va_up σ 2 v) hn h wd dd r0 r1 r2 r3 r4 rl rp rb wt wn := by
  show CXr Y A B (σ 0) (σ 1) v (σ 7) (σ 8) (zg σ) (fun j => σ (9 + j)) hn h wd dd r0 r1 r2 r3 r4 rl rp rb wt wn = _
  exact CX_of (zu_ne σ 2 v (by decide)) (zu_ne σ 2 v (by decide)) (zu_eq σ 2 v) (zu_ne σ 2 v (by decide)) (zu_ne σ 2 v (by decide)) (zg_ne σ 2 v (by decide)) (fun j => zu_ne σ 2 v (by omega))
theorem CX_f8 {Y : Nat → ClassId} {A : Nat → Nat} {B : Nat → Nat} {σ : Nat → Nat} {hn : Nat} {h : Nat → Nat → Nat} {wd : Nat → Nat} {dd : Nat} {r0 : Nat → Nat} {r1 : Nat → Nat} {r2 : Nat → Nat} {r3 : Nat → Nat} {r4 : Nat → Nat} {rl : Nat} {rp : Nat} {rb : Nat} {wt : Nat → Nat} {wn : Nat} {v : Nat} : (CX Y A B σ hn h wd dd r0 r1 r2 r3 r4 rl rp rb wt wn).set 1 (A 1, .inr (4, [.int (nI (σ 0)), .int (nI (σ 1)), .int (nI (σ 2)), .ref (A 2), .ref (A 3), .ref (A 4), .int (nI v)])) = CX Y A B (va_up σ 8 v) hn h wd dd r0 r1 r2 r3 r4 rl rp rb wt wn := by
  show CXr Y A B (σ 0) (σ 1) (σ 2) (σ 7) v (zg σ) (fun j => σ (9 + j)) hn h wd dd r0 r1 r2 r3 r4 rl rp rb wt wn = _
  exact CX_of (zu_ne σ 8 v (by decide)) (zu_ne σ 8 v (by decide)) (zu_ne σ 8 v (by decide)) (zu_ne σ 8 v (by decide)) (zu_eq σ 8 v) (zg_ne σ 8 v (by decide)) (fun j => zu_ne σ 8 v (by omega))
theorem CX_w {Y : Nat → ClassId} {A : Nat → Nat} {B : Nat → Nat} {σ : Nat → Nat} {hn : Nat} {h : Nat → Nat → Nat} {wd : Nat → Nat} {dd : Nat} {r0 : Nat → Nat} {r1 : Nat → Nat} {r2 : Nat → Nat} {r3 : Nat → Nat} {r4 : Nat → Nat} {rl : Nat} {rp : Nat} {rb : Nat} {wt : Nat → Nat} {wn : Nat} {i v : Nat} (hi : i < 12) : (CX Y A B σ hn h wd dd r0 r1 r2 r3 r4 rl rp rb wt wn).set 3 (A 3, .inl (Y 0, 12, .inl (upd (fun j => nI (σ (9 + j))) i (nI v)))) = CX Y A B (va_up σ (9 + i) v) hn h wd dd r0 r1 r2 r3 r4 rl rp rb wt wn := by
  rw [zupd (fun j => σ (9 + j))]
  have hw : ∀ j, va_up σ (9 + i) v (9 + j) = va_up (fun j => σ (9 + j)) i v j := fun j => by
    unfold va_up
    by_cases h : j = i
    · rw [if_pos (by omega), if_pos h]
    · rw [if_neg (by omega), if_neg h]
  show CXr Y A B (σ 0) (σ 1) (σ 2) (σ 7) (σ 8) (zg σ) (fun j => va_up (fun j => σ (9 + j)) i v j) hn h wd dd r0 r1 r2 r3 r4 rl rp rb wt wn = _
  exact CX_of (zu_ne σ (9 + i) v (by omega)) (zu_ne σ (9 + i) v (by omega)) (zu_ne σ (9 + i) v (by omega)) (zu_ne σ (9 + i) v (by omega)) (zu_ne σ (9 + i) v (by omega)) (zg_ne σ (9 + i) v (by omega)) hw
theorem CX_g {Y : Nat → ClassId} {A : Nat → Nat} {B : Nat → Nat} {σ : Nat → Nat} {hn : Nat} {h : Nat → Nat → Nat} {wd : Nat → Nat} {dd : Nat} {r0 : Nat → Nat} {r1 : Nat → Nat} {r2 : Nat → Nat} {r3 : Nat → Nat} {r4 : Nat → Nat} {rl : Nat} {rp : Nat} {rb : Nat} {wt : Nat → Nat} {wn : Nat} {i v : Nat} (hi : i < 4) : (CX Y A B σ hn h wd dd r0 r1 r2 r3 r4 rl rp rb wt wn).set 2 (A 2, .inl (Y 0, 4, .inl (upd (fun j => nI (zg σ j)) i (nI v)))) = CX Y A B (va_up σ (3 + i) v) hn h wd dd r0 r1 r2 r3 r4 rl rp rb wt wn := by
  rw [zupd (zg σ)]
  have hg : ∀ j, zg (va_up σ (3 + i) v) j = va_up (zg σ) i v j := fun j => by
    unfold zg va_up
    by_cases h : j = i
    · rw [if_pos (by omega), if_pos (by omega), if_pos h]
    · by_cases h4 : j < 4
      · rw [if_pos h4, if_neg (by omega), if_neg h]; exact (if_pos h4).symm
      · rw [if_neg h4, if_neg h]; exact (if_neg h4).symm
  show CXr Y A B (σ 0) (σ 1) (σ 2) (σ 7) (σ 8) (fun j => va_up (zg σ) i v j) (fun j => σ (9 + j)) hn h wd dd r0 r1 r2 r3 r4 rl rp rb wt wn = _
  exact CX_of (zu_ne σ (3 + i) v (by omega)) (zu_ne σ (3 + i) v (by omega)) (zu_ne σ (3 + i) v (by omega)) (zu_ne σ (3 + i) v (by omega)) (zu_ne σ (3 + i) v (by omega)) hg (fun j => zu_ne σ (3 + i) v (by omega))
theorem CX_l {Y : Nat → ClassId} {A : Nat → Nat} {B : Nat → Nat} {σ : Nat → Nat} {hn : Nat} {h : Nat → Nat → Nat} {wd : Nat → Nat} {dd : Nat} {r0 : Nat → Nat} {r1 : Nat → Nat} {r2 : Nat → Nat} {r3 : Nat → Nat} {r4 : Nat → Nat} {rl : Nat} {rp : Nat} {rb : Nat} {wt : Nat → Nat} {wn : Nat} {i v M : Nat} (hv : v < 2) (hL : ∀ j, zL M j = if j = i then v else zL (σ 7) j) : (CX Y A B σ hn h wd dd r0 r1 r2 r3 r4 rl rp rb wt wn).set 4 (A 4, .inl (Y 1, 12, .inl (upd (fun j => nI (zL (σ 7) j)) i (vp_nar .boolean (nI v))))) = CX Y A B (va_up σ 7 M) hn h wd dd r0 r1 r2 r3 r4 rl rp rb wt wn := by
  rw [zupdZ (zL (σ 7)) i hv, show (fun j => nI (va_up (zL (σ 7)) i v j)) = (fun j => nI (zL M j)) from funext fun j => by rw [hL j]; rfl]
  show CXr Y A B (σ 0) (σ 1) (σ 2) M (σ 8) (zg σ) (fun j => σ (9 + j)) hn h wd dd r0 r1 r2 r3 r4 rl rp rb wt wn = _
  exact CX_of (zu_ne σ 7 M (by decide)) (zu_ne σ 7 M (by decide)) (zu_ne σ 7 M (by decide)) (zu_eq σ 7 M) (zu_ne σ 7 M (by decide)) (zg_ne σ 7 M (by decide)) (fun j => zu_ne σ 7 M (by omega))
end
section
theorem qJ6_bitCount_0f7a4_Cond_constant_RJ6_265_1431655765_ : Cond.constant RJ6 265 (1431655765) ∈ wsJ6_bitCount_0f7a4 := by decide +kernel
theorem qJ6_bitCount_0f7a4_Cond_constant_RJ6_266_858993459_ : Cond.constant RJ6 266 (858993459) ∈ wsJ6_bitCount_0f7a4 := by decide +kernel
theorem qJ6_bitCount_0f7a4_Cond_constant_RJ6_267_252645135_ : Cond.constant RJ6 267 (252645135) ∈ wsJ6_bitCount_0f7a4 := by decide +kernel
set_option maxHeartbeats 4000000 in
set_option maxRecDepth 100000 in
theorem c_J6_bitCount_0f7a4 (l : Launch) (D : va_G) (Y : Nat → ClassId)  (x : Nat)  (hx0 : x < 4096) : Met l yJ6_bitCount_0f7a4 wsJ6_bitCount_0f7a4 ({ frames := 0, cells := 0, slots := 0, locals := 0 } : Room) (va_Pc [.int (nI x)] (zB D Y ([]))) (zR (.int (nI (popc x)))) 0 0 (fun _ => False) := by
  refine zr_of (cc := cJ6_bitCount_0f7a4) (maxL := 1) (ret := (some .int)) (by decide) rfl (Nat.le_of_ble_eq_true rfl) ?_
  intro p e s m below meth c R args Q hR hx hb hml hr hlk hown hts hK hN hP hQ ls hl
  have hown : s.vm.findClass RJ6 = some m.cls := hown
  have hl : lv_has ls 1 [(0, .int (nI x))] := hl
  refine lv_iload_n hx hb dJ6_bitCount_0f7a4_0 rfl (lv_at hl 0 rfl) ?_
  refine lv_iload_n hx hb dJ6_bitCount_0f7a4_1 rfl (lv_at hl 0 rfl) ?_
  refine lv_iconst (v := (nI 1)) hx hb dJ6_bitCount_0f7a4_2 (by decide) ?_
  refine lv_iushr hx hb dJ6_bitCount_0f7a4_3 (v := (nI (x / 2 ^ 1))) (zUshr (by omega) (by omega)) ?_
  refine lv_ldcw hx hb hown (hts _ qJ6_bitCount_0f7a4_Cond_constant_RJ6_265_1431655765_) dJ6_bitCount_0f7a4_4 ?_
  refine zt_i (v := nI 1431655765) (by rfl) ?_
  refine zv_iand hx hb (v := (nI ((x / 2 ^ 1) &&& 1431655765))) dJ6_bitCount_0f7a4_7 (nx_and _ _) ?_
  refine zv_isub hx hb (v := (nI (x - ((x / 2 ^ 1) &&& 1431655765)))) dJ6_bitCount_0f7a4_8 (pk_sub (Nat.le_trans Nat.and_le_left (by omega))) ?_
  obtain ⟨v1, e1⟩ : ∃ z, z = x - (x / 2 ^ 1 &&& 1431655765) := ⟨_, rfl⟩
  refine zt_i (v := (nI v1)) (by rw [e1]) ?_
  refine lv_istore_n (lv' := [(0, .int (nI v1))]) hx hb dJ6_bitCount_0f7a4_9 rfl hl (by decide) rfl (fun ls hl => ?_)
  refine lv_iload_n hx hb dJ6_bitCount_0f7a4_10 rfl (lv_at hl 0 rfl) ?_
  refine lv_ldcw hx hb hown (hts _ qJ6_bitCount_0f7a4_Cond_constant_RJ6_266_858993459_) dJ6_bitCount_0f7a4_11 ?_
  refine zt_i (v := nI 858993459) (by rfl) ?_
  refine zv_iand hx hb (v := (nI (v1 &&& 858993459))) dJ6_bitCount_0f7a4_14 (nx_and _ _) ?_
  refine lv_iload_n hx hb dJ6_bitCount_0f7a4_15 rfl (lv_at hl 0 rfl) ?_
  refine lv_iconst (v := (nI 2)) hx hb dJ6_bitCount_0f7a4_16 (by decide) ?_
  refine lv_iushr hx hb dJ6_bitCount_0f7a4_17 (v := (nI (v1 / 2 ^ 2))) (zUshr (by omega) (by omega)) ?_
  refine lv_ldcw hx hb hown (hts _ qJ6_bitCount_0f7a4_Cond_constant_RJ6_266_858993459_) dJ6_bitCount_0f7a4_18 ?_
  refine zt_i (v := nI 858993459) (by rfl) ?_
  refine zv_iand hx hb (v := (nI ((v1 / 2 ^ 2) &&& 858993459))) dJ6_bitCount_0f7a4_21 (nx_and _ _) ?_
  refine zv_iadd hx hb (v := (nI ((v1 &&& 858993459) + ((v1 / 2 ^ 2) &&& 858993459)))) dJ6_bitCount_0f7a4_22 (nI_add _ _) ?_
  have b1 : v1 &&& 858993459 ≤ v1 := Nat.and_le_left
  have b2 : v1 / 2 ^ 2 &&& 858993459 ≤ v1 / 2 ^ 2 := Nat.and_le_left
  obtain ⟨v2, e2⟩ : ∃ z, z = (v1 &&& 858993459) + (v1 / 2 ^ 2 &&& 858993459) := ⟨_, rfl⟩
  refine zt_i (v := (nI v2)) (by rw [e2]) ?_
  refine lv_istore_n (lv' := [(0, .int (nI v2))]) hx hb dJ6_bitCount_0f7a4_23 rfl hl (by decide) rfl (fun ls hl => ?_)
  refine lv_iload_n hx hb dJ6_bitCount_0f7a4_24 rfl (lv_at hl 0 rfl) ?_
  refine lv_iload_n hx hb dJ6_bitCount_0f7a4_25 rfl (lv_at hl 0 rfl) ?_
  refine lv_iconst (v := (nI 4)) hx hb dJ6_bitCount_0f7a4_26 (by decide) ?_
  refine lv_iushr hx hb dJ6_bitCount_0f7a4_27 (v := (nI (v2 / 2 ^ 4))) (zUshr (by omega) (by omega)) ?_
  refine zv_iadd hx hb (v := (nI (v2 + (v2 / 2 ^ 4)))) dJ6_bitCount_0f7a4_28 (nI_add _ _) ?_
  refine lv_ldcw hx hb hown (hts _ qJ6_bitCount_0f7a4_Cond_constant_RJ6_267_252645135_) dJ6_bitCount_0f7a4_29 ?_
  refine zt_i (v := nI 252645135) (by rfl) ?_
  refine zv_iand hx hb (v := (nI ((v2 + (v2 / 2 ^ 4)) &&& 252645135))) dJ6_bitCount_0f7a4_32 (nx_and _ _) ?_
  have b3 : (v2 + v2 / 2 ^ 4) &&& 252645135 ≤ v2 + v2 / 2 ^ 4 := Nat.and_le_left
  obtain ⟨v3, e3⟩ : ∃ z, z = (v2 + v2 / 2 ^ 4) &&& 252645135 := ⟨_, rfl⟩
  refine zt_i (v := (nI v3)) (by rw [e3]) ?_
  refine lv_istore_n (lv' := [(0, .int (nI v3))]) hx hb dJ6_bitCount_0f7a4_33 rfl hl (by decide) rfl (fun ls hl => ?_)
  refine lv_iload_n hx hb dJ6_bitCount_0f7a4_34 rfl (lv_at hl 0 rfl) ?_
  refine lv_iload_n hx hb dJ6_bitCount_0f7a4_35 rfl (lv_at hl 0 rfl) ?_
  refine lv_bipush (v := (nI 8)) hx hb dJ6_bitCount_0f7a4_36 (by decide) ?_
  refine lv_iushr hx hb dJ6_bitCount_0f7a4_38 (v := (nI (v3 / 2 ^ 8))) (zUshr (by omega) (by omega)) ?_
  refine zv_iadd hx hb (v := (nI (v3 + (v3 / 2 ^ 8)))) dJ6_bitCount_0f7a4_39 (nI_add _ _) ?_
  obtain ⟨v4, e4⟩ : ∃ z, z = v3 + v3 / 2 ^ 8 := ⟨_, rfl⟩
  refine zt_i (v := (nI v4)) (by rw [e4]) ?_
  refine lv_istore_n (lv' := [(0, .int (nI v4))]) hx hb dJ6_bitCount_0f7a4_40 rfl hl (by decide) rfl (fun ls hl => ?_)
  refine lv_iload_n hx hb dJ6_bitCount_0f7a4_41 rfl (lv_at hl 0 rfl) ?_
  refine lv_iload_n hx hb dJ6_bitCount_0f7a4_42 rfl (lv_at hl 0 rfl) ?_
  refine lv_bipush (v := (nI 16)) hx hb dJ6_bitCount_0f7a4_43 (by decide) ?_
  refine lv_iushr hx hb dJ6_bitCount_0f7a4_45 (v := (nI (v4 / 2 ^ 16))) (zUshr (by omega) (by omega)) ?_
  refine zv_iadd hx hb (v := (nI (v4 + (v4 / 2 ^ 16)))) dJ6_bitCount_0f7a4_46 (nI_add _ _) ?_
  obtain ⟨v5, e5⟩ : ∃ z, z = v4 + v4 / 2 ^ 16 := ⟨_, rfl⟩
  refine zt_i (v := (nI v5)) (by rw [e5]) ?_
  refine lv_istore_n (lv' := [(0, .int (nI v5))]) hx hb dJ6_bitCount_0f7a4_47 rfl hl (by decide) rfl (fun ls hl => ?_)
  refine lv_iload_n hx hb dJ6_bitCount_0f7a4_48 rfl (lv_at hl 0 rfl) ?_
  refine lv_bipush (v := (nI 63)) hx hb dJ6_bitCount_0f7a4_49 (by decide) ?_
  refine zv_iand hx hb (v := (nI (v5 &&& 63))) dJ6_bitCount_0f7a4_51 (nx_and _ _) ?_
  exact zr_i hx hb hr hlk hQ dJ6_bitCount_0f7a4_52 (by rw [← zswar_ok x hx0, e5, e4, e3, e2, e1]; rfl)
set_option maxHeartbeats 4000000 in
set_option maxRecDepth 100000 in
theorem c_X6_in (l : Launch) (D : va_G) (Y : Nat → ClassId)  (v : Int32) (a : Int32) (b : Int32)   : Met l yX6_in wsX6_in ({ frames := 0, cells := 0, slots := 0, locals := 0 } : Room) (va_Pc [.int (v), .int (a), .int (b)] (zB D Y ([]))) (zR (.int (zq ((a).toInt ≤ (v).toInt ∧ (v).toInt ≤ (b).toInt)))) 0 0 (fun _ => False) := by
  refine zr_of (cc := cX6_in) (maxL := 3) (ret := (some .boolean)) (by decide) rfl (Nat.le_of_ble_eq_true rfl) ?_
  intro p e s m below meth c R args Q hR hx hb hml hr hlk hown hts hK hN hP hQ ls hl
  have hown : s.vm.findClass RX6 = some m.cls := hown
  have hl : lv_has ls 3 [(0, .int (v)), (1, .int (a)), (2, .int (b))] := hl
  refine lv_iload_n hx hb dX6_in_0 rfl (lv_at hl 0 rfl) ?_
  refine lv_iload_n hx hb dX6_in_1 rfl (lv_at hl 1 rfl) ?_
  have J15 : W p l e R s m args below meth c s.heap [] 0 0 Q (F0 m 15 ls [.int (zq (a.toInt ≤ v.toInt ∧ v.toInt ≤ b.toInt))]) := by
    exact zr_z hx hb hr hlk hQ dX6_in_15 (rfl) (by first | exact zq_or _ | decide)
  refine zz_icmp_lt (tgt := 14) (a := (v).toInt) (b := (a).toInt) hx hb dX6_in_2 (by decide) (rfl) (rfl) (fun c2 => ?_) (fun c2 => ?_)
  · refine lv_iconst (v := (nI 0)) hx hb dX6_in_14 (by decide) ?_
    refine zt_i (v := (zq (a.toInt ≤ v.toInt ∧ v.toInt ≤ b.toInt))) (by first | exact zq_nt (by omega) | exact zq_nf (by omega)) ?_
    exact J15
  · refine lv_iload_n hx hb dX6_in_5 rfl (lv_at hl 0 rfl) ?_
    refine lv_iload_n hx hb dX6_in_6 rfl (lv_at hl 2 rfl) ?_
    refine zz_icmp_gt (tgt := 14) (a := (v).toInt) (b := (b).toInt) hx hb dX6_in_7 (by decide) (rfl) (rfl) (fun c7 => ?_) (fun c7 => ?_)
    · refine lv_iconst (v := (nI 0)) hx hb dX6_in_14 (by decide) ?_
      refine zt_i (v := (zq (a.toInt ≤ v.toInt ∧ v.toInt ≤ b.toInt))) (by first | exact zq_nt (by omega) | exact zq_nf (by omega)) ?_
      exact J15
    · refine lv_iconst (v := (nI 1)) hx hb dX6_in_10 (by decide) ?_
      refine lv_goto (tgt := 15) hx hb dX6_in_11 (by decide) ?_
      refine zt_i (v := (zq (a.toInt ≤ v.toInt ∧ v.toInt ≤ b.toInt))) (by first | exact zq_nt (by omega) | exact zq_nf (by omega)) ?_
      exact J15
set_option maxHeartbeats 4000000 in
set_option maxRecDepth 100000 in
theorem c_X6_ones (l : Launch) (D : va_G) (Y : Nat → ClassId)  (v : Nat)  (hv : v < 4096) : Met l yX6_ones wsX6_ones ({ frames := 0, cells := 0, slots := 0, locals := 0 } : Room) (va_Pc [.int (nI v)] (zB D Y ([]))) (zR (.int (nI (popc v)))) 0 0 (fun _ => False) := by
  refine zr_of (cc := cX6_ones) (maxL := 3) (ret := (some .int)) (by decide) rfl (Nat.le_of_ble_eq_true rfl) ?_
  intro p e s m below meth c R args Q hR hx hb hml hr hlk hown hts hK hN hP hQ ls hl
  have hown : s.vm.findClass RX6 = some m.cls := hown
  have hl : lv_has ls 3 [(0, .int (nI v))] := hl
  refine lv_iconst (v := (nI 0)) hx hb dX6_ones_0 (by decide) ?_
  refine lv_istore_n (lv' := [(1, .int (nI 0)), (0, .int (nI v))]) hx hb dX6_ones_1 rfl hl (by decide) rfl (fun ls hl => ?_)
  refine lv_iload_n hx hb dX6_ones_2 rfl (lv_at hl 1 rfl) ?_
  refine lv_istore_n (lv' := [(2, .int (nI v)), (1, .int (nI 0)), (0, .int (nI v))]) hx hb dX6_ones_3 rfl hl (by decide) rfl (fun ls hl => ?_)
  have L4 : ∀ (n9 : Nat) (r : Nat) (k : Nat) (hr9 : r < 4096) (hs : k + popc r = popc v), r < n9 → ∀ ls : Array Slot, lv_has ls 3 [(2, .int (nI r)), (1, .int (nI k)), (0, .int (nI v))] → W p l e R s m args below meth c s.heap [] 0 0 Q (F0 m 4 ls []) := by
    intro n9
    induction n9 with
    | zero => intro r k hr9 hs hn9; exact absurd hn9 (Nat.not_lt_zero _)
    | succ n9 ih9 =>
      have ih4 := ih9
      clear ih9
      intro r k hr9 hs hn9 ls hl
      have hpr := popc_le r
      have hpv := popc_le v
      refine lv_iload_n hx hb dX6_ones_4 rfl (lv_at hl 0 rfl) ?_
      refine zn_if_eq (tgt := 20)  hx hb dX6_ones_5 (by decide) (by omega) (fun c5 => ?_) (fun c5 => ?_)
      · refine lv_iload_n hx hb dX6_ones_20 rfl (lv_at hl 1 rfl) ?_
        exact zr_i hx hb hr hlk hQ dX6_ones_21 (by subst c5; rw [popc_0] at hs; rw [← hs]; rfl)
      · refine lv_iinc (v := (nI (k + 1))) (lv' := [(1, .int (nI (k + 1))), (2, .int (nI r)), (0, .int (nI v))]) hx hb dX6_ones_8 hl (k := 1) rfl (zinc _) (by decide) rfl (fun ls hl => ?_)
        refine lv_iload_n hx hb dX6_ones_11 rfl (lv_at hl 1 rfl) ?_
        refine lv_iload_n hx hb dX6_ones_12 rfl (lv_at hl 1 rfl) ?_
        refine lv_iconst (v := (nI 1)) hx hb dX6_ones_13 (by decide) ?_
        refine zv_isub hx hb (v := (nI (r - 1))) dX6_ones_14 (pk_sub (by omega)) ?_
        refine zv_iand hx hb (v := (nI (r &&& (r - 1)))) dX6_ones_15 (nx_and _ _) ?_
        refine lv_istore_n (lv' := [(2, .int (nI (r &&& (r - 1)))), (1, .int (nI (k + 1))), (0, .int (nI v))]) hx hb dX6_ones_16 rfl hl (by decide) rfl (fun ls hl => ?_)
        refine lv_goto (tgt := 4) hx hb dX6_ones_17 (by decide) ?_
        have hand : r &&& (r - 1) ≤ r - 1 := Nat.and_le_right
        have hst := popc_step r hr9 c5
        exact ih4 (r &&& (r - 1)) (k + 1) (by omega) (by omega) (by omega) ls (lv_sub hl [0, 1, 2] rfl)
  exact L4 (v + 1) v 0 (by omega) (by omega) (Nat.lt_succ_self _) ls (lv_sub hl [0, 1, 2] rfl)
end
section
theorem qM_X1_19 : ("NestedCodes$InnerCode", 19, yX5_generatedWord, "NestedCodes") ∈ zNM := by decide +kernel
def AX (Y : Nat → ClassId) (a : Nat) (g : Nat → Nat) : va_W := [(a, .inl (Y 0, 4, .inl (fun j => nI (g j))))]
theorem wdS_0 (σ : Nat → Nat) : wdS σ 0 = 0 := by simp [wdS, gw]
set_option maxHeartbeats 4000000 in
set_option maxRecDepth 100000 in
theorem c_X5_generatedWord (l : Launch) (D : va_G) (Y : Nat → ClassId) (a : Nat) (g : Nat → Nat) (s0 : Nat)  (hs : s0 < 16) : Met l yX5_generatedWord wsX5_generatedWord ({ frames := 0, cells := 0, slots := 0, locals := 0 } : Room) (va_Pc [.ref (a), .int (nI s0)] (zB D Y (AX Y a g))) (zR (.int (nI (gw g s0 4)))) 0 0 (fun _ => False) := by
  refine zr_of (cc := cX5_generatedWord) (maxL := 4) (ret := (some .int)) (by decide) rfl (Nat.le_of_ble_eq_true rfl) ?_
  intro p e s m below meth c R args Q hR hx hb hml hr hlk hown hts hK hN hP hQ ls hl
  have hown : s.vm.findClass RX5 = some m.cls := hown
  have hl : lv_has ls 4 [(0, .ref (a)), (1, .int (nI s0))] := hl
  refine lv_iconst (v := (nI 0)) hx hb dX5_generatedWord_0 (by decide) ?_
  refine lv_istore_n (lv' := [(2, .int (nI 0)), (0, .ref (a)), (1, .int (nI s0))]) hx hb dX5_generatedWord_1 rfl hl (by decide) rfl (fun ls hl => ?_)
  refine lv_iconst (v := (nI 0)) hx hb dX5_generatedWord_2 (by decide) ?_
  refine lv_istore_n (lv' := [(3, .int (nI 0)), (2, .int (nI 0)), (0, .ref (a)), (1, .int (nI s0))]) hx hb dX5_generatedWord_3 rfl hl (by decide) rfl (fun ls hl => ?_)
  have L4 : ∀ (n9 : Nat) (i : Nat) (hi : i ≤ 4), 4 - i < n9 → ∀ ls : Array Slot, lv_has ls 4 [(3, .int (nI i)), (2, .int (nI (gw g s0 i))), (0, .ref (a)), (1, .int (nI s0))] → W p l e R s m args below meth c s.heap [] 0 0 Q (F0 m 4 ls []) := by
    intro n9
    induction n9 with
    | zero => intro i hi hn9; exact absurd hn9 (Nat.not_lt_zero _)
    | succ n9 ih9 =>
      have ih4 := ih9
      clear ih9
      intro i hi hn9 ls hl
      refine lv_iload_n hx hb dX5_generatedWord_4 rfl (lv_at hl 0 rfl) ?_
      refine lv_iconst (v := (nI 4)) hx hb dX5_generatedWord_5 (by decide) ?_
      refine zn_icmp_ge (tgt := 30)  hx hb dX5_generatedWord_6 (by decide) (by omega) (by omega) (fun c6 => ?_) (fun c6 => ?_)
      · obtain rfl : i = 4 := by omega
        refine lv_iload_n hx hb dX5_generatedWord_30 rfl (lv_at hl 1 rfl) ?_
        exact zr_i hx hb hr hlk hQ dX5_generatedWord_31 (rfl)
      · refine lv_iload_n hx hb dX5_generatedWord_9 rfl (lv_at hl 3 rfl) ?_
        refine lv_iload_n hx hb dX5_generatedWord_10 rfl (lv_at hl 0 rfl) ?_
        refine zv_ishr hx hb (v := (nI (s0 / 2 ^ i))) dX5_generatedWord_11 (zShr (by omega) (by omega)) ?_
        refine lv_iconst (v := (nI 1)) hx hb dX5_generatedWord_12 (by decide) ?_
        refine zv_iand hx hb (v := (nI ((s0 / 2 ^ i) % 2))) dX5_generatedWord_13 (znand1 _) ?_
        refine lv_iconst (v := (nI 1)) hx hb dX5_generatedWord_14 (by decide) ?_
        refine zn_icmp_ne (tgt := 24)  hx hb dX5_generatedWord_15 (by decide) (by omega) (by omega) (fun c15 => ?_) (fun c15 => ?_)
        · refine lv_iinc (v := (nI (i + 1))) (lv' := [(3, .int (nI (i + 1))), (2, .int (nI (gw g s0 i))), (0, .ref (a)), (1, .int (nI s0))]) hx hb dX5_generatedWord_24 hl (k := 0) rfl (zinc _) (by decide) rfl (fun ls hl => ?_)
          refine lv_goto (tgt := 4) hx hb dX5_generatedWord_27 (by decide) ?_
          rw [show (.int (nI (gw g s0 i)) : Value) = .int (nI (gw g s0 (i + 1))) from congrArg _ (congrArg nI (show _ = gw g s0 i ^^^ (if _ then _ else _) from by rw [if_neg c15, Nat.xor_zero]))] at hl
          exact ih4 (i + 1) (by omega) (by omega) ls (lv_sub hl [0, 1, 2, 3] rfl)
        · refine lv_iload_n hx hb dX5_generatedWord_18 rfl (lv_at hl 1 rfl) ?_
          refine lv_aload_n hx hb dX5_generatedWord_19 rfl (lv_at hl 2 rfl) ?_
          refine lv_iload_n hx hb dX5_generatedWord_20 rfl (lv_at hl 0 rfl) ?_
          refine za_i hx hb hK hP 0 (f := fun j => nI (g j)) (v := (nI (g i))) rfl (by omega) (by decide) dX5_generatedWord_21 (rfl) ?_
          refine zv_ixor hx hb (v := (nI ((gw g s0 i) ^^^ (g i)))) dX5_generatedWord_22 (nx_xor _ _) ?_
          refine lv_istore_n (lv' := [(2, .int (nI ((gw g s0 i) ^^^ (g i)))), (3, .int (nI i)), (0, .ref (a)), (1, .int (nI s0))]) hx hb dX5_generatedWord_23 rfl hl (by decide) rfl (fun ls hl => ?_)
          refine lv_iinc (v := (nI (i + 1))) (lv' := [(3, .int (nI (i + 1))), (2, .int (nI ((gw g s0 i) ^^^ (g i)))), (0, .ref (a)), (1, .int (nI s0))]) hx hb dX5_generatedWord_24 hl (k := 1) rfl (zinc _) (by decide) rfl (fun ls hl => ?_)
          refine lv_goto (tgt := 4) hx hb dX5_generatedWord_27 (by decide) ?_
          rw [show (.int (nI ((gw g s0 i) ^^^ (g i))) : Value) = .int (nI (gw g s0 (i + 1))) from congrArg _ (congrArg nI (show _ = gw g s0 i ^^^ (if _ then _ else _) from by rw [if_pos (by omega)]))] at hl
          exact ih4 (i + 1) (by omega) (by omega) ls (lv_sub hl [0, 1, 2, 3] rfl)
  exact L4 (4 - 0 + 1) 0 (by omega) (Nat.lt_succ_self _) ls (lv_sub hl [0, 1, 2, 3] rfl)
set_option maxHeartbeats 4000000 in
set_option maxRecDepth 100000 in
theorem c_X5_fieldProduct (l : Launch) (D : va_G) (Y : Nat → ClassId)  (a : Nat) (b : Nat)  (ha : a < 16) (hb9 : b < 16) : Met l yX5_fieldProduct wsX5_fieldProduct ({ frames := 0, cells := 0, slots := 0, locals := 0 } : Room) (va_Pc [.int (nI a), .int (nI b)] (zB D Y ([]))) (zR (.int (nI (gmul a b)))) 0 0 (fun _ => False) := by
  refine zr_of (cc := cX5_fieldProduct) (maxL := 5) (ret := (some .int)) (by decide) rfl (Nat.le_of_ble_eq_true rfl) ?_
  intro p e s m below meth c R args Q hR hx hb hml hr hlk hown hts hK hN hP hQ ls hl
  have hown : s.vm.findClass RX5 = some m.cls := hown
  have hl : lv_has ls 5 [(0, .int (nI a)), (1, .int (nI b))] := hl
  refine lv_iconst (v := (nI 0)) hx hb dX5_fieldProduct_0 (by decide) ?_
  refine lv_istore_n (lv' := [(2, .int (nI 0)), (0, .int (nI a)), (1, .int (nI b))]) hx hb dX5_fieldProduct_1 rfl hl (by decide) rfl (fun ls hl => ?_)
  refine lv_iload_n hx hb dX5_fieldProduct_2 rfl (lv_at hl 1 rfl) ?_
  refine lv_istore_n (lv' := [(3, .int (nI a)), (2, .int (nI 0)), (0, .int (nI a)), (1, .int (nI b))]) hx hb dX5_fieldProduct_3 rfl hl (by decide) rfl (fun ls hl => ?_)
  refine lv_iconst (v := (nI 0)) hx hb dX5_fieldProduct_4 (by decide) ?_
  refine lv_istore (lv' := [(4, .int (nI 0)), (3, .int (nI a)), (2, .int (nI 0)), (0, .int (nI a)), (1, .int (nI b))]) hx hb dX5_fieldProduct_5 hl (by decide) rfl (fun ls hl => ?_)
  have L7 : ∀ (n9 : Nat) (i : Nat) (hi : i ≤ 4), 4 - i < n9 → ∀ ls : Array Slot, lv_has ls 5 [(4, .int (nI i)), (3, .int (nI ((fpS a b i).2))), (2, .int (nI ((fpS a b i).1))), (0, .int (nI a)), (1, .int (nI b))] → W p l e R s m args below meth c s.heap [] 0 0 Q (F0 m 7 ls []) := by
    intro n9
    induction n9 with
    | zero => intro i hi hn9; exact absurd hn9 (Nat.not_lt_zero _)
    | succ n9 ih9 =>
      have ih7 := ih9
      clear ih9
      intro i hi hn9 ls hl
      have hfp := fpS_lt (i := i) ha hb9 hi
      refine lv_iload hx hb dX5_fieldProduct_7 (lv_at hl 0 rfl) ?_
      refine lv_iconst (v := (nI 4)) hx hb dX5_fieldProduct_9 (by decide) ?_
      refine zn_icmp_ge (tgt := 48)  hx hb dX5_fieldProduct_10 (by decide) (by omega) (by omega) (fun c10 => ?_) (fun c10 => ?_)
      · obtain rfl : i = 4 := by omega
        refine lv_iload_n hx hb dX5_fieldProduct_48 rfl (lv_at hl 2 rfl) ?_
        exact zr_i hx hb hr hlk hQ dX5_fieldProduct_49 (rfl)
      · refine lv_iload_n hx hb dX5_fieldProduct_13 rfl (lv_at hl 4 rfl) ?_
        refine lv_iload hx hb dX5_fieldProduct_14 (lv_at hl 0 rfl) ?_
        refine zv_ishr hx hb (v := (nI (b / 2 ^ i))) dX5_fieldProduct_16 (zShr (by omega) (by omega)) ?_
        refine lv_iconst (v := (nI 1)) hx hb dX5_fieldProduct_17 (by decide) ?_
        refine zv_iand hx hb (v := (nI ((b / 2 ^ i) % 2))) dX5_fieldProduct_18 (znand1 _) ?_
        refine lv_iconst (v := (nI 1)) hx hb dX5_fieldProduct_19 (by decide) ?_
        refine zn_icmp_ne (tgt := 27)  hx hb dX5_fieldProduct_20 (by decide) (by omega) (by omega) (fun c20 => ?_) (fun c20 => ?_)
        · refine lv_iload_n hx hb dX5_fieldProduct_27 rfl (lv_at hl 1 rfl) ?_
          refine lv_iconst (v := (nI 1)) hx hb dX5_fieldProduct_28 (by decide) ?_
          refine zv_ishl hx hb (v := (nI ((fpS a b i).2 * 2))) dX5_fieldProduct_29 (zShl (s := 1) (by decide) (by omega)) ?_
          refine lv_istore_n (lv' := [(3, .int (nI ((fpS a b i).2 * 2))), (4, .int (nI i)), (2, .int (nI ((fpS a b i).1))), (0, .int (nI a)), (1, .int (nI b))]) hx hb dX5_fieldProduct_30 rfl hl (by decide) rfl (fun ls hl => ?_)
          refine lv_iload_n hx hb dX5_fieldProduct_31 rfl (lv_at hl 0 rfl) ?_
          refine lv_bipush (v := (nI 16)) hx hb dX5_fieldProduct_32 (by decide) ?_
          refine zn_icmp_lt (tgt := 42)  hx hb dX5_fieldProduct_34 (by decide) (by omega) (by omega) (fun c34 => ?_) (fun c34 => ?_)
          · refine lv_iinc (v := (nI (i + 1))) (lv' := [(4, .int (nI (i + 1))), (3, .int (nI ((fpS a b i).2 * 2))), (2, .int (nI ((fpS a b i).1))), (0, .int (nI a)), (1, .int (nI b))]) hx hb dX5_fieldProduct_42 hl (k := 1) rfl (zinc _) (by decide) rfl (fun ls hl => ?_)
            refine lv_goto (tgt := 7) hx hb dX5_fieldProduct_45 (by decide) ?_
            rw [show (.int (nI ((fpS a b i).2 * 2)) : Value) = .int (nI ((fpS a b (i + 1)).2)) from congrArg _ (congrArg nI (show _ = (if 16 ≤ (fpS a b i).2 * 2 then _ else _) from by first | rw [if_pos (by omega)] | rw [if_neg (by omega)]))] at hl
            rw [show (.int (nI ((fpS a b i).1)) : Value) = .int (nI ((fpS a b (i + 1)).1)) from congrArg _ (congrArg nI (show _ = (if b / 2 ^ i % 2 = 1 then _ else _) from by first | rw [if_pos (by omega)] | rw [if_neg (by omega)]))] at hl
            exact ih7 (i + 1) (by omega) (by omega) ls (lv_sub hl [0, 1, 2, 3, 4] rfl)
          · refine lv_iload_n hx hb dX5_fieldProduct_37 rfl (lv_at hl 0 rfl) ?_
            refine lv_bipush (v := (nI 19)) hx hb dX5_fieldProduct_38 (by decide) ?_
            refine zv_ixor hx hb (v := (nI (((fpS a b i).2 * 2) ^^^ 19))) dX5_fieldProduct_40 (nx_xor _ _) ?_
            refine lv_istore_n (lv' := [(3, .int (nI (((fpS a b i).2 * 2) ^^^ 19))), (4, .int (nI i)), (2, .int (nI ((fpS a b i).1))), (0, .int (nI a)), (1, .int (nI b))]) hx hb dX5_fieldProduct_41 rfl hl (by decide) rfl (fun ls hl => ?_)
            refine lv_iinc (v := (nI (i + 1))) (lv' := [(4, .int (nI (i + 1))), (3, .int (nI (((fpS a b i).2 * 2) ^^^ 19))), (2, .int (nI ((fpS a b i).1))), (0, .int (nI a)), (1, .int (nI b))]) hx hb dX5_fieldProduct_42 hl (k := 1) rfl (zinc _) (by decide) rfl (fun ls hl => ?_)
            refine lv_goto (tgt := 7) hx hb dX5_fieldProduct_45 (by decide) ?_
            rw [show (.int (nI (((fpS a b i).2 * 2) ^^^ 19)) : Value) = .int (nI ((fpS a b (i + 1)).2)) from congrArg _ (congrArg nI (show _ = (if 16 ≤ (fpS a b i).2 * 2 then _ else _) from by first | rw [if_pos (by omega)] | rw [if_neg (by omega)]))] at hl
            rw [show (.int (nI ((fpS a b i).1)) : Value) = .int (nI ((fpS a b (i + 1)).1)) from congrArg _ (congrArg nI (show _ = (if b / 2 ^ i % 2 = 1 then _ else _) from by first | rw [if_pos (by omega)] | rw [if_neg (by omega)]))] at hl
            exact ih7 (i + 1) (by omega) (by omega) ls (lv_sub hl [0, 1, 2, 3, 4] rfl)
        · refine lv_iload_n hx hb dX5_fieldProduct_23 rfl (lv_at hl 2 rfl) ?_
          refine lv_iload_n hx hb dX5_fieldProduct_24 rfl (lv_at hl 1 rfl) ?_
          refine zv_ixor hx hb (v := (nI (((fpS a b i).1) ^^^ ((fpS a b i).2)))) dX5_fieldProduct_25 (nx_xor _ _) ?_
          refine lv_istore_n (lv' := [(2, .int (nI (((fpS a b i).1) ^^^ ((fpS a b i).2)))), (4, .int (nI i)), (3, .int (nI ((fpS a b i).2))), (0, .int (nI a)), (1, .int (nI b))]) hx hb dX5_fieldProduct_26 rfl hl (by decide) rfl (fun ls hl => ?_)
          refine lv_iload_n hx hb dX5_fieldProduct_27 rfl (lv_at hl 2 rfl) ?_
          refine lv_iconst (v := (nI 1)) hx hb dX5_fieldProduct_28 (by decide) ?_
          refine zv_ishl hx hb (v := (nI ((fpS a b i).2 * 2))) dX5_fieldProduct_29 (zShl (s := 1) (by decide) (by omega)) ?_
          refine lv_istore_n (lv' := [(3, .int (nI ((fpS a b i).2 * 2))), (2, .int (nI (((fpS a b i).1) ^^^ ((fpS a b i).2)))), (4, .int (nI i)), (0, .int (nI a)), (1, .int (nI b))]) hx hb dX5_fieldProduct_30 rfl hl (by decide) rfl (fun ls hl => ?_)
          refine lv_iload_n hx hb dX5_fieldProduct_31 rfl (lv_at hl 0 rfl) ?_
          refine lv_bipush (v := (nI 16)) hx hb dX5_fieldProduct_32 (by decide) ?_
          refine zn_icmp_lt (tgt := 42)  hx hb dX5_fieldProduct_34 (by decide) (by omega) (by omega) (fun c34 => ?_) (fun c34 => ?_)
          · refine lv_iinc (v := (nI (i + 1))) (lv' := [(4, .int (nI (i + 1))), (3, .int (nI ((fpS a b i).2 * 2))), (2, .int (nI (((fpS a b i).1) ^^^ ((fpS a b i).2)))), (0, .int (nI a)), (1, .int (nI b))]) hx hb dX5_fieldProduct_42 hl (k := 2) rfl (zinc _) (by decide) rfl (fun ls hl => ?_)
            refine lv_goto (tgt := 7) hx hb dX5_fieldProduct_45 (by decide) ?_
            rw [show (.int (nI ((fpS a b i).2 * 2)) : Value) = .int (nI ((fpS a b (i + 1)).2)) from congrArg _ (congrArg nI (show _ = (if 16 ≤ (fpS a b i).2 * 2 then _ else _) from by first | rw [if_pos (by omega)] | rw [if_neg (by omega)]))] at hl
            rw [show (.int (nI (((fpS a b i).1) ^^^ ((fpS a b i).2))) : Value) = .int (nI ((fpS a b (i + 1)).1)) from congrArg _ (congrArg nI (show _ = (if b / 2 ^ i % 2 = 1 then _ else _) from by first | rw [if_pos (by omega)] | rw [if_neg (by omega)]))] at hl
            exact ih7 (i + 1) (by omega) (by omega) ls (lv_sub hl [0, 1, 2, 3, 4] rfl)
          · refine lv_iload_n hx hb dX5_fieldProduct_37 rfl (lv_at hl 0 rfl) ?_
            refine lv_bipush (v := (nI 19)) hx hb dX5_fieldProduct_38 (by decide) ?_
            refine zv_ixor hx hb (v := (nI (((fpS a b i).2 * 2) ^^^ 19))) dX5_fieldProduct_40 (nx_xor _ _) ?_
            refine lv_istore_n (lv' := [(3, .int (nI (((fpS a b i).2 * 2) ^^^ 19))), (2, .int (nI (((fpS a b i).1) ^^^ ((fpS a b i).2)))), (4, .int (nI i)), (0, .int (nI a)), (1, .int (nI b))]) hx hb dX5_fieldProduct_41 rfl hl (by decide) rfl (fun ls hl => ?_)
            refine lv_iinc (v := (nI (i + 1))) (lv' := [(4, .int (nI (i + 1))), (3, .int (nI (((fpS a b i).2 * 2) ^^^ 19))), (2, .int (nI (((fpS a b i).1) ^^^ ((fpS a b i).2)))), (0, .int (nI a)), (1, .int (nI b))]) hx hb dX5_fieldProduct_42 hl (k := 2) rfl (zinc _) (by decide) rfl (fun ls hl => ?_)
            refine lv_goto (tgt := 7) hx hb dX5_fieldProduct_45 (by decide) ?_
            rw [show (.int (nI (((fpS a b i).2 * 2) ^^^ 19)) : Value) = .int (nI ((fpS a b (i + 1)).2)) from congrArg _ (congrArg nI (show _ = (if 16 ≤ (fpS a b i).2 * 2 then _ else _) from by first | rw [if_pos (by omega)] | rw [if_neg (by omega)]))] at hl
            rw [show (.int (nI (((fpS a b i).1) ^^^ ((fpS a b i).2))) : Value) = .int (nI ((fpS a b (i + 1)).1)) from congrArg _ (congrArg nI (show _ = (if b / 2 ^ i % 2 = 1 then _ else _) from by first | rw [if_pos (by omega)] | rw [if_neg (by omega)]))] at hl
            exact ih7 (i + 1) (by omega) (by omega) ls (lv_sub hl [0, 1, 2, 3, 4] rfl)
  exact L7 (4 - 0 + 1) 0 (by omega) (Nat.lt_succ_self _) ls (lv_sub hl [0, 1, 2, 3, 4] rfl)
set_option maxHeartbeats 4000000 in
set_option maxRecDepth 100000 in
theorem c_X5_symbolIn (l : Launch) (D : va_G) (Y : Nat → ClassId)  (x : Nat) (j : Nat)  (hx9 : x < 18446744073709551616) (hj : j < 16) : Met l yX5_symbolIn wsX5_symbolIn ({ frames := 0, cells := 0, slots := 0, locals := 0 } : Room) (va_Pc [.long (lN (x)), .int (nI j)] (zB D Y ([]))) (zR (.int (nI (x / 2 ^ (4 * j) % 16)))) 0 0 (fun _ => False) := by
  refine zr_of (cc := cX5_symbolIn) (maxL := 3) (ret := (some .int)) (by decide) rfl (Nat.le_of_ble_eq_true rfl) ?_
  intro p e s m below meth c R args Q hR hx hb hml hr hlk hown hts hK hN hP hQ ls hl
  have hown : s.vm.findClass RX5 = some m.cls := hown
  have hl : lv_has ls 3 [(0, .long (lN (x))), (2, .int (nI j))] := hl
  refine lv_lload_n hx hb dX5_symbolIn_0 rfl (lv_at hl 0 rfl) ?_
  refine lv_iconst (v := (nI 4)) hx hb dX5_symbolIn_1 (by decide) ?_
  refine lv_iload_n hx hb dX5_symbolIn_2 rfl (lv_at hl 1 rfl) ?_
  refine zv_imul hx hb (v := (nI (4 * j))) dX5_symbolIn_3 (pk_mul _ _) ?_
  refine lv_lushr hx hb dX5_symbolIn_4 (v := (lN (x / 2 ^ (4 * j)))) (wb_shr hx9 (by omega)) ?_
  refine lv_l2i hx hb dX5_symbolIn_5 (v := (nI (x / 2 ^ (4 * j)))) (lN_i _) ?_
  refine lv_bipush (v := (nI 15)) hx hb dX5_symbolIn_6 (by decide) ?_
  refine zv_iand hx hb (v := (nI (x / 2 ^ (4 * j) % 16))) dX5_symbolIn_8 (zand15 _) ?_
  exact zr_i hx hb hr hlk hQ dX5_symbolIn_9 (rfl)
theorem qX1_bitsBetween_Cond_fieldLink_RX1_9_NestedCodes_InnerCode_words_I_ : Cond.fieldLink RX1 9 "NestedCodes$InnerCode" "words" "[I" ∈ wsX1_bitsBetween := by decide +kernel
theorem qX1_bitsBetween_inX1 : ∀ w ∈ wsX10, w ∈ wsX1_bitsBetween := by decide +kernel
set_option maxHeartbeats 4000000 in
set_option maxRecDepth 100000 in
theorem c_X1_bitsBetween (l : Launch) (D : va_G) (Y : Nat → ClassId) (A : Nat → Nat) (B : Nat → Nat) (σ : Nat → Nat) (hn : Nat) (h : Nat → Nat → Nat) (wd : Nat → Nat) (dd : Nat) (r0 : Nat → Nat) (r1 : Nat → Nat) (r2 : Nat → Nat) (r3 : Nat → Nat) (r4 : Nat → Nat) (rl : Nat) (rp : Nat) (rb : Nat) (wt : Nat → Nat) (wn : Nat) (w : Nat) (s0 : Nat)  (hw : w < 1024) (hs : s0 < 16) (kwd : ∀ j, j < 16 → wd j < 1024) : Met l yX1_bitsBetween wsX1_bitsBetween ({ frames := 1, cells := 0, slots := 0, locals := 20 } : Room) (va_Pc [.ref (A 7), .int (nI w), .int (nI s0)] (zB D Y (CX Y A B σ hn h wd dd r0 r1 r2 r3 r4 rl rp rb wt wn))) (zR (.int (nI (popc (w ^^^ wd s0))))) 0 0 (fun _ => False) := by
  refine zr_of (cc := cX1_bitsBetween) (maxL := 3) (ret := (some .int)) (by decide) rfl (Nat.le_of_ble_eq_true rfl) ?_
  intro p e s m below meth c R args Q hR hx hb hml hr hlk hown hts hK hN hP hQ ls hl
  have hown : s.vm.findClass RX1 = some m.cls := hown
  have hl : lv_has ls 3 [(0, .ref (A 7)), (1, .int (nI w)), (2, .int (nI s0))] := hl
  refine lv_iload_n hx hb dX1_bitsBetween_0 rfl (lv_at hl 1 rfl) ?_
  refine lv_aload_n hx hb dX1_bitsBetween_1 rfl (lv_at hl 0 rfl) ?_
  refine va_get (D := D) (ci := 1) (v := .ref (A 8)) (C := RX1) (T := TX1) (N := 2) hx hb hts qX1_bitsBetween_inX1 hown hK hP 7 rfl rfl 0 (by decide) (hts _ qX1_bitsBetween_Cond_fieldLink_RX1_9_NestedCodes_InnerCode_words_I_) (fun _ h9 => h9) rfl dX1_bitsBetween_2 ?_
  refine lv_iload_n hx hb dX1_bitsBetween_5 rfl (lv_at hl 2 rfl) ?_
  refine za_i hx hb hK hP 8 (f := fun j => nI (wd j)) (v := (nI (wd s0))) rfl (by omega) (by decide) dX1_bitsBetween_6 (rfl) ?_
  refine zv_ixor hx hb (v := (nI (w ^^^ (wd s0)))) dX1_bitsBetween_7 (nx_xor _ _) ?_
  refine zc_r (va_runS (As := [.int (nI (w ^^^ (wd s0)))]) (rest := []) ⟨hx, hb, hml, hown, hts⟩ (c_J6_bitCount_0f7a4 l D Y  (w ^^^ (wd s0)) (Nat.lt_trans (xor_1024 hw (kwd _ hs)) (by decide))) (va_cwS 1 hts gX1_bitsBetween_J6_bitCount_0f7a4 rfl rfl rfl (by decide +kernel) (by rw [hR]; exact ⟨Nat.le_of_ble_eq_true rfl, Nat.le_of_ble_eq_true rfl⟩)) ⟨zB_blind, (zp_r (v := [.int (nI (w ^^^ (wd s0)))]) (fun k q h => absurd h (by simp)) hK hN)⟩ rfl rfl hl.1 rfl (lv_room (Nat.le_of_ble_eq_true rfl)) dX1_bitsBetween_8 ⟨Nat.zero_le _, Nat.zero_le _⟩).run ?_
  have hp8 := popc_le (w ^^^ (wd s0))
  exact zr_i hx hb hr hlk hQ dX1_bitsBetween_11 (rfl)
set_option maxHeartbeats 4000000 in
set_option maxRecDepth 100000 in
theorem c_X1_symbolOf (l : Launch) (D : va_G) (Y : Nat → ClassId) (A : Nat → Nat) (B : Nat → Nat) (σ : Nat → Nat) (hn : Nat) (h : Nat → Nat → Nat) (wd : Nat → Nat) (dd : Nat) (r0 : Nat → Nat) (r1 : Nat → Nat) (r2 : Nat → Nat) (r3 : Nat → Nat) (r4 : Nat → Nat) (rl : Nat) (rp : Nat) (rb : Nat) (wt : Nat → Nat) (wn : Nat) (w : Nat)  (hw : w < 1024) (kwd : ∀ j, j < 16 → wd j < 1024) : Met l yX1_symbolOf wsX1_symbolOf ({ frames := 2, cells := 0, slots := 0, locals := 42 } : Room) (va_Pc [.ref (A 7), .int (nI w)] (zB D Y (CX Y A B σ hn h wd dd r0 r1 r2 r3 r4 rl rp rb wt wn))) (zR (.int (nI (sym wd w 15)))) 0 0 (fun _ => False) := by
  refine zr_of (cc := cX1_symbolOf) (maxL := 4) (ret := (some .int)) (by decide) rfl (Nat.le_of_ble_eq_true rfl) ?_
  intro p e s m below meth c R args Q hR hx hb hml hr hlk hown hts hK hN hP hQ ls hl
  have hown : s.vm.findClass RX1 = some m.cls := hown
  have hl : lv_has ls 4 [(0, .ref (A 7)), (1, .int (nI w))] := hl
  refine lv_iconst (v := (nI 0)) hx hb dX1_symbolOf_0 (by decide) ?_
  refine lv_istore_n (lv' := [(2, .int (nI 0)), (0, .ref (A 7)), (1, .int (nI w))]) hx hb dX1_symbolOf_1 rfl hl (by decide) rfl (fun ls hl => ?_)
  refine lv_iconst (v := (nI 1)) hx hb dX1_symbolOf_2 (by decide) ?_
  refine lv_istore_n (lv' := [(3, .int (nI 1)), (2, .int (nI 0)), (0, .ref (A 7)), (1, .int (nI w))]) hx hb dX1_symbolOf_3 rfl hl (by decide) rfl (fun ls hl => ?_)
  have L4 : ∀ (n9 : Nat) (t : Nat) (hi : t ≤ 15), 15 - t < n9 → ∀ ls : Array Slot, lv_has ls 4 [(3, .int (nI (t + 1))), (2, .int (nI (sym wd w t))), (0, .ref (A 7)), (1, .int (nI w))] → W p l e R s m args below meth c s.heap [] 0 0 Q (F0 m 4 ls []) := by
    intro n9
    induction n9 with
    | zero => intro t hi hn9; exact absurd hn9 (Nat.not_lt_zero _)
    | succ n9 ih9 =>
      have ih4 := ih9
      clear ih9
      intro t hi hn9 ls hl
      have hsy := sym_le wd w t
      refine lv_iload_n hx hb dX1_symbolOf_4 rfl (lv_at hl 0 rfl) ?_
      refine lv_bipush (v := (nI 16)) hx hb dX1_symbolOf_5 (by decide) ?_
      refine zn_icmp_ge (tgt := 33)  hx hb dX1_symbolOf_7 (by decide) (by omega) (by omega) (fun c7 => ?_) (fun c7 => ?_)
      · obtain rfl : t = 15 := by omega
        refine lv_iload_n hx hb dX1_symbolOf_33 rfl (lv_at hl 1 rfl) ?_
        exact zr_i hx hb hr hlk hQ dX1_symbolOf_34 (rfl)
      · refine lv_aload_n hx hb dX1_symbolOf_10 rfl (lv_at hl 2 rfl) ?_
        refine lv_iload_n hx hb dX1_symbolOf_11 rfl (lv_at hl 3 rfl) ?_
        refine lv_iload_n hx hb dX1_symbolOf_12 rfl (lv_at hl 0 rfl) ?_
        refine zc_r (va_runV (As := [.int (nI w), .int (nI (t + 1))]) (rest := []) ⟨hx, hb, hml, hown, hts⟩ (c_X1_bitsBetween l D Y A B σ hn h wd dd r0 r1 r2 r3 r4 rl rp rb wt wn w (t + 1) (by omega) (by omega) kwd) (cwV 2 hts gX1_symbolOf_X1_bitsBetween rfl rfl rfl (by decide +kernel) (by rw [hR]; exact ⟨Nat.le_of_ble_eq_true rfl, Nat.le_of_ble_eq_true rfl⟩)) ⟨zB_blind, va_recv hK hP (ci := 1) (q0 := 7) rfl rfl, zp_r hP hK hN⟩ rfl rfl hl.1 rfl (lv_room (Nat.le_of_ble_eq_true rfl)) dX1_symbolOf_13 ⟨Nat.zero_le _, Nat.zero_le _⟩).run ?_
        have hp13 := popc_le (w ^^^ wd (t + 1))
        refine lv_aload_n hx hb dX1_symbolOf_16 rfl (lv_at hl 2 rfl) ?_
        refine lv_iload_n hx hb dX1_symbolOf_17 rfl (lv_at hl 3 rfl) ?_
        refine lv_iload_n hx hb dX1_symbolOf_18 rfl (lv_at hl 1 rfl) ?_
        refine zc_r (va_runV (As := [.int (nI w), .int (nI (sym wd w t))]) (rest := [.int (nI (popc (w ^^^ wd (t + 1))))]) ⟨hx, hb, hml, hown, hts⟩ (c_X1_bitsBetween l D Y A B σ hn h wd dd r0 r1 r2 r3 r4 rl rp rb wt wn w (sym wd w t) (by omega) (by omega) kwd) (cwV 2 hts gX1_symbolOf_X1_bitsBetween rfl rfl rfl (by decide +kernel) (by rw [hR]; exact ⟨Nat.le_of_ble_eq_true rfl, Nat.le_of_ble_eq_true rfl⟩)) ⟨zB_blind, va_recv hK hP (ci := 1) (q0 := 7) rfl rfl, zp_r hP hK hN⟩ rfl rfl hl.1 rfl (lv_room (Nat.le_of_ble_eq_true rfl)) dX1_symbolOf_19 ⟨Nat.zero_le _, Nat.zero_le _⟩).run ?_
        have hp19 := popc_le (w ^^^ wd (sym wd w t))
        refine zn_icmp_ge (tgt := 27)  hx hb dX1_symbolOf_22 (by decide) (by omega) (by omega) (fun c22 => ?_) (fun c22 => ?_)
        · refine lv_iinc (v := (nI (t + 1 + 1))) (lv' := [(3, .int (nI (t + 1 + 1))), (2, .int (nI (sym wd w t))), (0, .ref (A 7)), (1, .int (nI w))]) hx hb dX1_symbolOf_27 hl (k := 0) rfl (zinc _) (by decide) rfl (fun ls hl => ?_)
          refine lv_goto (tgt := 4) hx hb dX1_symbolOf_30 (by decide) ?_
          rw [show (.int (nI (sym wd w t)) : Value) = .int (nI (sym wd w (t + 1))) from congrArg _ (congrArg nI (show _ = (if popc (w ^^^ wd (t + 1)) < popc (w ^^^ wd (sym wd w t)) then t + 1 else sym wd w t) from by first | rw [if_pos (by omega)] | rw [if_neg (by omega)]))] at hl
          exact ih4 (t + 1) (by omega) (by omega) ls (lv_sub hl [0, 1, 2, 3] rfl)
        · refine lv_iload_n hx hb dX1_symbolOf_25 rfl (lv_at hl 0 rfl) ?_
          refine lv_istore_n (lv' := [(2, .int (nI (t + 1))), (3, .int (nI (t + 1))), (0, .ref (A 7)), (1, .int (nI w))]) hx hb dX1_symbolOf_26 rfl hl (by decide) rfl (fun ls hl => ?_)
          refine lv_iinc (v := (nI (t + 1 + 1))) (lv' := [(3, .int (nI (t + 1 + 1))), (2, .int (nI (t + 1))), (0, .ref (A 7)), (1, .int (nI w))]) hx hb dX1_symbolOf_27 hl (k := 1) rfl (zinc _) (by decide) rfl (fun ls hl => ?_)
          refine lv_goto (tgt := 4) hx hb dX1_symbolOf_30 (by decide) ?_
          rw [show (.int (nI (t + 1)) : Value) = .int (nI (sym wd w (t + 1))) from congrArg _ (congrArg nI (show _ = (if popc (w ^^^ wd (t + 1)) < popc (w ^^^ wd (sym wd w t)) then t + 1 else sym wd w t) from by first | rw [if_pos (by omega)] | rw [if_neg (by omega)]))] at hl
          exact ih4 (t + 1) (by omega) (by omega) ls (lv_sub hl [0, 1, 2, 3] rfl)
  exact L4 (15 - 0 + 1) 0 (by omega) (Nat.lt_succ_self _) ls (lv_sub hl [0, 1, 2, 3] rfl)
theorem qX1_reliability_Cond_fieldLink_RX1_15_NestedCodes_InnerCode_distance_I_ : Cond.fieldLink RX1 15 "NestedCodes$InnerCode" "distance" "I" ∈ wsX1_reliability := by decide +kernel
theorem qX1_reliability_inX1 : ∀ w ∈ wsX10, w ∈ wsX1_reliability := by decide +kernel
theorem qX1_reliability_Cond_methodLink_RX1_38_Lib_Math_max_name : Cond.methodLink RX1 38 Lib.Math.max.name ∈ wsX1_reliability := by decide +kernel
theorem qX1_reliability_Cond_static_Lib_Math_max_name : Cond.static Lib.Math.max.name ∈ wsX1_reliability := by decide +kernel
theorem qX1_reliability_Cond_initialized_java_lang_Math_ : Cond.initialized "java/lang/Math" ∈ wsX1_reliability := by decide +kernel
theorem qX1_reliability_Cond_code_Lib_Math_max_name_Lib_Math_max_code_2_some_int_ : Cond.code Lib.Math.max.name Lib.Math.max.code 2 (some .int) ∈ wsX1_reliability := by decide +kernel
set_option maxHeartbeats 4000000 in
set_option maxRecDepth 100000 in
theorem c_X1_reliability (l : Launch) (D : va_G) (Y : Nat → ClassId) (A : Nat → Nat) (B : Nat → Nat) (σ : Nat → Nat) (hn : Nat) (h : Nat → Nat → Nat) (wd : Nat → Nat) (dd : Nat) (r0 : Nat → Nat) (r1 : Nat → Nat) (r2 : Nat → Nat) (r3 : Nat → Nat) (r4 : Nat → Nat) (rl : Nat) (rp : Nat) (rb : Nat) (wt : Nat → Nat) (wn : Nat) (g : Nat)  (hg : g ≤ 12) (kdd : dd ≤ 12) : Met l yX1_reliability wsX1_reliability ({ frames := 1, cells := 0, slots := 0, locals := 21 } : Room) (va_Pc [.ref (A 7), .int (nI g)] (zB D Y (CX Y A B σ hn h wd dd r0 r1 r2 r3 r4 rl rp rb wt wn))) (zR (.int (nI (dd - 2 * g)))) 0 0 (fun _ => False) := by
  refine zr_of (cc := cX1_reliability) (maxL := 2) (ret := (some .int)) (by decide) rfl (Nat.le_of_ble_eq_true rfl) ?_
  intro p e s m below meth c R args Q hR hx hb hml hr hlk hown hts hK hN hP hQ ls hl
  have hown : s.vm.findClass RX1 = some m.cls := hown
  have hl : lv_has ls 2 [(0, .ref (A 7)), (1, .int (nI g))] := hl
  refine lv_aload_n hx hb dX1_reliability_0 rfl (lv_at hl 0 rfl) ?_
  refine va_get (D := D) (ci := 1) (v := .int (nI dd)) (C := RX1) (T := TX1) (N := 2) hx hb hts qX1_reliability_inX1 hown hK hP 7 rfl rfl 1 (by decide) (hts _ qX1_reliability_Cond_fieldLink_RX1_15_NestedCodes_InnerCode_distance_I_) (fun _ h9 => h9) rfl dX1_reliability_1 ?_
  refine lv_iconst (v := (nI 2)) hx hb dX1_reliability_4 (by decide) ?_
  refine lv_iload_n hx hb dX1_reliability_5 rfl (lv_at hl 1 rfl) ?_
  refine zv_imul hx hb (v := (nI (2 * g))) dX1_reliability_6 (pk_mul _ _) ?_
  refine zv_isub hx hb (v := (nI dd - nI (2 * g))) dX1_reliability_7 (rfl) ?_
  refine lv_iconst (v := (nI 0)) hx hb dX1_reliability_8 (by decide) ?_
  refine va_mmax hx hb (hml.trans hl.1.symm) hown (hts _ qX1_reliability_Cond_methodLink_RX1_38_Lib_Math_max_name) (hts _ qX1_reliability_Cond_static_Lib_Math_max_name) (hts _ qX1_reliability_Cond_initialized_java_lang_Math_) (hts _ qX1_reliability_Cond_code_Lib_Math_max_name_Lib_Math_max_code_2_some_int_) (by rw [hR]; exact Nat.le_of_ble_eq_true rfl) (by rw [hR]; exact Nat.le_of_ble_eq_true rfl) (Nat.zero_le _) (Nat.zero_le _) dX1_reliability_9 ?_
  refine zt_i (v := (nI (dd - 2 * g))) (zmax0 (by omega) (by omega)) ?_
  exact zr_i hx hb hr hlk hQ dX1_reliability_12 (rfl)
theorem qX1_bitsToAnotherSymbol_Cond_methodLink_RX1_29_Lib_Math_min_name : Cond.methodLink RX1 29 Lib.Math.min.name ∈ wsX1_bitsToAnotherSymbol := by decide +kernel
theorem qX1_bitsToAnotherSymbol_Cond_static_Lib_Math_min_name : Cond.static Lib.Math.min.name ∈ wsX1_bitsToAnotherSymbol := by decide +kernel
theorem qX1_bitsToAnotherSymbol_Cond_initialized_java_lang_Math_ : Cond.initialized "java/lang/Math" ∈ wsX1_bitsToAnotherSymbol := by decide +kernel
theorem qX1_bitsToAnotherSymbol_Cond_code_Lib_Math_min_name_Lib_Math_min_code_2_some_int_ : Cond.code Lib.Math.min.name Lib.Math.min.code 2 (some .int) ∈ wsX1_bitsToAnotherSymbol := by decide +kernel
set_option maxHeartbeats 4000000 in
set_option maxRecDepth 100000 in
theorem c_X1_bitsToAnotherSymbol (l : Launch) (D : va_G) (Y : Nat → ClassId) (A : Nat → Nat) (B : Nat → Nat) (σ : Nat → Nat) (hn : Nat) (h : Nat → Nat → Nat) (wd : Nat → Nat) (dd : Nat) (r0 : Nat → Nat) (r1 : Nat → Nat) (r2 : Nat → Nat) (r3 : Nat → Nat) (r4 : Nat → Nat) (rl : Nat) (rp : Nat) (rb : Nat) (wt : Nat → Nat) (wn : Nat) (w : Nat)  (hw : w < 1024) (kwd : ∀ j, j < 16 → wd j < 1024) : Met l yX1_bitsToAnotherSymbol wsX1_bitsToAnotherSymbol ({ frames := 3, cells := 0, slots := 0, locals := 65 } : Room) (va_Pc [.ref (A 7), .int (nI w)] (zB D Y (CX Y A B σ hn h wd dd r0 r1 r2 r3 r4 rl rp rb wt wn))) (zR (.int (nI (stL wd w (sym wd w 15) (popc (w ^^^ wd (sym wd w 15))) 16)))) 0 0 (fun _ => False) := by
  refine zr_of (cc := cX1_bitsToAnotherSymbol) (maxL := 8) (ret := (some .int)) (by decide) rfl (Nat.le_of_ble_eq_true rfl) ?_
  intro p e s m below meth c R args Q hR hx hb hml hr hlk hown hts hK hN hP hQ ls hl
  have hown : s.vm.findClass RX1 = some m.cls := hown
  have hl : lv_has ls 8 [(0, .ref (A 7)), (1, .int (nI w))] := hl
  refine lv_aload_n hx hb dX1_bitsToAnotherSymbol_0 rfl (lv_at hl 0 rfl) ?_
  refine lv_iload_n hx hb dX1_bitsToAnotherSymbol_1 rfl (lv_at hl 1 rfl) ?_
  refine zc_r (va_runV (As := [.int (nI w)]) (rest := []) ⟨hx, hb, hml, hown, hts⟩ (c_X1_symbolOf l D Y A B σ hn h wd dd r0 r1 r2 r3 r4 rl rp rb wt wn w (by omega) kwd) (cwV 1 hts gX1_bitsToAnotherSymbol_X1_symbolOf rfl rfl rfl (by decide +kernel) (by rw [hR]; exact ⟨Nat.le_of_ble_eq_true rfl, Nat.le_of_ble_eq_true rfl⟩)) ⟨zB_blind, va_recv hK hP (ci := 1) (q0 := 7) rfl rfl, zp_r hP hK hN⟩ rfl rfl hl.1 rfl (lv_room (Nat.le_of_ble_eq_true rfl)) dX1_bitsToAnotherSymbol_2 ⟨Nat.zero_le _, Nat.zero_le _⟩).run ?_
  have hs2 := sym_le wd w 15
  refine lv_istore_n (lv' := [(2, .int (nI (sym wd w 15))), (0, .ref (A 7)), (1, .int (nI w))]) hx hb dX1_bitsToAnotherSymbol_5 rfl hl (by decide) rfl (fun ls hl => ?_)
  refine lv_aload_n hx hb dX1_bitsToAnotherSymbol_6 rfl (lv_at hl 1 rfl) ?_
  refine lv_iload_n hx hb dX1_bitsToAnotherSymbol_7 rfl (lv_at hl 2 rfl) ?_
  refine lv_iload_n hx hb dX1_bitsToAnotherSymbol_8 rfl (lv_at hl 0 rfl) ?_
  refine zc_r (va_runV (As := [.int (nI w), .int (nI (sym wd w 15))]) (rest := []) ⟨hx, hb, hml, hown, hts⟩ (c_X1_bitsBetween l D Y A B σ hn h wd dd r0 r1 r2 r3 r4 rl rp rb wt wn w (sym wd w 15) (by omega) (by omega) kwd) (cwV 2 hts gX1_bitsToAnotherSymbol_X1_bitsBetween rfl rfl rfl (by decide +kernel) (by rw [hR]; exact ⟨Nat.le_of_ble_eq_true rfl, Nat.le_of_ble_eq_true rfl⟩)) ⟨zB_blind, va_recv hK hP (ci := 1) (q0 := 7) rfl rfl, zp_r hP hK hN⟩ rfl rfl hl.1 rfl (lv_room (Nat.le_of_ble_eq_true rfl)) dX1_bitsToAnotherSymbol_9 ⟨Nat.zero_le _, Nat.zero_le _⟩).run ?_
  have hp9 := popc_le (w ^^^ wd (sym wd w 15))
  refine lv_istore_n (lv' := [(3, .int (nI (popc (w ^^^ wd (sym wd w 15))))), (2, .int (nI (sym wd w 15))), (0, .ref (A 7)), (1, .int (nI w))]) hx hb dX1_bitsToAnotherSymbol_12 rfl hl (by decide) rfl (fun ls hl => ?_)
  refine lv_bipush (v := (nI 10)) hx hb dX1_bitsToAnotherSymbol_13 (by decide) ?_
  refine lv_istore (lv' := [(4, .int (nI 10)), (3, .int (nI (popc (w ^^^ wd (sym wd w 15))))), (2, .int (nI (sym wd w 15))), (0, .ref (A 7)), (1, .int (nI w))]) hx hb dX1_bitsToAnotherSymbol_15 hl (by decide) rfl (fun ls hl => ?_)
  refine lv_iconst (v := (nI 0)) hx hb dX1_bitsToAnotherSymbol_17 (by decide) ?_
  refine lv_istore (lv' := [(5, .int (nI 0)), (4, .int (nI 10)), (3, .int (nI (popc (w ^^^ wd (sym wd w 15))))), (2, .int (nI (sym wd w 15))), (0, .ref (A 7)), (1, .int (nI w))]) hx hb dX1_bitsToAnotherSymbol_18 hl (by decide) rfl (fun ls hl => ?_)
  have L20 : ∀ (n9 : Nat) (i : Nat) (hi : i ≤ 16), 16 - i < n9 → ∀ ls : Array Slot, lv_has ls 8 [(5, .int (nI i)), (4, .int (nI (stL wd w (sym wd w 15) (popc (w ^^^ wd (sym wd w 15))) i))), (3, .int (nI (popc (w ^^^ wd (sym wd w 15))))), (2, .int (nI (sym wd w 15))), (0, .ref (A 7)), (1, .int (nI w))] → W p l e R s m args below meth c s.heap [] 0 0 Q (F0 m 20 ls []) := by
    intro n9
    induction n9 with
    | zero => intro i hi hn9; exact absurd hn9 (Nat.not_lt_zero _)
    | succ n9 ih9 =>
      have ih20 := ih9
      clear ih9
      intro i hi hn9 ls hl
      have hst := stL_le wd w (sym wd w 15) (popc (w ^^^ wd (sym wd w 15))) i
      refine lv_iload hx hb dX1_bitsToAnotherSymbol_20 (lv_at hl 0 rfl) ?_
      refine lv_bipush (v := (nI 16)) hx hb dX1_bitsToAnotherSymbol_22 (by decide) ?_
      refine zn_icmp_ge (tgt := 82)  hx hb dX1_bitsToAnotherSymbol_24 (by decide) (by omega) (by omega) (fun c24 => ?_) (fun c24 => ?_)
      · obtain rfl : i = 16 := by omega
        refine lv_iload hx hb dX1_bitsToAnotherSymbol_82 (lv_at hl 1 rfl) ?_
        exact zr_i hx hb hr hlk hQ dX1_bitsToAnotherSymbol_84 (rfl)
      · refine lv_iload hx hb dX1_bitsToAnotherSymbol_27 (lv_at hl 0 rfl) ?_
        refine lv_iload_n hx hb dX1_bitsToAnotherSymbol_29 rfl (lv_at hl 3 rfl) ?_
        refine zn_icmp_eq (tgt := 76)  hx hb dX1_bitsToAnotherSymbol_30 (by decide) (by omega) (by omega) (fun c30 => ?_) (fun c30 => ?_)
        · refine lv_iinc (v := (nI (i + 1))) (lv' := [(5, .int (nI (i + 1))), (4, .int (nI (stL wd w (sym wd w 15) (popc (w ^^^ wd (sym wd w 15))) i))), (3, .int (nI (popc (w ^^^ wd (sym wd w 15))))), (2, .int (nI (sym wd w 15))), (0, .ref (A 7)), (1, .int (nI w))]) hx hb dX1_bitsToAnotherSymbol_76 hl (k := 0) rfl (zinc _) (by decide) rfl (fun ls hl => ?_)
          refine lv_goto (tgt := 20) hx hb dX1_bitsToAnotherSymbol_79 (by decide) ?_
          rw [show (.int (nI (stL wd w (sym wd w 15) (popc (w ^^^ wd (sym wd w 15))) i)) : Value) = .int (nI (stL wd w (sym wd w 15) (popc (w ^^^ wd (sym wd w 15))) (i + 1))) from congrArg _ (congrArg nI (show _ = (if i = sym wd w 15 then _ else _) from by rw [if_pos c30]))] at hl
          exact ih20 (i + 1) (by omega) (by omega) ls (lv_sub hl [0, 1, 2, 3, 4, 5] rfl)
        · have hmn := sym_min wd w 15 i (by omega)
          refine lv_aload_n hx hb dX1_bitsToAnotherSymbol_33 rfl (lv_at hl 4 rfl) ?_
          refine lv_iload_n hx hb dX1_bitsToAnotherSymbol_34 rfl (lv_at hl 5 rfl) ?_
          refine lv_iload hx hb dX1_bitsToAnotherSymbol_35 (lv_at hl 0 rfl) ?_
          refine zc_r (va_runV (As := [.int (nI w), .int (nI i)]) (rest := []) ⟨hx, hb, hml, hown, hts⟩ (c_X1_bitsBetween l D Y A B σ hn h wd dd r0 r1 r2 r3 r4 rl rp rb wt wn w i (by omega) (by omega) kwd) (cwV 2 hts gX1_bitsToAnotherSymbol_X1_bitsBetween rfl rfl rfl (by decide +kernel) (by rw [hR]; exact ⟨Nat.le_of_ble_eq_true rfl, Nat.le_of_ble_eq_true rfl⟩)) ⟨zB_blind, va_recv hK hP (ci := 1) (q0 := 7) rfl rfl, zp_r hP hK hN⟩ rfl rfl hl.1 rfl (lv_room (Nat.le_of_ble_eq_true rfl)) dX1_bitsToAnotherSymbol_37 ⟨Nat.zero_le _, Nat.zero_le _⟩).run ?_
          have hp37 := popc_le (w ^^^ wd i)
          refine lv_iload_n hx hb dX1_bitsToAnotherSymbol_40 rfl (lv_at hl 2 rfl) ?_
          refine zv_isub hx hb (v := (nI ((popc (w ^^^ wd i)) - (popc (w ^^^ wd (sym wd w 15)))))) dX1_bitsToAnotherSymbol_41 (pk_sub (by omega)) ?_
          refine lv_istore (lv' := [(6, .int (nI ((popc (w ^^^ wd i)) - (popc (w ^^^ wd (sym wd w 15)))))), (5, .int (nI i)), (4, .int (nI (stL wd w (sym wd w 15) (popc (w ^^^ wd (sym wd w 15))) i))), (3, .int (nI (popc (w ^^^ wd (sym wd w 15))))), (2, .int (nI (sym wd w 15))), (0, .ref (A 7)), (1, .int (nI w))]) hx hb dX1_bitsToAnotherSymbol_42 hl (by decide) rfl (fun ls hl => ?_)
          refine lv_iload hx hb dX1_bitsToAnotherSymbol_44 (lv_at hl 1 rfl) ?_
          refine lv_iload_n hx hb dX1_bitsToAnotherSymbol_46 rfl (lv_at hl 4 rfl) ?_
          have J65 : W p l e R s m args below meth c s.heap [] 0 0 Q (F0 m 65 ls [.int (nI (stN wd w (sym wd w 15) (popc (w ^^^ wd (sym wd w 15))) i))]) := by
            refine lv_istore (lv' := [(7, .int (nI (stN wd w (sym wd w 15) (popc (w ^^^ wd (sym wd w 15))) i))), (6, .int (nI ((popc (w ^^^ wd i)) - (popc (w ^^^ wd (sym wd w 15)))))), (5, .int (nI i)), (4, .int (nI (stL wd w (sym wd w 15) (popc (w ^^^ wd (sym wd w 15))) i))), (3, .int (nI (popc (w ^^^ wd (sym wd w 15))))), (2, .int (nI (sym wd w 15))), (0, .ref (A 7)), (1, .int (nI w))]) hx hb dX1_bitsToAnotherSymbol_65 hl (by decide) rfl (fun ls hl => ?_)
            have hsn := stN_le wd w (sym wd w 15) (popc (w ^^^ wd (sym wd w 15))) i
            refine lv_iload hx hb dX1_bitsToAnotherSymbol_67 (lv_at hl 3 rfl) ?_
            refine lv_iload hx hb dX1_bitsToAnotherSymbol_69 (lv_at hl 0 rfl) ?_
            refine va_mmin hx hb (hml.trans hl.1.symm) hown (hts _ qX1_bitsToAnotherSymbol_Cond_methodLink_RX1_29_Lib_Math_min_name) (hts _ qX1_bitsToAnotherSymbol_Cond_static_Lib_Math_min_name) (hts _ qX1_bitsToAnotherSymbol_Cond_initialized_java_lang_Math_) (hts _ qX1_bitsToAnotherSymbol_Cond_code_Lib_Math_min_name_Lib_Math_min_code_2_some_int_) (by rw [hR]; exact Nat.le_of_ble_eq_true rfl) (by rw [hR]; exact Nat.le_of_ble_eq_true rfl) (Nat.zero_le _) (Nat.zero_le _) dX1_bitsToAnotherSymbol_71 ?_
            refine zt_i (v := (nI (min (stL wd w (sym wd w 15) (popc (w ^^^ wd (sym wd w 15))) i) (stN wd w (sym wd w 15) (popc (w ^^^ wd (sym wd w 15))) i)))) (zmin (by omega) (by omega)) ?_
            refine lv_istore (lv' := [(4, .int (nI (min (stL wd w (sym wd w 15) (popc (w ^^^ wd (sym wd w 15))) i) (stN wd w (sym wd w 15) (popc (w ^^^ wd (sym wd w 15))) i)))), (7, .int (nI (stN wd w (sym wd w 15) (popc (w ^^^ wd (sym wd w 15))) i))), (6, .int (nI ((popc (w ^^^ wd i)) - (popc (w ^^^ wd (sym wd w 15)))))), (5, .int (nI i)), (3, .int (nI (popc (w ^^^ wd (sym wd w 15))))), (2, .int (nI (sym wd w 15))), (0, .ref (A 7)), (1, .int (nI w))]) hx hb dX1_bitsToAnotherSymbol_74 hl (by decide) rfl (fun ls hl => ?_)
            refine lv_iinc (v := (nI (i + 1))) (lv' := [(5, .int (nI (i + 1))), (4, .int (nI (min (stL wd w (sym wd w 15) (popc (w ^^^ wd (sym wd w 15))) i) (stN wd w (sym wd w 15) (popc (w ^^^ wd (sym wd w 15))) i)))), (7, .int (nI (stN wd w (sym wd w 15) (popc (w ^^^ wd (sym wd w 15))) i))), (6, .int (nI ((popc (w ^^^ wd i)) - (popc (w ^^^ wd (sym wd w 15)))))), (3, .int (nI (popc (w ^^^ wd (sym wd w 15))))), (2, .int (nI (sym wd w 15))), (0, .ref (A 7)), (1, .int (nI w))]) hx hb dX1_bitsToAnotherSymbol_76 hl (k := 3) rfl (zinc _) (by decide) rfl (fun ls hl => ?_)
            refine lv_goto (tgt := 20) hx hb dX1_bitsToAnotherSymbol_79 (by decide) ?_
            rw [show (.int (nI (min (stL wd w (sym wd w 15) (popc (w ^^^ wd (sym wd w 15))) i) (stN wd w (sym wd w 15) (popc (w ^^^ wd (sym wd w 15))) i))) : Value) = .int (nI (stL wd w (sym wd w 15) (popc (w ^^^ wd (sym wd w 15))) (i + 1))) from congrArg _ (congrArg nI (show _ = (if i = sym wd w 15 then _ else _) from by rw [if_neg c30]))] at hl
            exact ih20 (i + 1) (by omega) (by omega) ls (lv_sub hl [0, 1, 4, 5, 6, 7] rfl)
          refine zn_icmp_ge (tgt := 59)  hx hb dX1_bitsToAnotherSymbol_47 (by decide) (by omega) (by omega) (fun c47 => ?_) (fun c47 => ?_)
          · refine lv_iload hx hb dX1_bitsToAnotherSymbol_59 (lv_at hl 0 rfl) ?_
            refine lv_iconst (v := (nI 2)) hx hb dX1_bitsToAnotherSymbol_61 (by decide) ?_
            refine zv_idiv hx hb (v := (nI (((popc (w ^^^ wd i)) - (popc (w ^^^ wd (sym wd w 15)))) / 2))) dX1_bitsToAnotherSymbol_62 (by omega) (by omega) (zdiv (by omega) (by omega) (by omega)) ?_
            refine lv_iconst (v := (nI 1)) hx hb dX1_bitsToAnotherSymbol_63 (by decide) ?_
            refine zv_iadd hx hb (v := (nI ((((popc (w ^^^ wd i)) - (popc (w ^^^ wd (sym wd w 15)))) / 2) + 1))) dX1_bitsToAnotherSymbol_64 (nI_add _ _) ?_
            refine zt_i (v := (nI (stN wd w (sym wd w 15) (popc (w ^^^ wd (sym wd w 15))) i))) (congrArg nI (show _ = (if i < sym wd w 15 then _ else _) from by first | rw [if_pos (by omega)] | rw [if_neg (by omega)])) ?_
            exact J65
          · refine lv_iload hx hb dX1_bitsToAnotherSymbol_50 (lv_at hl 0 rfl) ?_
            refine lv_iconst (v := (nI 1)) hx hb dX1_bitsToAnotherSymbol_52 (by decide) ?_
            refine zv_iadd hx hb (v := (nI (((popc (w ^^^ wd i)) - (popc (w ^^^ wd (sym wd w 15)))) + 1))) dX1_bitsToAnotherSymbol_53 (nI_add _ _) ?_
            refine lv_iconst (v := (nI 2)) hx hb dX1_bitsToAnotherSymbol_54 (by decide) ?_
            refine zv_idiv hx hb (v := (nI ((((popc (w ^^^ wd i)) - (popc (w ^^^ wd (sym wd w 15)))) + 1) / 2))) dX1_bitsToAnotherSymbol_55 (by omega) (by omega) (zdiv (by omega) (by omega) (by omega)) ?_
            refine lv_goto (tgt := 65) hx hb dX1_bitsToAnotherSymbol_56 (by decide) ?_
            refine zt_i (v := (nI (stN wd w (sym wd w 15) (popc (w ^^^ wd (sym wd w 15))) i))) (congrArg nI (show _ = (if i < sym wd w 15 then _ else _) from by first | rw [if_pos (by omega)] | rw [if_neg (by omega)])) ?_
            exact J65
  exact L20 (16 - 0 + 1) 0 (by omega) (Nat.lt_succ_self _) ls (lv_sub hl [0, 1, 2, 3, 4, 5] rfl)
theorem qX1_setGenerators_Cond_fieldLink_RX1_15_NestedCodes_InnerCode_distance_I_ : Cond.fieldLink RX1 15 "NestedCodes$InnerCode" "distance" "I" ∈ wsX1_setGenerators := by decide +kernel
theorem qX1_setGenerators_inX1 : ∀ w ∈ wsX10, w ∈ wsX1_setGenerators := by decide +kernel
theorem qX1_setGenerators_Cond_fieldLink_RX1_9_NestedCodes_InnerCode_words_I_ : Cond.fieldLink RX1 9 "NestedCodes$InnerCode" "words" "[I" ∈ wsX1_setGenerators := by decide +kernel
theorem qX1_setGenerators_Cond_initialized_RX5 : Cond.initialized RX5 ∈ wsX1_setGenerators := by decide +kernel
theorem qX1_setGenerators_Cond_static_yX5_generatedWord : Cond.static yX5_generatedWord ∈ wsX1_setGenerators := by decide +kernel
theorem qX1_setGenerators_Cond_methodLink_RX1_29_Lib_Math_min_name : Cond.methodLink RX1 29 Lib.Math.min.name ∈ wsX1_setGenerators := by decide +kernel
theorem qX1_setGenerators_Cond_static_Lib_Math_min_name : Cond.static Lib.Math.min.name ∈ wsX1_setGenerators := by decide +kernel
theorem qX1_setGenerators_Cond_initialized_java_lang_Math_ : Cond.initialized "java/lang/Math" ∈ wsX1_setGenerators := by decide +kernel
theorem qX1_setGenerators_Cond_code_Lib_Math_min_name_Lib_Math_min_code_2_some_int_ : Cond.code Lib.Math.min.name Lib.Math.min.code 2 (some .int) ∈ wsX1_setGenerators := by decide +kernel
set_option maxHeartbeats 4000000 in
set_option maxRecDepth 100000 in
theorem c_X1_setGenerators (l : Launch) (D : va_G) (Y : Nat → ClassId) (A : Nat → Nat) (B : Nat → Nat) (σ : Nat → Nat) (hn : Nat) (h : Nat → Nat → Nat) (wd : Nat → Nat) (dd : Nat) (r0 : Nat → Nat) (r1 : Nat → Nat) (r2 : Nat → Nat) (r3 : Nat → Nat) (r4 : Nat → Nat) (rl : Nat) (rp : Nat) (rb : Nat) (wt : Nat → Nat) (wn : Nat)   (kg : ∀ j, j < 4 → zg σ j < 1024) : Met l yX1_setGenerators wsX1_setGenerators ({ frames := 1, cells := 0, slots := 0, locals := 23 } : Room) (va_Pc [.ref (A 7), .ref (A 2)] (zBw D Y (CX Y A B σ hn h wd dd r0 r1 r2 r3 r4 rl rp rb wt wn))) (zW none D (CX Y A B σ hn h (wdS σ) (ddS σ) r0 r1 r2 r3 r4 rl rp rb wt wn) (zA (CX Y A B σ hn h wd dd r0 r1 r2 r3 r4 rl rp rb wt wn))) 0 0 (zA (CX Y A B σ hn h wd dd r0 r1 r2 r3 r4 rl rp rb wt wn)) := by
  refine zw_of (cc := cX1_setGenerators) (maxL := 3) (ret := none) (by decide) rfl (Nat.le_of_ble_eq_true rfl) ?_
  intro p e s m below meth c R args Q FA hR hx hb hml hr hlk hown hts hK hN hQ hP hD hS ls hl
  have hown : s.vm.findClass RX1 = some m.cls := hown
  have hl : lv_has ls 3 [(0, .ref (A 7)), (1, .ref (A 2))] := hl
  have hS := hS
  have kwd9 : ∀ s, wdS σ s < 1024 := fun s => gw_1024 kg
  suffices hgo : ∀ (H : Heap) (locs : List Loc), va_P D vwCl (CX Y A B σ hn h wd dd r0 r1 r2 r3 r4 rl rp rb wt wn) H → va_S FA s.heap H locs → W p l e R s m args below meth c H locs 0 0 Q (F0 m 0 ls []) from hgo _ _ hP hS
  clear hP hS
  intro H locs hP hS
  refine lv_aload_n hx hb dX1_setGenerators_0 rfl (lv_at hl 0 rfl) ?_
  refine lv_bipush (v := (nI 10)) hx hb dX1_setGenerators_1 (by decide) ?_
  refine va_put (D := D) (ci := 1) (v := .int (nI 10)) (ty := .int) (C := RX1) (T := TX1) (N := 2) hx hb hts qX1_setGenerators_inX1 tyX1 tyX1_ok nmX1 hown hK hP hD hS 7 rfl rfl 1 (by decide) (hts _ qX1_setGenerators_Cond_fieldLink_RX1_15_NestedCodes_InnerCode_distance_I_) (fun _ h9 => h9) rfl (by decide +kernel) rfl rfl (Nat.le_of_ble_eq_true rfl) dX1_setGenerators_3 (fun H locs hP hD hS => ?_)
  have hP : va_P D vwCl (CX Y A B σ hn h wd 10 r0 r1 r2 r3 r4 rl rp rb wt wn) H := hP
  have hD : va_D FA (CX Y A B σ hn h wd 10 r0 r1 r2 r3 r4 rl rp rb wt wn) := hD
  refine lv_aload_n hx hb dX1_setGenerators_6 rfl (lv_at hl 0 rfl) ?_
  refine va_get (D := D) (ci := 1) (v := .ref (A 8)) (C := RX1) (T := TX1) (N := 2) hx hb hts qX1_setGenerators_inX1 hown hK hP 7 rfl rfl 0 (by decide) (hts _ qX1_setGenerators_Cond_fieldLink_RX1_9_NestedCodes_InnerCode_words_I_) (fun _ h9 => h9) rfl dX1_setGenerators_7 ?_
  refine lv_iconst (v := (nI 0)) hx hb dX1_setGenerators_10 (by decide) ?_
  refine lv_iconst (v := (nI 0)) hx hb dX1_setGenerators_11 (by decide) ?_
  refine zs_i hx hb hK hP hD hS 8 (f := fun j => nI (wd j)) rfl (by omega) (by decide) dX1_setGenerators_12 (fun H locs hP hD hS => ?_)
  rw [zupd] at hP hD
  have hP : va_P D vwCl (CX Y A B σ hn h (va_up wd 0 0) 10 r0 r1 r2 r3 r4 rl rp rb wt wn) H := hP
  have hD : va_D FA (CX Y A B σ hn h (va_up wd 0 0) 10 r0 r1 r2 r3 r4 rl rp rb wt wn) := hD
  refine lv_iconst (v := (nI 1)) hx hb dX1_setGenerators_13 (by decide) ?_
  refine lv_istore_n (lv' := [(2, .int (nI 1)), (0, .ref (A 7)), (1, .ref (A 2))]) hx hb dX1_setGenerators_14 rfl hl (by decide) rfl (fun ls hl => ?_)
  have L15 : ∀ (n9 : Nat) (t : Nat) (hi : t ≤ 15), 15 - t < n9 → ∀ (H : Heap) (locs : List Loc), va_P D vwCl (CX Y A B σ hn h (zmx (t + 1) (wdS σ) wd) (dmin (wdS σ) 10 (t + 1)) r0 r1 r2 r3 r4 rl rp rb wt wn) H → va_D FA (CX Y A B σ hn h (zmx (t + 1) (wdS σ) wd) (dmin (wdS σ) 10 (t + 1)) r0 r1 r2 r3 r4 rl rp rb wt wn) → va_S FA s.heap H locs → ∀ ls : Array Slot, lv_has ls 3 [(2, .int (nI (t + 1))), (0, .ref (A 7)), (1, .ref (A 2))] → W p l e R s m args below meth c H locs 0 0 Q (F0 m 15 ls []) := by
    intro n9
    induction n9 with
    | zero => intro t hi hn9; exact absurd hn9 (Nat.not_lt_zero _)
    | succ n9 ih9 =>
      have ih15 := ih9
      clear ih9
      intro t hi hn9 H locs hP hD hS ls hl
      have hdm := dmin_le (wdS σ) 10 (t + 1)
      refine lv_iload_n hx hb dX1_setGenerators_15 rfl (lv_at hl 0 rfl) ?_
      refine lv_bipush (v := (nI 16)) hx hb dX1_setGenerators_16 (by decide) ?_
      refine zn_icmp_ge (tgt := 58)  hx hb dX1_setGenerators_18 (by decide) (by omega) (by omega) (fun c18 => ?_) (fun c18 => ?_)
      · obtain rfl : t = 15 := by omega
        have hP := zP_arrI 8 (fun j => nI (wdS σ j)) hP rfl (fun j hj => congrArg nI (zmx_in _ _ (by omega)))
        exact zw_v hx hb hr hlk hQ hS dX1_setGenerators_58 (hP)
      · refine lv_aload_n hx hb dX1_setGenerators_21 rfl (lv_at hl 1 rfl) ?_
        refine va_get (D := D) (ci := 1) (v := .ref (A 8)) (C := RX1) (T := TX1) (N := 2) hx hb hts qX1_setGenerators_inX1 hown hK hP 7 rfl rfl 0 (by decide) (hts _ qX1_setGenerators_Cond_fieldLink_RX1_9_NestedCodes_InnerCode_words_I_) (fun _ h9 => h9) rfl dX1_setGenerators_22 ?_
        refine lv_iload_n hx hb dX1_setGenerators_25 rfl (lv_at hl 0 rfl) ?_
        refine lv_aload_n hx hb dX1_setGenerators_26 rfl (lv_at hl 2 rfl) ?_
        refine lv_iload_n hx hb dX1_setGenerators_27 rfl (lv_at hl 0 rfl) ?_
        refine zc_r (va_runSN (As := [.ref (A 2), .int (nI (t + 1))]) (rest := [.int (nI (t + 1)), .ref (A 8)]) ⟨hx, hb, hml, hown, hts⟩ (c_X5_generatedWord l D Y (A 2) (zg σ) (t + 1) (by omega)) ⟨(va_cnB 2 hts gX1_setGenerators_X5_generatedWord_n19 rfl rfl rfl (hN.2 _ qM_X1_19) (hts _ qX1_setGenerators_Cond_initialized_RX5) (by decide +kernel) (by rw [hR]; exact ⟨Nat.le_of_ble_eq_true rfl, Nat.le_of_ble_eq_true rfl⟩)), (hts _ qX1_setGenerators_Cond_static_yX5_generatedWord), trivial⟩ ⟨zB_blind, (zp_r (wc := AX Y (A 2) (zg σ)) (hP.sub (ws' := AX Y (A 2) (zg σ)) [2] rfl) hK hN)⟩ rfl rfl hl.1 rfl (lv_room (Nat.le_of_ble_eq_true rfl)) dX1_setGenerators_28 ⟨Nat.zero_le _, Nat.zero_le _⟩).run ?_
        refine zs_i hx hb hK hP hD hS 8 (f := fun j => nI ((zmx (t + 1) (wdS σ) wd) j)) rfl (by omega) (by decide) dX1_setGenerators_31 (fun H locs hP hD hS => ?_)
        rw [zupd] at hP hD
        have hP : va_P D vwCl (CX Y A B σ hn h (va_up (zmx (t + 1) (wdS σ) wd) (t + 1) (gw (zg σ) (t + 1) 4)) (dmin (wdS σ) 10 (t + 1)) r0 r1 r2 r3 r4 rl rp rb wt wn) H := hP
        have hD : va_D FA (CX Y A B σ hn h (va_up (zmx (t + 1) (wdS σ) wd) (t + 1) (gw (zg σ) (t + 1) 4)) (dmin (wdS σ) 10 (t + 1)) r0 r1 r2 r3 r4 rl rp rb wt wn) := hD
        refine lv_aload_n hx hb dX1_setGenerators_32 rfl (lv_at hl 1 rfl) ?_
        refine lv_aload_n hx hb dX1_setGenerators_33 rfl (lv_at hl 1 rfl) ?_
        refine va_get (D := D) (ci := 1) (v := .int (nI (dmin (wdS σ) 10 (t + 1)))) (C := RX1) (T := TX1) (N := 2) hx hb hts qX1_setGenerators_inX1 hown hK hP 7 rfl rfl 1 (by decide) (hts _ qX1_setGenerators_Cond_fieldLink_RX1_15_NestedCodes_InnerCode_distance_I_) (fun _ h9 => h9) rfl dX1_setGenerators_34 ?_
        refine lv_aload_n hx hb dX1_setGenerators_37 rfl (lv_at hl 1 rfl) ?_
        refine va_get (D := D) (ci := 1) (v := .ref (A 8)) (C := RX1) (T := TX1) (N := 2) hx hb hts qX1_setGenerators_inX1 hown hK hP 7 rfl rfl 0 (by decide) (hts _ qX1_setGenerators_Cond_fieldLink_RX1_9_NestedCodes_InnerCode_words_I_) (fun _ h9 => h9) rfl dX1_setGenerators_38 ?_
        refine lv_iload_n hx hb dX1_setGenerators_41 rfl (lv_at hl 0 rfl) ?_
        refine za_i hx hb hK hP 8 (f := fun j => nI ((va_up (zmx (t + 1) (wdS σ) wd) (t + 1) (gw (zg σ) (t + 1) 4)) j)) (v := (nI (wdS σ (t + 1)))) rfl (by omega) (by decide) dX1_setGenerators_42 (by rw [zu_eq]; rfl) ?_
        refine zc_r (va_runS (As := [.int (nI (wdS σ (t + 1)))]) (rest := [.int (nI (dmin (wdS σ) 10 (t + 1))), .ref (A 7)]) ⟨hx, hb, hml, hown, hts⟩ (c_J6_bitCount_0f7a4 l D Y  (wdS σ (t + 1)) (Nat.lt_trans (kwd9 _) (by decide))) (va_cwS 1 hts gX1_setGenerators_J6_bitCount_0f7a4 rfl rfl rfl (by decide +kernel) (by rw [hR]; exact ⟨Nat.le_of_ble_eq_true rfl, Nat.le_of_ble_eq_true rfl⟩)) ⟨zB_blind, (zp_r (v := [.int (nI (wdS σ (t + 1)))]) (fun k q h => absurd h (by simp)) hK hN)⟩ rfl rfl hl.1 rfl (lv_room (Nat.le_of_ble_eq_true rfl)) dX1_setGenerators_43 ⟨Nat.zero_le _, Nat.zero_le _⟩).run ?_
        have hp43 := popc_le (wdS σ (t + 1))
        refine va_mmin hx hb (hml.trans hl.1.symm) hown (hts _ qX1_setGenerators_Cond_methodLink_RX1_29_Lib_Math_min_name) (hts _ qX1_setGenerators_Cond_static_Lib_Math_min_name) (hts _ qX1_setGenerators_Cond_initialized_java_lang_Math_) (hts _ qX1_setGenerators_Cond_code_Lib_Math_min_name_Lib_Math_min_code_2_some_int_) (by rw [hR]; exact Nat.le_of_ble_eq_true rfl) (by rw [hR]; exact Nat.le_of_ble_eq_true rfl) (Nat.zero_le _) (Nat.zero_le _) dX1_setGenerators_46 ?_
        refine zt_i (v := (nI (min (dmin (wdS σ) 10 (t + 1)) (popc (wdS σ (t + 1)))))) (zmin (by omega) (by omega)) ?_
        refine va_put (D := D) (ci := 1) (v := .int (nI (min (dmin (wdS σ) 10 (t + 1)) (popc (wdS σ (t + 1)))))) (ty := .int) (C := RX1) (T := TX1) (N := 2) hx hb hts qX1_setGenerators_inX1 tyX1 tyX1_ok nmX1 hown hK hP hD hS 7 rfl rfl 1 (by decide) (hts _ qX1_setGenerators_Cond_fieldLink_RX1_15_NestedCodes_InnerCode_distance_I_) (fun _ h9 => h9) rfl (by decide +kernel) rfl rfl (Nat.le_of_ble_eq_true rfl) dX1_setGenerators_49 (fun H locs hP hD hS => ?_)
        have hP : va_P D vwCl (CX Y A B σ hn h (va_up (zmx (t + 1) (wdS σ) wd) (t + 1) (gw (zg σ) (t + 1) 4)) (min (dmin (wdS σ) 10 (t + 1)) (popc (wdS σ (t + 1)))) r0 r1 r2 r3 r4 rl rp rb wt wn) H := hP
        have hD : va_D FA (CX Y A B σ hn h (va_up (zmx (t + 1) (wdS σ) wd) (t + 1) (gw (zg σ) (t + 1) 4)) (min (dmin (wdS σ) 10 (t + 1)) (popc (wdS σ (t + 1)))) r0 r1 r2 r3 r4 rl rp rb wt wn) := hD
        refine lv_iinc (v := (nI (t + 1 + 1))) (lv' := [(2, .int (nI (t + 1 + 1))), (0, .ref (A 7)), (1, .ref (A 2))]) hx hb dX1_setGenerators_52 hl (k := 0) rfl (zinc _) (by decide) rfl (fun ls hl => ?_)
        refine lv_goto (tgt := 15) hx hb dX1_setGenerators_55 (by decide) ?_
        have e9 : (va_up (zmx (t + 1) (wdS σ) wd) (t + 1) (gw (zg σ) (t + 1) 4)) = (zmx ((t + 1) + 1) (wdS σ) wd) := zmx_up (t + 1) (wdS σ) wd
        rw [e9] at hP hD
        clear e9
        have e9 : (min (dmin (wdS σ) 10 (t + 1)) (popc (wdS σ (t + 1)))) = (dmin (wdS σ) 10 ((t + 1) + 1)) := (if_neg (by omega)).symm
        rw [e9] at hP hD
        clear e9
        have hP : va_P D vwCl (CX Y A B σ hn h (zmx ((t + 1) + 1) (wdS σ) wd) (dmin (wdS σ) 10 ((t + 1) + 1)) r0 r1 r2 r3 r4 rl rp rb wt wn) H := hP
        have hD : va_D FA (CX Y A B σ hn h (zmx ((t + 1) + 1) (wdS σ) wd) (dmin (wdS σ) 10 ((t + 1) + 1)) r0 r1 r2 r3 r4 rl rp rb wt wn) := hD
        exact ih15 (t + 1) (by omega) (by omega) H locs hP hD hS ls (lv_sub hl [0, 1, 2] rfl)
  have e9 : (va_up wd 0 0) = (zmx (0 + 1) (wdS σ) wd) := by rw [← zmx_up 0 (wdS σ) wd, zmx_0, wdS_0]
  rw [e9] at hP hD
  clear e9
  have hP : va_P D vwCl (CX Y A B σ hn h (zmx (0 + 1) (wdS σ) wd) (dmin (wdS σ) 10 (0 + 1)) r0 r1 r2 r3 r4 rl rp rb wt wn) H := hP
  have hD : va_D FA (CX Y A B σ hn h (zmx (0 + 1) (wdS σ) wd) (dmin (wdS σ) 10 (0 + 1)) r0 r1 r2 r3 r4 rl rp rb wt wn) := hD
  exact L15 (15 - 0 + 1) 0 (by omega) (Nat.lt_succ_self _) _ _ hP hD hS ls (lv_sub hl [0, 1, 2] rfl)
theorem qX2_codeword_Cond_fieldLink_RX2_9_NestedCodes_OuterCode_parts_J_ : Cond.fieldLink RX2 9 "NestedCodes$OuterCode" "parts" "[J" ∈ wsX2_codeword := by decide +kernel
theorem qX2_codeword_inX2 : ∀ w ∈ wsX20, w ∈ wsX2_codeword := by decide +kernel
set_option maxHeartbeats 4000000 in
set_option maxRecDepth 100000 in
theorem c_X2_codeword (l : Launch) (D : va_G) (Y : Nat → ClassId) (A : Nat → Nat) (B : Nat → Nat) (σ : Nat → Nat) (hn : Nat) (h : Nat → Nat → Nat) (wd : Nat → Nat) (dd : Nat) (r0 : Nat → Nat) (r1 : Nat → Nat) (r2 : Nat → Nat) (r3 : Nat → Nat) (r4 : Nat → Nat) (rl : Nat) (rp : Nat) (rb : Nat) (wt : Nat → Nat) (wn : Nat) (m9 : Nat)  (hm : m9 < 4096) : Met l yX2_codeword wsX2_codeword ({ frames := 0, cells := 0, slots := 0, locals := 0 } : Room) (va_Pc [.ref (A 9), .int (nI m9)] (zB D Y (CX Y A B σ hn h wd dd r0 r1 r2 r3 r4 rl rp rb wt wn))) (zR (.long (lN (zcwP m9)))) 0 0 (fun _ => False) := by
  refine zr_of (cc := cX2_codeword) (maxL := 3) (ret := (some .long)) (by decide) rfl (Nat.le_of_ble_eq_true rfl) ?_
  intro p e s m below meth c R args Q hR hx hb hml hr hlk hown hts hK hN hP hQ ls hl
  have hown : s.vm.findClass RX2 = some m.cls := hown
  have hl : lv_has ls 3 [(0, .ref (A 9)), (1, .int (nI m9))] := hl
  refine lv_bipush (v := (nI 15)) hx hb dX2_codeword_0 (by decide) ?_
  refine lv_istore_n (lv' := [(2, .int (nI 15)), (0, .ref (A 9)), (1, .int (nI m9))]) hx hb dX2_codeword_2 rfl hl (by decide) rfl (fun ls hl => ?_)
  refine lv_aload_n hx hb dX2_codeword_3 rfl (lv_at hl 1 rfl) ?_
  refine va_get (D := D) (ci := 2) (v := .ref (A 10)) (C := RX2) (T := TX2) (N := 1) hx hb hts qX2_codeword_inX2 hown hK hP 9 rfl rfl 0 (by decide) (hts _ qX2_codeword_Cond_fieldLink_RX2_9_NestedCodes_OuterCode_parts_J_) (fun _ h9 => h9) rfl dX2_codeword_4 ?_
  refine lv_iload_n hx hb dX2_codeword_7 rfl (lv_at hl 2 rfl) ?_
  refine lv_iload_n hx hb dX2_codeword_8 rfl (lv_at hl 0 rfl) ?_
  refine zv_iand hx hb (v := (nI (m9 % 16))) dX2_codeword_9 (zand15 _) ?_
  refine za_l hx hb hK hP 10 (f := fun j => lN (zParts j)) (v := (lN (zParts (m9 % 16)))) rfl (by omega) (by decide) dX2_codeword_10 (rfl) ?_
  refine lv_aload_n hx hb dX2_codeword_11 rfl (lv_at hl 1 rfl) ?_
  refine va_get (D := D) (ci := 2) (v := .ref (A 10)) (C := RX2) (T := TX2) (N := 1) hx hb hts qX2_codeword_inX2 hown hK hP 9 rfl rfl 0 (by decide) (hts _ qX2_codeword_Cond_fieldLink_RX2_9_NestedCodes_OuterCode_parts_J_) (fun _ h9 => h9) rfl dX2_codeword_12 ?_
  refine lv_bipush (v := (nI 16)) hx hb dX2_codeword_15 (by decide) ?_
  refine lv_iload_n hx hb dX2_codeword_17 rfl (lv_at hl 2 rfl) ?_
  refine lv_iconst (v := (nI 4)) hx hb dX2_codeword_18 (by decide) ?_
  refine zv_ishr hx hb (v := (nI (m9 / 2 ^ 4))) dX2_codeword_19 (zShr (by omega) (by omega)) ?_
  refine lv_iload_n hx hb dX2_codeword_20 rfl (lv_at hl 0 rfl) ?_
  refine zv_iand hx hb (v := (nI (m9 / 16 % 16))) dX2_codeword_21 (zand15 _) ?_
  refine zv_iadd hx hb (v := (nI (16 + (m9 / 16 % 16)))) dX2_codeword_22 (nI_add _ _) ?_
  refine za_l hx hb hK hP 10 (f := fun j => lN (zParts j)) (v := (lN (zParts (16 + (m9 / 16 % 16))))) rfl (by omega) (by decide) dX2_codeword_23 (rfl) ?_
  refine zv_lxor hx hb (v := (lN ((zParts (m9 % 16)) ^^^ (zParts (16 + (m9 / 16 % 16)))))) dX2_codeword_24 (fb_xorL _ _) ?_
  refine lv_aload_n hx hb dX2_codeword_25 rfl (lv_at hl 1 rfl) ?_
  refine va_get (D := D) (ci := 2) (v := .ref (A 10)) (C := RX2) (T := TX2) (N := 1) hx hb hts qX2_codeword_inX2 hown hK hP 9 rfl rfl 0 (by decide) (hts _ qX2_codeword_Cond_fieldLink_RX2_9_NestedCodes_OuterCode_parts_J_) (fun _ h9 => h9) rfl dX2_codeword_26 ?_
  refine lv_bipush (v := (nI 32)) hx hb dX2_codeword_29 (by decide) ?_
  refine lv_iload_n hx hb dX2_codeword_31 rfl (lv_at hl 2 rfl) ?_
  refine lv_bipush (v := (nI 8)) hx hb dX2_codeword_32 (by decide) ?_
  refine zv_ishr hx hb (v := (nI (m9 / 2 ^ 8))) dX2_codeword_34 (zShr (by omega) (by omega)) ?_
  refine lv_iload_n hx hb dX2_codeword_35 rfl (lv_at hl 0 rfl) ?_
  refine zv_iand hx hb (v := (nI (m9 / 256 % 16))) dX2_codeword_36 (zand15 _) ?_
  refine zv_iadd hx hb (v := (nI (32 + (m9 / 256 % 16)))) dX2_codeword_37 (nI_add _ _) ?_
  refine za_l hx hb hK hP 10 (f := fun j => lN (zParts j)) (v := (lN (zParts (32 + (m9 / 256 % 16))))) rfl (by omega) (by decide) dX2_codeword_38 (rfl) ?_
  refine zv_lxor hx hb (v := (lN (((zParts (m9 % 16)) ^^^ (zParts (16 + (m9 / 16 % 16)))) ^^^ (zParts (32 + (m9 / 256 % 16)))))) dX2_codeword_39 (fb_xorL _ _) ?_
  exact zr_l hx hb hr hlk hQ dX2_codeword_40 (rfl)
theorem qX2_markSymbols_Cond_constantLong_RX2_19_18764998447377_ : Cond.constantLong RX2 19 (18764998447377) ∈ wsX2_markSymbols := by decide +kernel
set_option maxHeartbeats 4000000 in
set_option maxRecDepth 100000 in
theorem c_X2_markSymbols (l : Launch) (D : va_G) (Y : Nat → ClassId)  (x : Nat)  (hx9 : x < 18446744073709551616) : Met l yX2_markSymbols wsX2_markSymbols ({ frames := 0, cells := 0, slots := 0, locals := 0 } : Room) (va_Pc [.long (lN (x))] (zB D Y ([]))) (zR (.long (lN (mkS x)))) 0 0 (fun _ => False) := by
  refine zr_of (cc := cX2_markSymbols) (maxL := 4) (ret := (some .long)) (by decide) rfl (Nat.le_of_ble_eq_true rfl) ?_
  intro p e s m below meth c R args Q hR hx hb hml hr hlk hown hts hK hN hP hQ ls hl
  have hown : s.vm.findClass RX2 = some m.cls := hown
  have hl : lv_has ls 4 [(0, .long (lN (x)))] := hl
  refine lv_lload_n hx hb dX2_markSymbols_0 rfl (lv_at hl 0 rfl) ?_
  refine lv_lload_n hx hb dX2_markSymbols_1 rfl (lv_at hl 0 rfl) ?_
  refine lv_iconst (v := (nI 1)) hx hb dX2_markSymbols_2 (by decide) ?_
  refine lv_lushr hx hb dX2_markSymbols_3 (v := (lN (x / 2 ^ 1))) (wb_shr hx9 (by decide)) ?_
  refine zv_lor hx hb (v := (lN (x ||| (x / 2 ^ 1)))) dX2_markSymbols_4 (fb_orL _ _) ?_
  refine lv_lstore_n (lv' := [(2, .long (lN (x ||| (x / 2 ^ 1)))), (0, .long (lN (x)))]) hx hb dX2_markSymbols_5 rfl hl (by decide) rfl (fun ls hl => ?_)
  refine lv_lload_n hx hb dX2_markSymbols_6 rfl (lv_at hl 0 rfl) ?_
  refine lv_lload_n hx hb dX2_markSymbols_7 rfl (lv_at hl 0 rfl) ?_
  refine lv_iconst (v := (nI 2)) hx hb dX2_markSymbols_8 (by decide) ?_
  refine lv_lushr hx hb dX2_markSymbols_9 (v := (lN ((x ||| (x / 2 ^ 1)) / 2 ^ 2))) (wb_shr (Nat.or_lt_two_pow (n := 64) hx9 (Nat.lt_of_le_of_lt (Nat.div_le_self _ _) hx9)) (by decide)) ?_
  refine zv_lor hx hb (v := (lN ((x ||| (x / 2 ^ 1)) ||| ((x ||| (x / 2 ^ 1)) / 2 ^ 2)))) dX2_markSymbols_10 (fb_orL _ _) ?_
  refine lv_ldc2 hx hb hown (hts _ qX2_markSymbols_Cond_constantLong_RX2_19_18764998447377_) dX2_markSymbols_11 ?_
  refine zt_l (v := lN 18764998447377) (by rfl) ?_
  refine zv_land hx hb (v := (lN (((x ||| (x / 2 ^ 1)) ||| ((x ||| (x / 2 ^ 1)) / 2 ^ 2)) &&& 18764998447377))) dX2_markSymbols_14 (fb_andL _ _) ?_
  exact zr_l hx hb hr hlk hQ dX2_markSymbols_15 (rfl)
theorem qX2_marks_Cond_constantLong_RX2_19_18764998447377_ : Cond.constantLong RX2 19 (18764998447377) ∈ wsX2_marks := by decide +kernel
set_option maxHeartbeats 4000000 in
set_option maxRecDepth 100000 in
theorem c_X2_marks (l : Launch) (D : va_G) (Y : Nat → ClassId)  (n : Nat)  (hn : n ≤ 12) : Met l yX2_marks wsX2_marks ({ frames := 0, cells := 0, slots := 0, locals := 0 } : Room) (va_Pc [.int (nI n)] (zB D Y ([]))) (zR (.long (lN (mkP (fun j => decide (j < n)))))) 0 0 (fun _ => False) := by
  refine zr_of (cc := cX2_marks) (maxL := 1) (ret := (some .long)) (by decide) rfl (Nat.le_of_ble_eq_true rfl) ?_
  intro p e s m below meth c R args Q hR hx hb hml hr hlk hown hts hK hN hP hQ ls hl
  have hown : s.vm.findClass RX2 = some m.cls := hown
  have hl : lv_has ls 1 [(0, .int (nI n))] := hl
  refine lv_ldc2 hx hb hown (hts _ qX2_marks_Cond_constantLong_RX2_19_18764998447377_) dX2_marks_0 ?_
  refine zt_l (v := lN 18764998447377) (by rfl) ?_
  refine lv_lconst (v := lN 1) hx hb dX2_marks_3 (by decide) ?_
  refine lv_iconst (v := (nI 4)) hx hb dX2_marks_4 (by decide) ?_
  refine lv_iload_n hx hb dX2_marks_5 rfl (lv_at hl 0 rfl) ?_
  refine zv_imul hx hb (v := (nI (4 * n))) dX2_marks_6 (pk_mul _ _) ?_
  refine lv_lshl hx hb dX2_marks_7 (v := (lN (1 * 2 ^ (4 * n)))) (wb_shl _ (by omega)) ?_
  refine lv_lconst (v := lN 1) hx hb dX2_marks_8 (by decide) ?_
  refine zv_lsub hx hb (v := (lN ((1 * 2 ^ (4 * n)) - 1))) dX2_marks_9 (lN_sub (by have := Nat.two_pow_pos (4 * n); omega)) ?_
  refine zv_land hx hb (v := (lN (18764998447377 &&& ((1 * 2 ^ (4 * n)) - 1)))) dX2_marks_10 (fb_andL _ _) ?_
  exact zr_l hx hb hr hlk hQ dX2_marks_11 (congrArg lN (mk_marks n hn))
theorem qX4_outerDistance_Cond_fieldLink_RX4_9_NestedCodes_State_length_I_ : Cond.fieldLink RX4 9 "NestedCodes$State" "length" "I" ∈ wsX4_outerDistance := by decide +kernel
theorem qX4_outerDistance_inX4 : ∀ w ∈ wsX40, w ∈ wsX4_outerDistance := by decide +kernel
theorem qX4_outerDistance_Cond_fieldLink_RX4_15_NestedCodes_State_dimension_I_ : Cond.fieldLink RX4 15 "NestedCodes$State" "dimension" "I" ∈ wsX4_outerDistance := by decide +kernel
set_option maxHeartbeats 4000000 in
set_option maxRecDepth 100000 in
theorem c_X4_outerDistance (l : Launch) (D : va_G) (Y : Nat → ClassId) (A : Nat → Nat) (B : Nat → Nat) (σ : Nat → Nat) (hn : Nat) (h : Nat → Nat → Nat) (wd : Nat → Nat) (dd : Nat) (r0 : Nat → Nat) (r1 : Nat → Nat) (r2 : Nat → Nat) (r3 : Nat → Nat) (r4 : Nat → Nat) (rl : Nat) (rp : Nat) (rb : Nat) (wt : Nat → Nat) (wn : Nat)   (kσ : zWF σ) : Met l yX4_outerDistance wsX4_outerDistance ({ frames := 0, cells := 0, slots := 0, locals := 0 } : Room) (va_Pc [.ref (A 1)] (zB D Y (CX Y A B σ hn h wd dd r0 r1 r2 r3 r4 rl rp rb wt wn))) (zR (.int (nI (σ 0 - σ 1 + 1)))) 0 0 (fun _ => False) := by
  refine zr_of (cc := cX4_outerDistance) (maxL := 1) (ret := (some .int)) (by decide) rfl (Nat.le_of_ble_eq_true rfl) ?_
  intro p e s m below meth c R args Q hR hx hb hml hr hlk hown hts hK hN hP hQ ls hl
  have hown : s.vm.findClass RX4 = some m.cls := hown
  have hl : lv_has ls 1 [(0, .ref (A 1))] := hl
  have kw := kσ
  obtain ⟨n3, n12, d1, d3, dn, b4, b10, gl, lm, sn, wl, wnz⟩ := kw
  have pb := zp_b b10
  have pk9 := zp_k d3
  refine lv_aload_n hx hb dX4_outerDistance_0 rfl (lv_at hl 0 rfl) ?_
  refine va_get (D := D) (ci := 4) (v := .int (nI (σ 0))) (C := RX4) (T := TX4) (N := 7) hx hb hts qX4_outerDistance_inX4 hown hK hP 1 rfl rfl 0 (by decide) (hts _ qX4_outerDistance_Cond_fieldLink_RX4_9_NestedCodes_State_length_I_) (fun _ h9 => h9) rfl dX4_outerDistance_1 ?_
  refine lv_aload_n hx hb dX4_outerDistance_4 rfl (lv_at hl 0 rfl) ?_
  refine va_get (D := D) (ci := 4) (v := .int (nI (σ 1))) (C := RX4) (T := TX4) (N := 7) hx hb hts qX4_outerDistance_inX4 hown hK hP 1 rfl rfl 1 (by decide) (hts _ qX4_outerDistance_Cond_fieldLink_RX4_15_NestedCodes_State_dimension_I_) (fun _ h9 => h9) rfl dX4_outerDistance_5 ?_
  refine zv_isub hx hb (v := (nI ((σ 0) - (σ 1)))) dX4_outerDistance_8 (pk_sub (by omega)) ?_
  refine lv_iconst (v := (nI 1)) hx hb dX4_outerDistance_9 (by decide) ?_
  refine zv_iadd hx hb (v := (nI (((σ 0) - (σ 1)) + 1))) dX4_outerDistance_10 (nI_add _ _) ?_
  exact zr_i hx hb hr hlk hQ dX4_outerDistance_11 (rfl)
theorem qX4_messages_Cond_fieldLink_RX4_15_NestedCodes_State_dimension_I_ : Cond.fieldLink RX4 15 "NestedCodes$State" "dimension" "I" ∈ wsX4_messages := by decide +kernel
theorem qX4_messages_inX4 : ∀ w ∈ wsX40, w ∈ wsX4_messages := by decide +kernel
set_option maxHeartbeats 4000000 in
set_option maxRecDepth 100000 in
theorem c_X4_messages (l : Launch) (D : va_G) (Y : Nat → ClassId) (A : Nat → Nat) (B : Nat → Nat) (σ : Nat → Nat) (hn : Nat) (h : Nat → Nat → Nat) (wd : Nat → Nat) (dd : Nat) (r0 : Nat → Nat) (r1 : Nat → Nat) (r2 : Nat → Nat) (r3 : Nat → Nat) (r4 : Nat → Nat) (rl : Nat) (rp : Nat) (rb : Nat) (wt : Nat → Nat) (wn : Nat)   (kσ : zWF σ) : Met l yX4_messages wsX4_messages ({ frames := 0, cells := 0, slots := 0, locals := 0 } : Room) (va_Pc [.ref (A 1)] (zB D Y (CX Y A B σ hn h wd dd r0 r1 r2 r3 r4 rl rp rb wt wn))) (zR (.int (nI (2 ^ (4 * σ 1))))) 0 0 (fun _ => False) := by
  refine zr_of (cc := cX4_messages) (maxL := 1) (ret := (some .int)) (by decide) rfl (Nat.le_of_ble_eq_true rfl) ?_
  intro p e s m below meth c R args Q hR hx hb hml hr hlk hown hts hK hN hP hQ ls hl
  have hown : s.vm.findClass RX4 = some m.cls := hown
  have hl : lv_has ls 1 [(0, .ref (A 1))] := hl
  have kw := kσ
  obtain ⟨n3, n12, d1, d3, dn, b4, b10, gl, lm, sn, wl, wnz⟩ := kw
  have pb := zp_b b10
  have pk9 := zp_k d3
  refine lv_iconst (v := (nI 1)) hx hb dX4_messages_0 (by decide) ?_
  refine lv_iconst (v := (nI 4)) hx hb dX4_messages_1 (by decide) ?_
  refine lv_aload_n hx hb dX4_messages_2 rfl (lv_at hl 0 rfl) ?_
  refine va_get (D := D) (ci := 4) (v := .int (nI (σ 1))) (C := RX4) (T := TX4) (N := 7) hx hb hts qX4_messages_inX4 hown hK hP 1 rfl rfl 1 (by decide) (hts _ qX4_messages_Cond_fieldLink_RX4_15_NestedCodes_State_dimension_I_) (fun _ h9 => h9) rfl dX4_messages_3 ?_
  refine zv_imul hx hb (v := (nI (4 * (σ 1)))) dX4_messages_6 (pk_mul _ _) ?_
  refine zv_ishl hx hb (v := (nI (2 ^ (4 * σ 1)))) dX4_messages_7 (by rw [zShl (by omega) (by omega), Nat.one_mul]) ?_
  exact zr_i hx hb hr hlk hQ dX4_messages_8 (rfl)
theorem qX4_allBits_Cond_fieldLink_RX4_18_NestedCodes_State_bits_I_ : Cond.fieldLink RX4 18 "NestedCodes$State" "bits" "I" ∈ wsX4_allBits := by decide +kernel
theorem qX4_allBits_inX4 : ∀ w ∈ wsX40, w ∈ wsX4_allBits := by decide +kernel
set_option maxHeartbeats 4000000 in
set_option maxRecDepth 100000 in
theorem c_X4_allBits (l : Launch) (D : va_G) (Y : Nat → ClassId) (A : Nat → Nat) (B : Nat → Nat) (σ : Nat → Nat) (hn : Nat) (h : Nat → Nat → Nat) (wd : Nat → Nat) (dd : Nat) (r0 : Nat → Nat) (r1 : Nat → Nat) (r2 : Nat → Nat) (r3 : Nat → Nat) (r4 : Nat → Nat) (rl : Nat) (rp : Nat) (rb : Nat) (wt : Nat → Nat) (wn : Nat)   (kσ : zWF σ) : Met l yX4_allBits wsX4_allBits ({ frames := 0, cells := 0, slots := 0, locals := 0 } : Room) (va_Pc [.ref (A 1)] (zB D Y (CX Y A B σ hn h wd dd r0 r1 r2 r3 r4 rl rp rb wt wn))) (zR (.int (nI (2 ^ (σ 2) - 1)))) 0 0 (fun _ => False) := by
  refine zr_of (cc := cX4_allBits) (maxL := 1) (ret := (some .int)) (by decide) rfl (Nat.le_of_ble_eq_true rfl) ?_
  intro p e s m below meth c R args Q hR hx hb hml hr hlk hown hts hK hN hP hQ ls hl
  have hown : s.vm.findClass RX4 = some m.cls := hown
  have hl : lv_has ls 1 [(0, .ref (A 1))] := hl
  have kw := kσ
  obtain ⟨n3, n12, d1, d3, dn, b4, b10, gl, lm, sn, wl, wnz⟩ := kw
  have pb := zp_b b10
  have pk9 := zp_k d3
  refine lv_iconst (v := (nI 1)) hx hb dX4_allBits_0 (by decide) ?_
  refine lv_aload_n hx hb dX4_allBits_1 rfl (lv_at hl 0 rfl) ?_
  refine va_get (D := D) (ci := 4) (v := .int (nI (σ 2))) (C := RX4) (T := TX4) (N := 7) hx hb hts qX4_allBits_inX4 hown hK hP 1 rfl rfl 2 (by decide) (hts _ qX4_allBits_Cond_fieldLink_RX4_18_NestedCodes_State_bits_I_) (fun _ h9 => h9) rfl dX4_allBits_2 ?_
  refine zv_ishl hx hb (v := (nI (2 ^ (σ 2)))) dX4_allBits_5 (by rw [zShl (by omega) (by omega), Nat.one_mul]) ?_
  refine lv_iconst (v := (nI 1)) hx hb dX4_allBits_6 (by decide) ?_
  refine zv_isub hx hb (v := (nI ((2 ^ (σ 2)) - 1))) dX4_allBits_7 (pk_sub (Nat.two_pow_pos _)) ?_
  exact zr_i hx hb hr hlk hQ dX4_allBits_8 (rfl)
end
