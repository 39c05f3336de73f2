section
-- ===== PART A: goes FIRST, ahead of the names: the tables' words, and 'selects' of the private methods out of them =====
/-- a private method of a class that the tables say can be made, by its rows of tables_1 -/
def lw_okq (q : MethodName × Nat) : Prop := (q.1.cls ≠ "java/lang/invoke/MethodHandle" ∧ q.1.cls ≠ "java/lang/invoke/VarHandle") ∧ Cond.instantiable q.1.cls q.2 ∈ tables_1 ∧ Cond.privateMethod q.1 ∈ tables_1 ∧ Cond.instanceMethod q.1 ∈ tables_1
theorem lw_p0 : lw_okq (⟨"KeyboardKit$Interrupts", "wanted", "(Z)I"⟩, 7) := ⟨⟨by decide +kernel, by decide +kernel⟩, List.mem_of_getElem? (i := 101) (by decide +kernel), List.mem_of_getElem? (i := 243) (by decide +kernel), List.mem_of_getElem? (i := 244) (by decide +kernel)⟩
theorem lw_p1 : lw_okq (⟨"KeyboardKit$Processor", "call", "(I)V"⟩, 11) := ⟨⟨by decide +kernel, by decide +kernel⟩, List.mem_of_getElem? (i := 137) (by decide +kernel), List.mem_of_getElem? (i := 247) (by decide +kernel), List.mem_of_getElem? (i := 248) (by decide +kernel)⟩
theorem lw_p2 : lw_okq (⟨"KeyboardKit$Processor", "push", "(I)V"⟩, 11) := ⟨⟨by decide +kernel, by decide +kernel⟩, List.mem_of_getElem? (i := 137) (by decide +kernel), List.mem_of_getElem? (i := 251) (by decide +kernel), List.mem_of_getElem? (i := 252) (by decide +kernel)⟩
theorem lw_p3 : lw_okq (⟨"KeyboardKit$Processor", "writeWord", "(II)V"⟩, 11) := ⟨⟨by decide +kernel, by decide +kernel⟩, List.mem_of_getElem? (i := 137) (by decide +kernel), List.mem_of_getElem? (i := 256) (by decide +kernel), List.mem_of_getElem? (i := 257) (by decide +kernel)⟩
theorem lw_p4 : lw_okq (⟨"KeyboardKit$Processor", "execute", "(I)V"⟩, 11) := ⟨⟨by decide +kernel, by decide +kernel⟩, List.mem_of_getElem? (i := 137) (by decide +kernel), List.mem_of_getElem? (i := 260) (by decide +kernel), List.mem_of_getElem? (i := 261) (by decide +kernel)⟩
theorem lw_p5 : lw_okq (⟨"KeyboardKit$Processor", "executeGroup0", "(II)V"⟩, 11) := ⟨⟨by decide +kernel, by decide +kernel⟩, List.mem_of_getElem? (i := 137) (by decide +kernel), List.mem_of_getElem? (i := 264) (by decide +kernel), List.mem_of_getElem? (i := 265) (by decide +kernel)⟩
theorem lw_p6 : lw_okq (⟨"KeyboardKit$Processor", "useMask", "(I)V"⟩, 11) := ⟨⟨by decide +kernel, by decide +kernel⟩, List.mem_of_getElem? (i := 137) (by decide +kernel), List.mem_of_getElem? (i := 268) (by decide +kernel), List.mem_of_getElem? (i := 269) (by decide +kernel)⟩
theorem lw_p7 : lw_okq (⟨"KeyboardKit$Processor", "loadOrAddPair", "(I)V"⟩, 11) := ⟨⟨by decide +kernel, by decide +kernel⟩, List.mem_of_getElem? (i := 137) (by decide +kernel), List.mem_of_getElem? (i := 280) (by decide +kernel), List.mem_of_getElem? (i := 281) (by decide +kernel)⟩
theorem lw_p8 : lw_okq (⟨"KeyboardKit$Processor", "fetchWord", "()I"⟩, 11) := ⟨⟨by decide +kernel, by decide +kernel⟩, List.mem_of_getElem? (i := 137) (by decide +kernel), List.mem_of_getElem? (i := 284) (by decide +kernel), List.mem_of_getElem? (i := 285) (by decide +kernel)⟩
theorem lw_p9 : lw_okq (⟨"KeyboardKit$Processor", "fetch", "()I"⟩, 11) := ⟨⟨by decide +kernel, by decide +kernel⟩, List.mem_of_getElem? (i := 137) (by decide +kernel), List.mem_of_getElem? (i := 288) (by decide +kernel), List.mem_of_getElem? (i := 289) (by decide +kernel)⟩
theorem lw_p10 : lw_okq (⟨"KeyboardKit$Processor", "putPair", "(II)V"⟩, 11) := ⟨⟨by decide +kernel, by decide +kernel⟩, List.mem_of_getElem? (i := 137) (by decide +kernel), List.mem_of_getElem? (i := 292) (by decide +kernel), List.mem_of_getElem? (i := 293) (by decide +kernel)⟩
theorem lw_p11 : lw_okq (⟨"KeyboardKit$Processor", "pair", "(I)I"⟩, 11) := ⟨⟨by decide +kernel, by decide +kernel⟩, List.mem_of_getElem? (i := 137) (by decide +kernel), List.mem_of_getElem? (i := 296) (by decide +kernel), List.mem_of_getElem? (i := 297) (by decide +kernel)⟩
theorem lw_p12 : lw_okq (⟨"KeyboardKit$Processor", "moveByAddress", "(I)V"⟩, 11) := ⟨⟨by decide +kernel, by decide +kernel⟩, List.mem_of_getElem? (i := 137) (by decide +kernel), List.mem_of_getElem? (i := 304) (by decide +kernel), List.mem_of_getElem? (i := 305) (by decide +kernel)⟩
theorem lw_p13 : lw_okq (⟨"KeyboardKit$Processor", "write", "(II)V"⟩, 11) := ⟨⟨by decide +kernel, by decide +kernel⟩, List.mem_of_getElem? (i := 137) (by decide +kernel), List.mem_of_getElem? (i := 308) (by decide +kernel), List.mem_of_getElem? (i := 309) (by decide +kernel)⟩
theorem lw_p14 : lw_okq (⟨"KeyboardKit$Processor", "read", "(I)I"⟩, 11) := ⟨⟨by decide +kernel, by decide +kernel⟩, List.mem_of_getElem? (i := 137) (by decide +kernel), List.mem_of_getElem? (i := 312) (by decide +kernel), List.mem_of_getElem? (i := 313) (by decide +kernel)⟩
theorem lw_p15 : lw_okq (⟨"KeyboardKit$Processor", "readWord", "(I)I"⟩, 11) := ⟨⟨by decide +kernel, by decide +kernel⟩, List.mem_of_getElem? (i := 137) (by decide +kernel), List.mem_of_getElem? (i := 316) (by decide +kernel), List.mem_of_getElem? (i := 317) (by decide +kernel)⟩
def lw_privs_1 : List (MethodName × Nat) := [(⟨"KeyboardKit$Interrupts", "wanted", "(Z)I"⟩, 7), (⟨"KeyboardKit$Processor", "call", "(I)V"⟩, 11), (⟨"KeyboardKit$Processor", "push", "(I)V"⟩, 11), (⟨"KeyboardKit$Processor", "writeWord", "(II)V"⟩, 11), (⟨"KeyboardKit$Processor", "execute", "(I)V"⟩, 11), (⟨"KeyboardKit$Processor", "executeGroup0", "(II)V"⟩, 11), (⟨"KeyboardKit$Processor", "useMask", "(I)V"⟩, 11), (⟨"KeyboardKit$Processor", "loadOrAddPair", "(I)V"⟩, 11), (⟨"KeyboardKit$Processor", "fetchWord", "()I"⟩, 11), (⟨"KeyboardKit$Processor", "fetch", "()I"⟩, 11), (⟨"KeyboardKit$Processor", "putPair", "(II)V"⟩, 11), (⟨"KeyboardKit$Processor", "pair", "(I)I"⟩, 11), (⟨"KeyboardKit$Processor", "moveByAddress", "(I)V"⟩, 11), (⟨"KeyboardKit$Processor", "write", "(II)V"⟩, 11), (⟨"KeyboardKit$Processor", "read", "(I)I"⟩, 11), (⟨"KeyboardKit$Processor", "readWord", "(I)I"⟩, 11)]
theorem lw_r1 : ∀ q ∈ lw_privs_1, lw_okq q := List.forall_mem_cons.mpr ⟨lw_p0, List.forall_mem_cons.mpr ⟨lw_p1, List.forall_mem_cons.mpr ⟨lw_p2, List.forall_mem_cons.mpr ⟨lw_p3, List.forall_mem_cons.mpr ⟨lw_p4, List.forall_mem_cons.mpr ⟨lw_p5, List.forall_mem_cons.mpr ⟨lw_p6, List.forall_mem_cons.mpr ⟨lw_p7, List.forall_mem_cons.mpr ⟨lw_p8, List.forall_mem_cons.mpr ⟨lw_p9, List.forall_mem_cons.mpr ⟨lw_p10, List.forall_mem_cons.mpr ⟨lw_p11, List.forall_mem_cons.mpr ⟨lw_p12, List.forall_mem_cons.mpr ⟨lw_p13, List.forall_mem_cons.mpr ⟨lw_p14, List.forall_mem_cons.mpr ⟨lw_p15, fun _ h => absurd h List.not_mem_nil⟩⟩⟩⟩⟩⟩⟩⟩⟩⟩⟩⟩⟩⟩⟩⟩
theorem lw_p16 : lw_okq (⟨"KeyboardKit$Processor", "countPair", "(I)V"⟩, 11) := ⟨⟨by decide +kernel, by decide +kernel⟩, List.mem_of_getElem? (i := 137) (by decide +kernel), List.mem_of_getElem? (i := 320) (by decide +kernel), List.mem_of_getElem? (i := 321) (by decide +kernel)⟩
theorem lw_p17 : lw_okq (⟨"KeyboardKit$Processor", "countUp", "(I)V"⟩, 11) := ⟨⟨by decide +kernel, by decide +kernel⟩, List.mem_of_getElem? (i := 137) (by decide +kernel), List.mem_of_getElem? (i := 324) (by decide +kernel), List.mem_of_getElem? (i := 325) (by decide +kernel)⟩
theorem lw_p18 : lw_okq (⟨"KeyboardKit$Processor", "register", "(I)I"⟩, 11) := ⟨⟨by decide +kernel, by decide +kernel⟩, List.mem_of_getElem? (i := 137) (by decide +kernel), List.mem_of_getElem? (i := 332) (by decide +kernel), List.mem_of_getElem? (i := 333) (by decide +kernel)⟩
theorem lw_p19 : lw_okq (⟨"KeyboardKit$Processor", "putRegister", "(II)V"⟩, 11) := ⟨⟨by decide +kernel, by decide +kernel⟩, List.mem_of_getElem? (i := 137) (by decide +kernel), List.mem_of_getElem? (i := 346) (by decide +kernel), List.mem_of_getElem? (i := 347) (by decide +kernel)⟩
theorem lw_p20 : lw_okq (⟨"KeyboardKit$Processor", "countDown", "(I)V"⟩, 11) := ⟨⟨by decide +kernel, by decide +kernel⟩, List.mem_of_getElem? (i := 137) (by decide +kernel), List.mem_of_getElem? (i := 350) (by decide +kernel), List.mem_of_getElem? (i := 351) (by decide +kernel)⟩
theorem lw_p21 : lw_okq (⟨"KeyboardKit$Processor", "changeAccumulator", "(I)V"⟩, 11) := ⟨⟨by decide +kernel, by decide +kernel⟩, List.mem_of_getElem? (i := 137) (by decide +kernel), List.mem_of_getElem? (i := 359) (by decide +kernel), List.mem_of_getElem? (i := 360) (by decide +kernel)⟩
theorem lw_p22 : lw_okq (⟨"KeyboardKit$Processor", "turnLeft", "(II)V"⟩, 11) := ⟨⟨by decide +kernel, by decide +kernel⟩, List.mem_of_getElem? (i := 137) (by decide +kernel), List.mem_of_getElem? (i := 363) (by decide +kernel), List.mem_of_getElem? (i := 364) (by decide +kernel)⟩
theorem lw_p23 : lw_okq (⟨"KeyboardKit$Processor", "turnRight", "(II)V"⟩, 11) := ⟨⟨by decide +kernel, by decide +kernel⟩, List.mem_of_getElem? (i := 137) (by decide +kernel), List.mem_of_getElem? (i := 367) (by decide +kernel), List.mem_of_getElem? (i := 368) (by decide +kernel)⟩
theorem lw_p24 : lw_okq (⟨"KeyboardKit$Processor", "move", "(II)V"⟩, 11) := ⟨⟨by decide +kernel, by decide +kernel⟩, List.mem_of_getElem? (i := 137) (by decide +kernel), List.mem_of_getElem? (i := 381) (by decide +kernel), List.mem_of_getElem? (i := 382) (by decide +kernel)⟩
theorem lw_p25 : lw_okq (⟨"KeyboardKit$Processor", "operate", "(II)V"⟩, 11) := ⟨⟨by decide +kernel, by decide +kernel⟩, List.mem_of_getElem? (i := 137) (by decide +kernel), List.mem_of_getElem? (i := 385) (by decide +kernel), List.mem_of_getElem? (i := 386) (by decide +kernel)⟩
theorem lw_p26 : lw_okq (⟨"KeyboardKit$Processor", "executeGroup3", "(II)V"⟩, 11) := ⟨⟨by decide +kernel, by decide +kernel⟩, List.mem_of_getElem? (i := 137) (by decide +kernel), List.mem_of_getElem? (i := 393) (by decide +kernel), List.mem_of_getElem? (i := 394) (by decide +kernel)⟩
theorem lw_p27 : lw_okq (⟨"KeyboardKit$Processor", "pop", "()I"⟩, 11) := ⟨⟨by decide +kernel, by decide +kernel⟩, List.mem_of_getElem? (i := 137) (by decide +kernel), List.mem_of_getElem? (i := 401) (by decide +kernel), List.mem_of_getElem? (i := 402) (by decide +kernel)⟩
theorem lw_p28 : lw_okq (⟨"KeyboardKit$Processor", "popOrReturn", "(I)V"⟩, 11) := ⟨⟨by decide +kernel, by decide +kernel⟩, List.mem_of_getElem? (i := 137) (by decide +kernel), List.mem_of_getElem? (i := 405) (by decide +kernel), List.mem_of_getElem? (i := 406) (by decide +kernel)⟩
theorem lw_p29 : lw_okq (⟨"KeyboardKit$Processor", "popAccumulatorAndFlags", "()V"⟩, 11) := ⟨⟨by decide +kernel, by decide +kernel⟩, List.mem_of_getElem? (i := 137) (by decide +kernel), List.mem_of_getElem? (i := 409) (by decide +kernel), List.mem_of_getElem? (i := 410) (by decide +kernel)⟩
theorem lw_p30 : lw_okq (⟨"KeyboardKit$Processor", "jumpIf", "(Z)V"⟩, 11) := ⟨⟨by decide +kernel, by decide +kernel⟩, List.mem_of_getElem? (i := 137) (by decide +kernel), List.mem_of_getElem? (i := 413) (by decide +kernel), List.mem_of_getElem? (i := 414) (by decide +kernel)⟩
theorem lw_p31 : lw_okq (⟨"KeyboardKit$Processor", "executeSpecial", "(I)V"⟩, 11) := ⟨⟨by decide +kernel, by decide +kernel⟩, List.mem_of_getElem? (i := 137) (by decide +kernel), List.mem_of_getElem? (i := 417) (by decide +kernel), List.mem_of_getElem? (i := 418) (by decide +kernel)⟩
def lw_privs_2 : List (MethodName × Nat) := [(⟨"KeyboardKit$Processor", "countPair", "(I)V"⟩, 11), (⟨"KeyboardKit$Processor", "countUp", "(I)V"⟩, 11), (⟨"KeyboardKit$Processor", "register", "(I)I"⟩, 11), (⟨"KeyboardKit$Processor", "putRegister", "(II)V"⟩, 11), (⟨"KeyboardKit$Processor", "countDown", "(I)V"⟩, 11), (⟨"KeyboardKit$Processor", "changeAccumulator", "(I)V"⟩, 11), (⟨"KeyboardKit$Processor", "turnLeft", "(II)V"⟩, 11), (⟨"KeyboardKit$Processor", "turnRight", "(II)V"⟩, 11), (⟨"KeyboardKit$Processor", "move", "(II)V"⟩, 11), (⟨"KeyboardKit$Processor", "operate", "(II)V"⟩, 11), (⟨"KeyboardKit$Processor", "executeGroup3", "(II)V"⟩, 11), (⟨"KeyboardKit$Processor", "pop", "()I"⟩, 11), (⟨"KeyboardKit$Processor", "popOrReturn", "(I)V"⟩, 11), (⟨"KeyboardKit$Processor", "popAccumulatorAndFlags", "()V"⟩, 11), (⟨"KeyboardKit$Processor", "jumpIf", "(Z)V"⟩, 11), (⟨"KeyboardKit$Processor", "executeSpecial", "(I)V"⟩, 11)]
theorem lw_r2 : ∀ q ∈ lw_privs_2, lw_okq q := List.forall_mem_cons.mpr ⟨lw_p16, List.forall_mem_cons.mpr ⟨lw_p17, List.forall_mem_cons.mpr ⟨lw_p18, List.forall_mem_cons.mpr ⟨lw_p19, List.forall_mem_cons.mpr ⟨lw_p20, List.forall_mem_cons.mpr ⟨lw_p21, List.forall_mem_cons.mpr ⟨lw_p22, List.forall_mem_cons.mpr ⟨lw_p23, List.forall_mem_cons.mpr ⟨lw_p24, List.forall_mem_cons.mpr ⟨lw_p25, List.forall_mem_cons.mpr ⟨lw_p26, List.forall_mem_cons.mpr ⟨lw_p27, List.forall_mem_cons.mpr ⟨lw_p28, List.forall_mem_cons.mpr ⟨lw_p29, List.forall_mem_cons.mpr ⟨lw_p30, List.forall_mem_cons.mpr ⟨lw_p31, fun _ h => absurd h List.not_mem_nil⟩⟩⟩⟩⟩⟩⟩⟩⟩⟩⟩⟩⟩⟩⟩⟩
theorem lw_p32 : lw_okq (⟨"KeyboardKit$KeyUnit", "clear", "()V"⟩, 11) := ⟨⟨by decide +kernel, by decide +kernel⟩, List.mem_of_getElem? (i := 57) (by decide +kernel), List.mem_of_getElem? (i := 440) (by decide +kernel), List.mem_of_getElem? (i := 441) (by decide +kernel)⟩
theorem lw_p33 : lw_okq (⟨"KeyboardKit$Processor", "exchangeWithStack", "()V"⟩, 11) := ⟨⟨by decide +kernel, by decide +kernel⟩, List.mem_of_getElem? (i := 137) (by decide +kernel), List.mem_of_getElem? (i := 460) (by decide +kernel), List.mem_of_getElem? (i := 461) (by decide +kernel)⟩
theorem lw_p34 : lw_okq (⟨"KeyboardKit$Processor", "exchangeWithDe", "()V"⟩, 11) := ⟨⟨by decide +kernel, by decide +kernel⟩, List.mem_of_getElem? (i := 137) (by decide +kernel), List.mem_of_getElem? (i := 464) (by decide +kernel), List.mem_of_getElem? (i := 465) (by decide +kernel)⟩
theorem lw_p35 : lw_okq (⟨"KeyboardKit$Processor", "callIf", "(Z)V"⟩, 11) := ⟨⟨by decide +kernel, by decide +kernel⟩, List.mem_of_getElem? (i := 137) (by decide +kernel), List.mem_of_getElem? (i := 472) (by decide +kernel), List.mem_of_getElem? (i := 473) (by decide +kernel)⟩
theorem lw_p36 : lw_okq (⟨"KeyboardKit$Processor", "pushOrGo", "(I)V"⟩, 11) := ⟨⟨by decide +kernel, by decide +kernel⟩, List.mem_of_getElem? (i := 137) (by decide +kernel), List.mem_of_getElem? (i := 476) (by decide +kernel), List.mem_of_getElem? (i := 477) (by decide +kernel)⟩
theorem lw_p37 : lw_okq (⟨"KeyboardKit$Processor", "passTicks", "(I)V"⟩, 11) := ⟨⟨by decide +kernel, by decide +kernel⟩, List.mem_of_getElem? (i := 137) (by decide +kernel), List.mem_of_getElem? (i := 480) (by decide +kernel), List.mem_of_getElem? (i := 481) (by decide +kernel)⟩
theorem lw_p38 : lw_okq (⟨"KeyboardKit$KeyUnit", "scan", "(I)V"⟩, 11) := ⟨⟨by decide +kernel, by decide +kernel⟩, List.mem_of_getElem? (i := 57) (by decide +kernel), List.mem_of_getElem? (i := 492) (by decide +kernel), List.mem_of_getElem? (i := 493) (by decide +kernel)⟩
theorem lw_p39 : lw_okq (⟨"KeyboardKit$KeyUnit", "enqueue", "(I)V"⟩, 11) := ⟨⟨by decide +kernel, by decide +kernel⟩, List.mem_of_getElem? (i := 57) (by decide +kernel), List.mem_of_getElem? (i := 496) (by decide +kernel), List.mem_of_getElem? (i := 497) (by decide +kernel)⟩
theorem lw_p40 : lw_okq (⟨"java/lang/Throwable", "fillInStackTrace", "(I)Ljava/lang/Throwable;"⟩, 6) := ⟨⟨by decide +kernel, by decide +kernel⟩, List.mem_of_getElem? (i := 545) (by decide +kernel), List.mem_of_getElem? (i := 543) (by decide +kernel), List.mem_of_getElem? (i := 544) (by decide +kernel)⟩
theorem lw_p41 : lw_okq (⟨"KeyboardKitModel", "once", "()I"⟩, 30) := ⟨⟨by decide +kernel, by decide +kernel⟩, List.mem_of_getElem? (i := 633) (by decide +kernel), List.mem_of_getElem? (i := 746) (by decide +kernel), List.mem_of_getElem? (i := 747) (by decide +kernel)⟩
theorem lw_p42 : lw_okq (⟨"KeyboardKitModel", "wanted", "()I"⟩, 30) := ⟨⟨by decide +kernel, by decide +kernel⟩, List.mem_of_getElem? (i := 633) (by decide +kernel), List.mem_of_getElem? (i := 750) (by decide +kernel), List.mem_of_getElem? (i := 751) (by decide +kernel)⟩
theorem lw_p43 : lw_okq (⟨"KeyboardKitModel", "call", "(I)V"⟩, 30) := ⟨⟨by decide +kernel, by decide +kernel⟩, List.mem_of_getElem? (i := 633) (by decide +kernel), List.mem_of_getElem? (i := 754) (by decide +kernel), List.mem_of_getElem? (i := 755) (by decide +kernel)⟩
theorem lw_p44 : lw_okq (⟨"KeyboardKitModel", "push", "(I)V"⟩, 30) := ⟨⟨by decide +kernel, by decide +kernel⟩, List.mem_of_getElem? (i := 633) (by decide +kernel), List.mem_of_getElem? (i := 758) (by decide +kernel), List.mem_of_getElem? (i := 759) (by decide +kernel)⟩
theorem lw_p45 : lw_okq (⟨"KeyboardKitModel", "write", "(II)V"⟩, 30) := ⟨⟨by decide +kernel, by decide +kernel⟩, List.mem_of_getElem? (i := 633) (by decide +kernel), List.mem_of_getElem? (i := 763) (by decide +kernel), List.mem_of_getElem? (i := 764) (by decide +kernel)⟩
theorem lw_p46 : lw_okq (⟨"KeyboardKitModel", "instruction", "()V"⟩, 30) := ⟨⟨by decide +kernel, by decide +kernel⟩, List.mem_of_getElem? (i := 633) (by decide +kernel), List.mem_of_getElem? (i := 767) (by decide +kernel), List.mem_of_getElem? (i := 768) (by decide +kernel)⟩
theorem lw_p47 : lw_okq (⟨"KeyboardKitModel", "fetch", "()I"⟩, 30) := ⟨⟨by decide +kernel, by decide +kernel⟩, List.mem_of_getElem? (i := 633) (by decide +kernel), List.mem_of_getElem? (i := 771) (by decide +kernel), List.mem_of_getElem? (i := 772) (by decide +kernel)⟩
def lw_privs_3 : List (MethodName × Nat) := [(⟨"KeyboardKit$KeyUnit", "clear", "()V"⟩, 11), (⟨"KeyboardKit$Processor", "exchangeWithStack", "()V"⟩, 11), (⟨"KeyboardKit$Processor", "exchangeWithDe", "()V"⟩, 11), (⟨"KeyboardKit$Processor", "callIf", "(Z)V"⟩, 11), (⟨"KeyboardKit$Processor", "pushOrGo", "(I)V"⟩, 11), (⟨"KeyboardKit$Processor", "passTicks", "(I)V"⟩, 11), (⟨"KeyboardKit$KeyUnit", "scan", "(I)V"⟩, 11), (⟨"KeyboardKit$KeyUnit", "enqueue", "(I)V"⟩, 11), (⟨"java/lang/Throwable", "fillInStackTrace", "(I)Ljava/lang/Throwable;"⟩, 6), (⟨"KeyboardKitModel", "once", "()I"⟩, 30), (⟨"KeyboardKitModel", "wanted", "()I"⟩, 30), (⟨"KeyboardKitModel", "call", "(I)V"⟩, 30), (⟨"KeyboardKitModel", "push", "(I)V"⟩, 30), (⟨"KeyboardKitModel", "write", "(II)V"⟩, 30), (⟨"KeyboardKitModel", "instruction", "()V"⟩, 30), (⟨"KeyboardKitModel", "fetch", "()I"⟩, 30)]
theorem lw_r3 : ∀ q ∈ lw_privs_3, lw_okq q := List.forall_mem_cons.mpr ⟨lw_p32, List.forall_mem_cons.mpr ⟨lw_p33, List.forall_mem_cons.mpr ⟨lw_p34, List.forall_mem_cons.mpr ⟨lw_p35, List.forall_mem_cons.mpr ⟨lw_p36, List.forall_mem_cons.mpr ⟨lw_p37, List.forall_mem_cons.mpr ⟨lw_p38, List.forall_mem_cons.mpr ⟨lw_p39, List.forall_mem_cons.mpr ⟨lw_p40, List.forall_mem_cons.mpr ⟨lw_p41, List.forall_mem_cons.mpr ⟨lw_p42, List.forall_mem_cons.mpr ⟨lw_p43, List.forall_mem_cons.mpr ⟨lw_p44, List.forall_mem_cons.mpr ⟨lw_p45, List.forall_mem_cons.mpr ⟨lw_p46, List.forall_mem_cons.mpr ⟨lw_p47, fun _ h => absurd h List.not_mem_nil⟩⟩⟩⟩⟩⟩⟩⟩⟩⟩⟩⟩⟩⟩⟩⟩
theorem lw_p48 : lw_okq (⟨"KeyboardKitModel", "read", "(I)I"⟩, 30) := ⟨⟨by decide +kernel, by decide +kernel⟩, List.mem_of_getElem? (i := 633) (by decide +kernel), List.mem_of_getElem? (i := 775) (by decide +kernel), List.mem_of_getElem? (i := 776) (by decide +kernel)⟩
theorem lw_p49 : lw_okq (⟨"KeyboardKitModel", "first", "(II)V"⟩, 30) := ⟨⟨by decide +kernel, by decide +kernel⟩, List.mem_of_getElem? (i := 633) (by decide +kernel), List.mem_of_getElem? (i := 779) (by decide +kernel), List.mem_of_getElem? (i := 780) (by decide +kernel)⟩
theorem lw_p50 : lw_okq (⟨"KeyboardKitModel", "setMask", "()V"⟩, 30) := ⟨⟨by decide +kernel, by decide +kernel⟩, List.mem_of_getElem? (i := 633) (by decide +kernel), List.mem_of_getElem? (i := 783) (by decide +kernel), List.mem_of_getElem? (i := 784) (by decide +kernel)⟩
theorem lw_p51 : lw_okq (⟨"KeyboardKitModel", "pairOf", "(II)V"⟩, 30) := ⟨⟨by decide +kernel, by decide +kernel⟩, List.mem_of_getElem? (i := 633) (by decide +kernel), List.mem_of_getElem? (i := 787) (by decide +kernel), List.mem_of_getElem? (i := 788) (by decide +kernel)⟩
theorem lw_p52 : lw_okq (⟨"KeyboardKitModel", "pair", "(I)I"⟩, 30) := ⟨⟨by decide +kernel, by decide +kernel⟩, List.mem_of_getElem? (i := 633) (by decide +kernel), List.mem_of_getElem? (i := 791) (by decide +kernel), List.mem_of_getElem? (i := 792) (by decide +kernel)⟩
theorem lw_p53 : lw_okq (⟨"KeyboardKitModel", "fetchTwo", "()I"⟩, 30) := ⟨⟨by decide +kernel, by decide +kernel⟩, List.mem_of_getElem? (i := 633) (by decide +kernel), List.mem_of_getElem? (i := 795) (by decide +kernel), List.mem_of_getElem? (i := 796) (by decide +kernel)⟩
theorem lw_p54 : lw_okq (⟨"KeyboardKitModel", "putPair", "(II)V"⟩, 30) := ⟨⟨by decide +kernel, by decide +kernel⟩, List.mem_of_getElem? (i := 633) (by decide +kernel), List.mem_of_getElem? (i := 799) (by decide +kernel), List.mem_of_getElem? (i := 800) (by decide +kernel)⟩
theorem lw_p55 : lw_okq (⟨"KeyboardKitModel", "hl", "()I"⟩, 30) := ⟨⟨by decide +kernel, by decide +kernel⟩, List.mem_of_getElem? (i := 633) (by decide +kernel), List.mem_of_getElem? (i := 803) (by decide +kernel), List.mem_of_getElem? (i := 804) (by decide +kernel)⟩
theorem lw_p56 : lw_okq (⟨"KeyboardKitModel", "flag", "(IZ)V"⟩, 30) := ⟨⟨by decide +kernel, by decide +kernel⟩, List.mem_of_getElem? (i := 633) (by decide +kernel), List.mem_of_getElem? (i := 807) (by decide +kernel), List.mem_of_getElem? (i := 808) (by decide +kernel)⟩
theorem lw_p57 : lw_okq (⟨"KeyboardKitModel", "memoryOf", "(I)V"⟩, 30) := ⟨⟨by decide +kernel, by decide +kernel⟩, List.mem_of_getElem? (i := 633) (by decide +kernel), List.mem_of_getElem? (i := 811) (by decide +kernel), List.mem_of_getElem? (i := 812) (by decide +kernel)⟩
theorem lw_p58 : lw_okq (⟨"KeyboardKitModel", "stepRegister", "(IZ)V"⟩, 30) := ⟨⟨by decide +kernel, by decide +kernel⟩, List.mem_of_getElem? (i := 633) (by decide +kernel), List.mem_of_getElem? (i := 815) (by decide +kernel), List.mem_of_getElem? (i := 816) (by decide +kernel)⟩
theorem lw_p59 : lw_okq (⟨"KeyboardKitModel", "is", "(I)Z"⟩, 30) := ⟨⟨by decide +kernel, by decide +kernel⟩, List.mem_of_getElem? (i := 633) (by decide +kernel), List.mem_of_getElem? (i := 819) (by decide +kernel), List.mem_of_getElem? (i := 820) (by decide +kernel)⟩
theorem lw_p60 : lw_okq (⟨"KeyboardKitModel", "get", "(I)I"⟩, 30) := ⟨⟨by decide +kernel, by decide +kernel⟩, List.mem_of_getElem? (i := 633) (by decide +kernel), List.mem_of_getElem? (i := 823) (by decide +kernel), List.mem_of_getElem? (i := 824) (by decide +kernel)⟩
theorem lw_p61 : lw_okq (⟨"KeyboardKitModel", "sum", "(III)I"⟩, 30) := ⟨⟨by decide +kernel, by decide +kernel⟩, List.mem_of_getElem? (i := 633) (by decide +kernel), List.mem_of_getElem? (i := 827) (by decide +kernel), List.mem_of_getElem? (i := 828) (by decide +kernel)⟩
theorem lw_p62 : lw_okq (⟨"KeyboardKitModel", "mark", "(I)V"⟩, 30) := ⟨⟨by decide +kernel, by decide +kernel⟩, List.mem_of_getElem? (i := 633) (by decide +kernel), List.mem_of_getElem? (i := 831) (by decide +kernel), List.mem_of_getElem? (i := 832) (by decide +kernel)⟩
theorem lw_p63 : lw_okq (⟨"KeyboardKitModel", "difference", "(III)I"⟩, 30) := ⟨⟨by decide +kernel, by decide +kernel⟩, List.mem_of_getElem? (i := 633) (by decide +kernel), List.mem_of_getElem? (i := 835) (by decide +kernel), List.mem_of_getElem? (i := 836) (by decide +kernel)⟩
def lw_privs_4 : List (MethodName × Nat) := [(⟨"KeyboardKitModel", "read", "(I)I"⟩, 30), (⟨"KeyboardKitModel", "first", "(II)V"⟩, 30), (⟨"KeyboardKitModel", "setMask", "()V"⟩, 30), (⟨"KeyboardKitModel", "pairOf", "(II)V"⟩, 30), (⟨"KeyboardKitModel", "pair", "(I)I"⟩, 30), (⟨"KeyboardKitModel", "fetchTwo", "()I"⟩, 30), (⟨"KeyboardKitModel", "putPair", "(II)V"⟩, 30), (⟨"KeyboardKitModel", "hl", "()I"⟩, 30), (⟨"KeyboardKitModel", "flag", "(IZ)V"⟩, 30), (⟨"KeyboardKitModel", "memoryOf", "(I)V"⟩, 30), (⟨"KeyboardKitModel", "stepRegister", "(IZ)V"⟩, 30), (⟨"KeyboardKitModel", "is", "(I)Z"⟩, 30), (⟨"KeyboardKitModel", "get", "(I)I"⟩, 30), (⟨"KeyboardKitModel", "sum", "(III)I"⟩, 30), (⟨"KeyboardKitModel", "mark", "(I)V"⟩, 30), (⟨"KeyboardKitModel", "difference", "(III)I"⟩, 30)]
theorem lw_r4 : ∀ q ∈ lw_privs_4, lw_okq q := List.forall_mem_cons.mpr ⟨lw_p48, List.forall_mem_cons.mpr ⟨lw_p49, List.forall_mem_cons.mpr ⟨lw_p50, List.forall_mem_cons.mpr ⟨lw_p51, List.forall_mem_cons.mpr ⟨lw_p52, List.forall_mem_cons.mpr ⟨lw_p53, List.forall_mem_cons.mpr ⟨lw_p54, List.forall_mem_cons.mpr ⟨lw_p55, List.forall_mem_cons.mpr ⟨lw_p56, List.forall_mem_cons.mpr ⟨lw_p57, List.forall_mem_cons.mpr ⟨lw_p58, List.forall_mem_cons.mpr ⟨lw_p59, List.forall_mem_cons.mpr ⟨lw_p60, List.forall_mem_cons.mpr ⟨lw_p61, List.forall_mem_cons.mpr ⟨lw_p62, List.forall_mem_cons.mpr ⟨lw_p63, fun _ h => absurd h List.not_mem_nil⟩⟩⟩⟩⟩⟩⟩⟩⟩⟩⟩⟩⟩⟩⟩⟩
theorem lw_p64 : lw_okq (⟨"KeyboardKitModel", "put", "(II)V"⟩, 30) := ⟨⟨by decide +kernel, by decide +kernel⟩, List.mem_of_getElem? (i := 633) (by decide +kernel), List.mem_of_getElem? (i := 839) (by decide +kernel), List.mem_of_getElem? (i := 840) (by decide +kernel)⟩
theorem lw_p65 : lw_okq (⟨"KeyboardKitModel", "turn", "(I)V"⟩, 30) := ⟨⟨by decide +kernel, by decide +kernel⟩, List.mem_of_getElem? (i := 633) (by decide +kernel), List.mem_of_getElem? (i := 843) (by decide +kernel), List.mem_of_getElem? (i := 844) (by decide +kernel)⟩
theorem lw_p66 : lw_okq (⟨"KeyboardKitModel", "decimal", "()V"⟩, 30) := ⟨⟨by decide +kernel, by decide +kernel⟩, List.mem_of_getElem? (i := 633) (by decide +kernel), List.mem_of_getElem? (i := 847) (by decide +kernel), List.mem_of_getElem? (i := 848) (by decide +kernel)⟩
theorem lw_p67 : lw_okq (⟨"KeyboardKitModel", "operate", "(II)V"⟩, 30) := ⟨⟨by decide +kernel, by decide +kernel⟩, List.mem_of_getElem? (i := 633) (by decide +kernel), List.mem_of_getElem? (i := 851) (by decide +kernel), List.mem_of_getElem? (i := 852) (by decide +kernel)⟩
theorem lw_p68 : lw_okq (⟨"KeyboardKitModel", "logic", "(III)I"⟩, 30) := ⟨⟨by decide +kernel, by decide +kernel⟩, List.mem_of_getElem? (i := 633) (by decide +kernel), List.mem_of_getElem? (i := 855) (by decide +kernel), List.mem_of_getElem? (i := 856) (by decide +kernel)⟩
theorem lw_p69 : lw_okq (⟨"KeyboardKitModel", "last", "(II)V"⟩, 30) := ⟨⟨by decide +kernel, by decide +kernel⟩, List.mem_of_getElem? (i := 633) (by decide +kernel), List.mem_of_getElem? (i := 859) (by decide +kernel), List.mem_of_getElem? (i := 860) (by decide +kernel)⟩
theorem lw_p70 : lw_okq (⟨"KeyboardKitModel", "holds", "(I)Z"⟩, 30) := ⟨⟨by decide +kernel, by decide +kernel⟩, List.mem_of_getElem? (i := 633) (by decide +kernel), List.mem_of_getElem? (i := 863) (by decide +kernel), List.mem_of_getElem? (i := 864) (by decide +kernel)⟩
theorem lw_p71 : lw_okq (⟨"KeyboardKitModel", "pop", "()I"⟩, 30) := ⟨⟨by decide +kernel, by decide +kernel⟩, List.mem_of_getElem? (i := 633) (by decide +kernel), List.mem_of_getElem? (i := 867) (by decide +kernel), List.mem_of_getElem? (i := 868) (by decide +kernel)⟩
theorem lw_p72 : lw_okq (⟨"KeyboardKitModel", "popOf", "(I)V"⟩, 30) := ⟨⟨by decide +kernel, by decide +kernel⟩, List.mem_of_getElem? (i := 633) (by decide +kernel), List.mem_of_getElem? (i := 871) (by decide +kernel), List.mem_of_getElem? (i := 872) (by decide +kernel)⟩
theorem lw_p73 : lw_okq (⟨"KeyboardKitModel", "others", "(I)V"⟩, 30) := ⟨⟨by decide +kernel, by decide +kernel⟩, List.mem_of_getElem? (i := 633) (by decide +kernel), List.mem_of_getElem? (i := 875) (by decide +kernel), List.mem_of_getElem? (i := 876) (by decide +kernel)⟩
theorem lw_p74 : lw_okq (⟨"KeyboardKitModel", "out", "(II)V"⟩, 30) := ⟨⟨by decide +kernel, by decide +kernel⟩, List.mem_of_getElem? (i := 633) (by decide +kernel), List.mem_of_getElem? (i := 879) (by decide +kernel), List.mem_of_getElem? (i := 880) (by decide +kernel)⟩
theorem lw_p75 : lw_okq (⟨"KeyboardKitModel", "lengthOf", "()I"⟩, 30) := ⟨⟨by decide +kernel, by decide +kernel⟩, List.mem_of_getElem? (i := 633) (by decide +kernel), List.mem_of_getElem? (i := 883) (by decide +kernel), List.mem_of_getElem? (i := 884) (by decide +kernel)⟩
theorem lw_p76 : lw_okq (⟨"KeyboardKitModel", "in", "(I)I"⟩, 30) := ⟨⟨by decide +kernel, by decide +kernel⟩, List.mem_of_getElem? (i := 633) (by decide +kernel), List.mem_of_getElem? (i := 888) (by decide +kernel), List.mem_of_getElem? (i := 889) (by decide +kernel)⟩
theorem lw_p77 : lw_okq (⟨"KeyboardKitModel", "status", "()I"⟩, 30) := ⟨⟨by decide +kernel, by decide +kernel⟩, List.mem_of_getElem? (i := 633) (by decide +kernel), List.mem_of_getElem? (i := 892) (by decide +kernel), List.mem_of_getElem? (i := 893) (by decide +kernel)⟩
theorem lw_p78 : lw_okq (⟨"KeyboardKitModel", "pushOf", "(I)V"⟩, 30) := ⟨⟨by decide +kernel, by decide +kernel⟩, List.mem_of_getElem? (i := 633) (by decide +kernel), List.mem_of_getElem? (i := 896) (by decide +kernel), List.mem_of_getElem? (i := 897) (by decide +kernel)⟩
theorem lw_p79 : lw_okq (⟨"KeyboardKitModel", "pass", "(I)V"⟩, 30) := ⟨⟨by decide +kernel, by decide +kernel⟩, List.mem_of_getElem? (i := 633) (by decide +kernel), List.mem_of_getElem? (i := 900) (by decide +kernel), List.mem_of_getElem? (i := 901) (by decide +kernel)⟩
def lw_privs_5 : List (MethodName × Nat) := [(⟨"KeyboardKitModel", "put", "(II)V"⟩, 30), (⟨"KeyboardKitModel", "turn", "(I)V"⟩, 30), (⟨"KeyboardKitModel", "decimal", "()V"⟩, 30), (⟨"KeyboardKitModel", "operate", "(II)V"⟩, 30), (⟨"KeyboardKitModel", "logic", "(III)I"⟩, 30), (⟨"KeyboardKitModel", "last", "(II)V"⟩, 30), (⟨"KeyboardKitModel", "holds", "(I)Z"⟩, 30), (⟨"KeyboardKitModel", "pop", "()I"⟩, 30), (⟨"KeyboardKitModel", "popOf", "(I)V"⟩, 30), (⟨"KeyboardKitModel", "others", "(I)V"⟩, 30), (⟨"KeyboardKitModel", "out", "(II)V"⟩, 30), (⟨"KeyboardKitModel", "lengthOf", "()I"⟩, 30), (⟨"KeyboardKitModel", "in", "(I)I"⟩, 30), (⟨"KeyboardKitModel", "status", "()I"⟩, 30), (⟨"KeyboardKitModel", "pushOf", "(I)V"⟩, 30), (⟨"KeyboardKitModel", "pass", "(I)V"⟩, 30)]
theorem lw_r5 : ∀ q ∈ lw_privs_5, lw_okq q := List.forall_mem_cons.mpr ⟨lw_p64, List.forall_mem_cons.mpr ⟨lw_p65, List.forall_mem_cons.mpr ⟨lw_p66, List.forall_mem_cons.mpr ⟨lw_p67, List.forall_mem_cons.mpr ⟨lw_p68, List.forall_mem_cons.mpr ⟨lw_p69, List.forall_mem_cons.mpr ⟨lw_p70, List.forall_mem_cons.mpr ⟨lw_p71, List.forall_mem_cons.mpr ⟨lw_p72, List.forall_mem_cons.mpr ⟨lw_p73, List.forall_mem_cons.mpr ⟨lw_p74, List.forall_mem_cons.mpr ⟨lw_p75, List.forall_mem_cons.mpr ⟨lw_p76, List.forall_mem_cons.mpr ⟨lw_p77, List.forall_mem_cons.mpr ⟨lw_p78, List.forall_mem_cons.mpr ⟨lw_p79, fun _ h => absurd h List.not_mem_nil⟩⟩⟩⟩⟩⟩⟩⟩⟩⟩⟩⟩⟩⟩⟩⟩
theorem lw_p80 : lw_okq (⟨"KeyboardKitModel", "tickTimer", "()V"⟩, 30) := ⟨⟨by decide +kernel, by decide +kernel⟩, List.mem_of_getElem? (i := 633) (by decide +kernel), List.mem_of_getElem? (i := 904) (by decide +kernel), List.mem_of_getElem? (i := 905) (by decide +kernel)⟩
theorem lw_p81 : lw_okq (⟨"KeyboardKitModel", "scan", "()V"⟩, 30) := ⟨⟨by decide +kernel, by decide +kernel⟩, List.mem_of_getElem? (i := 633) (by decide +kernel), List.mem_of_getElem? (i := 908) (by decide +kernel), List.mem_of_getElem? (i := 909) (by decide +kernel)⟩
def lw_privs_6 : List (MethodName × Nat) := [(⟨"KeyboardKitModel", "tickTimer", "()V"⟩, 30), (⟨"KeyboardKitModel", "scan", "()V"⟩, 30)]
theorem lw_r6 : ∀ q ∈ lw_privs_6, lw_okq q := List.forall_mem_cons.mpr ⟨lw_p80, List.forall_mem_cons.mpr ⟨lw_p81, fun _ h => absurd h List.not_mem_nil⟩⟩
def lw_privs : List (MethodName × Nat) := lw_privs_1 ++ (lw_privs_2 ++ (lw_privs_3 ++ (lw_privs_4 ++ (lw_privs_5 ++ (lw_privs_6)))))
def lw_tbl : List Cond := k2_sels lw_privs ++ tables_1
theorem lw_privs_ok : ∀ q ∈ lw_privs, lw_okq q := by
  show ∀ q ∈ lw_privs_1 ++ (lw_privs_2 ++ (lw_privs_3 ++ (lw_privs_4 ++ (lw_privs_5 ++ (lw_privs_6))))), lw_okq q
  exact List.forall_mem_append.mpr ⟨lw_r1, List.forall_mem_append.mpr ⟨lw_r2, List.forall_mem_append.mpr ⟨lw_r3, List.forall_mem_append.mpr ⟨lw_r4, List.forall_mem_append.mpr ⟨lw_r5, lw_r6⟩⟩⟩⟩⟩
-- ===== end of PART A; then your names; then what follows =====
end
section
def RX0 : String := "KeyboardKit$Flags"
def TX0 : u_T := fun k => match k with
  | _ => ("KeyboardKit$Flags", "all", "I", false)
def tyX0 : Nat → FieldType := fun k => match k with
  | _ => .int
theorem nmX0 : ∀ a, a < 1 → ∀ b, b < 1 → a ≠ b → (TX0 a).2.1 ≠ (TX0 b).2.1 := by decide +kernel
theorem tyX0_ok : ∀ k, k < 1 → parseFieldDescriptor (TX0 k).2.2.1 = some (tyX0 k) := by decide +kernel
abbrev cX0_init : ByteArray := prog_2_method_1_code
def yX0_init : MethodName := ⟨RX0, "<init>", "()V"⟩
abbrev cX0_has : ByteArray := prog_2_method_2_code
def yX0_has : MethodName := ⟨RX0, "has", "(I)Z"⟩
abbrev cX0_carry : ByteArray := prog_2_method_3_code
def yX0_carry : MethodName := ⟨RX0, "carry", "()I"⟩
abbrev cX0_put : ByteArray := prog_2_method_4_code
def yX0_put : MethodName := ⟨RX0, "put", "(IZ)V"⟩
abbrev cX0_meets : ByteArray := prog_2_method_5_code
def yX0_meets : MethodName := ⟨RX0, "meets", "(I)Z"⟩
abbrev cX0_sum : ByteArray := prog_2_method_6_code
def yX0_sum : MethodName := ⟨RX0, "sum", "(III)I"⟩
abbrev cX0_difference : ByteArray := prog_2_method_7_code
def yX0_difference : MethodName := ⟨RX0, "difference", "(III)I"⟩
abbrev cX0_bitwise : ByteArray := prog_2_method_8_code
def yX0_bitwise : MethodName := ⟨RX0, "bitwise", "(IZ)I"⟩
abbrev cX0_decimal : ByteArray := prog_2_method_9_code
def yX0_decimal : MethodName := ⟨RX0, "decimal", "(I)I"⟩
def RX1 : String := "KeyboardKit$Interrupts"
def TX1 : u_T := fun k => match k with
  | 0 => ("KeyboardKit$Interrupts", "on", "Z", false)
  | 1 => ("KeyboardKit$Interrupts", "heldBack", "Z", false)
  | 2 => ("KeyboardKit$Interrupts", "masks", "I", false)
  | 3 => ("KeyboardKit$Interrupts", "timerEnded", "Z", false)
  | 4 => ("KeyboardKit$Interrupts", "line65", "Z", false)
  | 5 => ("KeyboardKit$Interrupts", "serialIn", "Z", false)
  | _ => ("KeyboardKit$Interrupts", "serialOut", "Z", false)
def tyX1 : Nat → FieldType := fun k => match k with
  | 0 => .boolean
  | 1 => .boolean
  | 2 => .int
  | 3 => .boolean
  | 4 => .boolean
  | 5 => .boolean
  | _ => .boolean
theorem nmX1 : ∀ a, a < 7 → ∀ b, b < 7 → a ≠ b → (TX1 a).2.1 ≠ (TX1 b).2.1 := by decide +kernel
theorem tyX1_ok : ∀ k, k < 7 → parseFieldDescriptor (TX1 k).2.2.1 = some (tyX1 k) := by decide +kernel
abbrev cX1_init : ByteArray := prog_3_method_1_code
def yX1_init : MethodName := ⟨RX1, "<init>", "()V"⟩
abbrev cX1_turnOn : ByteArray := prog_3_method_2_code
def yX1_turnOn : MethodName := ⟨RX1, "turnOn", "()V"⟩
abbrev cX1_wanted : ByteArray := prog_3_method_3_code
def yX1_wanted : MethodName := ⟨RX1, "wanted", "(Z)I"⟩
abbrev cX1_serve : ByteArray := prog_3_method_4_code
def yX1_serve : MethodName := ⟨RX1, "serve", "(Z)I"⟩
abbrev cX1_setMask : ByteArray := prog_3_method_5_code
def yX1_setMask : MethodName := ⟨RX1, "setMask", "(I)V"⟩
abbrev cX1_readMask : ByteArray := prog_3_method_6_code
def yX1_readMask : MethodName := ⟨RX1, "readMask", "(Z)I"⟩
def RX2 : String := "KeyboardKit$KeyUnit"
def TX2 : u_T := fun k => match k with
  | 0 => ("KeyboardKit$KeyUnit", "down", "[Z", true)
  | 1 => ("KeyboardKit$KeyUnit", "downBefore", "[Z", true)
  | 2 => ("KeyboardKit$KeyUnit", "counted", "[Z", true)
  | 3 => ("KeyboardKit$KeyUnit", "queue", "[I", true)
  | 4 => ("KeyboardKit$KeyUnit", "queueStart", "I", false)
  | 5 => ("KeyboardKit$KeyUnit", "queued", "I", false)
  | 6 => ("KeyboardKit$KeyUnit", "underrun", "Z", false)
  | 7 => ("KeyboardKit$KeyUnit", "overrun", "Z", false)
  | 8 => ("KeyboardKit$KeyUnit", "display", "[I", true)
  | 9 => ("KeyboardKit$KeyUnit", "place", "I", false)
  | _ => ("KeyboardKit$KeyUnit", "ticksToScan", "I", false)
def tyX2 : Nat → FieldType := fun k => match k with
  | 0 => .array .boolean
  | 1 => .array .boolean
  | 2 => .array .boolean
  | 3 => .array .int
  | 4 => .int
  | 5 => .int
  | 6 => .boolean
  | 7 => .boolean
  | 8 => .array .int
  | 9 => .int
  | _ => .int
theorem nmX2 : ∀ a, a < 11 → ∀ b, b < 11 → a ≠ b → (TX2 a).2.1 ≠ (TX2 b).2.1 := by decide +kernel
theorem tyX2_ok : ∀ k, k < 11 → parseFieldDescriptor (TX2 k).2.2.1 = some (tyX2 k) := by decide +kernel
abbrev cX2_init : ByteArray := prog_4_method_1_code
def yX2_init : MethodName := ⟨RX2, "<init>", "()V"⟩
abbrev cX2_takeKey : ByteArray := prog_4_method_2_code
def yX2_takeKey : MethodName := ⟨RX2, "takeKey", "()I"⟩
abbrev cX2_show : ByteArray := prog_4_method_3_code
def yX2_show : MethodName := ⟨RX2, "show", "(I)V"⟩
abbrev cX2_command : ByteArray := prog_4_method_4_code
def yX2_command : MethodName := ⟨RX2, "command", "(I)V"⟩
abbrev cX2_clear : ByteArray := prog_4_method_5_code
def yX2_clear : MethodName := ⟨RX2, "clear", "()V"⟩
abbrev cX2_status : ByteArray := prog_4_method_6_code
def yX2_status : MethodName := ⟨RX2, "status", "()I"⟩
abbrev cX2_tick : ByteArray := prog_4_method_7_code
def yX2_tick : MethodName := ⟨RX2, "tick", "()V"⟩
abbrev cX2_scan : ByteArray := prog_4_method_8_code
def yX2_scan : MethodName := ⟨RX2, "scan", "(I)V"⟩
abbrev cX2_enqueue : ByteArray := prog_4_method_9_code
def yX2_enqueue : MethodName := ⟨RX2, "enqueue", "(I)V"⟩
def RX3 : String := "KeyboardKit$Ports"
def TX3 : u_T := fun k => match k with
  | 0 => ("KeyboardKit$Ports", "timer", "LKeyboardKit$Timer;", true)
  | _ => ("KeyboardKit$Ports", "unit", "LKeyboardKit$KeyUnit;", true)
def tyX3 : Nat → FieldType := fun k => match k with
  | 0 => .object "KeyboardKit$Timer"
  | _ => .object "KeyboardKit$KeyUnit"
theorem nmX3 : ∀ a, a < 2 → ∀ b, b < 2 → a ≠ b → (TX3 a).2.1 ≠ (TX3 b).2.1 := by decide +kernel
theorem tyX3_ok : ∀ k, k < 2 → parseFieldDescriptor (TX3 k).2.2.1 = some (tyX3 k) := by decide +kernel
abbrev cX3_init : ByteArray := prog_5_method_1_code
def yX3_init : MethodName := ⟨RX3, "<init>", "(LKeyboardKit$Timer;LKeyboardKit$KeyUnit;)V"⟩
abbrev cX3_read : ByteArray := prog_5_method_2_code
def yX3_read : MethodName := ⟨RX3, "read", "(I)I"⟩
abbrev cX3_write : ByteArray := prog_5_method_3_code
def yX3_write : MethodName := ⟨RX3, "write", "(II)V"⟩
def RX4 : String := "KeyboardKit$Processor"
def TX4 : u_T := fun k => match k with
  | 0 => ("KeyboardKit$Processor", "memory", "[I", true)
  | 1 => ("KeyboardKit$Processor", "timer", "LKeyboardKit$Timer;", true)
  | 2 => ("KeyboardKit$Processor", "unit", "LKeyboardKit$KeyUnit;", true)
  | 3 => ("KeyboardKit$Processor", "interrupts", "LKeyboardKit$Interrupts;", true)
  | 4 => ("KeyboardKit$Processor", "ports", "LKeyboardKit$Ports;", true)
  | 5 => ("KeyboardKit$Processor", "registers", "[I", true)
  | 6 => ("KeyboardKit$Processor", "flags", "LKeyboardKit$Flags;", true)
  | 7 => ("KeyboardKit$Processor", "sp", "I", false)
  | 8 => ("KeyboardKit$Processor", "pc", "I", false)
  | 9 => ("KeyboardKit$Processor", "halts", "Z", false)
  | _ => ("KeyboardKit$Processor", "ticks", "I", false)
def tyX4 : Nat → FieldType := fun k => match k with
  | 0 => .array .int
  | 1 => .object "KeyboardKit$Timer"
  | 2 => .object "KeyboardKit$KeyUnit"
  | 3 => .object "KeyboardKit$Interrupts"
  | 4 => .object "KeyboardKit$Ports"
  | 5 => .array .int
  | 6 => .object "KeyboardKit$Flags"
  | 7 => .int
  | 8 => .int
  | 9 => .boolean
  | _ => .int
theorem nmX4 : ∀ a, a < 11 → ∀ b, b < 11 → a ≠ b → (TX4 a).2.1 ≠ (TX4 b).2.1 := by decide +kernel
theorem tyX4_ok : ∀ k, k < 11 → parseFieldDescriptor (TX4 k).2.2.1 = some (tyX4 k) := by decide +kernel
abbrev cX4_init : ByteArray := prog_6_method_1_code
def yX4_init : MethodName := ⟨RX4, "<init>", "([ILKeyboardKit$Timer;LKeyboardKit$KeyUnit;LKeyboardKit$Interrupts;)V"⟩
abbrev cX4_advance : ByteArray := prog_6_method_2_code
def yX4_advance : MethodName := ⟨RX4, "advance", "()I"⟩
abbrev cX4_passTicks : ByteArray := prog_6_method_3_code
def yX4_passTicks : MethodName := ⟨RX4, "passTicks", "(I)V"⟩
abbrev cX4_execute : ByteArray := prog_6_method_4_code
def yX4_execute : MethodName := ⟨RX4, "execute", "(I)V"⟩
abbrev cX4_executeGroup0 : ByteArray := prog_6_method_5_code
def yX4_executeGroup0 : MethodName := ⟨RX4, "executeGroup0", "(II)V"⟩
abbrev cX4_executeGroup3 : ByteArray := prog_6_method_6_code
def yX4_executeGroup3 : MethodName := ⟨RX4, "executeGroup3", "(II)V"⟩
abbrev cX4_useMask : ByteArray := prog_6_method_7_code
def yX4_useMask : MethodName := ⟨RX4, "useMask", "(I)V"⟩
abbrev cX4_loadOrAddPair : ByteArray := prog_6_method_8_code
def yX4_loadOrAddPair : MethodName := ⟨RX4, "loadOrAddPair", "(I)V"⟩
abbrev cX4_moveByAddress : ByteArray := prog_6_method_9_code
def yX4_moveByAddress : MethodName := ⟨RX4, "moveByAddress", "(I)V"⟩
abbrev cX4_countPair : ByteArray := prog_6_method_10_code
def yX4_countPair : MethodName := ⟨RX4, "countPair", "(I)V"⟩
abbrev cX4_countUp : ByteArray := prog_6_method_11_code
def yX4_countUp : MethodName := ⟨RX4, "countUp", "(I)V"⟩
abbrev cX4_countDown : ByteArray := prog_6_method_12_code
def yX4_countDown : MethodName := ⟨RX4, "countDown", "(I)V"⟩
abbrev cX4_changeAccumulator : ByteArray := prog_6_method_13_code
def yX4_changeAccumulator : MethodName := ⟨RX4, "changeAccumulator", "(I)V"⟩
abbrev cX4_turnLeft : ByteArray := prog_6_method_14_code
def yX4_turnLeft : MethodName := ⟨RX4, "turnLeft", "(II)V"⟩
abbrev cX4_turnRight : ByteArray := prog_6_method_15_code
def yX4_turnRight : MethodName := ⟨RX4, "turnRight", "(II)V"⟩
abbrev cX4_move : ByteArray := prog_6_method_16_code
def yX4_move : MethodName := ⟨RX4, "move", "(II)V"⟩
abbrev cX4_operate : ByteArray := prog_6_method_17_code
def yX4_operate : MethodName := ⟨RX4, "operate", "(II)V"⟩
abbrev cX4_popOrReturn : ByteArray := prog_6_method_18_code
def yX4_popOrReturn : MethodName := ⟨RX4, "popOrReturn", "(I)V"⟩
abbrev cX4_popAccumulatorAndFlags : ByteArray := prog_6_method_19_code
def yX4_popAccumulatorAndFlags : MethodName := ⟨RX4, "popAccumulatorAndFlags", "()V"⟩
abbrev cX4_executeSpecial : ByteArray := prog_6_method_20_code
def yX4_executeSpecial : MethodName := ⟨RX4, "executeSpecial", "(I)V"⟩
abbrev cX4_exchangeWithStack : ByteArray := prog_6_method_21_code
def yX4_exchangeWithStack : MethodName := ⟨RX4, "exchangeWithStack", "()V"⟩
abbrev cX4_exchangeWithDe : ByteArray := prog_6_method_22_code
def yX4_exchangeWithDe : MethodName := ⟨RX4, "exchangeWithDe", "()V"⟩
abbrev cX4_pushOrGo : ByteArray := prog_6_method_23_code
def yX4_pushOrGo : MethodName := ⟨RX4, "pushOrGo", "(I)V"⟩
abbrev cX4_jumpIf : ByteArray := prog_6_method_24_code
def yX4_jumpIf : MethodName := ⟨RX4, "jumpIf", "(Z)V"⟩
abbrev cX4_callIf : ByteArray := prog_6_method_25_code
def yX4_callIf : MethodName := ⟨RX4, "callIf", "(Z)V"⟩
abbrev cX4_call : ByteArray := prog_6_method_26_code
def yX4_call : MethodName := ⟨RX4, "call", "(I)V"⟩
abbrev cX4_push : ByteArray := prog_6_method_27_code
def yX4_push : MethodName := ⟨RX4, "push", "(I)V"⟩
abbrev cX4_pop : ByteArray := prog_6_method_28_code
def yX4_pop : MethodName := ⟨RX4, "pop", "()I"⟩
abbrev cX4_register : ByteArray := prog_6_method_29_code
def yX4_register : MethodName := ⟨RX4, "register", "(I)I"⟩
abbrev cX4_putRegister : ByteArray := prog_6_method_30_code
def yX4_putRegister : MethodName := ⟨RX4, "putRegister", "(II)V"⟩
abbrev cX4_pair : ByteArray := prog_6_method_31_code
def yX4_pair : MethodName := ⟨RX4, "pair", "(I)I"⟩
abbrev cX4_putPair : ByteArray := prog_6_method_32_code
def yX4_putPair : MethodName := ⟨RX4, "putPair", "(II)V"⟩
abbrev cX4_fetch : ByteArray := prog_6_method_33_code
def yX4_fetch : MethodName := ⟨RX4, "fetch", "()I"⟩
abbrev cX4_fetchWord : ByteArray := prog_6_method_34_code
def yX4_fetchWord : MethodName := ⟨RX4, "fetchWord", "()I"⟩
abbrev cX4_read : ByteArray := prog_6_method_35_code
def yX4_read : MethodName := ⟨RX4, "read", "(I)I"⟩
abbrev cX4_write : ByteArray := prog_6_method_36_code
def yX4_write : MethodName := ⟨RX4, "write", "(II)V"⟩
abbrev cX4_readWord : ByteArray := prog_6_method_37_code
def yX4_readWord : MethodName := ⟨RX4, "readWord", "(I)I"⟩
abbrev cX4_writeWord : ByteArray := prog_6_method_38_code
def yX4_writeWord : MethodName := ⟨RX4, "writeWord", "(II)V"⟩
def RX5 : String := "KeyboardKit$Timer"
def TX5 : u_T := fun k => match k with
  | 0 => ("KeyboardKit$Timer", "lowByte", "I", false)
  | 1 => ("KeyboardKit$Timer", "highByte", "I", false)
  | 2 => ("KeyboardKit$Timer", "length", "I", false)
  | 3 => ("KeyboardKit$Timer", "goesOn", "Z", false)
  | 4 => ("KeyboardKit$Timer", "stopsAtEnd", "Z", false)
  | 5 => ("KeyboardKit$Timer", "endedSinceRead", "Z", false)
  | _ => ("KeyboardKit$Timer", "left", "I", false)
def tyX5 : Nat → FieldType := fun k => match k with
  | 0 => .int
  | 1 => .int
  | 2 => .int
  | 3 => .boolean
  | 4 => .boolean
  | 5 => .boolean
  | _ => .int
theorem nmX5 : ∀ a, a < 7 → ∀ b, b < 7 → a ≠ b → (TX5 a).2.1 ≠ (TX5 b).2.1 := by decide +kernel
theorem tyX5_ok : ∀ k, k < 7 → parseFieldDescriptor (TX5 k).2.2.1 = some (tyX5 k) := by decide +kernel
abbrev cX5_init : ByteArray := prog_7_method_1_code
def yX5_init : MethodName := ⟨RX5, "<init>", "()V"⟩
abbrev cX5_command : ByteArray := prog_7_method_2_code
def yX5_command : MethodName := ⟨RX5, "command", "(I)V"⟩
abbrev cX5_takeEnded : ByteArray := prog_7_method_3_code
def yX5_takeEnded : MethodName := ⟨RX5, "takeEnded", "()I"⟩
abbrev cX5_tick : ByteArray := prog_7_method_4_code
def yX5_tick : MethodName := ⟨RX5, "tick", "()Z"⟩
def RX6 : String := "KeyboardKit"
def TX6 : u_T := fun k => match k with
  | 0 => ("KeyboardKit", "memory", "[I", true)
  | 1 => ("KeyboardKit", "timer", "LKeyboardKit$Timer;", true)
  | 2 => ("KeyboardKit", "unit", "LKeyboardKit$KeyUnit;", true)
  | 3 => ("KeyboardKit", "interrupts", "LKeyboardKit$Interrupts;", true)
  | _ => ("KeyboardKit", "processor", "LKeyboardKit$Processor;", true)
def tyX6 : Nat → FieldType := fun k => match k with
  | 0 => .array .int
  | 1 => .object "KeyboardKit$Timer"
  | 2 => .object "KeyboardKit$KeyUnit"
  | 3 => .object "KeyboardKit$Interrupts"
  | _ => .object "KeyboardKit$Processor"
theorem nmX6 : ∀ a, a < 5 → ∀ b, b < 5 → a ≠ b → (TX6 a).2.1 ≠ (TX6 b).2.1 := by decide +kernel
theorem tyX6_ok : ∀ k, k < 5 → parseFieldDescriptor (TX6 k).2.2.1 = some (tyX6 k) := by decide +kernel
abbrev cX6_init : ByteArray := prog_1_method_1_code
def yX6_init : MethodName := ⟨RX6, "<init>", "()V"⟩
abbrev cX6_poke : ByteArray := prog_1_method_2_code
def yX6_poke : MethodName := ⟨RX6, "poke", "(II)I"⟩
abbrev cX6_peek : ByteArray := prog_1_method_3_code
def yX6_peek : MethodName := ⟨RX6, "peek", "(I)I"⟩
abbrev cX6_step : ByteArray := prog_1_method_4_code
def yX6_step : MethodName := ⟨RX6, "step", "()I"⟩
abbrev cX6_steps : ByteArray := prog_1_method_5_code
def yX6_steps : MethodName := ⟨RX6, "steps", "(I)I"⟩
abbrev cX6_key : ByteArray := prog_1_method_6_code
def yX6_key : MethodName := ⟨RX6, "key", "(IZ)Z"⟩
abbrev cX6_line : ByteArray := prog_1_method_7_code
def yX6_line : MethodName := ⟨RX6, "line", "(IZ)Z"⟩
abbrev cX6_about : ByteArray := prog_1_method_8_code
def yX6_about : MethodName := ⟨RX6, "about", "(I)I"⟩
abbrev cX6_shown : ByteArray := prog_1_method_9_code
def yX6_shown : MethodName := ⟨RX6, "shown", "(I)I"⟩
abbrev cX6_set : ByteArray := prog_1_method_10_code
def yX6_set : MethodName := ⟨RX6, "set", "(II)V"⟩
def RX7 : String := "KeyboardKitModel"
def TX7 : u_T := fun k => match k with
  | 0 => ("KeyboardKitModel", "memory", "[I", true)
  | 1 => ("KeyboardKitModel", "register", "[I", true)
  | 2 => ("KeyboardKitModel", "sp", "I", false)
  | 3 => ("KeyboardKitModel", "pc", "I", false)
  | 4 => ("KeyboardKitModel", "ticks", "I", false)
  | 5 => ("KeyboardKitModel", "on", "Z", false)
  | 6 => ("KeyboardKitModel", "soon", "Z", false)
  | 7 => ("KeyboardKitModel", "halts", "Z", false)
  | 8 => ("KeyboardKitModel", "masks", "I", false)
  | 9 => ("KeyboardKitModel", "ended", "Z", false)
  | 10 => ("KeyboardKitModel", "lines", "[Z", true)
  | 11 => ("KeyboardKitModel", "serial", "I", false)
  | 12 => ("KeyboardKitModel", "load", "I", false)
  | 13 => ("KeyboardKitModel", "left", "I", false)
  | 14 => ("KeyboardKitModel", "length", "I", false)
  | 15 => ("KeyboardKitModel", "again", "Z", false)
  | 16 => ("KeyboardKitModel", "runs", "Z", false)
  | 17 => ("KeyboardKitModel", "stops", "Z", false)
  | 18 => ("KeyboardKitModel", "told", "Z", false)
  | 19 => ("KeyboardKitModel", "gone", "I", false)
  | 20 => ("KeyboardKitModel", "down", "[Z", true)
  | 21 => ("KeyboardKitModel", "was", "[Z", true)
  | 22 => ("KeyboardKitModel", "counted", "[Z", true)
  | 23 => ("KeyboardKitModel", "keys", "I", false)
  | 24 => ("KeyboardKitModel", "queue", "[I", true)
  | 25 => ("KeyboardKitModel", "under", "Z", false)
  | 26 => ("KeyboardKitModel", "over", "Z", false)
  | 27 => ("KeyboardKitModel", "place", "I", false)
  | 28 => ("KeyboardKitModel", "display", "[I", true)
  | _ => ("KeyboardKitModel", "thrown", "I", false)
def tyX7 : Nat → FieldType := fun k => match k with
  | 0 => .array .int
  | 1 => .array .int
  | 2 => .int
  | 3 => .int
  | 4 => .int
  | 5 => .boolean
  | 6 => .boolean
  | 7 => .boolean
  | 8 => .int
  | 9 => .boolean
  | 10 => .array .boolean
  | 11 => .int
  | 12 => .int
  | 13 => .int
  | 14 => .int
  | 15 => .boolean
  | 16 => .boolean
  | 17 => .boolean
  | 18 => .boolean
  | 19 => .int
  | 20 => .array .boolean
  | 21 => .array .boolean
  | 22 => .array .boolean
  | 23 => .int
  | 24 => .array .int
  | 25 => .boolean
  | 26 => .boolean
  | 27 => .int
  | 28 => .array .int
  | _ => .int
theorem nmX7 : ∀ a, a < 30 → ∀ b, b < 30 → a ≠ b → (TX7 a).2.1 ≠ (TX7 b).2.1 := by decide +kernel
theorem tyX7_ok : ∀ k, k < 30 → parseFieldDescriptor (TX7 k).2.2.1 = some (tyX7 k) := by decide +kernel
abbrev cX7_init : ByteArray := prog_9_method_1_code
def yX7_init : MethodName := ⟨RX7, "<init>", "()V"⟩
abbrev cX7_thrown : ByteArray := prog_9_method_2_code
def yX7_thrown : MethodName := ⟨RX7, "thrown", "()I"⟩
abbrev cX7_poke : ByteArray := prog_9_method_3_code
def yX7_poke : MethodName := ⟨RX7, "poke", "(II)I"⟩
abbrev cX7_peek : ByteArray := prog_9_method_4_code
def yX7_peek : MethodName := ⟨RX7, "peek", "(I)I"⟩
abbrev cX7_read : ByteArray := prog_9_method_5_code
def yX7_read : MethodName := ⟨RX7, "read", "(I)I"⟩
abbrev cX7_write : ByteArray := prog_9_method_6_code
def yX7_write : MethodName := ⟨RX7, "write", "(II)V"⟩
abbrev cX7_fetch : ByteArray := prog_9_method_7_code
def yX7_fetch : MethodName := ⟨RX7, "fetch", "()I"⟩
abbrev cX7_fetchTwo : ByteArray := prog_9_method_8_code
def yX7_fetchTwo : MethodName := ⟨RX7, "fetchTwo", "()I"⟩
abbrev cX7_hl : ByteArray := prog_9_method_9_code
def yX7_hl : MethodName := ⟨RX7, "hl", "()I"⟩
abbrev cX7_get : ByteArray := prog_9_method_10_code
def yX7_get : MethodName := ⟨RX7, "get", "(I)I"⟩
abbrev cX7_put : ByteArray := prog_9_method_11_code
def yX7_put : MethodName := ⟨RX7, "put", "(II)V"⟩
abbrev cX7_pair : ByteArray := prog_9_method_12_code
def yX7_pair : MethodName := ⟨RX7, "pair", "(I)I"⟩
abbrev cX7_putPair : ByteArray := prog_9_method_13_code
def yX7_putPair : MethodName := ⟨RX7, "putPair", "(II)V"⟩
abbrev cX7_is : ByteArray := prog_9_method_14_code
def yX7_is : MethodName := ⟨RX7, "is", "(I)Z"⟩
abbrev cX7_flag : ByteArray := prog_9_method_15_code
def yX7_flag : MethodName := ⟨RX7, "flag", "(IZ)V"⟩
abbrev cX7_push : ByteArray := prog_9_method_16_code
def yX7_push : MethodName := ⟨RX7, "push", "(I)V"⟩
abbrev cX7_pop : ByteArray := prog_9_method_17_code
def yX7_pop : MethodName := ⟨RX7, "pop", "()I"⟩
abbrev cX7_call : ByteArray := prog_9_method_18_code
def yX7_call : MethodName := ⟨RX7, "call", "(I)V"⟩
abbrev cX7_mark : ByteArray := prog_9_method_19_code
def yX7_mark : MethodName := ⟨RX7, "mark", "(I)V"⟩
abbrev cX7_sum : ByteArray := prog_9_method_20_code
def yX7_sum : MethodName := ⟨RX7, "sum", "(III)I"⟩
abbrev cX7_difference : ByteArray := prog_9_method_21_code
def yX7_difference : MethodName := ⟨RX7, "difference", "(III)I"⟩
abbrev cX7_logic : ByteArray := prog_9_method_22_code
def yX7_logic : MethodName := ⟨RX7, "logic", "(III)I"⟩
abbrev cX7_operate : ByteArray := prog_9_method_23_code
def yX7_operate : MethodName := ⟨RX7, "operate", "(II)V"⟩
abbrev cX7_stepRegister : ByteArray := prog_9_method_24_code
def yX7_stepRegister : MethodName := ⟨RX7, "stepRegister", "(IZ)V"⟩
abbrev cX7_turn : ByteArray := prog_9_method_25_code
def yX7_turn : MethodName := ⟨RX7, "turn", "(I)V"⟩
abbrev cX7_decimal : ByteArray := prog_9_method_26_code
def yX7_decimal : MethodName := ⟨RX7, "decimal", "()V"⟩
abbrev cX7_status : ByteArray := prog_9_method_27_code
def yX7_status : MethodName := ⟨RX7, "status", "()I"⟩
abbrev cX7_in : ByteArray := prog_9_method_28_code
def yX7_in : MethodName := ⟨RX7, "in", "(I)I"⟩
abbrev cX7_lengthOf : ByteArray := prog_9_method_29_code
def yX7_lengthOf : MethodName := ⟨RX7, "lengthOf", "()I"⟩
abbrev cX7_out : ByteArray := prog_9_method_30_code
def yX7_out : MethodName := ⟨RX7, "out", "(II)V"⟩
abbrev cX7_tickTimer : ByteArray := prog_9_method_31_code
def yX7_tickTimer : MethodName := ⟨RX7, "tickTimer", "()V"⟩
abbrev cX7_scan : ByteArray := prog_9_method_32_code
def yX7_scan : MethodName := ⟨RX7, "scan", "()V"⟩
abbrev cX7_pass : ByteArray := prog_9_method_33_code
def yX7_pass : MethodName := ⟨RX7, "pass", "(I)V"⟩
abbrev cX7_holds : ByteArray := prog_9_method_34_code
def yX7_holds : MethodName := ⟨RX7, "holds", "(I)Z"⟩
abbrev cX7_wanted : ByteArray := prog_9_method_35_code
def yX7_wanted : MethodName := ⟨RX7, "wanted", "()I"⟩
abbrev cX7_setMask : ByteArray := prog_9_method_36_code
def yX7_setMask : MethodName := ⟨RX7, "setMask", "()V"⟩
abbrev cX7_memoryOf : ByteArray := prog_9_method_37_code
def yX7_memoryOf : MethodName := ⟨RX7, "memoryOf", "(I)V"⟩
abbrev cX7_pairOf : ByteArray := prog_9_method_38_code
def yX7_pairOf : MethodName := ⟨RX7, "pairOf", "(II)V"⟩
abbrev cX7_first : ByteArray := prog_9_method_39_code
def yX7_first : MethodName := ⟨RX7, "first", "(II)V"⟩
abbrev cX7_popOf : ByteArray := prog_9_method_40_code
def yX7_popOf : MethodName := ⟨RX7, "popOf", "(I)V"⟩
abbrev cX7_pushOf : ByteArray := prog_9_method_41_code
def yX7_pushOf : MethodName := ⟨RX7, "pushOf", "(I)V"⟩
abbrev cX7_others : ByteArray := prog_9_method_42_code
def yX7_others : MethodName := ⟨RX7, "others", "(I)V"⟩
abbrev cX7_last : ByteArray := prog_9_method_43_code
def yX7_last : MethodName := ⟨RX7, "last", "(II)V"⟩
abbrev cX7_instruction : ByteArray := prog_9_method_44_code
def yX7_instruction : MethodName := ⟨RX7, "instruction", "()V"⟩
abbrev cX7_once : ByteArray := prog_9_method_45_code
def yX7_once : MethodName := ⟨RX7, "once", "()I"⟩
abbrev cX7_step : ByteArray := prog_9_method_46_code
def yX7_step : MethodName := ⟨RX7, "step", "()I"⟩
abbrev cX7_steps : ByteArray := prog_9_method_47_code
def yX7_steps : MethodName := ⟨RX7, "steps", "(I)I"⟩
abbrev cX7_key : ByteArray := prog_9_method_48_code
def yX7_key : MethodName := ⟨RX7, "key", "(IZ)Z"⟩
abbrev cX7_line : ByteArray := prog_9_method_49_code
def yX7_line : MethodName := ⟨RX7, "line", "(IZ)Z"⟩
abbrev cX7_about : ByteArray := prog_9_method_50_code
def yX7_about : MethodName := ⟨RX7, "about", "(I)I"⟩
abbrev cX7_shown : ByteArray := prog_9_method_51_code
def yX7_shown : MethodName := ⟨RX7, "shown", "(I)I"⟩
abbrev cX7_set : ByteArray := prog_9_method_52_code
def yX7_set : MethodName := ⟨RX7, "set", "(II)V"⟩
def RJ6 : String := "java/lang/Integer"
def TJ6 : u_T := fun k => match k with
  | _ => ("", "", "", false)
def tyJ6 : Nat → FieldType := fun k => match k with
  | _ => .int
theorem nmJ6 : ∀ a, a < 0 → ∀ b, b < 0 → a ≠ b → (TJ6 a).2.1 ≠ (TJ6 b).2.1 := by decide +kernel
theorem tyJ6_ok : ∀ k, k < 0 → parseFieldDescriptor (TJ6 k).2.2.1 = some (tyJ6 k) := by decide +kernel
abbrev cJ6_bitCount_0f7a4 : ByteArray := prog_13_method_49_code
def yJ6_bitCount_0f7a4 : MethodName := ⟨RJ6, "bitCount", "(I)I"⟩
def RJ9 : String := "java/lang/Math"
def TJ9 : u_T := fun k => match k with
  | _ => ("", "", "", false)
def tyJ9 : Nat → FieldType := fun k => match k with
  | _ => .int
theorem nmJ9 : ∀ a, a < 0 → ∀ b, b < 0 → a ≠ b → (TJ9 a).2.1 ≠ (TJ9 b).2.1 := by decide +kernel
theorem tyJ9_ok : ∀ k, k < 0 → parseFieldDescriptor (TJ9 k).2.2.1 = some (tyJ9 k) := by decide +kernel
abbrev cJ9_max_7cf53 : ByteArray := prog_14_method_65_code
def yJ9_max_7cf53 : MethodName := ⟨RJ9, "max", "(II)I"⟩
def RJ0 : String := "java/lang/String"
def TJ0 : u_T := fun k => match k with
  | _ => ("", "", "", false)
def tyJ0 : Nat → FieldType := fun k => match k with
  | _ => .int
theorem nmJ0 : ∀ a, a < 0 → ∀ b, b < 0 → a ≠ b → (TJ0 a).2.1 ≠ (TJ0 b).2.1 := by decide +kernel
theorem tyJ0_ok : ∀ k, k < 0 → parseFieldDescriptor (TJ0 k).2.2.1 = some (tyJ0 k) := by decide +kernel
def RL : String := "KeyboardKitLaw"
abbrev cL_steps : ByteArray := method_3_code
def yL_steps : MethodName := ⟨RL, "steps", "(LKeyboardKit;I[J)I"⟩
abbrev cL_key : ByteArray := method_4_code
def yL_key : MethodName := ⟨RL, "key", "(LKeyboardKit;IZ[J)I"⟩
abbrev cL_line : ByteArray := method_5_code
def yL_line : MethodName := ⟨RL, "line", "(LKeyboardKit;IZ[J)I"⟩
abbrev cL_about : ByteArray := method_6_code
def yL_about : MethodName := ⟨RL, "about", "(LKeyboardKit;I[J)I"⟩
abbrev cL_shown : ByteArray := method_7_code
def yL_shown : MethodName := ⟨RL, "shown", "(LKeyboardKit;I[J)I"⟩
abbrev cL_set : ByteArray := method_8_code
def yL_set : MethodName := ⟨RL, "set", "(LKeyboardKit;II)I"⟩
abbrev cL_law : ByteArray := code
def yL_law : MethodName := ⟨RL, "law", "([I)Z"⟩
abbrev vwCl : List vw_C := [(RX0, TX0, 1), (RX1, TX1, 7), (RX2, TX2, 11), (RX3, TX3, 2), (RX4, TX4, 11), (RX5, TX5, 7), (RX6, TX6, 5), (RX7, TX7, 30)]
end
section
def nk_F : List (String × Nat × String × String × String × String) := [("KeyboardKit$Ports", 35, "KeyboardKit$Timer", "lowByte", "I", "KeyboardKit"), ("KeyboardKit$Ports", 39, "KeyboardKit$Timer", "highByte", "I", "KeyboardKit"), ("KeyboardKit", 103, "KeyboardKit$Timer", "left", "I", "KeyboardKit"), ("KeyboardKit", 59, "KeyboardKit$KeyUnit", "down", "[Z", "KeyboardKit"), ("KeyboardKit$Processor", 50, "KeyboardKit$KeyUnit", "queued", "I", "KeyboardKit"), ("KeyboardKit", 113, "KeyboardKit$KeyUnit", "display", "[I", "KeyboardKit"), ("KeyboardKit", 91, "KeyboardKit$Interrupts", "on", "Z", "KeyboardKit"), ("KeyboardKit$Processor", 235, "KeyboardKit$Interrupts", "on", "Z", "KeyboardKit"), ("KeyboardKit$Processor", 69, "KeyboardKit$Interrupts", "heldBack", "Z", "KeyboardKit"), ("KeyboardKit", 97, "KeyboardKit$Interrupts", "masks", "I", "KeyboardKit"), ("KeyboardKit$Processor", 88, "KeyboardKit$Interrupts", "timerEnded", "Z", "KeyboardKit"), ("KeyboardKit", 65, "KeyboardKit$Interrupts", "line65", "Z", "KeyboardKit"), ("KeyboardKit", 69, "KeyboardKit$Interrupts", "serialIn", "Z", "KeyboardKit"), ("KeyboardKit", 100, "KeyboardKit$Interrupts", "serialOut", "Z", "KeyboardKit"), ("KeyboardKit", 79, "KeyboardKit$Flags", "all", "I", "KeyboardKit"), ("KeyboardKit$Processor", 224, "KeyboardKit$Flags", "all", "I", "KeyboardKit"), ("KeyboardKit", 72, "KeyboardKit$Processor", "registers", "[I", "KeyboardKit"), ("KeyboardKit", 75, "KeyboardKit$Processor", "flags", "LKeyboardKit$Flags;", "KeyboardKit"), ("KeyboardKit", 85, "KeyboardKit$Processor", "sp", "I", "KeyboardKit"), ("KeyboardKit", 88, "KeyboardKit$Processor", "pc", "I", "KeyboardKit"), ("KeyboardKit", 94, "KeyboardKit$Processor", "halts", "Z", "KeyboardKit")]
def nk_M : List (String × Nat × MethodName × String) := [("KeyboardKit", 15, ⟨"KeyboardKit$Timer", "<init>", "()V"⟩, "KeyboardKit"), ("KeyboardKit", 22, ⟨"KeyboardKit$KeyUnit", "<init>", "()V"⟩, "KeyboardKit"), ("KeyboardKit", 29, ⟨"KeyboardKit$Interrupts", "<init>", "()V"⟩, "KeyboardKit"), ("KeyboardKit$Processor", 17, ⟨"KeyboardKit$Flags", "<init>", "()V"⟩, "KeyboardKit")]
/-! contracts over worlds (the nest's words carried along), and a call in one row -/
def nk (U : State) : Prop := (∀ q ∈ nk_F, va_Nw (.fieldLinkNest q.1 q.2.1 q.2.2.1 q.2.2.2.1 q.2.2.2.2.1 q.2.2.2.2.2) U) ∧ ∀ q ∈ nk_M, va_Nw (.methodLinkNest q.1 q.2.1 q.2.2.1 q.2.2.2) U
theorem nk.same {u U : State} (h : u.vm = U.vm) (hn : nk u) : nk U := ⟨fun q hq => va_Nw.same rfl h (hn.1 q hq), fun q hq => va_Nw.same rfl h (hn.2 q hq)⟩
theorem nk.warm {s U : State} (hW : s.WarmedH U.vm) (hn : nk s) : nk U := ⟨fun q hq => va_Nw.warmF hW (hn.1 q hq), fun q hq => va_Nw.warmM hW (hn.2 q hq)⟩
def zc_P (D : va_G) (W0 : va_W) (T : List (ClassId × FieldType)) (sz : Nat) (U : State) : Prop := U.heap.size = sz ∧ va_P D vwCl W0 U.heap ∧ va_K D vwCl T U ∧ va_D (fun _ => True) W0 ∧ nk U
def zc_B (D : va_G) (A : Nat → Prop) (W0 : va_W) (T : List (ClassId × FieldType)) (t : State) : Prop := va_P D vwCl W0 t.heap ∧ va_K D vwCl T t ∧ va_D A W0
theorem zc_blind {D : va_G} {W0 : va_W} {T : List (ClassId × FieldType)} {sz : Nat} {av : List Value} : FrameBlind (va_Pc av (zc_P D W0 T sz)) :=
  fun a U g mk q => ⟨q.1, q.2.1, q.2.2.1, va_K.moved (u := U) (U := U.calling g mk a) (Vm.Alike.refl U.vm) q.2.2.2.1, q.2.2.2.2.1, nk.same rfl q.2.2.2.2.2⟩
theorem zc_fm {ws wc : va_W} {is : List Nat} (h : is.map (fun i => ws[i]?) = wc.map some) : is.filterMap (fun i => ws[i]?) = wc := by
  have h1 : (is.map (fun i => ws[i]?)).filterMap id = (wc.map some).filterMap id := by rw [h]
  rw [List.filterMap_map, List.filterMap_map] at h1
  simpa using h1
theorem zc_start {s : State} {H : Heap} {D : va_G} {A : Nat → Prop} {ws wc : va_W} {tys tc : List (ClassId × FieldType)} {av : List Value} (hP : va_P D vwCl ws H) (hD : va_D A ws) (hK : va_K D vwCl tys s) (hN : nk s) (isC tC : List Nat) (hC : isC.map (fun i => ws[i]?) = wc.map some) (hnC : va_nd isC = true) (hT : tC.filterMap (fun i => tys[i]?) = tc) :
    ∀ U : State, U.heap = H → s.WarmedH U.vm → va_Pc av (zc_P D wc tc H.size) av.toArray U :=
  fun U hU hW => ⟨rfl, by rw [hU], by rw [hU]; exact hP.sub isC (zc_fm hC), va_K.moved hW.alike (hK.sub tC hT), (hD.sub isC hnC hC).weaken (fun _ _ _ _ => trivial), hN.warm hW⟩
section ZCC
variable {p : Program} {l : Launch} {e : Env} {R : Room} {s : State} {m : MethodId} {args : Array Value} {below : List Frame} {meth : Method} {c : Code} {H : Heap} {locs : List Loc} {cells slots mc ms pc : Nat} {Q : State → Prop} {ls : Array Slot} {rest st0 : List Value}
variable {D : va_G} {A : Nat → Prop} {ws wc wr : va_W} {a : Array Value}
theorem zc_i {S : Type} {post : Int32 → S → Prop} {w1 : S → va_W} {t1 : S → List (ClassId × FieldType)} (hP : va_P D vwCl ws H) (hD : va_D A ws) (hS : va_S A s.heap H locs) (hA : ∀ q, s.heap.size ≤ q → A q) (isC isR : List Nat) (hC : isC.map (fun i => ws[i]?) = wc.map some) (hR : isR.map (fun i => ws[i]?) = wr.map some) (hnR : va_nd isR = true) (hdis : ∀ i ∈ isR, i ∉ isC)
    (hr : va_Run p l e R s m args below meth c H locs cells slots mc ms (F0 m pc ls st0) rest (va_Qi post (fun u t => zc_B D (va_A wc H.size) (w1 u) (t1 u) t) (va_A wc H.size) a) (va_A wc H.size))
    (kk : ∀ (r : Int32) (u : S) (H1 : Heap) (locs1 : List Loc), post r u → va_K D vwCl (t1 u) s → va_P D vwCl (wr ++ w1 u) H1 → va_D A (wr ++ w1 u) → va_S A s.heap H1 locs1 → W p l e R s m args below meth c H1 locs1 (cells + mc) (slots + ms) Q (F0 m (pc + 3) ls (.int r :: rest))) :
    W p l e R s m args below meth c H locs cells slots Q (F0 m pc ls st0) := by
  have hFc := va_free (wc := wc) hD hS hA isC hC
  refine va_calli hr hS (fun q _ h => hFc q h) hFc (fun r u t H1 locs1 ht hvm hw hB hz1 hk1 hS1 => ?_)
  obtain ⟨hP1, hK1, hD1⟩ := hB
  rw [ht] at hP1
  obtain ⟨hP2, hD2⟩ := va_join (w1 := w1 u) hP hD isC isR hC hR hnR hdis hk1 hFc hP1 hD1
  exact kk r u H1 locs1 hw (va_K.moved hvm.symm hK1) hP2 hD2 hS1
theorem zc_v {S : Type} {post : S → Prop} {w1 : S → va_W} {t1 : S → List (ClassId × FieldType)} (hP : va_P D vwCl ws H) (hD : va_D A ws) (hS : va_S A s.heap H locs) (hA : ∀ q, s.heap.size ≤ q → A q) (isC isR : List Nat) (hC : isC.map (fun i => ws[i]?) = wc.map some) (hR : isR.map (fun i => ws[i]?) = wr.map some) (hnR : va_nd isR = true) (hdis : ∀ i ∈ isR, i ∉ isC)
    (hr : va_Run p l e R s m args below meth c H locs cells slots mc ms (F0 m pc ls st0) rest (va_Qv post (fun u t => zc_B D (va_A wc H.size) (w1 u) (t1 u) t) (va_A wc H.size) a) (va_A wc H.size))
    (kk : ∀ (u : S) (H1 : Heap) (locs1 : List Loc), post u → va_K D vwCl (t1 u) s → va_P D vwCl (wr ++ w1 u) H1 → va_D A (wr ++ w1 u) → va_S A s.heap H1 locs1 → W p l e R s m args below meth c H1 locs1 (cells + mc) (slots + ms) Q (F0 m (pc + 3) ls rest)) :
    W p l e R s m args below meth c H locs cells slots Q (F0 m pc ls st0) := by
  have hFc := va_free (wc := wc) hD hS hA isC hC
  refine va_callv hr hS (fun q _ h => hFc q h) hFc (fun u t H1 locs1 ht hvm hw hB hz1 hk1 hS1 => ?_)
  obtain ⟨hP1, hK1, hD1⟩ := hB
  rw [ht] at hP1
  obtain ⟨hP2, hD2⟩ := va_join (w1 := w1 u) hP hD isC isR hC hR hnR hdis hk1 hFc hP1 hD1
  exact kk u H1 locs1 hw (va_K.moved hvm.symm hK1) hP2 hD2 hS1
end ZCC
theorem zc_nz (b : Int32) (h : b = 0 ∨ b = 1) : narrow .boolean (.int b) = .int b := by rcases h with rfl | rfl <;> rfl
theorem zc_up (k : Nat) : upd (fun _ => (0 : Int32)) k 0 = fun _ => 0 := by funext j; simp [upd]
theorem zc_z0 : vp_nar .boolean 0 = 0 := by decide +kernel
theorem zc_z1 : vp_nar .boolean 1 = 1 := by decide +kernel
theorem zc_uz (k : Nat) : upd (fun _ => (0 : Int32)) k (vp_nar .boolean 0) = fun _ => 0 := by rw [zc_z0]; exact zc_up k
theorem nf_0 {U : State} (h : nk U) : va_Nw (.fieldLinkNest RX3 35 "KeyboardKit$Timer" "lowByte" "I" "KeyboardKit") U := h.1 ("KeyboardKit$Ports", 35, "KeyboardKit$Timer", "lowByte", "I", "KeyboardKit") (List.mem_of_getElem? (i := 0) rfl)
theorem nf_1 {U : State} (h : nk U) : va_Nw (.fieldLinkNest RX3 39 "KeyboardKit$Timer" "highByte" "I" "KeyboardKit") U := h.1 ("KeyboardKit$Ports", 39, "KeyboardKit$Timer", "highByte", "I", "KeyboardKit") (List.mem_of_getElem? (i := 1) rfl)
theorem nf_2 {U : State} (h : nk U) : va_Nw (.fieldLinkNest RX6 103 "KeyboardKit$Timer" "left" "I" "KeyboardKit") U := h.1 ("KeyboardKit", 103, "KeyboardKit$Timer", "left", "I", "KeyboardKit") (List.mem_of_getElem? (i := 2) rfl)
theorem nf_3 {U : State} (h : nk U) : va_Nw (.fieldLinkNest RX6 59 "KeyboardKit$KeyUnit" "down" "[Z" "KeyboardKit") U := h.1 ("KeyboardKit", 59, "KeyboardKit$KeyUnit", "down", "[Z", "KeyboardKit") (List.mem_of_getElem? (i := 3) rfl)
theorem nf_4 {U : State} (h : nk U) : va_Nw (.fieldLinkNest RX4 50 "KeyboardKit$KeyUnit" "queued" "I" "KeyboardKit") U := h.1 ("KeyboardKit$Processor", 50, "KeyboardKit$KeyUnit", "queued", "I", "KeyboardKit") (List.mem_of_getElem? (i := 4) rfl)
theorem nf_5 {U : State} (h : nk U) : va_Nw (.fieldLinkNest RX6 113 "KeyboardKit$KeyUnit" "display" "[I" "KeyboardKit") U := h.1 ("KeyboardKit", 113, "KeyboardKit$KeyUnit", "display", "[I", "KeyboardKit") (List.mem_of_getElem? (i := 5) rfl)
theorem nf_6 {U : State} (h : nk U) : va_Nw (.fieldLinkNest RX6 91 "KeyboardKit$Interrupts" "on" "Z" "KeyboardKit") U := h.1 ("KeyboardKit", 91, "KeyboardKit$Interrupts", "on", "Z", "KeyboardKit") (List.mem_of_getElem? (i := 6) rfl)
theorem nf_7 {U : State} (h : nk U) : va_Nw (.fieldLinkNest RX4 235 "KeyboardKit$Interrupts" "on" "Z" "KeyboardKit") U := h.1 ("KeyboardKit$Processor", 235, "KeyboardKit$Interrupts", "on", "Z", "KeyboardKit") (List.mem_of_getElem? (i := 7) rfl)
theorem nf_8 {U : State} (h : nk U) : va_Nw (.fieldLinkNest RX4 69 "KeyboardKit$Interrupts" "heldBack" "Z" "KeyboardKit") U := h.1 ("KeyboardKit$Processor", 69, "KeyboardKit$Interrupts", "heldBack", "Z", "KeyboardKit") (List.mem_of_getElem? (i := 8) rfl)
theorem nf_9 {U : State} (h : nk U) : va_Nw (.fieldLinkNest RX6 97 "KeyboardKit$Interrupts" "masks" "I" "KeyboardKit") U := h.1 ("KeyboardKit", 97, "KeyboardKit$Interrupts", "masks", "I", "KeyboardKit") (List.mem_of_getElem? (i := 9) rfl)
theorem nf_10 {U : State} (h : nk U) : va_Nw (.fieldLinkNest RX4 88 "KeyboardKit$Interrupts" "timerEnded" "Z" "KeyboardKit") U := h.1 ("KeyboardKit$Processor", 88, "KeyboardKit$Interrupts", "timerEnded", "Z", "KeyboardKit") (List.mem_of_getElem? (i := 10) rfl)
theorem nf_11 {U : State} (h : nk U) : va_Nw (.fieldLinkNest RX6 65 "KeyboardKit$Interrupts" "line65" "Z" "KeyboardKit") U := h.1 ("KeyboardKit", 65, "KeyboardKit$Interrupts", "line65", "Z", "KeyboardKit") (List.mem_of_getElem? (i := 11) rfl)
theorem nf_12 {U : State} (h : nk U) : va_Nw (.fieldLinkNest RX6 69 "KeyboardKit$Interrupts" "serialIn" "Z" "KeyboardKit") U := h.1 ("KeyboardKit", 69, "KeyboardKit$Interrupts", "serialIn", "Z", "KeyboardKit") (List.mem_of_getElem? (i := 12) rfl)
theorem nf_13 {U : State} (h : nk U) : va_Nw (.fieldLinkNest RX6 100 "KeyboardKit$Interrupts" "serialOut" "Z" "KeyboardKit") U := h.1 ("KeyboardKit", 100, "KeyboardKit$Interrupts", "serialOut", "Z", "KeyboardKit") (List.mem_of_getElem? (i := 13) rfl)
theorem nf_14 {U : State} (h : nk U) : va_Nw (.fieldLinkNest RX6 79 "KeyboardKit$Flags" "all" "I" "KeyboardKit") U := h.1 ("KeyboardKit", 79, "KeyboardKit$Flags", "all", "I", "KeyboardKit") (List.mem_of_getElem? (i := 14) rfl)
theorem nf_15 {U : State} (h : nk U) : va_Nw (.fieldLinkNest RX4 224 "KeyboardKit$Flags" "all" "I" "KeyboardKit") U := h.1 ("KeyboardKit$Processor", 224, "KeyboardKit$Flags", "all", "I", "KeyboardKit") (List.mem_of_getElem? (i := 15) rfl)
theorem nf_16 {U : State} (h : nk U) : va_Nw (.fieldLinkNest RX6 72 "KeyboardKit$Processor" "registers" "[I" "KeyboardKit") U := h.1 ("KeyboardKit", 72, "KeyboardKit$Processor", "registers", "[I", "KeyboardKit") (List.mem_of_getElem? (i := 16) rfl)
theorem nf_17 {U : State} (h : nk U) : va_Nw (.fieldLinkNest RX6 75 "KeyboardKit$Processor" "flags" "LKeyboardKit$Flags;" "KeyboardKit") U := h.1 ("KeyboardKit", 75, "KeyboardKit$Processor", "flags", "LKeyboardKit$Flags;", "KeyboardKit") (List.mem_of_getElem? (i := 17) rfl)
theorem nf_18 {U : State} (h : nk U) : va_Nw (.fieldLinkNest RX6 85 "KeyboardKit$Processor" "sp" "I" "KeyboardKit") U := h.1 ("KeyboardKit", 85, "KeyboardKit$Processor", "sp", "I", "KeyboardKit") (List.mem_of_getElem? (i := 18) rfl)
theorem nf_19 {U : State} (h : nk U) : va_Nw (.fieldLinkNest RX6 88 "KeyboardKit$Processor" "pc" "I" "KeyboardKit") U := h.1 ("KeyboardKit", 88, "KeyboardKit$Processor", "pc", "I", "KeyboardKit") (List.mem_of_getElem? (i := 19) rfl)
theorem nf_20 {U : State} (h : nk U) : va_Nw (.fieldLinkNest RX6 94 "KeyboardKit$Processor" "halts" "Z" "KeyboardKit") U := h.1 ("KeyboardKit", 94, "KeyboardKit$Processor", "halts", "Z", "KeyboardKit") (List.mem_of_getElem? (i := 20) rfl)
theorem nm_0 {U : State} (h : nk U) : va_Nw (.methodLinkNest RX6 15 yX5_init "KeyboardKit") U := h.2 ("KeyboardKit", 15, ⟨"KeyboardKit$Timer", "<init>", "()V"⟩, "KeyboardKit") (List.mem_of_getElem? (i := 0) rfl)
theorem nm_1 {U : State} (h : nk U) : va_Nw (.methodLinkNest RX6 22 yX2_init "KeyboardKit") U := h.2 ("KeyboardKit", 22, ⟨"KeyboardKit$KeyUnit", "<init>", "()V"⟩, "KeyboardKit") (List.mem_of_getElem? (i := 1) rfl)
theorem nm_2 {U : State} (h : nk U) : va_Nw (.methodLinkNest RX6 29 yX1_init "KeyboardKit") U := h.2 ("KeyboardKit", 29, ⟨"KeyboardKit$Interrupts", "<init>", "()V"⟩, "KeyboardKit") (List.mem_of_getElem? (i := 2) rfl)
theorem nm_3 {U : State} (h : nk U) : va_Nw (.methodLinkNest RX4 17 yX0_init "KeyboardKit") U := h.2 ("KeyboardKit$Processor", 17, ⟨"KeyboardKit$Flags", "<init>", "()V"⟩, "KeyboardKit") (List.mem_of_getElem? (i := 3) rfl)
end
section
/-! the good words of the tables, one list for all methods -/
def zw : List Cond := lw_tbl.filter goodWord
abbrev zq (y : MethodName) (b : ByteArray) (n : Nat) (r : Option FieldType) : List Cond := .code y b n r :: zw
theorem zm {w : Cond} (i : Nat) (h : lw_tbl[i]? = some w) (g : goodWord w = true) : w ∈ zw := List.mem_filter.mpr ⟨List.mem_of_getElem? h, g⟩
theorem zw_sub : ∀ w ∈ zw, w ∈ lw_tbl := fun _ h => (List.mem_filter.mp h).1
theorem zw_gd {w : Cond} (h : w ∈ zw) : (w.onTables && w.keeps) = true ∨ ∃ ty, w = .arrayClass ty := good_of_word (List.mem_filter.mp h).2
theorem zg_0 {w0 : Cond} (h : w0 ∈ zw) : GoodIn zw (w0 :: zw) := fun w hw => by
  rcases List.mem_cons.mp hw with rfl | hw
  · exact ⟨h, zw_gd h⟩
  · exact ⟨hw, zw_gd hw⟩
theorem zg_l {L ws : List Cond} (h : ∀ w ∈ L, w ∈ zw) (hg : GoodIn zw ws) : GoodIn zw (L ++ ws) := fun w hw => by
  rcases List.mem_append.mp hw with hw | hw
  · exact ⟨h w hw, zw_gd (h w hw)⟩
  · exact hg w hw
theorem zg_V {own C : String} {idx n : Nat} {y : MethodName} {b : ByteArray} {r : Option FieldType} (h1 : Cond.methodLink own idx y ∈ zw) (h2 : Cond.instanceMethod y ∈ zw) (h3 : Cond.selects C y y ∈ zw) (h4 : Cond.initialized C ∈ zw) (h5 : Cond.code y b n r ∈ zw) : GoodIn zw (wsV own idx C y (zq y b n r)) :=
  zg_l (List.forall_mem_cons.mpr ⟨h1, List.forall_mem_cons.mpr ⟨h2, List.forall_mem_cons.mpr ⟨h3, List.forall_mem_cons.mpr ⟨h4, fun _ h => absurd h List.not_mem_nil⟩⟩⟩⟩) (zg_0 h5)
theorem zg_S {own : String} {idx : Nat} {y : MethodName} {w0 : Cond} (h1 : Cond.methodLink own idx y ∈ zw) (h2 : Cond.static y ∈ zw) (h3 : Cond.initialized y.cls ∈ zw) (h5 : w0 ∈ zw) : GoodIn zw (va_wsS own idx y (w0 :: zw)) :=
  zg_l (List.forall_mem_cons.mpr ⟨h1, List.forall_mem_cons.mpr ⟨h2, List.forall_mem_cons.mpr ⟨h3, fun _ h => absurd h List.not_mem_nil⟩⟩⟩) (zg_0 h5)
theorem zw_in (L : List Cond) (h : L.all (fun w => lw_tbl.contains w && goodWord w) = true) : ∀ w ∈ L, w ∈ zw := fun w hw => by
  have h1 := List.all_eq_true.mp h w hw
  rw [Bool.and_eq_true] at h1
  exact List.mem_filter.mpr ⟨List.contains_iff_mem.mp h1.1, h1.2⟩
set_option maxRecDepth 100000 in
theorem zw_0 : Cond.selects RX1 yX1_wanted yX1_wanted ∈ zw := zm 0 (by rfl) (by rfl)
set_option maxRecDepth 100000 in
theorem zw_1 : Cond.selects RX4 yX4_call yX4_call ∈ zw := zm 1 (by rfl) (by rfl)
set_option maxRecDepth 100000 in
theorem zw_2 : Cond.selects RX4 yX4_push yX4_push ∈ zw := zm 2 (by rfl) (by rfl)
set_option maxRecDepth 100000 in
theorem zw_3 : Cond.selects RX4 yX4_writeWord yX4_writeWord ∈ zw := zm 3 (by rfl) (by rfl)
set_option maxRecDepth 100000 in
theorem zw_4 : Cond.selects RX4 yX4_execute yX4_execute ∈ zw := zm 4 (by rfl) (by rfl)
set_option maxRecDepth 100000 in
theorem zw_5 : Cond.selects RX4 yX4_executeGroup0 yX4_executeGroup0 ∈ zw := zm 5 (by rfl) (by rfl)
set_option maxRecDepth 100000 in
theorem zw_6 : Cond.selects RX4 yX4_useMask yX4_useMask ∈ zw := zm 6 (by rfl) (by rfl)
set_option maxRecDepth 100000 in
theorem zw_7 : Cond.selects RX4 yX4_loadOrAddPair yX4_loadOrAddPair ∈ zw := zm 7 (by rfl) (by rfl)
set_option maxRecDepth 100000 in
theorem zw_8 : Cond.selects RX4 yX4_fetchWord yX4_fetchWord ∈ zw := zm 8 (by rfl) (by rfl)
set_option maxRecDepth 100000 in
theorem zw_9 : Cond.selects RX4 yX4_fetch yX4_fetch ∈ zw := zm 9 (by rfl) (by rfl)
set_option maxRecDepth 100000 in
theorem zw_10 : Cond.selects RX4 yX4_putPair yX4_putPair ∈ zw := zm 10 (by rfl) (by rfl)
set_option maxRecDepth 100000 in
theorem zw_11 : Cond.selects RX4 yX4_pair yX4_pair ∈ zw := zm 11 (by rfl) (by rfl)
set_option maxRecDepth 100000 in
theorem zw_12 : Cond.selects RX4 yX4_moveByAddress yX4_moveByAddress ∈ zw := zm 12 (by rfl) (by rfl)
set_option maxRecDepth 100000 in
theorem zw_13 : Cond.selects RX4 yX4_write yX4_write ∈ zw := zm 13 (by rfl) (by rfl)
set_option maxRecDepth 100000 in
theorem zw_14 : Cond.selects RX4 yX4_read yX4_read ∈ zw := zm 14 (by rfl) (by rfl)
set_option maxRecDepth 100000 in
theorem zw_15 : Cond.selects RX4 yX4_readWord yX4_readWord ∈ zw := zm 15 (by rfl) (by rfl)
set_option maxRecDepth 100000 in
theorem zw_16 : Cond.selects RX4 yX4_countPair yX4_countPair ∈ zw := zm 16 (by rfl) (by rfl)
set_option maxRecDepth 100000 in
theorem zw_17 : Cond.selects RX4 yX4_countUp yX4_countUp ∈ zw := zm 17 (by rfl) (by rfl)
set_option maxRecDepth 100000 in
theorem zw_18 : Cond.selects RX4 yX4_register yX4_register ∈ zw := zm 18 (by rfl) (by rfl)
set_option maxRecDepth 100000 in
theorem zw_19 : Cond.selects RX4 yX4_putRegister yX4_putRegister ∈ zw := zm 19 (by rfl) (by rfl)
set_option maxRecDepth 100000 in
theorem zw_20 : Cond.selects RX4 yX4_countDown yX4_countDown ∈ zw := zm 20 (by rfl) (by rfl)
set_option maxRecDepth 100000 in
theorem zw_21 : Cond.selects RX4 yX4_changeAccumulator yX4_changeAccumulator ∈ zw := zm 21 (by rfl) (by rfl)
set_option maxRecDepth 100000 in
theorem zw_22 : Cond.selects RX4 yX4_turnLeft yX4_turnLeft ∈ zw := zm 22 (by rfl) (by rfl)
set_option maxRecDepth 100000 in
theorem zw_23 : Cond.selects RX4 yX4_turnRight yX4_turnRight ∈ zw := zm 23 (by rfl) (by rfl)
set_option maxRecDepth 100000 in
theorem zw_24 : Cond.selects RX4 yX4_move yX4_move ∈ zw := zm 24 (by rfl) (by rfl)
set_option maxRecDepth 100000 in
theorem zw_25 : Cond.selects RX4 yX4_operate yX4_operate ∈ zw := zm 25 (by rfl) (by rfl)
set_option maxRecDepth 100000 in
theorem zw_26 : Cond.selects RX4 yX4_executeGroup3 yX4_executeGroup3 ∈ zw := zm 26 (by rfl) (by rfl)
set_option maxRecDepth 100000 in
theorem zw_27 : Cond.selects RX4 yX4_pop yX4_pop ∈ zw := zm 27 (by rfl) (by rfl)
set_option maxRecDepth 100000 in
theorem zw_28 : Cond.selects RX4 yX4_popOrReturn yX4_popOrReturn ∈ zw := zm 28 (by rfl) (by rfl)
set_option maxRecDepth 100000 in
theorem zw_29 : Cond.selects RX4 yX4_popAccumulatorAndFlags yX4_popAccumulatorAndFlags ∈ zw := zm 29 (by rfl) (by rfl)
set_option maxRecDepth 100000 in
theorem zw_30 : Cond.selects RX4 yX4_jumpIf yX4_jumpIf ∈ zw := zm 30 (by rfl) (by rfl)
set_option maxRecDepth 100000 in
theorem zw_31 : Cond.selects RX4 yX4_executeSpecial yX4_executeSpecial ∈ zw := zm 31 (by rfl) (by rfl)
set_option maxRecDepth 100000 in
theorem zw_32 : Cond.selects RX2 yX2_clear yX2_clear ∈ zw := zm 32 (by rfl) (by rfl)
set_option maxRecDepth 100000 in
theorem zw_33 : Cond.selects RX4 yX4_exchangeWithStack yX4_exchangeWithStack ∈ zw := zm 33 (by rfl) (by rfl)
set_option maxRecDepth 100000 in
theorem zw_34 : Cond.selects RX4 yX4_exchangeWithDe yX4_exchangeWithDe ∈ zw := zm 34 (by rfl) (by rfl)
set_option maxRecDepth 100000 in
theorem zw_35 : Cond.selects RX4 yX4_callIf yX4_callIf ∈ zw := zm 35 (by rfl) (by rfl)
set_option maxRecDepth 100000 in
theorem zw_36 : Cond.selects RX4 yX4_pushOrGo yX4_pushOrGo ∈ zw := zm 36 (by rfl) (by rfl)
set_option maxRecDepth 100000 in
theorem zw_37 : Cond.selects RX4 yX4_passTicks yX4_passTicks ∈ zw := zm 37 (by rfl) (by rfl)
set_option maxRecDepth 100000 in
theorem zw_38 : Cond.selects RX2 yX2_scan yX2_scan ∈ zw := zm 38 (by rfl) (by rfl)
set_option maxRecDepth 100000 in
theorem zw_39 : Cond.selects RX2 yX2_enqueue yX2_enqueue ∈ zw := zm 39 (by rfl) (by rfl)
set_option maxRecDepth 100000 in
theorem zw_41 : Cond.selects RX7 yX7_once yX7_once ∈ zw := zm 41 (by rfl) (by rfl)
set_option maxRecDepth 100000 in
theorem zw_42 : Cond.selects RX7 yX7_wanted yX7_wanted ∈ zw := zm 42 (by rfl) (by rfl)
set_option maxRecDepth 100000 in
theorem zw_43 : Cond.selects RX7 yX7_call yX7_call ∈ zw := zm 43 (by rfl) (by rfl)
set_option maxRecDepth 100000 in
theorem zw_44 : Cond.selects RX7 yX7_push yX7_push ∈ zw := zm 44 (by rfl) (by rfl)
set_option maxRecDepth 100000 in
theorem zw_45 : Cond.selects RX7 yX7_write yX7_write ∈ zw := zm 45 (by rfl) (by rfl)
set_option maxRecDepth 100000 in
theorem zw_46 : Cond.selects RX7 yX7_instruction yX7_instruction ∈ zw := zm 46 (by rfl) (by rfl)
set_option maxRecDepth 100000 in
theorem zw_47 : Cond.selects RX7 yX7_fetch yX7_fetch ∈ zw := zm 47 (by rfl) (by rfl)
set_option maxRecDepth 100000 in
theorem zw_48 : Cond.selects RX7 yX7_read yX7_read ∈ zw := zm 48 (by rfl) (by rfl)
set_option maxRecDepth 100000 in
theorem zw_49 : Cond.selects RX7 yX7_first yX7_first ∈ zw := zm 49 (by rfl) (by rfl)
set_option maxRecDepth 100000 in
theorem zw_50 : Cond.selects RX7 yX7_setMask yX7_setMask ∈ zw := zm 50 (by rfl) (by rfl)
set_option maxRecDepth 100000 in
theorem zw_51 : Cond.selects RX7 yX7_pairOf yX7_pairOf ∈ zw := zm 51 (by rfl) (by rfl)
set_option maxRecDepth 100000 in
theorem zw_52 : Cond.selects RX7 yX7_pair yX7_pair ∈ zw := zm 52 (by rfl) (by rfl)
set_option maxRecDepth 100000 in
theorem zw_53 : Cond.selects RX7 yX7_fetchTwo yX7_fetchTwo ∈ zw := zm 53 (by rfl) (by rfl)
set_option maxRecDepth 100000 in
theorem zw_54 : Cond.selects RX7 yX7_putPair yX7_putPair ∈ zw := zm 54 (by rfl) (by rfl)
set_option maxRecDepth 100000 in
theorem zw_55 : Cond.selects RX7 yX7_hl yX7_hl ∈ zw := zm 55 (by rfl) (by rfl)
set_option maxRecDepth 100000 in
theorem zw_56 : Cond.selects RX7 yX7_flag yX7_flag ∈ zw := zm 56 (by rfl) (by rfl)
set_option maxRecDepth 100000 in
theorem zw_57 : Cond.selects RX7 yX7_memoryOf yX7_memoryOf ∈ zw := zm 57 (by rfl) (by rfl)
set_option maxRecDepth 100000 in
theorem zw_58 : Cond.selects RX7 yX7_stepRegister yX7_stepRegister ∈ zw := zm 58 (by rfl) (by rfl)
set_option maxRecDepth 100000 in
theorem zw_59 : Cond.selects RX7 yX7_is yX7_is ∈ zw := zm 59 (by rfl) (by rfl)
set_option maxRecDepth 100000 in
theorem zw_60 : Cond.selects RX7 yX7_get yX7_get ∈ zw := zm 60 (by rfl) (by rfl)
set_option maxRecDepth 100000 in
theorem zw_61 : Cond.selects RX7 yX7_sum yX7_sum ∈ zw := zm 61 (by rfl) (by rfl)
set_option maxRecDepth 100000 in
theorem zw_62 : Cond.selects RX7 yX7_mark yX7_mark ∈ zw := zm 62 (by rfl) (by rfl)
set_option maxRecDepth 100000 in
theorem zw_63 : Cond.selects RX7 yX7_difference yX7_difference ∈ zw := zm 63 (by rfl) (by rfl)
set_option maxRecDepth 100000 in
theorem zw_64 : Cond.selects RX7 yX7_put yX7_put ∈ zw := zm 64 (by rfl) (by rfl)
set_option maxRecDepth 100000 in
theorem zw_65 : Cond.selects RX7 yX7_turn yX7_turn ∈ zw := zm 65 (by rfl) (by rfl)
set_option maxRecDepth 100000 in
theorem zw_66 : Cond.selects RX7 yX7_decimal yX7_decimal ∈ zw := zm 66 (by rfl) (by rfl)
set_option maxRecDepth 100000 in
theorem zw_67 : Cond.selects RX7 yX7_operate yX7_operate ∈ zw := zm 67 (by rfl) (by rfl)
set_option maxRecDepth 100000 in
theorem zw_68 : Cond.selects RX7 yX7_logic yX7_logic ∈ zw := zm 68 (by rfl) (by rfl)
set_option maxRecDepth 100000 in
theorem zw_69 : Cond.selects RX7 yX7_last yX7_last ∈ zw := zm 69 (by rfl) (by rfl)
set_option maxRecDepth 100000 in
theorem zw_70 : Cond.selects RX7 yX7_holds yX7_holds ∈ zw := zm 70 (by rfl) (by rfl)
set_option maxRecDepth 100000 in
theorem zw_71 : Cond.selects RX7 yX7_pop yX7_pop ∈ zw := zm 71 (by rfl) (by rfl)
set_option maxRecDepth 100000 in
theorem zw_72 : Cond.selects RX7 yX7_popOf yX7_popOf ∈ zw := zm 72 (by rfl) (by rfl)
set_option maxRecDepth 100000 in
theorem zw_73 : Cond.selects RX7 yX7_others yX7_others ∈ zw := zm 73 (by rfl) (by rfl)
set_option maxRecDepth 100000 in
theorem zw_74 : Cond.selects RX7 yX7_out yX7_out ∈ zw := zm 74 (by rfl) (by rfl)
set_option maxRecDepth 100000 in
theorem zw_75 : Cond.selects RX7 yX7_lengthOf yX7_lengthOf ∈ zw := zm 75 (by rfl) (by rfl)
set_option maxRecDepth 100000 in
theorem zw_76 : Cond.selects RX7 yX7_in yX7_in ∈ zw := zm 76 (by rfl) (by rfl)
set_option maxRecDepth 100000 in
theorem zw_77 : Cond.selects RX7 yX7_status yX7_status ∈ zw := zm 77 (by rfl) (by rfl)
set_option maxRecDepth 100000 in
theorem zw_78 : Cond.selects RX7 yX7_pushOf yX7_pushOf ∈ zw := zm 78 (by rfl) (by rfl)
set_option maxRecDepth 100000 in
theorem zw_79 : Cond.selects RX7 yX7_pass yX7_pass ∈ zw := zm 79 (by rfl) (by rfl)
set_option maxRecDepth 100000 in
theorem zw_80 : Cond.selects RX7 yX7_tickTimer yX7_tickTimer ∈ zw := zm 80 (by rfl) (by rfl)
set_option maxRecDepth 100000 in
theorem zw_81 : Cond.selects RX7 yX7_scan yX7_scan ∈ zw := zm 81 (by rfl) (by rfl)
set_option maxRecDepth 100000 in
theorem zw_82 : Cond.initialized RL ∈ zw := zm 82 (by rfl) (by rfl)
set_option maxRecDepth 100000 in
theorem zw_83 : Cond.initialized RX6 ∈ zw := zm 83 (by rfl) (by rfl)
set_option maxRecDepth 100000 in
theorem zw_84 : Cond.initialized RX5 ∈ zw := zm 84 (by rfl) (by rfl)
set_option maxRecDepth 100000 in
theorem zw_85 : Cond.initialized RX2 ∈ zw := zm 85 (by rfl) (by rfl)
set_option maxRecDepth 100000 in
theorem zw_86 : Cond.initialized RX1 ∈ zw := zm 86 (by rfl) (by rfl)
set_option maxRecDepth 100000 in
theorem zw_87 : Cond.initialized RX4 ∈ zw := zm 87 (by rfl) (by rfl)
set_option maxRecDepth 100000 in
theorem zw_88 : Cond.initialized RX0 ∈ zw := zm 88 (by rfl) (by rfl)
set_option maxRecDepth 100000 in
theorem zw_89 : Cond.initialized RX3 ∈ zw := zm 89 (by rfl) (by rfl)
set_option maxRecDepth 100000 in
theorem zw_90 : Cond.initialized RX7 ∈ zw := zm 90 (by rfl) (by rfl)
set_option maxRecDepth 100000 in
theorem zw_91 : Cond.initialized RJ6 ∈ zw := zm 91 (by rfl) (by rfl)
set_option maxRecDepth 100000 in
theorem zw_92 : Cond.initialized RJ9 ∈ zw := zm 92 (by rfl) (by rfl)
set_option maxRecDepth 100000 in
theorem zw_93 : Cond.initialized "java/lang/Throwable" ∈ zw := zm 93 (by rfl) (by rfl)
set_option maxRecDepth 100000 in
theorem zw_94 : Cond.initialized "java/lang/Exception" ∈ zw := zm 94 (by rfl) (by rfl)
set_option maxRecDepth 100000 in
theorem zw_95 : Cond.initialized "java/lang/RuntimeException" ∈ zw := zm 95 (by rfl) (by rfl)
set_option maxRecDepth 100000 in
theorem zw_96 : Cond.initialized "java/lang/IllegalArgumentException" ∈ zw := zm 96 (by rfl) (by rfl)
set_option maxRecDepth 100000 in
theorem zw_97 : Cond.initialized "java/lang/IndexOutOfBoundsException" ∈ zw := zm 97 (by rfl) (by rfl)
set_option maxRecDepth 100000 in
theorem zw_98 : Cond.classLink RL 8 RX6 ∈ zw := zm 98 (by rfl) (by rfl)
set_option maxRecDepth 100000 in
theorem zw_99 : Cond.instantiable RX6 5 ∈ zw := zm 99 (by rfl) (by rfl)
set_option maxRecDepth 100000 in
theorem zw_100 : Cond.methodLink RL 34 yX6_init ∈ zw := zm 100 (by rfl) (by rfl)
set_option maxRecDepth 100000 in
theorem zw_101 : Cond.instanceMethod yX6_init ∈ zw := zm 101 (by rfl) (by rfl)
set_option maxRecDepth 100000 in
theorem zw_102 : Cond.code yX6_init cX6_init 1 none ∈ zw := zm 102 (by rfl) (by rfl)
set_option maxRecDepth 100000 in
theorem zw_103 : Cond.methodLink RX6 1 objectInit ∈ zw := zm 103 (by rfl) (by rfl)
set_option maxRecDepth 100000 in
theorem zw_104 : Cond.instanceMethod objectInit ∈ zw := zm 104 (by rfl) (by rfl)
set_option maxRecDepth 100000 in
theorem zw_105 : Cond.code objectInit ⟨#[0xb1]⟩ 1 none ∈ zw := zm 105 (by rfl) (by rfl)
set_option maxRecDepth 100000 in
theorem zw_106 : Cond.classLink RX6 13 RX5 ∈ zw := zm 106 (by rfl) (by rfl)
set_option maxRecDepth 100000 in
theorem zw_107 : Cond.instantiable RX5 7 ∈ zw := zm 107 (by rfl) (by rfl)
set_option maxRecDepth 100000 in
theorem zw_109 : Cond.instanceMethod yX5_init ∈ zw := zm 109 (by rfl) (by rfl)
set_option maxRecDepth 100000 in
theorem zw_110 : Cond.code yX5_init cX5_init 1 none ∈ zw := zm 110 (by rfl) (by rfl)
set_option maxRecDepth 100000 in
theorem zw_111 : Cond.methodLink RX5 1 objectInit ∈ zw := zm 111 (by rfl) (by rfl)
set_option maxRecDepth 100000 in
theorem zw_112 : Cond.fieldLink RX5 20 "KeyboardKit$Timer" "lowByte" "I" ∈ zw := zm 112 (by rfl) (by rfl)
set_option maxRecDepth 100000 in
theorem zw_114 : Cond.fieldLink RX5 17 "KeyboardKit$Timer" "highByte" "I" ∈ zw := zm 114 (by rfl) (by rfl)
set_option maxRecDepth 100000 in
theorem zw_116 : Cond.fieldLink RX5 29 "KeyboardKit$Timer" "length" "I" ∈ zw := zm 116 (by rfl) (by rfl)
set_option maxRecDepth 100000 in
theorem zw_117 : Cond.fieldLink RX5 32 "KeyboardKit$Timer" "goesOn" "Z" ∈ zw := zm 117 (by rfl) (by rfl)
set_option maxRecDepth 100000 in
theorem zw_118 : Cond.fieldLink RX5 13 "KeyboardKit$Timer" "stopsAtEnd" "Z" ∈ zw := zm 118 (by rfl) (by rfl)
set_option maxRecDepth 100000 in
theorem zw_119 : Cond.fieldLink RX5 35 "KeyboardKit$Timer" "endedSinceRead" "Z" ∈ zw := zm 119 (by rfl) (by rfl)
set_option maxRecDepth 100000 in
theorem zw_120 : Cond.fieldLink RX5 7 "KeyboardKit$Timer" "left" "I" ∈ zw := zm 120 (by rfl) (by rfl)
set_option maxRecDepth 100000 in
theorem zw_137 : Cond.arrayClass .int ∈ zw := zm 137 (by rfl) (by rfl)
set_option maxRecDepth 100000 in
theorem zw_138 : Cond.classLink RX6 20 RX2 ∈ zw := zm 138 (by rfl) (by rfl)
set_option maxRecDepth 100000 in
theorem zw_139 : Cond.instantiable RX2 11 ∈ zw := zm 139 (by rfl) (by rfl)
set_option maxRecDepth 100000 in
theorem zw_141 : Cond.instanceMethod yX2_init ∈ zw := zm 141 (by rfl) (by rfl)
set_option maxRecDepth 100000 in
theorem zw_142 : Cond.code yX2_init cX2_init 1 none ∈ zw := zm 142 (by rfl) (by rfl)
set_option maxRecDepth 100000 in
theorem zw_143 : Cond.methodLink RX2 3 objectInit ∈ zw := zm 143 (by rfl) (by rfl)
set_option maxRecDepth 100000 in
theorem zw_144 : Cond.fieldLink RX2 9 "KeyboardKit$KeyUnit" "down" "[Z" ∈ zw := zm 144 (by rfl) (by rfl)
set_option maxRecDepth 100000 in
theorem zw_146 : Cond.fieldLink RX2 15 "KeyboardKit$KeyUnit" "downBefore" "[Z" ∈ zw := zm 146 (by rfl) (by rfl)
set_option maxRecDepth 100000 in
theorem zw_147 : Cond.fieldLink RX2 18 "KeyboardKit$KeyUnit" "counted" "[Z" ∈ zw := zm 147 (by rfl) (by rfl)
set_option maxRecDepth 100000 in
theorem zw_148 : Cond.fieldLink RX2 21 "KeyboardKit$KeyUnit" "queue" "[I" ∈ zw := zm 148 (by rfl) (by rfl)
set_option maxRecDepth 100000 in
theorem zw_149 : Cond.fieldLink RX2 39 "KeyboardKit$KeyUnit" "queueStart" "I" ∈ zw := zm 149 (by rfl) (by rfl)
set_option maxRecDepth 100000 in
theorem zw_150 : Cond.fieldLink RX2 32 "KeyboardKit$KeyUnit" "queued" "I" ∈ zw := zm 150 (by rfl) (by rfl)
set_option maxRecDepth 100000 in
theorem zw_152 : Cond.fieldLink RX2 35 "KeyboardKit$KeyUnit" "underrun" "Z" ∈ zw := zm 152 (by rfl) (by rfl)
set_option maxRecDepth 100000 in
theorem zw_153 : Cond.fieldLink RX2 48 "KeyboardKit$KeyUnit" "overrun" "Z" ∈ zw := zm 153 (by rfl) (by rfl)
set_option maxRecDepth 100000 in
theorem zw_154 : Cond.fieldLink RX2 25 "KeyboardKit$KeyUnit" "display" "[I" ∈ zw := zm 154 (by rfl) (by rfl)
set_option maxRecDepth 100000 in
theorem zw_156 : Cond.fieldLink RX2 42 "KeyboardKit$KeyUnit" "place" "I" ∈ zw := zm 156 (by rfl) (by rfl)
set_option maxRecDepth 100000 in
theorem zw_157 : Cond.fieldLink RX2 28 "KeyboardKit$KeyUnit" "ticksToScan" "I" ∈ zw := zm 157 (by rfl) (by rfl)
set_option maxRecDepth 100000 in
theorem zw_181 : Cond.arrayClass .boolean ∈ zw := zm 181 (by rfl) (by rfl)
set_option maxRecDepth 100000 in
theorem zw_182 : Cond.classLink RX6 27 RX1 ∈ zw := zm 182 (by rfl) (by rfl)
set_option maxRecDepth 100000 in
theorem zw_183 : Cond.instantiable RX1 7 ∈ zw := zm 183 (by rfl) (by rfl)
set_option maxRecDepth 100000 in
theorem zw_185 : Cond.instanceMethod yX1_init ∈ zw := zm 185 (by rfl) (by rfl)
set_option maxRecDepth 100000 in
theorem zw_186 : Cond.code yX1_init cX1_init 1 none ∈ zw := zm 186 (by rfl) (by rfl)
set_option maxRecDepth 100000 in
theorem zw_187 : Cond.methodLink RX1 1 objectInit ∈ zw := zm 187 (by rfl) (by rfl)
set_option maxRecDepth 100000 in
theorem zw_188 : Cond.fieldLink RX1 13 "KeyboardKit$Interrupts" "on" "Z" ∈ zw := zm 188 (by rfl) (by rfl)
set_option maxRecDepth 100000 in
theorem zw_191 : Cond.fieldLink RX1 17 "KeyboardKit$Interrupts" "heldBack" "Z" ∈ zw := zm 191 (by rfl) (by rfl)
set_option maxRecDepth 100000 in
theorem zw_193 : Cond.fieldLink RX1 9 "KeyboardKit$Interrupts" "masks" "I" ∈ zw := zm 193 (by rfl) (by rfl)
set_option maxRecDepth 100000 in
theorem zw_196 : Cond.fieldLink RX1 23 "KeyboardKit$Interrupts" "timerEnded" "Z" ∈ zw := zm 196 (by rfl) (by rfl)
set_option maxRecDepth 100000 in
theorem zw_197 : Cond.fieldLink RX1 20 "KeyboardKit$Interrupts" "line65" "Z" ∈ zw := zm 197 (by rfl) (by rfl)
set_option maxRecDepth 100000 in
theorem zw_199 : Cond.fieldLink RX1 33 "KeyboardKit$Interrupts" "serialIn" "Z" ∈ zw := zm 199 (by rfl) (by rfl)
set_option maxRecDepth 100000 in
theorem zw_201 : Cond.fieldLink RX1 30 "KeyboardKit$Interrupts" "serialOut" "Z" ∈ zw := zm 201 (by rfl) (by rfl)
set_option maxRecDepth 100000 in
theorem zw_218 : Cond.classLink RX6 34 RX4 ∈ zw := zm 218 (by rfl) (by rfl)
set_option maxRecDepth 100000 in
theorem zw_219 : Cond.instantiable RX4 11 ∈ zw := zm 219 (by rfl) (by rfl)
set_option maxRecDepth 100000 in
theorem zw_220 : Cond.methodLink RX6 36 yX4_init ∈ zw := zm 220 (by rfl) (by rfl)
set_option maxRecDepth 100000 in
theorem zw_221 : Cond.instanceMethod yX4_init ∈ zw := zm 221 (by rfl) (by rfl)
set_option maxRecDepth 100000 in
theorem zw_222 : Cond.code yX4_init cX4_init 5 none ∈ zw := zm 222 (by rfl) (by rfl)
set_option maxRecDepth 100000 in
theorem zw_223 : Cond.methodLink RX4 3 objectInit ∈ zw := zm 223 (by rfl) (by rfl)
set_option maxRecDepth 100000 in
theorem zw_224 : Cond.classLink RX4 15 RX0 ∈ zw := zm 224 (by rfl) (by rfl)
set_option maxRecDepth 100000 in
theorem zw_225 : Cond.instantiable RX0 1 ∈ zw := zm 225 (by rfl) (by rfl)
set_option maxRecDepth 100000 in
theorem zw_227 : Cond.instanceMethod yX0_init ∈ zw := zm 227 (by rfl) (by rfl)
set_option maxRecDepth 100000 in
theorem zw_228 : Cond.code yX0_init cX0_init 1 none ∈ zw := zm 228 (by rfl) (by rfl)
set_option maxRecDepth 100000 in
theorem zw_229 : Cond.methodLink RX0 3 objectInit ∈ zw := zm 229 (by rfl) (by rfl)
set_option maxRecDepth 100000 in
theorem zw_230 : Cond.fieldLink RX0 9 "KeyboardKit$Flags" "all" "I" ∈ zw := zm 230 (by rfl) (by rfl)
set_option maxRecDepth 100000 in
theorem zw_236 : Cond.classLink RX4 37 RX3 ∈ zw := zm 236 (by rfl) (by rfl)
set_option maxRecDepth 100000 in
theorem zw_237 : Cond.instantiable RX3 2 ∈ zw := zm 237 (by rfl) (by rfl)
set_option maxRecDepth 100000 in
theorem zw_238 : Cond.methodLink RX4 39 yX3_init ∈ zw := zm 238 (by rfl) (by rfl)
set_option maxRecDepth 100000 in
theorem zw_239 : Cond.instanceMethod yX3_init ∈ zw := zm 239 (by rfl) (by rfl)
set_option maxRecDepth 100000 in
theorem zw_240 : Cond.code yX3_init cX3_init 3 none ∈ zw := zm 240 (by rfl) (by rfl)
set_option maxRecDepth 100000 in
theorem zw_241 : Cond.methodLink RX3 1 objectInit ∈ zw := zm 241 (by rfl) (by rfl)
set_option maxRecDepth 100000 in
theorem zw_242 : Cond.fieldLink RX3 7 "KeyboardKit$Ports" "timer" "LKeyboardKit$Timer;" ∈ zw := zm 242 (by rfl) (by rfl)
set_option maxRecDepth 100000 in
theorem zw_243 : Cond.fieldLink RX3 13 "KeyboardKit$Ports" "unit" "LKeyboardKit$KeyUnit;" ∈ zw := zm 243 (by rfl) (by rfl)
set_option maxRecDepth 100000 in
theorem zw_249 : Cond.fieldLink RX4 22 "KeyboardKit$Processor" "memory" "[I" ∈ zw := zm 249 (by rfl) (by rfl)
set_option maxRecDepth 100000 in
theorem zw_250 : Cond.fieldLink RX4 25 "KeyboardKit$Processor" "timer" "LKeyboardKit$Timer;" ∈ zw := zm 250 (by rfl) (by rfl)
set_option maxRecDepth 100000 in
theorem zw_251 : Cond.fieldLink RX4 29 "KeyboardKit$Processor" "unit" "LKeyboardKit$KeyUnit;" ∈ zw := zm 251 (by rfl) (by rfl)
set_option maxRecDepth 100000 in
theorem zw_252 : Cond.fieldLink RX4 33 "KeyboardKit$Processor" "interrupts" "LKeyboardKit$Interrupts;" ∈ zw := zm 252 (by rfl) (by rfl)
set_option maxRecDepth 100000 in
theorem zw_253 : Cond.fieldLink RX4 42 "KeyboardKit$Processor" "ports" "LKeyboardKit$Ports;" ∈ zw := zm 253 (by rfl) (by rfl)
set_option maxRecDepth 100000 in
theorem zw_254 : Cond.fieldLink RX4 9 "KeyboardKit$Processor" "registers" "[I" ∈ zw := zm 254 (by rfl) (by rfl)
set_option maxRecDepth 100000 in
theorem zw_256 : Cond.fieldLink RX4 18 "KeyboardKit$Processor" "flags" "LKeyboardKit$Flags;" ∈ zw := zm 256 (by rfl) (by rfl)
set_option maxRecDepth 100000 in
theorem zw_259 : Cond.fieldLink RX4 221 "KeyboardKit$Processor" "sp" "I" ∈ zw := zm 259 (by rfl) (by rfl)
set_option maxRecDepth 100000 in
theorem zw_260 : Cond.fieldLink RX4 72 "KeyboardKit$Processor" "pc" "I" ∈ zw := zm 260 (by rfl) (by rfl)
set_option maxRecDepth 100000 in
theorem zw_262 : Cond.fieldLink RX4 61 "KeyboardKit$Processor" "halts" "Z" ∈ zw := zm 262 (by rfl) (by rfl)
set_option maxRecDepth 100000 in
theorem zw_264 : Cond.fieldLink RX4 46 "KeyboardKit$Processor" "ticks" "I" ∈ zw := zm 264 (by rfl) (by rfl)
set_option maxRecDepth 100000 in
theorem zw_288 : Cond.fieldLink RX6 9 "KeyboardKit" "memory" "[I" ∈ zw := zm 288 (by rfl) (by rfl)
set_option maxRecDepth 100000 in
theorem zw_289 : Cond.fieldLink RX6 16 "KeyboardKit" "timer" "LKeyboardKit$Timer;" ∈ zw := zm 289 (by rfl) (by rfl)
set_option maxRecDepth 100000 in
theorem zw_290 : Cond.fieldLink RX6 23 "KeyboardKit" "unit" "LKeyboardKit$KeyUnit;" ∈ zw := zm 290 (by rfl) (by rfl)
set_option maxRecDepth 100000 in
theorem zw_291 : Cond.fieldLink RX6 30 "KeyboardKit" "interrupts" "LKeyboardKit$Interrupts;" ∈ zw := zm 291 (by rfl) (by rfl)
set_option maxRecDepth 100000 in
theorem zw_292 : Cond.fieldLink RX6 39 "KeyboardKit" "processor" "LKeyboardKit$Processor;" ∈ zw := zm 292 (by rfl) (by rfl)
set_option maxRecDepth 100000 in
theorem zw_304 : Cond.methodLink RL 38 yX6_poke ∈ zw := zm 304 (by rfl) (by rfl)
set_option maxRecDepth 100000 in
theorem zw_305 : Cond.instanceMethod yX6_poke ∈ zw := zm 305 (by rfl) (by rfl)
set_option maxRecDepth 100000 in
theorem zw_306 : Cond.selects RX6 yX6_poke yX6_poke ∈ zw := zm 306 (by rfl) (by rfl)
set_option maxRecDepth 100000 in
theorem zw_307 : Cond.code yX6_poke cX6_poke 4 (some .int) ∈ zw := zm 307 (by rfl) (by rfl)
set_option maxRecDepth 100000 in
theorem zw_308 : Cond.methodLink RL 43 yX6_peek ∈ zw := zm 308 (by rfl) (by rfl)
set_option maxRecDepth 100000 in
theorem zw_309 : Cond.instanceMethod yX6_peek ∈ zw := zm 309 (by rfl) (by rfl)
set_option maxRecDepth 100000 in
theorem zw_310 : Cond.selects RX6 yX6_peek yX6_peek ∈ zw := zm 310 (by rfl) (by rfl)
set_option maxRecDepth 100000 in
theorem zw_311 : Cond.code yX6_peek cX6_peek 2 (some .int) ∈ zw := zm 311 (by rfl) (by rfl)
set_option maxRecDepth 100000 in
theorem zw_312 : Cond.methodLink RL 47 yX6_step ∈ zw := zm 312 (by rfl) (by rfl)
set_option maxRecDepth 100000 in
theorem zw_313 : Cond.instanceMethod yX6_step ∈ zw := zm 313 (by rfl) (by rfl)
set_option maxRecDepth 100000 in
theorem zw_314 : Cond.selects RX6 yX6_step yX6_step ∈ zw := zm 314 (by rfl) (by rfl)
set_option maxRecDepth 100000 in
theorem zw_315 : Cond.code yX6_step cX6_step 1 (some .int) ∈ zw := zm 315 (by rfl) (by rfl)
set_option maxRecDepth 100000 in
theorem zw_316 : Cond.methodLink RX6 43 yX4_advance ∈ zw := zm 316 (by rfl) (by rfl)
set_option maxRecDepth 100000 in
theorem zw_317 : Cond.instanceMethod yX4_advance ∈ zw := zm 317 (by rfl) (by rfl)
set_option maxRecDepth 100000 in
theorem zw_318 : Cond.selects RX4 yX4_advance yX4_advance ∈ zw := zm 318 (by rfl) (by rfl)
set_option maxRecDepth 100000 in
theorem zw_319 : Cond.code yX4_advance cX4_advance 3 (some .int) ∈ zw := zm 319 (by rfl) (by rfl)
set_option maxRecDepth 100000 in
theorem zw_320 : Cond.methodLink RX4 55 yX1_serve ∈ zw := zm 320 (by rfl) (by rfl)
set_option maxRecDepth 100000 in
theorem zw_321 : Cond.instanceMethod yX1_serve ∈ zw := zm 321 (by rfl) (by rfl)
set_option maxRecDepth 100000 in
theorem zw_322 : Cond.selects RX1 yX1_serve yX1_serve ∈ zw := zm 322 (by rfl) (by rfl)
set_option maxRecDepth 100000 in
theorem zw_323 : Cond.code yX1_serve cX1_serve 3 (some .int) ∈ zw := zm 323 (by rfl) (by rfl)
set_option maxRecDepth 100000 in
theorem zw_324 : Cond.methodLink RX1 26 yX1_wanted ∈ zw := zm 324 (by rfl) (by rfl)
set_option maxRecDepth 100000 in
theorem zw_326 : Cond.instanceMethod yX1_wanted ∈ zw := zm 326 (by rfl) (by rfl)
set_option maxRecDepth 100000 in
theorem zw_327 : Cond.code yX1_wanted cX1_wanted 2 (some .int) ∈ zw := zm 327 (by rfl) (by rfl)
set_option maxRecDepth 100000 in
theorem zw_328 : Cond.methodLink RX4 65 yX4_call ∈ zw := zm 328 (by rfl) (by rfl)
set_option maxRecDepth 100000 in
theorem zw_330 : Cond.instanceMethod yX4_call ∈ zw := zm 330 (by rfl) (by rfl)
set_option maxRecDepth 100000 in
theorem zw_331 : Cond.code yX4_call cX4_call 2 none ∈ zw := zm 331 (by rfl) (by rfl)
set_option maxRecDepth 100000 in
theorem zw_332 : Cond.methodLink RX4 241 yX4_push ∈ zw := zm 332 (by rfl) (by rfl)
set_option maxRecDepth 100000 in
theorem zw_334 : Cond.instanceMethod yX4_push ∈ zw := zm 334 (by rfl) (by rfl)
set_option maxRecDepth 100000 in
theorem zw_335 : Cond.code yX4_push cX4_push 2 none ∈ zw := zm 335 (by rfl) (by rfl)
set_option maxRecDepth 100000 in
theorem zw_336 : Cond.constant RX4 75 (65535) ∈ zw := zm 336 (by rfl) (by rfl)
set_option maxRecDepth 100000 in
theorem zw_337 : Cond.methodLink RX4 186 yX4_writeWord ∈ zw := zm 337 (by rfl) (by rfl)
set_option maxRecDepth 100000 in
theorem zw_339 : Cond.instanceMethod yX4_writeWord ∈ zw := zm 339 (by rfl) (by rfl)
set_option maxRecDepth 100000 in
theorem zw_340 : Cond.code yX4_writeWord cX4_writeWord 3 none ∈ zw := zm 340 (by rfl) (by rfl)
set_option maxRecDepth 100000 in
theorem zw_341 : Cond.methodLink RX4 76 yX4_execute ∈ zw := zm 341 (by rfl) (by rfl)
set_option maxRecDepth 100000 in
theorem zw_343 : Cond.instanceMethod yX4_execute ∈ zw := zm 343 (by rfl) (by rfl)
set_option maxRecDepth 100000 in
theorem zw_344 : Cond.code yX4_execute cX4_execute 4 none ∈ zw := zm 344 (by rfl) (by rfl)
set_option maxRecDepth 100000 in
theorem zw_345 : Cond.methodLink RX4 93 yX4_executeGroup0 ∈ zw := zm 345 (by rfl) (by rfl)
set_option maxRecDepth 100000 in
theorem zw_347 : Cond.instanceMethod yX4_executeGroup0 ∈ zw := zm 347 (by rfl) (by rfl)
set_option maxRecDepth 100000 in
theorem zw_348 : Cond.code yX4_executeGroup0 cX4_executeGroup0 3 none ∈ zw := zm 348 (by rfl) (by rfl)
set_option maxRecDepth 100000 in
theorem zw_349 : Cond.methodLink RX4 110 yX4_useMask ∈ zw := zm 349 (by rfl) (by rfl)
set_option maxRecDepth 100000 in
theorem zw_351 : Cond.instanceMethod yX4_useMask ∈ zw := zm 351 (by rfl) (by rfl)
set_option maxRecDepth 100000 in
theorem zw_352 : Cond.code yX4_useMask cX4_useMask 2 none ∈ zw := zm 352 (by rfl) (by rfl)
set_option maxRecDepth 100000 in
theorem zw_353 : Cond.methodLink RX4 161 yX1_readMask ∈ zw := zm 353 (by rfl) (by rfl)
set_option maxRecDepth 100000 in
theorem zw_354 : Cond.instanceMethod yX1_readMask ∈ zw := zm 354 (by rfl) (by rfl)
set_option maxRecDepth 100000 in
theorem zw_355 : Cond.selects RX1 yX1_readMask yX1_readMask ∈ zw := zm 355 (by rfl) (by rfl)
set_option maxRecDepth 100000 in
theorem zw_356 : Cond.code yX1_readMask cX1_readMask 2 (some .int) ∈ zw := zm 356 (by rfl) (by rfl)
set_option maxRecDepth 100000 in
theorem zw_357 : Cond.methodLink RX4 164 yX1_setMask ∈ zw := zm 357 (by rfl) (by rfl)
set_option maxRecDepth 100000 in
theorem zw_358 : Cond.instanceMethod yX1_setMask ∈ zw := zm 358 (by rfl) (by rfl)
set_option maxRecDepth 100000 in
theorem zw_359 : Cond.selects RX1 yX1_setMask yX1_setMask ∈ zw := zm 359 (by rfl) (by rfl)
set_option maxRecDepth 100000 in
theorem zw_360 : Cond.code yX1_setMask cX1_setMask 2 none ∈ zw := zm 360 (by rfl) (by rfl)
set_option maxRecDepth 100000 in
theorem zw_361 : Cond.methodLink RX4 113 yX4_loadOrAddPair ∈ zw := zm 361 (by rfl) (by rfl)
set_option maxRecDepth 100000 in
theorem zw_363 : Cond.instanceMethod yX4_loadOrAddPair ∈ zw := zm 363 (by rfl) (by rfl)
set_option maxRecDepth 100000 in
theorem zw_364 : Cond.code yX4_loadOrAddPair cX4_loadOrAddPair 3 none ∈ zw := zm 364 (by rfl) (by rfl)
set_option maxRecDepth 100000 in
theorem zw_365 : Cond.methodLink RX4 167 yX4_fetchWord ∈ zw := zm 365 (by rfl) (by rfl)
set_option maxRecDepth 100000 in
theorem zw_367 : Cond.instanceMethod yX4_fetchWord ∈ zw := zm 367 (by rfl) (by rfl)
set_option maxRecDepth 100000 in
theorem zw_368 : Cond.code yX4_fetchWord cX4_fetchWord 2 (some .int) ∈ zw := zm 368 (by rfl) (by rfl)
set_option maxRecDepth 100000 in
theorem zw_369 : Cond.methodLink RX4 128 yX4_fetch ∈ zw := zm 369 (by rfl) (by rfl)
set_option maxRecDepth 100000 in
theorem zw_371 : Cond.instanceMethod yX4_fetch ∈ zw := zm 371 (by rfl) (by rfl)
set_option maxRecDepth 100000 in
theorem zw_372 : Cond.code yX4_fetch cX4_fetch 2 (some .int) ∈ zw := zm 372 (by rfl) (by rfl)
set_option maxRecDepth 100000 in
theorem zw_373 : Cond.methodLink RX4 170 yX4_putPair ∈ zw := zm 373 (by rfl) (by rfl)
set_option maxRecDepth 100000 in
theorem zw_375 : Cond.instanceMethod yX4_putPair ∈ zw := zm 375 (by rfl) (by rfl)
set_option maxRecDepth 100000 in
theorem zw_376 : Cond.code yX4_putPair cX4_putPair 4 none ∈ zw := zm 376 (by rfl) (by rfl)
set_option maxRecDepth 100000 in
theorem zw_377 : Cond.methodLink RX4 173 yX4_pair ∈ zw := zm 377 (by rfl) (by rfl)
set_option maxRecDepth 100000 in
theorem zw_379 : Cond.instanceMethod yX4_pair ∈ zw := zm 379 (by rfl) (by rfl)
set_option maxRecDepth 100000 in
theorem zw_380 : Cond.code yX4_pair cX4_pair 2 (some .int) ∈ zw := zm 380 (by rfl) (by rfl)
set_option maxRecDepth 100000 in
theorem zw_381 : Cond.methodLink RX4 176 yX0_put ∈ zw := zm 381 (by rfl) (by rfl)
set_option maxRecDepth 100000 in
theorem zw_382 : Cond.instanceMethod yX0_put ∈ zw := zm 382 (by rfl) (by rfl)
set_option maxRecDepth 100000 in
theorem zw_383 : Cond.selects RX0 yX0_put yX0_put ∈ zw := zm 383 (by rfl) (by rfl)
set_option maxRecDepth 100000 in
theorem zw_384 : Cond.code yX0_put cX0_put 3 none ∈ zw := zm 384 (by rfl) (by rfl)
set_option maxRecDepth 100000 in
theorem zw_385 : Cond.methodLink RX4 116 yX4_moveByAddress ∈ zw := zm 385 (by rfl) (by rfl)
set_option maxRecDepth 100000 in
theorem zw_387 : Cond.instanceMethod yX4_moveByAddress ∈ zw := zm 387 (by rfl) (by rfl)
set_option maxRecDepth 100000 in
theorem zw_388 : Cond.code yX4_moveByAddress cX4_moveByAddress 2 none ∈ zw := zm 388 (by rfl) (by rfl)
set_option maxRecDepth 100000 in
theorem zw_389 : Cond.methodLink RX4 180 yX4_write ∈ zw := zm 389 (by rfl) (by rfl)
set_option maxRecDepth 100000 in
theorem zw_391 : Cond.instanceMethod yX4_write ∈ zw := zm 391 (by rfl) (by rfl)
set_option maxRecDepth 100000 in
theorem zw_392 : Cond.code yX4_write cX4_write 3 none ∈ zw := zm 392 (by rfl) (by rfl)
set_option maxRecDepth 100000 in
theorem zw_393 : Cond.methodLink RX4 183 yX4_read ∈ zw := zm 393 (by rfl) (by rfl)
set_option maxRecDepth 100000 in
theorem zw_395 : Cond.instanceMethod yX4_read ∈ zw := zm 395 (by rfl) (by rfl)
set_option maxRecDepth 100000 in
theorem zw_396 : Cond.code yX4_read cX4_read 2 (some .int) ∈ zw := zm 396 (by rfl) (by rfl)
set_option maxRecDepth 100000 in
theorem zw_397 : Cond.methodLink RX4 189 yX4_readWord ∈ zw := zm 397 (by rfl) (by rfl)
set_option maxRecDepth 100000 in
theorem zw_399 : Cond.instanceMethod yX4_readWord ∈ zw := zm 399 (by rfl) (by rfl)
set_option maxRecDepth 100000 in
theorem zw_400 : Cond.code yX4_readWord cX4_readWord 2 (some .int) ∈ zw := zm 400 (by rfl) (by rfl)
set_option maxRecDepth 100000 in
theorem zw_401 : Cond.methodLink RX4 119 yX4_countPair ∈ zw := zm 401 (by rfl) (by rfl)
set_option maxRecDepth 100000 in
theorem zw_403 : Cond.instanceMethod yX4_countPair ∈ zw := zm 403 (by rfl) (by rfl)
set_option maxRecDepth 100000 in
theorem zw_404 : Cond.code yX4_countPair cX4_countPair 3 none ∈ zw := zm 404 (by rfl) (by rfl)
set_option maxRecDepth 100000 in
theorem zw_405 : Cond.methodLink RX4 122 yX4_countUp ∈ zw := zm 405 (by rfl) (by rfl)
set_option maxRecDepth 100000 in
theorem zw_407 : Cond.instanceMethod yX4_countUp ∈ zw := zm 407 (by rfl) (by rfl)
set_option maxRecDepth 100000 in
theorem zw_408 : Cond.code yX4_countUp cX4_countUp 3 none ∈ zw := zm 408 (by rfl) (by rfl)
set_option maxRecDepth 100000 in
theorem zw_409 : Cond.methodLink RX4 192 yX0_has ∈ zw := zm 409 (by rfl) (by rfl)
set_option maxRecDepth 100000 in
theorem zw_410 : Cond.instanceMethod yX0_has ∈ zw := zm 410 (by rfl) (by rfl)
set_option maxRecDepth 100000 in
theorem zw_411 : Cond.selects RX0 yX0_has yX0_has ∈ zw := zm 411 (by rfl) (by rfl)
set_option maxRecDepth 100000 in
theorem zw_412 : Cond.code yX0_has cX0_has 2 (some .boolean) ∈ zw := zm 412 (by rfl) (by rfl)
set_option maxRecDepth 100000 in
theorem zw_413 : Cond.methodLink RX4 100 yX4_register ∈ zw := zm 413 (by rfl) (by rfl)
set_option maxRecDepth 100000 in
theorem zw_415 : Cond.instanceMethod yX4_register ∈ zw := zm 415 (by rfl) (by rfl)
set_option maxRecDepth 100000 in
theorem zw_416 : Cond.code yX4_register cX4_register 2 (some .int) ∈ zw := zm 416 (by rfl) (by rfl)
set_option maxRecDepth 100000 in
theorem zw_417 : Cond.methodLink RX4 195 yX0_sum ∈ zw := zm 417 (by rfl) (by rfl)
set_option maxRecDepth 100000 in
theorem zw_418 : Cond.instanceMethod yX0_sum ∈ zw := zm 418 (by rfl) (by rfl)
set_option maxRecDepth 100000 in
theorem zw_419 : Cond.selects RX0 yX0_sum yX0_sum ∈ zw := zm 419 (by rfl) (by rfl)
set_option maxRecDepth 100000 in
theorem zw_420 : Cond.code yX0_sum cX0_sum 8 (some .int) ∈ zw := zm 420 (by rfl) (by rfl)
set_option maxRecDepth 100000 in
theorem zw_421 : Cond.methodLink RX0 19 yJ6_bitCount_0f7a4 ∈ zw := zm 421 (by rfl) (by rfl)
set_option maxRecDepth 100000 in
theorem zw_422 : Cond.static yJ6_bitCount_0f7a4 ∈ zw := zm 422 (by rfl) (by rfl)
set_option maxRecDepth 100000 in
theorem zw_423 : Cond.code yJ6_bitCount_0f7a4 cJ6_bitCount_0f7a4 1 (some .int) ∈ zw := zm 423 (by rfl) (by rfl)
set_option maxRecDepth 100000 in
theorem zw_424 : Cond.constant RJ6 265 (1431655765) ∈ zw := zm 424 (by rfl) (by rfl)
set_option maxRecDepth 100000 in
theorem zw_425 : Cond.constant RJ6 266 (858993459) ∈ zw := zm 425 (by rfl) (by rfl)
set_option maxRecDepth 100000 in
theorem zw_426 : Cond.constant RJ6 267 (252645135) ∈ zw := zm 426 (by rfl) (by rfl)
set_option maxRecDepth 100000 in
theorem zw_427 : Cond.methodLink RX4 132 yX4_putRegister ∈ zw := zm 427 (by rfl) (by rfl)
set_option maxRecDepth 100000 in
theorem zw_429 : Cond.instanceMethod yX4_putRegister ∈ zw := zm 429 (by rfl) (by rfl)
set_option maxRecDepth 100000 in
theorem zw_430 : Cond.code yX4_putRegister cX4_putRegister 3 none ∈ zw := zm 430 (by rfl) (by rfl)
set_option maxRecDepth 100000 in
theorem zw_431 : Cond.methodLink RX4 125 yX4_countDown ∈ zw := zm 431 (by rfl) (by rfl)
set_option maxRecDepth 100000 in
theorem zw_433 : Cond.instanceMethod yX4_countDown ∈ zw := zm 433 (by rfl) (by rfl)
set_option maxRecDepth 100000 in
theorem zw_434 : Cond.code yX4_countDown cX4_countDown 3 none ∈ zw := zm 434 (by rfl) (by rfl)
set_option maxRecDepth 100000 in
theorem zw_435 : Cond.methodLink RX4 199 yX0_difference ∈ zw := zm 435 (by rfl) (by rfl)
set_option maxRecDepth 100000 in
theorem zw_436 : Cond.instanceMethod yX0_difference ∈ zw := zm 436 (by rfl) (by rfl)
set_option maxRecDepth 100000 in
theorem zw_437 : Cond.selects RX0 yX0_difference yX0_difference ∈ zw := zm 437 (by rfl) (by rfl)
set_option maxRecDepth 100000 in
theorem zw_438 : Cond.code yX0_difference cX0_difference 5 (some .int) ∈ zw := zm 438 (by rfl) (by rfl)
set_option maxRecDepth 100000 in
theorem zw_439 : Cond.methodLink RX0 25 yX0_sum ∈ zw := zm 439 (by rfl) (by rfl)
set_option maxRecDepth 100000 in
theorem zw_440 : Cond.methodLink RX4 135 yX4_changeAccumulator ∈ zw := zm 440 (by rfl) (by rfl)
set_option maxRecDepth 100000 in
theorem zw_442 : Cond.instanceMethod yX4_changeAccumulator ∈ zw := zm 442 (by rfl) (by rfl)
set_option maxRecDepth 100000 in
theorem zw_443 : Cond.code yX4_changeAccumulator cX4_changeAccumulator 3 none ∈ zw := zm 443 (by rfl) (by rfl)
set_option maxRecDepth 100000 in
theorem zw_444 : Cond.methodLink RX4 202 yX4_turnLeft ∈ zw := zm 444 (by rfl) (by rfl)
set_option maxRecDepth 100000 in
theorem zw_446 : Cond.instanceMethod yX4_turnLeft ∈ zw := zm 446 (by rfl) (by rfl)
set_option maxRecDepth 100000 in
theorem zw_447 : Cond.code yX4_turnLeft cX4_turnLeft 3 none ∈ zw := zm 447 (by rfl) (by rfl)
set_option maxRecDepth 100000 in
theorem zw_448 : Cond.methodLink RX4 205 yX4_turnRight ∈ zw := zm 448 (by rfl) (by rfl)
set_option maxRecDepth 100000 in
theorem zw_450 : Cond.instanceMethod yX4_turnRight ∈ zw := zm 450 (by rfl) (by rfl)
set_option maxRecDepth 100000 in
theorem zw_451 : Cond.code yX4_turnRight cX4_turnRight 3 none ∈ zw := zm 451 (by rfl) (by rfl)
set_option maxRecDepth 100000 in
theorem zw_452 : Cond.methodLink RX4 208 yX0_carry ∈ zw := zm 452 (by rfl) (by rfl)
set_option maxRecDepth 100000 in
theorem zw_453 : Cond.instanceMethod yX0_carry ∈ zw := zm 453 (by rfl) (by rfl)
set_option maxRecDepth 100000 in
theorem zw_454 : Cond.selects RX0 yX0_carry yX0_carry ∈ zw := zm 454 (by rfl) (by rfl)
set_option maxRecDepth 100000 in
theorem zw_455 : Cond.code yX0_carry cX0_carry 1 (some .int) ∈ zw := zm 455 (by rfl) (by rfl)
set_option maxRecDepth 100000 in
theorem zw_456 : Cond.methodLink RX4 211 yX0_decimal ∈ zw := zm 456 (by rfl) (by rfl)
set_option maxRecDepth 100000 in
theorem zw_457 : Cond.instanceMethod yX0_decimal ∈ zw := zm 457 (by rfl) (by rfl)
set_option maxRecDepth 100000 in
theorem zw_458 : Cond.selects RX0 yX0_decimal yX0_decimal ∈ zw := zm 458 (by rfl) (by rfl)
set_option maxRecDepth 100000 in
theorem zw_459 : Cond.code yX0_decimal cX0_decimal 5 (some .int) ∈ zw := zm 459 (by rfl) (by rfl)
set_option maxRecDepth 100000 in
theorem zw_460 : Cond.methodLink RX0 15 yX0_has ∈ zw := zm 460 (by rfl) (by rfl)
set_option maxRecDepth 100000 in
theorem zw_461 : Cond.methodLink RX0 29 yX0_put ∈ zw := zm 461 (by rfl) (by rfl)
set_option maxRecDepth 100000 in
theorem zw_462 : Cond.methodLink RX4 97 yX4_move ∈ zw := zm 462 (by rfl) (by rfl)
set_option maxRecDepth 100000 in
theorem zw_464 : Cond.instanceMethod yX4_move ∈ zw := zm 464 (by rfl) (by rfl)
set_option maxRecDepth 100000 in
theorem zw_465 : Cond.code yX4_move cX4_move 3 none ∈ zw := zm 465 (by rfl) (by rfl)
set_option maxRecDepth 100000 in
theorem zw_466 : Cond.methodLink RX4 104 yX4_operate ∈ zw := zm 466 (by rfl) (by rfl)
set_option maxRecDepth 100000 in
theorem zw_468 : Cond.instanceMethod yX4_operate ∈ zw := zm 468 (by rfl) (by rfl)
set_option maxRecDepth 100000 in
theorem zw_469 : Cond.code yX4_operate cX4_operate 4 none ∈ zw := zm 469 (by rfl) (by rfl)
set_option maxRecDepth 100000 in
theorem zw_470 : Cond.methodLink RX4 214 yX0_bitwise ∈ zw := zm 470 (by rfl) (by rfl)
set_option maxRecDepth 100000 in
theorem zw_471 : Cond.instanceMethod yX0_bitwise ∈ zw := zm 471 (by rfl) (by rfl)
set_option maxRecDepth 100000 in
theorem zw_472 : Cond.selects RX0 yX0_bitwise yX0_bitwise ∈ zw := zm 472 (by rfl) (by rfl)
set_option maxRecDepth 100000 in
theorem zw_473 : Cond.code yX0_bitwise cX0_bitwise 3 (some .int) ∈ zw := zm 473 (by rfl) (by rfl)
set_option maxRecDepth 100000 in
theorem zw_474 : Cond.methodLink RX4 107 yX4_executeGroup3 ∈ zw := zm 474 (by rfl) (by rfl)
set_option maxRecDepth 100000 in
theorem zw_476 : Cond.instanceMethod yX4_executeGroup3 ∈ zw := zm 476 (by rfl) (by rfl)
set_option maxRecDepth 100000 in
theorem zw_477 : Cond.code yX4_executeGroup3 cX4_executeGroup3 3 none ∈ zw := zm 477 (by rfl) (by rfl)
set_option maxRecDepth 100000 in
theorem zw_478 : Cond.methodLink RX4 138 yX0_meets ∈ zw := zm 478 (by rfl) (by rfl)
set_option maxRecDepth 100000 in
theorem zw_479 : Cond.instanceMethod yX0_meets ∈ zw := zm 479 (by rfl) (by rfl)
set_option maxRecDepth 100000 in
theorem zw_480 : Cond.selects RX0 yX0_meets yX0_meets ∈ zw := zm 480 (by rfl) (by rfl)
set_option maxRecDepth 100000 in
theorem zw_481 : Cond.code yX0_meets cX0_meets 3 (some .boolean) ∈ zw := zm 481 (by rfl) (by rfl)
set_option maxRecDepth 100000 in
theorem zw_482 : Cond.methodLink RX4 142 yX4_pop ∈ zw := zm 482 (by rfl) (by rfl)
set_option maxRecDepth 100000 in
theorem zw_484 : Cond.instanceMethod yX4_pop ∈ zw := zm 484 (by rfl) (by rfl)
set_option maxRecDepth 100000 in
theorem zw_485 : Cond.code yX4_pop cX4_pop 2 (some .int) ∈ zw := zm 485 (by rfl) (by rfl)
set_option maxRecDepth 100000 in
theorem zw_486 : Cond.methodLink RX4 145 yX4_popOrReturn ∈ zw := zm 486 (by rfl) (by rfl)
set_option maxRecDepth 100000 in
theorem zw_488 : Cond.instanceMethod yX4_popOrReturn ∈ zw := zm 488 (by rfl) (by rfl)
set_option maxRecDepth 100000 in
theorem zw_489 : Cond.code yX4_popOrReturn cX4_popOrReturn 2 none ∈ zw := zm 489 (by rfl) (by rfl)
set_option maxRecDepth 100000 in
theorem zw_490 : Cond.methodLink RX4 218 yX4_popAccumulatorAndFlags ∈ zw := zm 490 (by rfl) (by rfl)
set_option maxRecDepth 100000 in
theorem zw_492 : Cond.instanceMethod yX4_popAccumulatorAndFlags ∈ zw := zm 492 (by rfl) (by rfl)
set_option maxRecDepth 100000 in
theorem zw_493 : Cond.code yX4_popAccumulatorAndFlags cX4_popAccumulatorAndFlags 2 none ∈ zw := zm 493 (by rfl) (by rfl)
set_option maxRecDepth 100000 in
theorem zw_494 : Cond.methodLink RX4 148 yX4_jumpIf ∈ zw := zm 494 (by rfl) (by rfl)
set_option maxRecDepth 100000 in
theorem zw_496 : Cond.instanceMethod yX4_jumpIf ∈ zw := zm 496 (by rfl) (by rfl)
set_option maxRecDepth 100000 in
theorem zw_497 : Cond.code yX4_jumpIf cX4_jumpIf 3 none ∈ zw := zm 497 (by rfl) (by rfl)
set_option maxRecDepth 100000 in
theorem zw_498 : Cond.methodLink RX4 152 yX4_executeSpecial ∈ zw := zm 498 (by rfl) (by rfl)
set_option maxRecDepth 100000 in
theorem zw_500 : Cond.instanceMethod yX4_executeSpecial ∈ zw := zm 500 (by rfl) (by rfl)
set_option maxRecDepth 100000 in
theorem zw_501 : Cond.code yX4_executeSpecial cX4_executeSpecial 2 none ∈ zw := zm 501 (by rfl) (by rfl)
set_option maxRecDepth 100000 in
theorem zw_502 : Cond.methodLink RX4 227 yX3_write ∈ zw := zm 502 (by rfl) (by rfl)
set_option maxRecDepth 100000 in
theorem zw_503 : Cond.instanceMethod yX3_write ∈ zw := zm 503 (by rfl) (by rfl)
set_option maxRecDepth 100000 in
theorem zw_504 : Cond.selects RX3 yX3_write yX3_write ∈ zw := zm 504 (by rfl) (by rfl)
set_option maxRecDepth 100000 in
theorem zw_505 : Cond.code yX3_write cX3_write 3 none ∈ zw := zm 505 (by rfl) (by rfl)
set_option maxRecDepth 100000 in
theorem zw_506 : Cond.methodLink RX3 31 yX5_command ∈ zw := zm 506 (by rfl) (by rfl)
set_option maxRecDepth 100000 in
theorem zw_507 : Cond.instanceMethod yX5_command ∈ zw := zm 507 (by rfl) (by rfl)
set_option maxRecDepth 100000 in
theorem zw_508 : Cond.selects RX5 yX5_command yX5_command ∈ zw := zm 508 (by rfl) (by rfl)
set_option maxRecDepth 100000 in
theorem zw_509 : Cond.code yX5_command cX5_command 2 none ∈ zw := zm 509 (by rfl) (by rfl)
set_option maxRecDepth 100000 in
theorem zw_510 : Cond.methodLink RX5 23 yJ9_max_7cf53 ∈ zw := zm 510 (by rfl) (by rfl)
set_option maxRecDepth 100000 in
theorem zw_511 : Cond.static yJ9_max_7cf53 ∈ zw := zm 511 (by rfl) (by rfl)
set_option maxRecDepth 100000 in
theorem zw_512 : Cond.code yJ9_max_7cf53 cJ9_max_7cf53 2 (some .int) ∈ zw := zm 512 (by rfl) (by rfl)
set_option maxRecDepth 100000 in
theorem zw_513 : Cond.methodLink RX3 42 yX2_show ∈ zw := zm 513 (by rfl) (by rfl)
set_option maxRecDepth 100000 in
theorem zw_514 : Cond.instanceMethod yX2_show ∈ zw := zm 514 (by rfl) (by rfl)
set_option maxRecDepth 100000 in
theorem zw_515 : Cond.selects RX2 yX2_show yX2_show ∈ zw := zm 515 (by rfl) (by rfl)
set_option maxRecDepth 100000 in
theorem zw_516 : Cond.code yX2_show cX2_show 2 none ∈ zw := zm 516 (by rfl) (by rfl)
set_option maxRecDepth 100000 in
theorem zw_517 : Cond.methodLink RX3 45 yX2_command ∈ zw := zm 517 (by rfl) (by rfl)
set_option maxRecDepth 100000 in
theorem zw_518 : Cond.instanceMethod yX2_command ∈ zw := zm 518 (by rfl) (by rfl)
set_option maxRecDepth 100000 in
theorem zw_519 : Cond.selects RX2 yX2_command yX2_command ∈ zw := zm 519 (by rfl) (by rfl)
set_option maxRecDepth 100000 in
theorem zw_520 : Cond.code yX2_command cX2_command 3 none ∈ zw := zm 520 (by rfl) (by rfl)
set_option maxRecDepth 100000 in
theorem zw_521 : Cond.methodLink RX2 45 yX2_clear ∈ zw := zm 521 (by rfl) (by rfl)
set_option maxRecDepth 100000 in
theorem zw_523 : Cond.instanceMethod yX2_clear ∈ zw := zm 523 (by rfl) (by rfl)
set_option maxRecDepth 100000 in
theorem zw_524 : Cond.code yX2_clear cX2_clear 2 none ∈ zw := zm 524 (by rfl) (by rfl)
set_option maxRecDepth 100000 in
theorem zw_525 : Cond.methodLink RX4 228 yX3_read ∈ zw := zm 525 (by rfl) (by rfl)
set_option maxRecDepth 100000 in
theorem zw_526 : Cond.instanceMethod yX3_read ∈ zw := zm 526 (by rfl) (by rfl)
set_option maxRecDepth 100000 in
theorem zw_527 : Cond.selects RX3 yX3_read yX3_read ∈ zw := zm 527 (by rfl) (by rfl)
set_option maxRecDepth 100000 in
theorem zw_528 : Cond.code yX3_read cX3_read 2 (some .int) ∈ zw := zm 528 (by rfl) (by rfl)
set_option maxRecDepth 100000 in
theorem zw_529 : Cond.methodLink RX3 17 yX5_takeEnded ∈ zw := zm 529 (by rfl) (by rfl)
set_option maxRecDepth 100000 in
theorem zw_530 : Cond.instanceMethod yX5_takeEnded ∈ zw := zm 530 (by rfl) (by rfl)
set_option maxRecDepth 100000 in
theorem zw_531 : Cond.selects RX5 yX5_takeEnded yX5_takeEnded ∈ zw := zm 531 (by rfl) (by rfl)
set_option maxRecDepth 100000 in
theorem zw_532 : Cond.code yX5_takeEnded cX5_takeEnded 2 (some .int) ∈ zw := zm 532 (by rfl) (by rfl)
set_option maxRecDepth 100000 in
theorem zw_533 : Cond.methodLink RX3 23 yX2_takeKey ∈ zw := zm 533 (by rfl) (by rfl)
set_option maxRecDepth 100000 in
theorem zw_534 : Cond.instanceMethod yX2_takeKey ∈ zw := zm 534 (by rfl) (by rfl)
set_option maxRecDepth 100000 in
theorem zw_535 : Cond.selects RX2 yX2_takeKey yX2_takeKey ∈ zw := zm 535 (by rfl) (by rfl)
set_option maxRecDepth 100000 in
theorem zw_536 : Cond.code yX2_takeKey cX2_takeKey 2 (some .int) ∈ zw := zm 536 (by rfl) (by rfl)
set_option maxRecDepth 100000 in
theorem zw_537 : Cond.methodLink RX3 28 yX2_status ∈ zw := zm 537 (by rfl) (by rfl)
set_option maxRecDepth 100000 in
theorem zw_538 : Cond.instanceMethod yX2_status ∈ zw := zm 538 (by rfl) (by rfl)
set_option maxRecDepth 100000 in
theorem zw_539 : Cond.selects RX2 yX2_status yX2_status ∈ zw := zm 539 (by rfl) (by rfl)
set_option maxRecDepth 100000 in
theorem zw_540 : Cond.code yX2_status cX2_status 1 (some .int) ∈ zw := zm 540 (by rfl) (by rfl)
set_option maxRecDepth 100000 in
theorem zw_541 : Cond.methodLink RX4 229 yX4_exchangeWithStack ∈ zw := zm 541 (by rfl) (by rfl)
set_option maxRecDepth 100000 in
theorem zw_543 : Cond.instanceMethod yX4_exchangeWithStack ∈ zw := zm 543 (by rfl) (by rfl)
set_option maxRecDepth 100000 in
theorem zw_544 : Cond.code yX4_exchangeWithStack cX4_exchangeWithStack 2 none ∈ zw := zm 544 (by rfl) (by rfl)
set_option maxRecDepth 100000 in
theorem zw_545 : Cond.methodLink RX4 232 yX4_exchangeWithDe ∈ zw := zm 545 (by rfl) (by rfl)
set_option maxRecDepth 100000 in
theorem zw_547 : Cond.instanceMethod yX4_exchangeWithDe ∈ zw := zm 547 (by rfl) (by rfl)
set_option maxRecDepth 100000 in
theorem zw_548 : Cond.code yX4_exchangeWithDe cX4_exchangeWithDe 2 none ∈ zw := zm 548 (by rfl) (by rfl)
set_option maxRecDepth 100000 in
theorem zw_549 : Cond.methodLink RX4 238 yX1_turnOn ∈ zw := zm 549 (by rfl) (by rfl)
set_option maxRecDepth 100000 in
theorem zw_550 : Cond.instanceMethod yX1_turnOn ∈ zw := zm 550 (by rfl) (by rfl)
set_option maxRecDepth 100000 in
theorem zw_551 : Cond.selects RX1 yX1_turnOn yX1_turnOn ∈ zw := zm 551 (by rfl) (by rfl)
set_option maxRecDepth 100000 in
theorem zw_552 : Cond.code yX1_turnOn cX1_turnOn 1 none ∈ zw := zm 552 (by rfl) (by rfl)
set_option maxRecDepth 100000 in
theorem zw_553 : Cond.methodLink RX4 155 yX4_callIf ∈ zw := zm 553 (by rfl) (by rfl)
set_option maxRecDepth 100000 in
theorem zw_555 : Cond.instanceMethod yX4_callIf ∈ zw := zm 555 (by rfl) (by rfl)
set_option maxRecDepth 100000 in
theorem zw_556 : Cond.code yX4_callIf cX4_callIf 3 none ∈ zw := zm 556 (by rfl) (by rfl)
set_option maxRecDepth 100000 in
theorem zw_557 : Cond.methodLink RX4 158 yX4_pushOrGo ∈ zw := zm 557 (by rfl) (by rfl)
set_option maxRecDepth 100000 in
theorem zw_559 : Cond.instanceMethod yX4_pushOrGo ∈ zw := zm 559 (by rfl) (by rfl)
set_option maxRecDepth 100000 in
theorem zw_560 : Cond.code yX4_pushOrGo cX4_pushOrGo 2 none ∈ zw := zm 560 (by rfl) (by rfl)
set_option maxRecDepth 100000 in
theorem zw_561 : Cond.methodLink RX4 79 yX4_passTicks ∈ zw := zm 561 (by rfl) (by rfl)
set_option maxRecDepth 100000 in
theorem zw_563 : Cond.instanceMethod yX4_passTicks ∈ zw := zm 563 (by rfl) (by rfl)
set_option maxRecDepth 100000 in
theorem zw_564 : Cond.code yX4_passTicks cX4_passTicks 3 none ∈ zw := zm 564 (by rfl) (by rfl)
set_option maxRecDepth 100000 in
theorem zw_565 : Cond.methodLink RX4 82 yX5_tick ∈ zw := zm 565 (by rfl) (by rfl)
set_option maxRecDepth 100000 in
theorem zw_566 : Cond.instanceMethod yX5_tick ∈ zw := zm 566 (by rfl) (by rfl)
set_option maxRecDepth 100000 in
theorem zw_567 : Cond.selects RX5 yX5_tick yX5_tick ∈ zw := zm 567 (by rfl) (by rfl)
set_option maxRecDepth 100000 in
theorem zw_568 : Cond.code yX5_tick cX5_tick 1 (some .boolean) ∈ zw := zm 568 (by rfl) (by rfl)
set_option maxRecDepth 100000 in
theorem zw_569 : Cond.methodLink RX4 91 yX2_tick ∈ zw := zm 569 (by rfl) (by rfl)
set_option maxRecDepth 100000 in
theorem zw_570 : Cond.instanceMethod yX2_tick ∈ zw := zm 570 (by rfl) (by rfl)
set_option maxRecDepth 100000 in
theorem zw_571 : Cond.selects RX2 yX2_tick yX2_tick ∈ zw := zm 571 (by rfl) (by rfl)
set_option maxRecDepth 100000 in
theorem zw_572 : Cond.code yX2_tick cX2_tick 2 none ∈ zw := zm 572 (by rfl) (by rfl)
set_option maxRecDepth 100000 in
theorem zw_573 : Cond.methodLink RX2 51 yX2_scan ∈ zw := zm 573 (by rfl) (by rfl)
set_option maxRecDepth 100000 in
theorem zw_575 : Cond.instanceMethod yX2_scan ∈ zw := zm 575 (by rfl) (by rfl)
set_option maxRecDepth 100000 in
theorem zw_576 : Cond.code yX2_scan cX2_scan 2 none ∈ zw := zm 576 (by rfl) (by rfl)
set_option maxRecDepth 100000 in
theorem zw_577 : Cond.methodLink RX2 55 yX2_enqueue ∈ zw := zm 577 (by rfl) (by rfl)
set_option maxRecDepth 100000 in
theorem zw_579 : Cond.instanceMethod yX2_enqueue ∈ zw := zm 579 (by rfl) (by rfl)
set_option maxRecDepth 100000 in
theorem zw_580 : Cond.code yX2_enqueue cX2_enqueue 2 none ∈ zw := zm 580 (by rfl) (by rfl)
set_option maxRecDepth 100000 in
theorem zw_581 : Cond.methodLink RL 52 yL_steps ∈ zw := zm 581 (by rfl) (by rfl)
set_option maxRecDepth 100000 in
theorem zw_582 : Cond.static yL_steps ∈ zw := zm 582 (by rfl) (by rfl)
set_option maxRecDepth 100000 in
theorem zw_583 : Cond.codeWith yL_steps cL_steps 4 (some .int) [(0, 9, 12, 13)] ∈ zw := zm 583 (by rfl) (by rfl)
set_option maxRecDepth 100000 in
theorem zw_584 : Cond.classLink RL 13 "java/lang/IllegalArgumentException" ∈ zw := zm 584 (by rfl) (by rfl)
set_option maxRecDepth 100000 in
theorem zw_585 : Cond.methodLink RL 7 yX6_steps ∈ zw := zm 585 (by rfl) (by rfl)
set_option maxRecDepth 100000 in
theorem zw_586 : Cond.instanceMethod yX6_steps ∈ zw := zm 586 (by rfl) (by rfl)
set_option maxRecDepth 100000 in
theorem zw_587 : Cond.selects RX6 yX6_steps yX6_steps ∈ zw := zm 587 (by rfl) (by rfl)
set_option maxRecDepth 100000 in
theorem zw_588 : Cond.code yX6_steps cX6_steps 4 (some .int) ∈ zw := zm 588 (by rfl) (by rfl)
set_option maxRecDepth 100000 in
theorem zw_589 : Cond.classLink RX6 47 "java/lang/IllegalArgumentException" ∈ zw := zm 589 (by rfl) (by rfl)
set_option maxRecDepth 100000 in
theorem zw_590 : Cond.instantiable "java/lang/IllegalArgumentException" 6 ∈ zw := zm 590 (by rfl) (by rfl)
set_option maxRecDepth 100000 in
theorem zw_591 : Cond.castable "java/lang/IllegalArgumentException" "java/lang/IllegalArgumentException" ∈ zw := zm 591 (by rfl) (by rfl)
set_option maxRecDepth 100000 in
theorem zw_610 : Cond.fieldLink "java/lang/Throwable" 198 "java/lang/Throwable" "backtrace" "Ljava/lang/Object;" ∈ zw := zm 610 (by rfl) (by rfl)
set_option maxRecDepth 100000 in
theorem zw_614 : Cond.methodLink "java/lang/Throwable" 1 objectInit ∈ zw := zm 614 (by rfl) (by rfl)
set_option maxRecDepth 100000 in
theorem zw_615 : Cond.fieldLink "java/lang/Throwable" 13 "java/lang/Throwable" "UNASSIGNED_STACK" "[Ljava/lang/StackTraceElement;" ∈ zw := zm 615 (by rfl) (by rfl)
set_option maxRecDepth 100000 in
theorem zw_617 : Cond.fieldLink "java/lang/Throwable" 20 "java/lang/Throwable" "SUPPRESSED_SENTINEL" "Ljava/util/List;" ∈ zw := zm 617 (by rfl) (by rfl)
set_option maxRecDepth 100000 in
theorem zw_627 : Cond.instantiable "java/lang/Throwable" 6 ∈ zw := zm 627 (by rfl) (by rfl)
set_option maxRecDepth 100000 in
theorem zw_643 : Cond.fieldLink "java/lang/Throwable" 31 "java/lang/Throwable" "detailMessage" "Ljava/lang/String;" ∈ zw := zm 643 (by rfl) (by rfl)
set_option maxRecDepth 100000 in
theorem zw_644 : Cond.fieldLink "java/lang/Throwable" 7 "java/lang/Throwable" "cause" "Ljava/lang/Throwable;" ∈ zw := zm 644 (by rfl) (by rfl)
set_option maxRecDepth 100000 in
theorem zw_645 : Cond.fieldLink "java/lang/Throwable" 17 "java/lang/Throwable" "stackTrace" "[Ljava/lang/StackTraceElement;" ∈ zw := zm 645 (by rfl) (by rfl)
set_option maxRecDepth 100000 in
theorem zw_646 : Cond.fieldLink "java/lang/Throwable" 24 "java/lang/Throwable" "suppressedExceptions" "Ljava/util/List;" ∈ zw := zm 646 (by rfl) (by rfl)
set_option maxRecDepth 100000 in
theorem zw_655 : Cond.arrayClass .byte ∈ zw := zm 655 (by rfl) (by rfl)
set_option maxRecDepth 100000 in
theorem zw_656 : Cond.methodLink RL 61 yL_key ∈ zw := zm 656 (by rfl) (by rfl)
set_option maxRecDepth 100000 in
theorem zw_657 : Cond.static yL_key ∈ zw := zm 657 (by rfl) (by rfl)
set_option maxRecDepth 100000 in
theorem zw_658 : Cond.codeWith yL_key cL_key 5 (some .int) [(0, 17, 20, 19)] ∈ zw := zm 658 (by rfl) (by rfl)
set_option maxRecDepth 100000 in
theorem zw_659 : Cond.classLink RL 19 "java/lang/IndexOutOfBoundsException" ∈ zw := zm 659 (by rfl) (by rfl)
set_option maxRecDepth 100000 in
theorem zw_660 : Cond.methodLink RL 15 yX6_key ∈ zw := zm 660 (by rfl) (by rfl)
set_option maxRecDepth 100000 in
theorem zw_661 : Cond.instanceMethod yX6_key ∈ zw := zm 661 (by rfl) (by rfl)
set_option maxRecDepth 100000 in
theorem zw_662 : Cond.selects RX6 yX6_key yX6_key ∈ zw := zm 662 (by rfl) (by rfl)
set_option maxRecDepth 100000 in
theorem zw_663 : Cond.code yX6_key cX6_key 4 (some .boolean) ∈ zw := zm 663 (by rfl) (by rfl)
set_option maxRecDepth 100000 in
theorem zw_664 : Cond.classLink RX6 54 "java/lang/IndexOutOfBoundsException" ∈ zw := zm 664 (by rfl) (by rfl)
set_option maxRecDepth 100000 in
theorem zw_665 : Cond.instantiable "java/lang/IndexOutOfBoundsException" 6 ∈ zw := zm 665 (by rfl) (by rfl)
set_option maxRecDepth 100000 in
theorem zw_666 : Cond.castable "java/lang/IndexOutOfBoundsException" "java/lang/IndexOutOfBoundsException" ∈ zw := zm 666 (by rfl) (by rfl)
set_option maxRecDepth 100000 in
theorem zw_680 : Cond.methodLink RL 65 yL_line ∈ zw := zm 680 (by rfl) (by rfl)
set_option maxRecDepth 100000 in
theorem zw_681 : Cond.static yL_line ∈ zw := zm 681 (by rfl) (by rfl)
set_option maxRecDepth 100000 in
theorem zw_682 : Cond.codeWith yL_line cL_line 5 (some .int) [(0, 17, 20, 19)] ∈ zw := zm 682 (by rfl) (by rfl)
set_option maxRecDepth 100000 in
theorem zw_683 : Cond.methodLink RL 21 yX6_line ∈ zw := zm 683 (by rfl) (by rfl)
set_option maxRecDepth 100000 in
theorem zw_684 : Cond.instanceMethod yX6_line ∈ zw := zm 684 (by rfl) (by rfl)
set_option maxRecDepth 100000 in
theorem zw_685 : Cond.selects RX6 yX6_line yX6_line ∈ zw := zm 685 (by rfl) (by rfl)
set_option maxRecDepth 100000 in
theorem zw_686 : Cond.code yX6_line cX6_line 4 (some .boolean) ∈ zw := zm 686 (by rfl) (by rfl)
set_option maxRecDepth 100000 in
theorem zw_688 : Cond.methodLink RL 68 yL_about ∈ zw := zm 688 (by rfl) (by rfl)
set_option maxRecDepth 100000 in
theorem zw_689 : Cond.static yL_about ∈ zw := zm 689 (by rfl) (by rfl)
set_option maxRecDepth 100000 in
theorem zw_690 : Cond.codeWith yL_about cL_about 4 (some .int) [(0, 9, 12, 19)] ∈ zw := zm 690 (by rfl) (by rfl)
set_option maxRecDepth 100000 in
theorem zw_691 : Cond.methodLink RL 24 yX6_about ∈ zw := zm 691 (by rfl) (by rfl)
set_option maxRecDepth 100000 in
theorem zw_692 : Cond.instanceMethod yX6_about ∈ zw := zm 692 (by rfl) (by rfl)
set_option maxRecDepth 100000 in
theorem zw_693 : Cond.selects RX6 yX6_about yX6_about ∈ zw := zm 693 (by rfl) (by rfl)
set_option maxRecDepth 100000 in
theorem zw_694 : Cond.code yX6_about cX6_about 2 (some .int) ∈ zw := zm 694 (by rfl) (by rfl)
set_option maxRecDepth 100000 in
theorem zw_695 : Cond.methodLink RX6 106 yX2_status ∈ zw := zm 695 (by rfl) (by rfl)
set_option maxRecDepth 100000 in
theorem zw_697 : Cond.methodLink RL 71 yL_shown ∈ zw := zm 697 (by rfl) (by rfl)
set_option maxRecDepth 100000 in
theorem zw_698 : Cond.static yL_shown ∈ zw := zm 698 (by rfl) (by rfl)
set_option maxRecDepth 100000 in
theorem zw_699 : Cond.codeWith yL_shown cL_shown 4 (some .int) [(0, 9, 12, 19)] ∈ zw := zm 699 (by rfl) (by rfl)
set_option maxRecDepth 100000 in
theorem zw_700 : Cond.methodLink RL 27 yX6_shown ∈ zw := zm 700 (by rfl) (by rfl)
set_option maxRecDepth 100000 in
theorem zw_701 : Cond.instanceMethod yX6_shown ∈ zw := zm 701 (by rfl) (by rfl)
set_option maxRecDepth 100000 in
theorem zw_702 : Cond.selects RX6 yX6_shown yX6_shown ∈ zw := zm 702 (by rfl) (by rfl)
set_option maxRecDepth 100000 in
theorem zw_703 : Cond.code yX6_shown cX6_shown 2 (some .int) ∈ zw := zm 703 (by rfl) (by rfl)
set_option maxRecDepth 100000 in
theorem zw_705 : Cond.methodLink RL 74 yL_set ∈ zw := zm 705 (by rfl) (by rfl)
set_option maxRecDepth 100000 in
theorem zw_706 : Cond.static yL_set ∈ zw := zm 706 (by rfl) (by rfl)
set_option maxRecDepth 100000 in
theorem zw_707 : Cond.codeWith yL_set cL_set 4 (some .int) [(0, 6, 9, 19)] ∈ zw := zm 707 (by rfl) (by rfl)
set_option maxRecDepth 100000 in
theorem zw_708 : Cond.methodLink RL 30 yX6_set ∈ zw := zm 708 (by rfl) (by rfl)
set_option maxRecDepth 100000 in
theorem zw_709 : Cond.instanceMethod yX6_set ∈ zw := zm 709 (by rfl) (by rfl)
set_option maxRecDepth 100000 in
theorem zw_710 : Cond.selects RX6 yX6_set yX6_set ∈ zw := zm 710 (by rfl) (by rfl)
set_option maxRecDepth 100000 in
theorem zw_711 : Cond.code yX6_set cX6_set 3 none ∈ zw := zm 711 (by rfl) (by rfl)
set_option maxRecDepth 100000 in
theorem zw_712 : Cond.constant RX6 116 (65535) ∈ zw := zm 712 (by rfl) (by rfl)
set_option maxRecDepth 100000 in
theorem zw_714 : Cond.classLink RL 35 RX7 ∈ zw := zm 714 (by rfl) (by rfl)
set_option maxRecDepth 100000 in
theorem zw_715 : Cond.instantiable RX7 30 ∈ zw := zm 715 (by rfl) (by rfl)
set_option maxRecDepth 100000 in
theorem zw_716 : Cond.methodLink RL 37 yX7_init ∈ zw := zm 716 (by rfl) (by rfl)
set_option maxRecDepth 100000 in
theorem zw_717 : Cond.instanceMethod yX7_init ∈ zw := zm 717 (by rfl) (by rfl)
set_option maxRecDepth 100000 in
theorem zw_718 : Cond.code yX7_init cX7_init 1 none ∈ zw := zm 718 (by rfl) (by rfl)
set_option maxRecDepth 100000 in
theorem zw_719 : Cond.methodLink RX7 1 objectInit ∈ zw := zm 719 (by rfl) (by rfl)
set_option maxRecDepth 100000 in
theorem zw_720 : Cond.fieldLink RX7 7 "KeyboardKitModel" "memory" "[I" ∈ zw := zm 720 (by rfl) (by rfl)
set_option maxRecDepth 100000 in
theorem zw_721 : Cond.fieldLink RX7 13 "KeyboardKitModel" "register" "[I" ∈ zw := zm 721 (by rfl) (by rfl)
set_option maxRecDepth 100000 in
theorem zw_722 : Cond.fieldLink RX7 64 "KeyboardKitModel" "sp" "I" ∈ zw := zm 722 (by rfl) (by rfl)
set_option maxRecDepth 100000 in
theorem zw_723 : Cond.fieldLink RX7 45 "KeyboardKitModel" "pc" "I" ∈ zw := zm 723 (by rfl) (by rfl)
set_option maxRecDepth 100000 in
theorem zw_724 : Cond.fieldLink RX7 42 "KeyboardKitModel" "ticks" "I" ∈ zw := zm 724 (by rfl) (by rfl)
set_option maxRecDepth 100000 in
theorem zw_725 : Cond.fieldLink RX7 166 "KeyboardKitModel" "on" "Z" ∈ zw := zm 725 (by rfl) (by rfl)
set_option maxRecDepth 100000 in
theorem zw_726 : Cond.fieldLink RX7 199 "KeyboardKitModel" "soon" "Z" ∈ zw := zm 726 (by rfl) (by rfl)
set_option maxRecDepth 100000 in
theorem zw_727 : Cond.fieldLink RX7 220 "KeyboardKitModel" "halts" "Z" ∈ zw := zm 727 (by rfl) (by rfl)
set_option maxRecDepth 100000 in
theorem zw_728 : Cond.fieldLink RX7 16 "KeyboardKitModel" "masks" "I" ∈ zw := zm 728 (by rfl) (by rfl)
set_option maxRecDepth 100000 in
theorem zw_729 : Cond.fieldLink RX7 142 "KeyboardKitModel" "ended" "Z" ∈ zw := zm 729 (by rfl) (by rfl)
set_option maxRecDepth 100000 in
theorem zw_730 : Cond.fieldLink RX7 20 "KeyboardKitModel" "lines" "[Z" ∈ zw := zm 730 (by rfl) (by rfl)
set_option maxRecDepth 100000 in
theorem zw_731 : Cond.fieldLink RX7 154 "KeyboardKitModel" "serial" "I" ∈ zw := zm 731 (by rfl) (by rfl)
set_option maxRecDepth 100000 in
theorem zw_732 : Cond.fieldLink RX7 117 "KeyboardKitModel" "load" "I" ∈ zw := zm 732 (by rfl) (by rfl)
set_option maxRecDepth 100000 in
theorem zw_733 : Cond.fieldLink RX7 129 "KeyboardKitModel" "left" "I" ∈ zw := zm 733 (by rfl) (by rfl)
set_option maxRecDepth 100000 in
theorem zw_734 : Cond.fieldLink RX7 132 "KeyboardKitModel" "length" "I" ∈ zw := zm 734 (by rfl) (by rfl)
set_option maxRecDepth 100000 in
theorem zw_735 : Cond.fieldLink RX7 135 "KeyboardKitModel" "again" "Z" ∈ zw := zm 735 (by rfl) (by rfl)
set_option maxRecDepth 100000 in
theorem zw_736 : Cond.fieldLink RX7 120 "KeyboardKitModel" "runs" "Z" ∈ zw := zm 736 (by rfl) (by rfl)
set_option maxRecDepth 100000 in
theorem zw_737 : Cond.fieldLink RX7 123 "KeyboardKitModel" "stops" "Z" ∈ zw := zm 737 (by rfl) (by rfl)
set_option maxRecDepth 100000 in
theorem zw_738 : Cond.fieldLink RX7 111 "KeyboardKitModel" "told" "Z" ∈ zw := zm 738 (by rfl) (by rfl)
set_option maxRecDepth 100000 in
theorem zw_739 : Cond.fieldLink RX7 148 "KeyboardKitModel" "gone" "I" ∈ zw := zm 739 (by rfl) (by rfl)
set_option maxRecDepth 100000 in
theorem zw_740 : Cond.fieldLink RX7 24 "KeyboardKitModel" "down" "[Z" ∈ zw := zm 740 (by rfl) (by rfl)
set_option maxRecDepth 100000 in
theorem zw_741 : Cond.fieldLink RX7 27 "KeyboardKitModel" "was" "[Z" ∈ zw := zm 741 (by rfl) (by rfl)
set_option maxRecDepth 100000 in
theorem zw_742 : Cond.fieldLink RX7 30 "KeyboardKitModel" "counted" "[Z" ∈ zw := zm 742 (by rfl) (by rfl)
set_option maxRecDepth 100000 in
theorem zw_743 : Cond.fieldLink RX7 101 "KeyboardKitModel" "keys" "I" ∈ zw := zm 743 (by rfl) (by rfl)
set_option maxRecDepth 100000 in
theorem zw_744 : Cond.fieldLink RX7 33 "KeyboardKitModel" "queue" "[I" ∈ zw := zm 744 (by rfl) (by rfl)
set_option maxRecDepth 100000 in
theorem zw_745 : Cond.fieldLink RX7 104 "KeyboardKitModel" "under" "Z" ∈ zw := zm 745 (by rfl) (by rfl)
set_option maxRecDepth 100000 in
theorem zw_746 : Cond.fieldLink RX7 108 "KeyboardKitModel" "over" "Z" ∈ zw := zm 746 (by rfl) (by rfl)
set_option maxRecDepth 100000 in
theorem zw_747 : Cond.fieldLink RX7 139 "KeyboardKitModel" "place" "I" ∈ zw := zm 747 (by rfl) (by rfl)
set_option maxRecDepth 100000 in
theorem zw_748 : Cond.fieldLink RX7 36 "KeyboardKitModel" "display" "[I" ∈ zw := zm 748 (by rfl) (by rfl)
set_option maxRecDepth 100000 in
theorem zw_749 : Cond.fieldLink RX7 39 "KeyboardKitModel" "thrown" "I" ∈ zw := zm 749 (by rfl) (by rfl)
set_option maxRecDepth 100000 in
theorem zw_811 : Cond.methodLink RL 58 yX7_thrown ∈ zw := zm 811 (by rfl) (by rfl)
set_option maxRecDepth 100000 in
theorem zw_812 : Cond.instanceMethod yX7_thrown ∈ zw := zm 812 (by rfl) (by rfl)
set_option maxRecDepth 100000 in
theorem zw_813 : Cond.selects RX7 yX7_thrown yX7_thrown ∈ zw := zm 813 (by rfl) (by rfl)
set_option maxRecDepth 100000 in
theorem zw_814 : Cond.code yX7_thrown cX7_thrown 1 (some .int) ∈ zw := zm 814 (by rfl) (by rfl)
set_option maxRecDepth 100000 in
theorem zw_815 : Cond.methodLink RL 42 yX7_poke ∈ zw := zm 815 (by rfl) (by rfl)
set_option maxRecDepth 100000 in
theorem zw_816 : Cond.instanceMethod yX7_poke ∈ zw := zm 816 (by rfl) (by rfl)
set_option maxRecDepth 100000 in
theorem zw_817 : Cond.selects RX7 yX7_poke yX7_poke ∈ zw := zm 817 (by rfl) (by rfl)
set_option maxRecDepth 100000 in
theorem zw_818 : Cond.code yX7_poke cX7_poke 4 (some .int) ∈ zw := zm 818 (by rfl) (by rfl)
set_option maxRecDepth 100000 in
theorem zw_819 : Cond.methodLink RL 46 yX7_peek ∈ zw := zm 819 (by rfl) (by rfl)
set_option maxRecDepth 100000 in
theorem zw_820 : Cond.instanceMethod yX7_peek ∈ zw := zm 820 (by rfl) (by rfl)
set_option maxRecDepth 100000 in
theorem zw_821 : Cond.selects RX7 yX7_peek yX7_peek ∈ zw := zm 821 (by rfl) (by rfl)
set_option maxRecDepth 100000 in
theorem zw_822 : Cond.code yX7_peek cX7_peek 2 (some .int) ∈ zw := zm 822 (by rfl) (by rfl)
set_option maxRecDepth 100000 in
theorem zw_823 : Cond.methodLink RL 51 yX7_step ∈ zw := zm 823 (by rfl) (by rfl)
set_option maxRecDepth 100000 in
theorem zw_824 : Cond.instanceMethod yX7_step ∈ zw := zm 824 (by rfl) (by rfl)
set_option maxRecDepth 100000 in
theorem zw_825 : Cond.selects RX7 yX7_step yX7_step ∈ zw := zm 825 (by rfl) (by rfl)
set_option maxRecDepth 100000 in
theorem zw_826 : Cond.code yX7_step cX7_step 1 (some .int) ∈ zw := zm 826 (by rfl) (by rfl)
set_option maxRecDepth 100000 in
theorem zw_827 : Cond.methodLink RX7 232 yX7_once ∈ zw := zm 827 (by rfl) (by rfl)
set_option maxRecDepth 100000 in
theorem zw_829 : Cond.instanceMethod yX7_once ∈ zw := zm 829 (by rfl) (by rfl)
set_option maxRecDepth 100000 in
theorem zw_830 : Cond.code yX7_once cX7_once 3 (some .int) ∈ zw := zm 830 (by rfl) (by rfl)
set_option maxRecDepth 100000 in
theorem zw_831 : Cond.methodLink RX7 169 yX7_wanted ∈ zw := zm 831 (by rfl) (by rfl)
set_option maxRecDepth 100000 in
theorem zw_833 : Cond.instanceMethod yX7_wanted ∈ zw := zm 833 (by rfl) (by rfl)
set_option maxRecDepth 100000 in
theorem zw_834 : Cond.code yX7_wanted cX7_wanted 1 (some .int) ∈ zw := zm 834 (by rfl) (by rfl)
set_option maxRecDepth 100000 in
theorem zw_835 : Cond.methodLink RX7 190 yX7_call ∈ zw := zm 835 (by rfl) (by rfl)
set_option maxRecDepth 100000 in
theorem zw_837 : Cond.instanceMethod yX7_call ∈ zw := zm 837 (by rfl) (by rfl)
set_option maxRecDepth 100000 in
theorem zw_838 : Cond.code yX7_call cX7_call 2 none ∈ zw := zm 838 (by rfl) (by rfl)
set_option maxRecDepth 100000 in
theorem zw_839 : Cond.methodLink RX7 67 yX7_push ∈ zw := zm 839 (by rfl) (by rfl)
set_option maxRecDepth 100000 in
theorem zw_841 : Cond.instanceMethod yX7_push ∈ zw := zm 841 (by rfl) (by rfl)
set_option maxRecDepth 100000 in
theorem zw_842 : Cond.code yX7_push cX7_push 2 none ∈ zw := zm 842 (by rfl) (by rfl)
set_option maxRecDepth 100000 in
theorem zw_843 : Cond.constant RX7 52 (65535) ∈ zw := zm 843 (by rfl) (by rfl)
set_option maxRecDepth 100000 in
theorem zw_844 : Cond.methodLink RX7 60 yX7_write ∈ zw := zm 844 (by rfl) (by rfl)
set_option maxRecDepth 100000 in
theorem zw_846 : Cond.instanceMethod yX7_write ∈ zw := zm 846 (by rfl) (by rfl)
set_option maxRecDepth 100000 in
theorem zw_847 : Cond.code yX7_write cX7_write 3 none ∈ zw := zm 847 (by rfl) (by rfl)
set_option maxRecDepth 100000 in
theorem zw_848 : Cond.methodLink RX7 226 yX7_instruction ∈ zw := zm 848 (by rfl) (by rfl)
set_option maxRecDepth 100000 in
theorem zw_850 : Cond.instanceMethod yX7_instruction ∈ zw := zm 850 (by rfl) (by rfl)
set_option maxRecDepth 100000 in
theorem zw_851 : Cond.code yX7_instruction cX7_instruction 5 none ∈ zw := zm 851 (by rfl) (by rfl)
set_option maxRecDepth 100000 in
theorem zw_852 : Cond.methodLink RX7 53 yX7_fetch ∈ zw := zm 852 (by rfl) (by rfl)
set_option maxRecDepth 100000 in
theorem zw_854 : Cond.instanceMethod yX7_fetch ∈ zw := zm 854 (by rfl) (by rfl)
set_option maxRecDepth 100000 in
theorem zw_855 : Cond.code yX7_fetch cX7_fetch 2 (some .int) ∈ zw := zm 855 (by rfl) (by rfl)
set_option maxRecDepth 100000 in
theorem zw_856 : Cond.methodLink RX7 48 yX7_read ∈ zw := zm 856 (by rfl) (by rfl)
set_option maxRecDepth 100000 in
theorem zw_858 : Cond.instanceMethod yX7_read ∈ zw := zm 858 (by rfl) (by rfl)
set_option maxRecDepth 100000 in
theorem zw_859 : Cond.code yX7_read cX7_read 2 (some .int) ∈ zw := zm 859 (by rfl) (by rfl)
set_option maxRecDepth 100000 in
theorem zw_860 : Cond.methodLink RX7 217 yX7_first ∈ zw := zm 860 (by rfl) (by rfl)
set_option maxRecDepth 100000 in
theorem zw_862 : Cond.instanceMethod yX7_first ∈ zw := zm 862 (by rfl) (by rfl)
set_option maxRecDepth 100000 in
theorem zw_863 : Cond.code yX7_first cX7_first 3 none ∈ zw := zm 863 (by rfl) (by rfl)
set_option maxRecDepth 100000 in
theorem zw_864 : Cond.methodLink RX7 172 yX7_setMask ∈ zw := zm 864 (by rfl) (by rfl)
set_option maxRecDepth 100000 in
theorem zw_866 : Cond.instanceMethod yX7_setMask ∈ zw := zm 866 (by rfl) (by rfl)
set_option maxRecDepth 100000 in
theorem zw_867 : Cond.code yX7_setMask cX7_setMask 2 none ∈ zw := zm 867 (by rfl) (by rfl)
set_option maxRecDepth 100000 in
theorem zw_868 : Cond.methodLink RX7 175 yX7_pairOf ∈ zw := zm 868 (by rfl) (by rfl)
set_option maxRecDepth 100000 in
theorem zw_870 : Cond.instanceMethod yX7_pairOf ∈ zw := zm 870 (by rfl) (by rfl)
set_option maxRecDepth 100000 in
theorem zw_871 : Cond.code yX7_pairOf cX7_pairOf 5 none ∈ zw := zm 871 (by rfl) (by rfl)
set_option maxRecDepth 100000 in
theorem zw_872 : Cond.methodLink RX7 157 yX7_pair ∈ zw := zm 872 (by rfl) (by rfl)
set_option maxRecDepth 100000 in
theorem zw_874 : Cond.instanceMethod yX7_pair ∈ zw := zm 874 (by rfl) (by rfl)
set_option maxRecDepth 100000 in
theorem zw_875 : Cond.code yX7_pair cX7_pair 2 (some .int) ∈ zw := zm 875 (by rfl) (by rfl)
set_option maxRecDepth 100000 in
theorem zw_876 : Cond.methodLink RX7 160 yX7_fetchTwo ∈ zw := zm 876 (by rfl) (by rfl)
set_option maxRecDepth 100000 in
theorem zw_878 : Cond.instanceMethod yX7_fetchTwo ∈ zw := zm 878 (by rfl) (by rfl)
set_option maxRecDepth 100000 in
theorem zw_879 : Cond.code yX7_fetchTwo cX7_fetchTwo 2 (some .int) ∈ zw := zm 879 (by rfl) (by rfl)
set_option maxRecDepth 100000 in
theorem zw_880 : Cond.methodLink RX7 163 yX7_putPair ∈ zw := zm 880 (by rfl) (by rfl)
set_option maxRecDepth 100000 in
theorem zw_882 : Cond.instanceMethod yX7_putPair ∈ zw := zm 882 (by rfl) (by rfl)
set_option maxRecDepth 100000 in
theorem zw_883 : Cond.code yX7_putPair cX7_putPair 3 none ∈ zw := zm 883 (by rfl) (by rfl)
set_option maxRecDepth 100000 in
theorem zw_884 : Cond.methodLink RX7 57 yX7_hl ∈ zw := zm 884 (by rfl) (by rfl)
set_option maxRecDepth 100000 in
theorem zw_886 : Cond.instanceMethod yX7_hl ∈ zw := zm 886 (by rfl) (by rfl)
set_option maxRecDepth 100000 in
theorem zw_887 : Cond.code yX7_hl cX7_hl 1 (some .int) ∈ zw := zm 887 (by rfl) (by rfl)
set_option maxRecDepth 100000 in
theorem zw_888 : Cond.methodLink RX7 71 yX7_flag ∈ zw := zm 888 (by rfl) (by rfl)
set_option maxRecDepth 100000 in
theorem zw_890 : Cond.instanceMethod yX7_flag ∈ zw := zm 890 (by rfl) (by rfl)
set_option maxRecDepth 100000 in
theorem zw_891 : Cond.code yX7_flag cX7_flag 3 none ∈ zw := zm 891 (by rfl) (by rfl)
set_option maxRecDepth 100000 in
theorem zw_892 : Cond.methodLink RX7 178 yX7_memoryOf ∈ zw := zm 892 (by rfl) (by rfl)
set_option maxRecDepth 100000 in
theorem zw_894 : Cond.instanceMethod yX7_memoryOf ∈ zw := zm 894 (by rfl) (by rfl)
set_option maxRecDepth 100000 in
theorem zw_895 : Cond.code yX7_memoryOf cX7_memoryOf 3 none ∈ zw := zm 895 (by rfl) (by rfl)
set_option maxRecDepth 100000 in
theorem zw_896 : Cond.methodLink RX7 181 yX7_stepRegister ∈ zw := zm 896 (by rfl) (by rfl)
set_option maxRecDepth 100000 in
theorem zw_898 : Cond.instanceMethod yX7_stepRegister ∈ zw := zm 898 (by rfl) (by rfl)
set_option maxRecDepth 100000 in
theorem zw_899 : Cond.code yX7_stepRegister cX7_stepRegister 6 none ∈ zw := zm 899 (by rfl) (by rfl)
set_option maxRecDepth 100000 in
theorem zw_900 : Cond.methodLink RX7 78 yX7_is ∈ zw := zm 900 (by rfl) (by rfl)
set_option maxRecDepth 100000 in
theorem zw_902 : Cond.instanceMethod yX7_is ∈ zw := zm 902 (by rfl) (by rfl)
set_option maxRecDepth 100000 in
theorem zw_903 : Cond.code yX7_is cX7_is 2 (some .boolean) ∈ zw := zm 903 (by rfl) (by rfl)
set_option maxRecDepth 100000 in
theorem zw_904 : Cond.methodLink RX7 92 yX7_get ∈ zw := zm 904 (by rfl) (by rfl)
set_option maxRecDepth 100000 in
theorem zw_906 : Cond.instanceMethod yX7_get ∈ zw := zm 906 (by rfl) (by rfl)
set_option maxRecDepth 100000 in
theorem zw_907 : Cond.code yX7_get cX7_get 2 (some .int) ∈ zw := zm 907 (by rfl) (by rfl)
set_option maxRecDepth 100000 in
theorem zw_908 : Cond.methodLink RX7 82 yX7_sum ∈ zw := zm 908 (by rfl) (by rfl)
set_option maxRecDepth 100000 in
theorem zw_910 : Cond.instanceMethod yX7_sum ∈ zw := zm 910 (by rfl) (by rfl)
set_option maxRecDepth 100000 in
theorem zw_911 : Cond.code yX7_sum cX7_sum 6 (some .int) ∈ zw := zm 911 (by rfl) (by rfl)
set_option maxRecDepth 100000 in
theorem zw_912 : Cond.methodLink RX7 75 yX7_mark ∈ zw := zm 912 (by rfl) (by rfl)
set_option maxRecDepth 100000 in
theorem zw_914 : Cond.instanceMethod yX7_mark ∈ zw := zm 914 (by rfl) (by rfl)
set_option maxRecDepth 100000 in
theorem zw_915 : Cond.code yX7_mark cX7_mark 4 none ∈ zw := zm 915 (by rfl) (by rfl)
set_option maxRecDepth 100000 in
theorem zw_916 : Cond.methodLink RX7 86 yX7_difference ∈ zw := zm 916 (by rfl) (by rfl)
set_option maxRecDepth 100000 in
theorem zw_918 : Cond.instanceMethod yX7_difference ∈ zw := zm 918 (by rfl) (by rfl)
set_option maxRecDepth 100000 in
theorem zw_919 : Cond.code yX7_difference cX7_difference 5 (some .int) ∈ zw := zm 919 (by rfl) (by rfl)
set_option maxRecDepth 100000 in
theorem zw_920 : Cond.methodLink RX7 95 yX7_put ∈ zw := zm 920 (by rfl) (by rfl)
set_option maxRecDepth 100000 in
theorem zw_922 : Cond.instanceMethod yX7_put ∈ zw := zm 922 (by rfl) (by rfl)
set_option maxRecDepth 100000 in
theorem zw_923 : Cond.code yX7_put cX7_put 3 none ∈ zw := zm 923 (by rfl) (by rfl)
set_option maxRecDepth 100000 in
theorem zw_924 : Cond.methodLink RX7 184 yX7_turn ∈ zw := zm 924 (by rfl) (by rfl)
set_option maxRecDepth 100000 in
theorem zw_926 : Cond.instanceMethod yX7_turn ∈ zw := zm 926 (by rfl) (by rfl)
set_option maxRecDepth 100000 in
theorem zw_927 : Cond.code yX7_turn cX7_turn 4 none ∈ zw := zm 927 (by rfl) (by rfl)
set_option maxRecDepth 100000 in
theorem zw_928 : Cond.methodLink RX7 98 yX7_decimal ∈ zw := zm 928 (by rfl) (by rfl)
set_option maxRecDepth 100000 in
theorem zw_930 : Cond.instanceMethod yX7_decimal ∈ zw := zm 930 (by rfl) (by rfl)
set_option maxRecDepth 100000 in
theorem zw_931 : Cond.code yX7_decimal cX7_decimal 4 none ∈ zw := zm 931 (by rfl) (by rfl)
set_option maxRecDepth 100000 in
theorem zw_932 : Cond.methodLink RX7 214 yX7_operate ∈ zw := zm 932 (by rfl) (by rfl)
set_option maxRecDepth 100000 in
theorem zw_934 : Cond.instanceMethod yX7_operate ∈ zw := zm 934 (by rfl) (by rfl)
set_option maxRecDepth 100000 in
theorem zw_935 : Cond.code yX7_operate cX7_operate 6 none ∈ zw := zm 935 (by rfl) (by rfl)
set_option maxRecDepth 100000 in
theorem zw_936 : Cond.methodLink RX7 89 yX7_logic ∈ zw := zm 936 (by rfl) (by rfl)
set_option maxRecDepth 100000 in
theorem zw_938 : Cond.instanceMethod yX7_logic ∈ zw := zm 938 (by rfl) (by rfl)
set_option maxRecDepth 100000 in
theorem zw_939 : Cond.code yX7_logic cX7_logic 5 (some .int) ∈ zw := zm 939 (by rfl) (by rfl)
set_option maxRecDepth 100000 in
theorem zw_940 : Cond.methodLink RX7 223 yX7_last ∈ zw := zm 940 (by rfl) (by rfl)
set_option maxRecDepth 100000 in
theorem zw_942 : Cond.instanceMethod yX7_last ∈ zw := zm 942 (by rfl) (by rfl)
set_option maxRecDepth 100000 in
theorem zw_943 : Cond.code yX7_last cX7_last 5 none ∈ zw := zm 943 (by rfl) (by rfl)
set_option maxRecDepth 100000 in
theorem zw_944 : Cond.methodLink RX7 202 yX7_holds ∈ zw := zm 944 (by rfl) (by rfl)
set_option maxRecDepth 100000 in
theorem zw_946 : Cond.instanceMethod yX7_holds ∈ zw := zm 946 (by rfl) (by rfl)
set_option maxRecDepth 100000 in
theorem zw_947 : Cond.code yX7_holds cX7_holds 3 (some .boolean) ∈ zw := zm 947 (by rfl) (by rfl)
set_option maxRecDepth 100000 in
theorem zw_948 : Cond.methodLink RX7 187 yX7_pop ∈ zw := zm 948 (by rfl) (by rfl)
set_option maxRecDepth 100000 in
theorem zw_950 : Cond.instanceMethod yX7_pop ∈ zw := zm 950 (by rfl) (by rfl)
set_option maxRecDepth 100000 in
theorem zw_951 : Cond.code yX7_pop cX7_pop 3 (some .int) ∈ zw := zm 951 (by rfl) (by rfl)
set_option maxRecDepth 100000 in
theorem zw_952 : Cond.methodLink RX7 205 yX7_popOf ∈ zw := zm 952 (by rfl) (by rfl)
set_option maxRecDepth 100000 in
theorem zw_954 : Cond.instanceMethod yX7_popOf ∈ zw := zm 954 (by rfl) (by rfl)
set_option maxRecDepth 100000 in
theorem zw_955 : Cond.code yX7_popOf cX7_popOf 3 none ∈ zw := zm 955 (by rfl) (by rfl)
set_option maxRecDepth 100000 in
theorem zw_956 : Cond.methodLink RX7 208 yX7_others ∈ zw := zm 956 (by rfl) (by rfl)
set_option maxRecDepth 100000 in
theorem zw_958 : Cond.instanceMethod yX7_others ∈ zw := zm 958 (by rfl) (by rfl)
set_option maxRecDepth 100000 in
theorem zw_959 : Cond.code yX7_others cX7_others 5 none ∈ zw := zm 959 (by rfl) (by rfl)
set_option maxRecDepth 100000 in
theorem zw_960 : Cond.methodLink RX7 193 yX7_out ∈ zw := zm 960 (by rfl) (by rfl)
set_option maxRecDepth 100000 in
theorem zw_962 : Cond.instanceMethod yX7_out ∈ zw := zm 962 (by rfl) (by rfl)
set_option maxRecDepth 100000 in
theorem zw_963 : Cond.code yX7_out cX7_out 4 none ∈ zw := zm 963 (by rfl) (by rfl)
set_option maxRecDepth 100000 in
theorem zw_964 : Cond.methodLink RX7 126 yX7_lengthOf ∈ zw := zm 964 (by rfl) (by rfl)
set_option maxRecDepth 100000 in
theorem zw_966 : Cond.instanceMethod yX7_lengthOf ∈ zw := zm 966 (by rfl) (by rfl)
set_option maxRecDepth 100000 in
theorem zw_967 : Cond.code yX7_lengthOf cX7_lengthOf 2 (some .int) ∈ zw := zm 967 (by rfl) (by rfl)
set_option maxRecDepth 100000 in
theorem zw_968 : Cond.constant RX7 138 (65280) ∈ zw := zm 968 (by rfl) (by rfl)
set_option maxRecDepth 100000 in
theorem zw_969 : Cond.methodLink RX7 196 yX7_in ∈ zw := zm 969 (by rfl) (by rfl)
set_option maxRecDepth 100000 in
theorem zw_971 : Cond.instanceMethod yX7_in ∈ zw := zm 971 (by rfl) (by rfl)
set_option maxRecDepth 100000 in
theorem zw_972 : Cond.code yX7_in cX7_in 4 (some .int) ∈ zw := zm 972 (by rfl) (by rfl)
set_option maxRecDepth 100000 in
theorem zw_973 : Cond.methodLink RX7 114 yX7_status ∈ zw := zm 973 (by rfl) (by rfl)
set_option maxRecDepth 100000 in
theorem zw_975 : Cond.instanceMethod yX7_status ∈ zw := zm 975 (by rfl) (by rfl)
set_option maxRecDepth 100000 in
theorem zw_976 : Cond.code yX7_status cX7_status 1 (some .int) ∈ zw := zm 976 (by rfl) (by rfl)
set_option maxRecDepth 100000 in
theorem zw_977 : Cond.methodLink RX7 211 yX7_pushOf ∈ zw := zm 977 (by rfl) (by rfl)
set_option maxRecDepth 100000 in
theorem zw_979 : Cond.instanceMethod yX7_pushOf ∈ zw := zm 979 (by rfl) (by rfl)
set_option maxRecDepth 100000 in
theorem zw_980 : Cond.code yX7_pushOf cX7_pushOf 3 none ∈ zw := zm 980 (by rfl) (by rfl)
set_option maxRecDepth 100000 in
theorem zw_981 : Cond.methodLink RX7 229 yX7_pass ∈ zw := zm 981 (by rfl) (by rfl)
set_option maxRecDepth 100000 in
theorem zw_983 : Cond.instanceMethod yX7_pass ∈ zw := zm 983 (by rfl) (by rfl)
set_option maxRecDepth 100000 in
theorem zw_984 : Cond.code yX7_pass cX7_pass 3 none ∈ zw := zm 984 (by rfl) (by rfl)
set_option maxRecDepth 100000 in
theorem zw_985 : Cond.methodLink RX7 145 yX7_tickTimer ∈ zw := zm 985 (by rfl) (by rfl)
set_option maxRecDepth 100000 in
theorem zw_987 : Cond.instanceMethod yX7_tickTimer ∈ zw := zm 987 (by rfl) (by rfl)
set_option maxRecDepth 100000 in
theorem zw_988 : Cond.code yX7_tickTimer cX7_tickTimer 1 none ∈ zw := zm 988 (by rfl) (by rfl)
set_option maxRecDepth 100000 in
theorem zw_989 : Cond.methodLink RX7 151 yX7_scan ∈ zw := zm 989 (by rfl) (by rfl)
set_option maxRecDepth 100000 in
theorem zw_991 : Cond.instanceMethod yX7_scan ∈ zw := zm 991 (by rfl) (by rfl)
set_option maxRecDepth 100000 in
theorem zw_992 : Cond.code yX7_scan cX7_scan 2 none ∈ zw := zm 992 (by rfl) (by rfl)
set_option maxRecDepth 100000 in
theorem zw_993 : Cond.methodLink RL 57 yX7_steps ∈ zw := zm 993 (by rfl) (by rfl)
set_option maxRecDepth 100000 in
theorem zw_994 : Cond.instanceMethod yX7_steps ∈ zw := zm 994 (by rfl) (by rfl)
set_option maxRecDepth 100000 in
theorem zw_995 : Cond.selects RX7 yX7_steps yX7_steps ∈ zw := zm 995 (by rfl) (by rfl)
set_option maxRecDepth 100000 in
theorem zw_996 : Cond.code yX7_steps cX7_steps 4 (some .int) ∈ zw := zm 996 (by rfl) (by rfl)
set_option maxRecDepth 100000 in
theorem zw_997 : Cond.methodLink RL 64 yX7_key ∈ zw := zm 997 (by rfl) (by rfl)
set_option maxRecDepth 100000 in
theorem zw_998 : Cond.instanceMethod yX7_key ∈ zw := zm 998 (by rfl) (by rfl)
set_option maxRecDepth 100000 in
theorem zw_999 : Cond.selects RX7 yX7_key yX7_key ∈ zw := zm 999 (by rfl) (by rfl)
set_option maxRecDepth 100000 in
theorem zw_1000 : Cond.code yX7_key cX7_key 4 (some .boolean) ∈ zw := zm 1000 (by rfl) (by rfl)
set_option maxRecDepth 100000 in
theorem zw_1001 : Cond.methodLink RL 67 yX7_line ∈ zw := zm 1001 (by rfl) (by rfl)
set_option maxRecDepth 100000 in
theorem zw_1002 : Cond.instanceMethod yX7_line ∈ zw := zm 1002 (by rfl) (by rfl)
set_option maxRecDepth 100000 in
theorem zw_1003 : Cond.selects RX7 yX7_line yX7_line ∈ zw := zm 1003 (by rfl) (by rfl)
set_option maxRecDepth 100000 in
theorem zw_1004 : Cond.code yX7_line cX7_line 4 (some .boolean) ∈ zw := zm 1004 (by rfl) (by rfl)
set_option maxRecDepth 100000 in
theorem zw_1005 : Cond.methodLink RL 70 yX7_about ∈ zw := zm 1005 (by rfl) (by rfl)
set_option maxRecDepth 100000 in
theorem zw_1006 : Cond.instanceMethod yX7_about ∈ zw := zm 1006 (by rfl) (by rfl)
set_option maxRecDepth 100000 in
theorem zw_1007 : Cond.selects RX7 yX7_about yX7_about ∈ zw := zm 1007 (by rfl) (by rfl)
set_option maxRecDepth 100000 in
theorem zw_1008 : Cond.code yX7_about cX7_about 2 (some .int) ∈ zw := zm 1008 (by rfl) (by rfl)
set_option maxRecDepth 100000 in
theorem zw_1009 : Cond.methodLink RL 73 yX7_shown ∈ zw := zm 1009 (by rfl) (by rfl)
set_option maxRecDepth 100000 in
theorem zw_1010 : Cond.instanceMethod yX7_shown ∈ zw := zm 1010 (by rfl) (by rfl)
set_option maxRecDepth 100000 in
theorem zw_1011 : Cond.selects RX7 yX7_shown yX7_shown ∈ zw := zm 1011 (by rfl) (by rfl)
set_option maxRecDepth 100000 in
theorem zw_1012 : Cond.code yX7_shown cX7_shown 2 (some .int) ∈ zw := zm 1012 (by rfl) (by rfl)
set_option maxRecDepth 100000 in
theorem zw_1013 : Cond.methodLink RL 77 yX7_set ∈ zw := zm 1013 (by rfl) (by rfl)
set_option maxRecDepth 100000 in
theorem zw_1014 : Cond.instanceMethod yX7_set ∈ zw := zm 1014 (by rfl) (by rfl)
set_option maxRecDepth 100000 in
theorem zw_1015 : Cond.selects RX7 yX7_set yX7_set ∈ zw := zm 1015 (by rfl) (by rfl)
set_option maxRecDepth 100000 in
theorem zw_1016 : Cond.code yX7_set cX7_set 3 none ∈ zw := zm 1016 (by rfl) (by rfl)
set_option maxRecDepth 100000 in
theorem zw_1017 : Cond.arrayClass .long ∈ zw := zm 1017 (by rfl) (by rfl)
set_option maxRecDepth 100000 in
theorem zx_0 : ∀ w ∈ u_ws RX0 TX0 1, w ∈ zw := zw_in _ (by decide +kernel)
set_option maxRecDepth 100000 in
theorem zx_1 : ∀ w ∈ u_ws RX1 TX1 7, w ∈ zw := zw_in _ (by decide +kernel)
set_option maxRecDepth 100000 in
theorem zx_2 : ∀ w ∈ u_ws RX2 TX2 11, w ∈ zw := zw_in _ (by decide +kernel)
set_option maxRecDepth 100000 in
theorem zx_3 : ∀ w ∈ u_ws RX3 TX3 2, w ∈ zw := zw_in _ (by decide +kernel)
set_option maxRecDepth 100000 in
theorem zx_4 : ∀ w ∈ u_ws RX4 TX4 11, w ∈ zw := zw_in _ (by decide +kernel)
set_option maxRecDepth 100000 in
theorem zx_5 : ∀ w ∈ u_ws RX5 TX5 7, w ∈ zw := zw_in _ (by decide +kernel)
set_option maxRecDepth 100000 in
theorem zx_6 : ∀ w ∈ u_ws RX6 TX6 5, w ∈ zw := zw_in _ (by decide +kernel)
set_option maxRecDepth 100000 in
theorem zx_7 : ∀ w ∈ u_ws RX7 TX7 30, w ∈ zw := zw_in _ (by decide +kernel)
end
section
theorem dX5_tick_0 : decode cX5_tick 0 = .ok (.aload_n 0, 1) := by decide +kernel
theorem dX5_tick_1 : decode cX5_tick 1 = .ok (.getfield 7, 3) := by decide +kernel
theorem dX5_tick_4 : decode cX5_tick 4 = .ok (.ifCond .ne 5, 3) := by decide +kernel
theorem dX5_tick_7 : decode cX5_tick 7 = .ok (.iconst 0, 1) := by decide +kernel
theorem dX5_tick_8 : decode cX5_tick 8 = .ok (.ireturn, 1) := by decide +kernel
set_option maxHeartbeats 4000000 in
set_option maxRecDepth 100000 in
/-- Timer.tick, stopped: it answers false, nothing changes -/
theorem c_tick (l : Launch) (dC : Nat → ClassId) (dI : Nat → Nat → Nat) (a_t : Nat) (sz : Nat) : Met l yX5_tick (zq yX5_tick cX5_tick 1 (some .boolean)) ({ frames := 0, cells := 0, slots := 0, locals := 0 }) (va_Pc [.ref a_t] (zc_P (dC, dI) [(a_t, .inr (5, [.int 0, .int 0, .int 0, .int 0, .int 0, .int 0, .int 0]))] [] sz)) (va_Qi (fun r _ => r = 0) (fun (u : Unit) t => zc_B (dC, dI) (va_A [(a_t, .inr (5, [.int 0, .int 0, .int 0, .int 0, .int 0, .int 0, .int 0]))] sz) [(a_t, .inr (5, [.int 0, .int 0, .int 0, .int 0, .int 0, .int 0, .int 0]))] [] t) (va_A [(a_t, .inr (5, [.int 0, .int 0, .int 0, .int 0, .int 0, .int 0, .int 0]))] sz)) 0 0 (va_A [(a_t, .inr (5, [.int 0, .int 0, .int 0, .int 0, .int 0, .int 0, .int 0]))] sz) := by
  refine Met.ofW (cc := cX5_tick) (maxL := 1) (ret := (some .boolean)) (by decide) rfl ?_
  intro p e s m args below meth c s₁ B hml hv
  obtain ⟨rfl, hsz, hP, hK, hD0, hN⟩ := hv
  have hx := B.exec
  have hb := B.bytes
  have hr := B.returns
  have hts : ∀ w ∈ zw, w.before _ s = true := fun w h => atoms_spec (ws := (zq yX5_tick cX5_tick 1 (some .boolean))) B.pre w (List.mem_cons_of_mem _ h)
  have hown : s.vm.findClass RX5 = some m.cls := findClass_of_methodNamed B.named
  have hlocks := B.notSynchronized
  subst hsz
  have hD := hD0.self (sz := s.heap.size)
  generalize hAe : va_A [(a_t, .inr (5, [.int 0, .int 0, .int 0, .int 0, .int 0, .int 0, .int 0]))] s.heap.size = A at hD ⊢
  have hA : ∀ q : Nat, s.heap.size ≤ q → A q := fun q h => by rw [← hAe]; exact Or.inr h
  have hS : va_S A s.heap s.heap [] := va_S.rf
  have hP : va_P (dC, dI) vwCl [(a_t, .inr (5, [.int 0, .int 0, .int 0, .int 0, .int 0, .int 0, .int 0]))] s.heap := hP
  have hl := lv_entry ([.ref a_t]) (n := 1) (Nat.le_of_ble_eq_true rfl)
  rw [lg_entry_eq]
  generalize (lg_sl ([.ref a_t]) ++ List.replicate (1 - (lg_sl ([.ref a_t])).length) Slot.unset).toArray = ls at hl ⊢
  have hl : lv_has ls 1 [(0, .ref a_t)] := hl
  refine lv_aload_n hx hb dX5_tick_0 rfl (lv_at hl 0 rfl) ?_
  refine va_get (D := (dC, dI)) (ci := 5) (v := .int 0) (C := RX5) (T := TX5) (N := 7) hx hb hts zx_5 hown hK hP 0 rfl rfl 6 (by decide) (hts (.fieldLink RX5 7 "KeyboardKit$Timer" "left" "I") zw_120) (fun _ h9 => h9) rfl dX5_tick_1 ?_
  refine lv_if_ne (tgt := 9) hx hb dX5_tick_4 (by decide) (fun c_1 => absurd c_1 (by decide)) (fun c_1 => ?_)
  refine lv_iconst (v := 0) hx hb dX5_tick_7 (by decide) ?_
  have hP9 := hP.sub (ws' := [(a_t, .inr (5, [.int 0, .int 0, .int 0, .int 0, .int 0, .int 0, .int 0]))]) [0] rfl
  have hD9 := hD.sub (ws' := [(a_t, .inr (5, [.int 0, .int 0, .int 0, .int 0, .int 0, .int 0, .int 0]))]) [0] (by decide) rfl
  have hK9 := hK.sub (tys' := []) [] rfl
  exact W.zret (v := 0) hx hb hr rfl (fun t9 ht hW => ⟨⟨0, (), rfl, rfl, by rw [ht]; exact hP9, va_K.moved hW.alike hK9, hD9⟩, hS.F ht⟩) hS.2.2 dX5_tick_8
end
section
theorem dX2_scan_0 : decode cX2_scan 0 = .ok (.aload_n 0, 1) := by decide +kernel
theorem dX2_scan_1 : decode cX2_scan 1 = .ok (.getfield 9, 3) := by decide +kernel
theorem dX2_scan_10 : decode cX2_scan 10 = .ok (.getfield 18, 3) := by decide +kernel
theorem dX2_scan_13 : decode cX2_scan 13 = .ok (.iload_n 1, 1) := by decide +kernel
theorem dX2_scan_14 : decode cX2_scan 14 = .ok (.iconst 0, 1) := by decide +kernel
theorem dX2_scan_15 : decode cX2_scan 15 = .ok (.bastore, 1) := by decide +kernel
theorem dX2_scan_16 : decode cX2_scan 16 = .ok (.goto 33, 3) := by decide +kernel
theorem dX2_scan_4 : decode cX2_scan 4 = .ok (.iload_n 1, 1) := by decide +kernel
theorem dX2_scan_49 : decode cX2_scan 49 = .ok (.aload_n 0, 1) := by decide +kernel
theorem dX2_scan_5 : decode cX2_scan 5 = .ok (.baload, 1) := by decide +kernel
theorem dX2_scan_50 : decode cX2_scan 50 = .ok (.getfield 15, 3) := by decide +kernel
theorem dX2_scan_53 : decode cX2_scan 53 = .ok (.iload_n 1, 1) := by decide +kernel
theorem dX2_scan_54 : decode cX2_scan 54 = .ok (.aload_n 0, 1) := by decide +kernel
theorem dX2_scan_55 : decode cX2_scan 55 = .ok (.getfield 9, 3) := by decide +kernel
theorem dX2_scan_58 : decode cX2_scan 58 = .ok (.iload_n 1, 1) := by decide +kernel
theorem dX2_scan_59 : decode cX2_scan 59 = .ok (.baload, 1) := by decide +kernel
theorem dX2_scan_6 : decode cX2_scan 6 = .ok (.ifCond .ne 13, 3) := by decide +kernel
theorem dX2_scan_60 : decode cX2_scan 60 = .ok (.bastore, 1) := by decide +kernel
theorem dX2_scan_61 : decode cX2_scan 61 = .ok (.return_, 1) := by decide +kernel
theorem dX2_scan_9 : decode cX2_scan 9 = .ok (.aload_n 0, 1) := by decide +kernel
theorem dX2_tick_0 : decode cX2_tick 0 = .ok (.aload_n 0, 1) := by decide +kernel
theorem dX2_tick_1 : decode cX2_tick 1 = .ok (.dup, 1) := by decide +kernel
theorem dX2_tick_10 : decode cX2_tick 10 = .ok (.aload_n 0, 1) := by decide +kernel
theorem dX2_tick_11 : decode cX2_tick 11 = .ok (.getfield 28, 3) := by decide +kernel
theorem dX2_tick_14 : decode cX2_tick 14 = .ok (.ifCond .ne 28, 3) := by decide +kernel
theorem dX2_tick_17 : decode cX2_tick 17 = .ok (.aload_n 0, 1) := by decide +kernel
theorem dX2_tick_18 : decode cX2_tick 18 = .ok (.bipush 64, 2) := by decide +kernel
theorem dX2_tick_2 : decode cX2_tick 2 = .ok (.getfield 28, 3) := by decide +kernel
theorem dX2_tick_20 : decode cX2_tick 20 = .ok (.putfield 28, 3) := by decide +kernel
theorem dX2_tick_23 : decode cX2_tick 23 = .ok (.iconst 0, 1) := by decide +kernel
theorem dX2_tick_24 : decode cX2_tick 24 = .ok (.istore_n 1, 1) := by decide +kernel
theorem dX2_tick_25 : decode cX2_tick 25 = .ok (.iload_n 1, 1) := by decide +kernel
theorem dX2_tick_26 : decode cX2_tick 26 = .ok (.bipush 16, 2) := by decide +kernel
theorem dX2_tick_28 : decode cX2_tick 28 = .ok (.if_icmp .ge 14, 3) := by decide +kernel
theorem dX2_tick_31 : decode cX2_tick 31 = .ok (.aload_n 0, 1) := by decide +kernel
theorem dX2_tick_32 : decode cX2_tick 32 = .ok (.iload_n 1, 1) := by decide +kernel
theorem dX2_tick_33 : decode cX2_tick 33 = .ok (.invokevirtual 51, 3) := by decide +kernel
theorem dX2_tick_36 : decode cX2_tick 36 = .ok (.iinc 1 1, 3) := by decide +kernel
theorem dX2_tick_39 : decode cX2_tick 39 = .ok (.goto (-14), 3) := by decide +kernel
theorem dX2_tick_42 : decode cX2_tick 42 = .ok (.return_, 1) := by decide +kernel
theorem dX2_tick_5 : decode cX2_tick 5 = .ok (.iconst 1, 1) := by decide +kernel
theorem dX2_tick_6 : decode cX2_tick 6 = .ok (.isub, 1) := by decide +kernel
theorem dX2_tick_7 : decode cX2_tick 7 = .ok (.putfield 28, 3) := by decide +kernel
set_option maxHeartbeats 4000000 in
set_option maxRecDepth 100000 in
/-- KeyUnit.scan(k), no key down: nothing changes -/
theorem c_scan (l : Launch) (dC : Nat → ClassId) (dI : Nat → Nat → Nat) (a_u : Nat) (a_d : Nat) (a_b : Nat) (a_c : Nat) (a_q : Nat) (a_s : Nat) (k_d : ClassId) (k_b : ClassId) (k_c : ClassId) (t : Int32) (k : Int32) (hk : vp_in k 16) (sz : Nat) : Met l yX2_scan (zq yX2_scan cX2_scan 2 none) ({ frames := 0, cells := 0, slots := 0, locals := 0 }) (va_Pc [.ref a_u, .int k] (zc_P (dC, dI) [(a_u, .inr (2, [.ref a_d, .ref a_b, .ref a_c, .ref a_q, .int 0, .int 0, .int 0, .int 0, .ref a_s, .int 0, .int t])), (a_d, .inl (k_d, 16, .inl (fun _ => 0))), (a_b, .inl (k_b, 16, .inl (fun _ => 0))), (a_c, .inl (k_c, 16, .inl (fun _ => 0)))] [(k_d, .boolean), (k_b, .boolean), (k_c, .boolean)] sz)) (va_Qv (fun _ => True) (fun (u : Unit) t => zc_B (dC, dI) (va_A [(a_u, .inr (2, [.ref a_d, .ref a_b, .ref a_c, .ref a_q, .int 0, .int 0, .int 0, .int 0, .ref a_s, .int 0, .int t])), (a_d, .inl (k_d, 16, .inl (fun _ => 0))), (a_b, .inl (k_b, 16, .inl (fun _ => 0))), (a_c, .inl (k_c, 16, .inl (fun _ => 0)))] sz) [(a_u, .inr (2, [.ref a_d, .ref a_b, .ref a_c, .ref a_q, .int 0, .int 0, .int 0, .int 0, .ref a_s, .int 0, .int t])), (a_d, .inl (k_d, 16, .inl (fun _ => 0))), (a_b, .inl (k_b, 16, .inl (fun _ => 0))), (a_c, .inl (k_c, 16, .inl (fun _ => 0)))] [(k_d, .boolean), (k_b, .boolean), (k_c, .boolean)] t) (va_A [(a_u, .inr (2, [.ref a_d, .ref a_b, .ref a_c, .ref a_q, .int 0, .int 0, .int 0, .int 0, .ref a_s, .int 0, .int t])), (a_d, .inl (k_d, 16, .inl (fun _ => 0))), (a_b, .inl (k_b, 16, .inl (fun _ => 0))), (a_c, .inl (k_c, 16, .inl (fun _ => 0)))] sz)) 0 0 (va_A [(a_u, .inr (2, [.ref a_d, .ref a_b, .ref a_c, .ref a_q, .int 0, .int 0, .int 0, .int 0, .ref a_s, .int 0, .int t])), (a_d, .inl (k_d, 16, .inl (fun _ => 0))), (a_b, .inl (k_b, 16, .inl (fun _ => 0))), (a_c, .inl (k_c, 16, .inl (fun _ => 0)))] sz) := by
  refine Met.ofW (cc := cX2_scan) (maxL := 2) (ret := none) (by decide) rfl ?_
  intro p e s m args below meth c s₁ B hml hv
  obtain ⟨rfl, hsz, hP, hK, hD0, hN⟩ := hv
  have hx := B.exec
  have hb := B.bytes
  have hr := B.returns
  have hts : ∀ w ∈ zw, w.before _ s = true := fun w h => atoms_spec (ws := (zq yX2_scan cX2_scan 2 none)) B.pre w (List.mem_cons_of_mem _ h)
  have hown : s.vm.findClass RX2 = some m.cls := findClass_of_methodNamed B.named
  have hlocks := B.notSynchronized
  subst hsz
  have hD := hD0.self (sz := s.heap.size)
  generalize hAe : va_A [(a_u, .inr (2, [.ref a_d, .ref a_b, .ref a_c, .ref a_q, .int 0, .int 0, .int 0, .int 0, .ref a_s, .int 0, .int t])), (a_d, .inl (k_d, 16, .inl (fun _ => 0))), (a_b, .inl (k_b, 16, .inl (fun _ => 0))), (a_c, .inl (k_c, 16, .inl (fun _ => 0)))] s.heap.size = A at hD ⊢
  have hA : ∀ q : Nat, s.heap.size ≤ q → A q := fun q h => by rw [← hAe]; exact Or.inr h
  have hS : va_S A s.heap s.heap [] := va_S.rf
  have hP : va_P (dC, dI) vwCl [(a_u, .inr (2, [.ref a_d, .ref a_b, .ref a_c, .ref a_q, .int 0, .int 0, .int 0, .int 0, .ref a_s, .int 0, .int t])), (a_d, .inl (k_d, 16, .inl (fun _ => 0))), (a_b, .inl (k_b, 16, .inl (fun _ => 0))), (a_c, .inl (k_c, 16, .inl (fun _ => 0)))] s.heap := hP
  have hl := lv_entry ([.ref a_u, .int k]) (n := 2) (Nat.le_of_ble_eq_true rfl)
  rw [lg_entry_eq]
  generalize (lg_sl ([.ref a_u, .int k]) ++ List.replicate (2 - (lg_sl ([.ref a_u, .int k])).length) Slot.unset).toArray = ls at hl ⊢
  have hl : lv_has ls 2 [(0, .ref a_u), (1, .int k)] := hl
  refine lv_aload_n hx hb dX2_scan_0 rfl (lv_at hl 0 rfl) ?_
  refine va_get (D := (dC, dI)) (ci := 2) (v := .ref a_d) (C := RX2) (T := TX2) (N := 11) hx hb hts zx_2 hown hK hP 0 rfl rfl 0 (by decide) (hts (.fieldLink RX2 9 "KeyboardKit$KeyUnit" "down" "[Z") zw_144) (fun _ h9 => h9) rfl dX2_scan_1 ?_
  refine lv_iload_n hx hb dX2_scan_4 rfl (lv_at hl 1 rfl) ?_
  refine va_zald hx hb hK hP 1 0 rfl rfl hk dX2_scan_5 ?_
  refine lv_topi (fun v_1 ev_1 => ?_)
  obtain rfl : v_1 = 0 := ev_1.trans rfl
  refine lv_if_ne (tgt := 19) hx hb dX2_scan_6 (by decide) (fun c_2 => absurd c_2 (by decide)) (fun c_2 => ?_)
  refine lv_aload_n hx hb dX2_scan_9 rfl (lv_at hl 0 rfl) ?_
  refine va_get (D := (dC, dI)) (ci := 2) (v := .ref a_c) (C := RX2) (T := TX2) (N := 11) hx hb hts zx_2 hown hK hP 0 rfl rfl 2 (by decide) (hts (.fieldLink RX2 18 "KeyboardKit$KeyUnit" "counted" "[Z") zw_147) (fun _ h9 => h9) rfl dX2_scan_10 ?_
  refine lv_iload_n hx hb dX2_scan_13 rfl (lv_at hl 1 rfl) ?_
  refine lv_iconst (v := 0) hx hb dX2_scan_14 (by decide) ?_
  refine va_zast hx hb hK hP hD hS 3 2 rfl rfl hk dX2_scan_15 (fun H locs hP hD hS => ?_)
  rw [zc_uz] at hP hD
  have hP : va_P (dC, dI) vwCl [(a_u, .inr (2, [.ref a_d, .ref a_b, .ref a_c, .ref a_q, .int 0, .int 0, .int 0, .int 0, .ref a_s, .int 0, .int t])), (a_d, .inl (k_d, 16, .inl (fun _ => 0))), (a_b, .inl (k_b, 16, .inl (fun _ => 0))), (a_c, .inl (k_c, 16, .inl (fun _ => 0)))] H := hP
  have hD : va_D A [(a_u, .inr (2, [.ref a_d, .ref a_b, .ref a_c, .ref a_q, .int 0, .int 0, .int 0, .int 0, .ref a_s, .int 0, .int t])), (a_d, .inl (k_d, 16, .inl (fun _ => 0))), (a_b, .inl (k_b, 16, .inl (fun _ => 0))), (a_c, .inl (k_c, 16, .inl (fun _ => 0)))] := hD
  refine lv_goto (tgt := 49) hx hb dX2_scan_16 (by decide) ?_
  refine lv_aload_n hx hb dX2_scan_49 rfl (lv_at hl 0 rfl) ?_
  refine va_get (D := (dC, dI)) (ci := 2) (v := .ref a_b) (C := RX2) (T := TX2) (N := 11) hx hb hts zx_2 hown hK hP 0 rfl rfl 1 (by decide) (hts (.fieldLink RX2 15 "KeyboardKit$KeyUnit" "downBefore" "[Z") zw_146) (fun _ h9 => h9) rfl dX2_scan_50 ?_
  refine lv_iload_n hx hb dX2_scan_53 rfl (lv_at hl 1 rfl) ?_
  refine lv_aload_n hx hb dX2_scan_54 rfl (lv_at hl 0 rfl) ?_
  refine va_get (D := (dC, dI)) (ci := 2) (v := .ref a_d) (C := RX2) (T := TX2) (N := 11) hx hb hts zx_2 hown hK hP 0 rfl rfl 0 (by decide) (hts (.fieldLink RX2 9 "KeyboardKit$KeyUnit" "down" "[Z") zw_144) (fun _ h9 => h9) rfl dX2_scan_55 ?_
  refine lv_iload_n hx hb dX2_scan_58 rfl (lv_at hl 1 rfl) ?_
  refine va_zald hx hb hK hP 1 0 rfl rfl hk dX2_scan_59 ?_
  refine lv_topi (fun v_3 ev_3 => ?_)
  obtain rfl : v_3 = 0 := ev_3.trans rfl
  refine va_zast hx hb hK hP hD hS 2 1 rfl rfl hk dX2_scan_60 (fun H locs hP hD hS => ?_)
  rw [zc_uz] at hP hD
  have hP : va_P (dC, dI) vwCl [(a_u, .inr (2, [.ref a_d, .ref a_b, .ref a_c, .ref a_q, .int 0, .int 0, .int 0, .int 0, .ref a_s, .int 0, .int t])), (a_d, .inl (k_d, 16, .inl (fun _ => 0))), (a_b, .inl (k_b, 16, .inl (fun _ => 0))), (a_c, .inl (k_c, 16, .inl (fun _ => 0)))] H := hP
  have hD : va_D A [(a_u, .inr (2, [.ref a_d, .ref a_b, .ref a_c, .ref a_q, .int 0, .int 0, .int 0, .int 0, .ref a_s, .int 0, .int t])), (a_d, .inl (k_d, 16, .inl (fun _ => 0))), (a_b, .inl (k_b, 16, .inl (fun _ => 0))), (a_c, .inl (k_c, 16, .inl (fun _ => 0)))] := hD
  have hP9 := hP.sub (ws' := [(a_u, .inr (2, [.ref a_d, .ref a_b, .ref a_c, .ref a_q, .int 0, .int 0, .int 0, .int 0, .ref a_s, .int 0, .int t])), (a_d, .inl (k_d, 16, .inl (fun _ => 0))), (a_b, .inl (k_b, 16, .inl (fun _ => 0))), (a_c, .inl (k_c, 16, .inl (fun _ => 0)))]) [0, 1, 2, 3] rfl
  have hD9 := hD.sub (ws' := [(a_u, .inr (2, [.ref a_d, .ref a_b, .ref a_c, .ref a_q, .int 0, .int 0, .int 0, .int 0, .ref a_s, .int 0, .int t])), (a_d, .inl (k_d, 16, .inl (fun _ => 0))), (a_b, .inl (k_b, 16, .inl (fun _ => 0))), (a_c, .inl (k_c, 16, .inl (fun _ => 0)))]) [0, 1, 2, 3] (by decide) rfl
  have hK9 := hK.sub (tys' := [(k_d, .boolean), (k_b, .boolean), (k_c, .boolean)]) [0, 1, 2] rfl
  exact W.vret hx hb hr (fun t9 ht hW => ⟨⟨(), rfl, trivial, by rw [ht]; exact hP9, va_K.moved hW.alike hK9, hD9⟩, hS.F ht⟩) hS.2.2 dX2_scan_61
set_option maxHeartbeats 4000000 in
set_option maxRecDepth 100000 in
/-- KeyUnit.tick, no key down: the ticks to the scan change alone -/
theorem c_utick (l : Launch) (dC : Nat → ClassId) (dI : Nat → Nat → Nat) (a_u : Nat) (a_d : Nat) (a_b : Nat) (a_c : Nat) (a_q : Nat) (a_s : Nat) (k_d : ClassId) (k_b : ClassId) (k_c : ClassId) (t : Int32) (sz : Nat) : Met l yX2_tick (zq yX2_tick cX2_tick 2 none) ({ frames := 1, cells := 0, slots := 0, locals := 21 }) (va_Pc [.ref a_u] (zc_P (dC, dI) [(a_u, .inr (2, [.ref a_d, .ref a_b, .ref a_c, .ref a_q, .int 0, .int 0, .int 0, .int 0, .ref a_s, .int 0, .int t])), (a_d, .inl (k_d, 16, .inl (fun _ => 0))), (a_b, .inl (k_b, 16, .inl (fun _ => 0))), (a_c, .inl (k_c, 16, .inl (fun _ => 0)))] [(k_d, .boolean), (k_b, .boolean), (k_c, .boolean)] sz)) (va_Qv (fun _ => True) (fun (u : Int32) t => zc_B (dC, dI) (va_A [(a_u, .inr (2, [.ref a_d, .ref a_b, .ref a_c, .ref a_q, .int 0, .int 0, .int 0, .int 0, .ref a_s, .int 0, .int t])), (a_d, .inl (k_d, 16, .inl (fun _ => 0))), (a_b, .inl (k_b, 16, .inl (fun _ => 0))), (a_c, .inl (k_c, 16, .inl (fun _ => 0)))] sz) [(a_u, .inr (2, [.ref a_d, .ref a_b, .ref a_c, .ref a_q, .int 0, .int 0, .int 0, .int 0, .ref a_s, .int 0, .int u])), (a_d, .inl (k_d, 16, .inl (fun _ => 0))), (a_b, .inl (k_b, 16, .inl (fun _ => 0))), (a_c, .inl (k_c, 16, .inl (fun _ => 0)))] [(k_d, .boolean), (k_b, .boolean), (k_c, .boolean)] t) (va_A [(a_u, .inr (2, [.ref a_d, .ref a_b, .ref a_c, .ref a_q, .int 0, .int 0, .int 0, .int 0, .ref a_s, .int 0, .int t])), (a_d, .inl (k_d, 16, .inl (fun _ => 0))), (a_b, .inl (k_b, 16, .inl (fun _ => 0))), (a_c, .inl (k_c, 16, .inl (fun _ => 0)))] sz)) 0 0 (va_A [(a_u, .inr (2, [.ref a_d, .ref a_b, .ref a_c, .ref a_q, .int 0, .int 0, .int 0, .int 0, .ref a_s, .int 0, .int t])), (a_d, .inl (k_d, 16, .inl (fun _ => 0))), (a_b, .inl (k_b, 16, .inl (fun _ => 0))), (a_c, .inl (k_c, 16, .inl (fun _ => 0)))] sz) := by
  refine Met.ofW (cc := cX2_tick) (maxL := 2) (ret := none) (by decide) rfl ?_
  intro p e s m args below meth c s₁ B hml hv
  obtain ⟨rfl, hsz, hP, hK, hD0, hN⟩ := hv
  have hx := B.exec
  have hb := B.bytes
  have hr := B.returns
  have hts : ∀ w ∈ zw, w.before _ s = true := fun w h => atoms_spec (ws := (zq yX2_tick cX2_tick 2 none)) B.pre w (List.mem_cons_of_mem _ h)
  have hown : s.vm.findClass RX2 = some m.cls := findClass_of_methodNamed B.named
  have hlocks := B.notSynchronized
  subst hsz
  have hD := hD0.self (sz := s.heap.size)
  generalize hAe : va_A [(a_u, .inr (2, [.ref a_d, .ref a_b, .ref a_c, .ref a_q, .int 0, .int 0, .int 0, .int 0, .ref a_s, .int 0, .int t])), (a_d, .inl (k_d, 16, .inl (fun _ => 0))), (a_b, .inl (k_b, 16, .inl (fun _ => 0))), (a_c, .inl (k_c, 16, .inl (fun _ => 0)))] s.heap.size = A at hD ⊢
  have hA : ∀ q : Nat, s.heap.size ≤ q → A q := fun q h => by rw [← hAe]; exact Or.inr h
  have hS : va_S A s.heap s.heap [] := va_S.rf
  have hP : va_P (dC, dI) vwCl [(a_u, .inr (2, [.ref a_d, .ref a_b, .ref a_c, .ref a_q, .int 0, .int 0, .int 0, .int 0, .ref a_s, .int 0, .int t])), (a_d, .inl (k_d, 16, .inl (fun _ => 0))), (a_b, .inl (k_b, 16, .inl (fun _ => 0))), (a_c, .inl (k_c, 16, .inl (fun _ => 0)))] s.heap := hP
  have hl := lv_entry ([.ref a_u]) (n := 2) (Nat.le_of_ble_eq_true rfl)
  rw [lg_entry_eq]
  generalize (lg_sl ([.ref a_u]) ++ List.replicate (2 - (lg_sl ([.ref a_u])).length) Slot.unset).toArray = ls at hl ⊢
  have hl : lv_has ls 2 [(0, .ref a_u)] := hl
  refine lv_aload_n hx hb dX2_tick_0 rfl (lv_at hl 0 rfl) ?_
  refine lv_dup hx hb dX2_tick_1 rfl ?_
  refine va_get (D := (dC, dI)) (ci := 2) (v := .int t) (C := RX2) (T := TX2) (N := 11) hx hb hts zx_2 hown hK hP 0 rfl rfl 10 (by decide) (hts (.fieldLink RX2 28 "KeyboardKit$KeyUnit" "ticksToScan" "I") zw_157) (fun _ h9 => h9) rfl dX2_tick_2 ?_
  refine lv_iconst (v := 1) hx hb dX2_tick_5 (by decide) ?_
  refine lv_isub hx hb dX2_tick_6 ?_
  refine lv_topi (fun v_1 ev_1 => ?_)
  refine va_put (D := (dC, dI)) (ci := 2) (v := .int v_1) (ty := .int) (C := RX2) (T := TX2) (N := 11) hx hb hts zx_2 tyX2 tyX2_ok nmX2 hown hK hP hD hS 0 rfl rfl 10 (by decide) (hts (.fieldLink RX2 28 "KeyboardKit$KeyUnit" "ticksToScan" "I") zw_157) (fun _ h9 => h9) rfl (by decide +kernel) rfl rfl (Nat.le_of_ble_eq_true rfl) dX2_tick_7 (fun H locs hP hD hS => ?_)
  have hP : va_P (dC, dI) vwCl [(a_u, .inr (2, [.ref a_d, .ref a_b, .ref a_c, .ref a_q, .int 0, .int 0, .int 0, .int 0, .ref a_s, .int 0, .int v_1])), (a_d, .inl (k_d, 16, .inl (fun _ => 0))), (a_b, .inl (k_b, 16, .inl (fun _ => 0))), (a_c, .inl (k_c, 16, .inl (fun _ => 0)))] H := hP
  have hD : va_D A [(a_u, .inr (2, [.ref a_d, .ref a_b, .ref a_c, .ref a_q, .int 0, .int 0, .int 0, .int 0, .ref a_s, .int 0, .int v_1])), (a_d, .inl (k_d, 16, .inl (fun _ => 0))), (a_b, .inl (k_b, 16, .inl (fun _ => 0))), (a_c, .inl (k_c, 16, .inl (fun _ => 0)))] := hD
  refine lv_aload_n hx hb dX2_tick_10 rfl (lv_at hl 0 rfl) ?_
  refine va_get (D := (dC, dI)) (ci := 2) (v := .int v_1) (C := RX2) (T := TX2) (N := 11) hx hb hts zx_2 hown hK hP 0 rfl rfl 10 (by decide) (hts (.fieldLink RX2 28 "KeyboardKit$KeyUnit" "ticksToScan" "I") zw_157) (fun _ h9 => h9) rfl dX2_tick_11 ?_
  refine lv_if_ne (tgt := 42) hx hb dX2_tick_14 (by decide) (fun c_2 => ?_) (fun c_2 => ?_)
  · have hP9 := hP.sub (ws' := [(a_u, .inr (2, [.ref a_d, .ref a_b, .ref a_c, .ref a_q, .int 0, .int 0, .int 0, .int 0, .ref a_s, .int 0, .int v_1])), (a_d, .inl (k_d, 16, .inl (fun _ => 0))), (a_b, .inl (k_b, 16, .inl (fun _ => 0))), (a_c, .inl (k_c, 16, .inl (fun _ => 0)))]) [0, 1, 2, 3] rfl
    have hD9 := hD.sub (ws' := [(a_u, .inr (2, [.ref a_d, .ref a_b, .ref a_c, .ref a_q, .int 0, .int 0, .int 0, .int 0, .ref a_s, .int 0, .int v_1])), (a_d, .inl (k_d, 16, .inl (fun _ => 0))), (a_b, .inl (k_b, 16, .inl (fun _ => 0))), (a_c, .inl (k_c, 16, .inl (fun _ => 0)))]) [0, 1, 2, 3] (by decide) rfl
    have hK9 := hK.sub (tys' := [(k_d, .boolean), (k_b, .boolean), (k_c, .boolean)]) [0, 1, 2] rfl
    exact W.vret hx hb hr (fun t9 ht hW => ⟨⟨v_1, rfl, trivial, by rw [ht]; exact hP9, va_K.moved hW.alike hK9, hD9⟩, hS.F ht⟩) hS.2.2 dX2_tick_42
  · refine lv_aload_n hx hb dX2_tick_17 rfl (lv_at hl 0 rfl) ?_
    refine lv_bipush (v := 64) hx hb dX2_tick_18 (by decide) ?_
    refine va_put (D := (dC, dI)) (ci := 2) (v := .int 64) (ty := .int) (C := RX2) (T := TX2) (N := 11) hx hb hts zx_2 tyX2 tyX2_ok nmX2 hown hK hP hD hS 0 rfl rfl 10 (by decide) (hts (.fieldLink RX2 28 "KeyboardKit$KeyUnit" "ticksToScan" "I") zw_157) (fun _ h9 => h9) rfl (by decide +kernel) rfl rfl (Nat.le_of_ble_eq_true rfl) dX2_tick_20 (fun H locs hP hD hS => ?_)
    have hP : va_P (dC, dI) vwCl [(a_u, .inr (2, [.ref a_d, .ref a_b, .ref a_c, .ref a_q, .int 0, .int 0, .int 0, .int 0, .ref a_s, .int 0, .int 64])), (a_d, .inl (k_d, 16, .inl (fun _ => 0))), (a_b, .inl (k_b, 16, .inl (fun _ => 0))), (a_c, .inl (k_c, 16, .inl (fun _ => 0)))] H := hP
    have hD : va_D A [(a_u, .inr (2, [.ref a_d, .ref a_b, .ref a_c, .ref a_q, .int 0, .int 0, .int 0, .int 0, .ref a_s, .int 0, .int 64])), (a_d, .inl (k_d, 16, .inl (fun _ => 0))), (a_b, .inl (k_b, 16, .inl (fun _ => 0))), (a_c, .inl (k_c, 16, .inl (fun _ => 0)))] := hD
    refine lv_iconst (v := 0) hx hb dX2_tick_23 (by decide) ?_
    refine lv_istore_n (lv' := [(1, .int 0), (0, .ref a_u)]) hx hb dX2_tick_24 rfl hl (by decide) rfl (fun ls hl => ?_)
    have loop : ∀ (n j : Nat), 16 + 1 ≤ j + n → j ≤ 16 → ∀ (H : Heap) (locs : List Loc) (ls : Array Slot), va_P (dC, dI) vwCl [(a_u, .inr (2, [.ref a_d, .ref a_b, .ref a_c, .ref a_q, .int 0, .int 0, .int 0, .int 0, .ref a_s, .int 0, .int 64])), (a_d, .inl (k_d, 16, .inl (fun _ => 0))), (a_b, .inl (k_b, 16, .inl (fun _ => 0))), (a_c, .inl (k_c, 16, .inl (fun _ => 0)))] H → va_D A [(a_u, .inr (2, [.ref a_d, .ref a_b, .ref a_c, .ref a_q, .int 0, .int 0, .int 0, .int 0, .ref a_s, .int 0, .int 64])), (a_d, .inl (k_d, 16, .inl (fun _ => 0))), (a_b, .inl (k_b, 16, .inl (fun _ => 0))), (a_c, .inl (k_c, 16, .inl (fun _ => 0)))] → va_S A s.heap H locs → lv_has ls 2 [(1, .int (nI j)), (0, .ref a_u)] → W p l e (headSpec (zq yX2_tick cX2_tick 2 none) ({ frames := 1, cells := 0, slots := 0, locals := 21 })).room s m ([.ref a_u] : List Value).toArray below meth c H locs 0 0 (MQ below (va_Qv (fun _ => True) (fun (u : Int32) t => zc_B (dC, dI) A [(a_u, .inr (2, [.ref a_d, .ref a_b, .ref a_c, .ref a_q, .int 0, .int 0, .int 0, .int 0, .ref a_s, .int 0, .int u])), (a_d, .inl (k_d, 16, .inl (fun _ => 0))), (a_b, .inl (k_b, 16, .inl (fun _ => 0))), (a_c, .inl (k_c, 16, .inl (fun _ => 0)))] [(k_d, .boolean), (k_b, .boolean), (k_c, .boolean)] t) A) ([.ref a_u] : List Value).toArray s 0 0 A) (F0 m 25 ls []) := by
      intro n
      induction n with
      | zero => intro j h1 h2; exact absurd h1 (by omega)
      | succ n ih =>
        intro j hj1 hj2 H locs ls hP hD hS hl
        refine lv_iload_n hx hb dX2_tick_25 rfl (lv_at hl 0 rfl) ?_
        refine lv_bipush (v := 16) hx hb dX2_tick_26 (by decide) ?_
        by_cases hj : j < 16
        · refine lv_icmp_ge (tgt := 42) hx hb dX2_tick_28 (by decide) (fun c_3 => absurd c_3 (show ¬ nI 16 ≤ nI j from nI_ge hj (by decide))) (fun c_3 => ?_)
          refine lv_aload_n hx hb dX2_tick_31 rfl (lv_at hl 1 rfl) ?_
          refine lv_iload_n hx hb dX2_tick_32 rfl (lv_at hl 0 rfl) ?_
          refine zc_v (wr := []) hP hD hS hA [0, 1, 2, 3] [] rfl rfl (by decide) (by decide) (va_runV (As := [.int (nI j)]) (rest := []) ⟨hx, hb, hml, hown, hts⟩ (c_scan l dC dI a_u a_d a_b a_c a_q a_s k_d k_b k_c 64 (nI j) (vp_in_nI hj (by decide)) _) (cwV 1 hts (zg_V zw_573 zw_575 zw_38 zw_85 zw_576) rfl rfl rfl (by decide +kernel) ⟨Nat.le_of_ble_eq_true rfl, Nat.le_of_ble_eq_true rfl⟩) ⟨zc_blind, va_recv hK hP (ci := 2) (q0 := 0) rfl rfl, zc_start hP hD hK hN [0, 1, 2, 3] [0, 1, 2] rfl (by decide) rfl⟩ rfl rfl hl.1 rfl (lv_room (Nat.le_of_ble_eq_true rfl)) dX2_tick_33 ⟨Nat.le_of_ble_eq_true rfl, Nat.le_of_ble_eq_true rfl⟩) (fun u_4 H locs hw hK1 hP hD hS => ?_)
          have hP : va_P (dC, dI) vwCl [(a_u, .inr (2, [.ref a_d, .ref a_b, .ref a_c, .ref a_q, .int 0, .int 0, .int 0, .int 0, .ref a_s, .int 0, .int 64])), (a_d, .inl (k_d, 16, .inl (fun _ => 0))), (a_b, .inl (k_b, 16, .inl (fun _ => 0))), (a_c, .inl (k_c, 16, .inl (fun _ => 0)))] H := hP
          have hD : va_D A [(a_u, .inr (2, [.ref a_d, .ref a_b, .ref a_c, .ref a_q, .int 0, .int 0, .int 0, .int 0, .ref a_s, .int 0, .int 64])), (a_d, .inl (k_d, 16, .inl (fun _ => 0))), (a_b, .inl (k_b, 16, .inl (fun _ => 0))), (a_c, .inl (k_c, 16, .inl (fun _ => 0)))] := hD
          refine lv_iinc (v := (nI (j + 1))) (lv' := [(1, .int (nI (j + 1))), (0, .ref a_u)]) hx hb dX2_tick_36 hl (k := 0) rfl (nI_1 j) (by decide) rfl (fun ls hl => ?_)
          refine lv_goto (tgt := 25) hx hb dX2_tick_39 (by decide) ?_
          exact ih (j + 1) (by omega) (by omega) _ _ _ (hP.sub [0, 1, 2, 3] rfl) (hD.sub [0, 1, 2, 3] (by decide) rfl) hS (lv_sub hl [0, 1] rfl)
        · refine lv_icmp_ge (tgt := 42) hx hb dX2_tick_28 (by decide) (fun c_5 => ?_) (fun c_5 => absurd (show nI 16 ≤ nI j from nI_le (by omega) (by omega)) c_5)
          have hP9 := hP.sub (ws' := [(a_u, .inr (2, [.ref a_d, .ref a_b, .ref a_c, .ref a_q, .int 0, .int 0, .int 0, .int 0, .ref a_s, .int 0, .int 64])), (a_d, .inl (k_d, 16, .inl (fun _ => 0))), (a_b, .inl (k_b, 16, .inl (fun _ => 0))), (a_c, .inl (k_c, 16, .inl (fun _ => 0)))]) [0, 1, 2, 3] rfl
          have hD9 := hD.sub (ws' := [(a_u, .inr (2, [.ref a_d, .ref a_b, .ref a_c, .ref a_q, .int 0, .int 0, .int 0, .int 0, .ref a_s, .int 0, .int 64])), (a_d, .inl (k_d, 16, .inl (fun _ => 0))), (a_b, .inl (k_b, 16, .inl (fun _ => 0))), (a_c, .inl (k_c, 16, .inl (fun _ => 0)))]) [0, 1, 2, 3] (by decide) rfl
          have hK9 := hK.sub (tys' := [(k_d, .boolean), (k_b, .boolean), (k_c, .boolean)]) [0, 1, 2] rfl
          exact W.vret hx hb hr (fun t9 ht hW => ⟨⟨64, rfl, trivial, by rw [ht]; exact hP9, va_K.moved hW.alike hK9, hD9⟩, hS.F ht⟩) hS.2.2 dX2_tick_42
    exact loop (16 + 1) 0 (by omega) (by omega) _ _ _ hP hD hS (lv_sub hl [0, 1] (by rw [nI_0]; rfl))
end
section
theorem dX1_serve_0 : decode cX1_serve 0 = .ok (.aload_n 0, 1) := by decide +kernel
theorem dX1_serve_1 : decode cX1_serve 1 = .ok (.getfield 13, 3) := by decide +kernel
theorem dX1_serve_29 : decode cX1_serve 29 = .ok (.iconst 0, 1) := by decide +kernel
theorem dX1_serve_30 : decode cX1_serve 30 = .ok (.istore_n 2, 1) := by decide +kernel
theorem dX1_serve_31 : decode cX1_serve 31 = .ok (.iload_n 2, 1) := by decide +kernel
theorem dX1_serve_32 : decode cX1_serve 32 = .ok (.ifCond .ne 5, 3) := by decide +kernel
theorem dX1_serve_35 : decode cX1_serve 35 = .ok (.iconst 0, 1) := by decide +kernel
theorem dX1_serve_36 : decode cX1_serve 36 = .ok (.ireturn, 1) := by decide +kernel
theorem dX1_serve_4 : decode cX1_serve 4 = .ok (.ifCond .eq 25, 3) := by decide +kernel
theorem dX4_executeGroup0_0 : decode cX4_executeGroup0 0 = .ok (.iload_n 2, 1) := by decide +kernel
theorem dX4_executeGroup0_1 : decode cX4_executeGroup0 1 = .ok (.tableswitch 103 0 6 #[43, 51, 59, 67, 75, 83, 91], 43) := by decide +kernel
theorem dX4_executeGroup0_109 : decode cX4_executeGroup0 109 = .ok (.return_, 1) := by decide +kernel
theorem dX4_executeGroup0_44 : decode cX4_executeGroup0 44 = .ok (.aload_n 0, 1) := by decide +kernel
theorem dX4_executeGroup0_45 : decode cX4_executeGroup0 45 = .ok (.iload_n 1, 1) := by decide +kernel
theorem dX4_executeGroup0_46 : decode cX4_executeGroup0 46 = .ok (.invokevirtual 110, 3) := by decide +kernel
theorem dX4_executeGroup0_49 : decode cX4_executeGroup0 49 = .ok (.goto 60, 3) := by decide +kernel
theorem dX4_execute_0 : decode cX4_execute 0 = .ok (.iload_n 1, 1) := by decide +kernel
theorem dX4_execute_1 : decode cX4_execute 1 = .ok (.iconst 3, 1) := by decide +kernel
theorem dX4_execute_10 : decode cX4_execute 10 = .ok (.iand, 1) := by decide +kernel
theorem dX4_execute_11 : decode cX4_execute 11 = .ok (.istore_n 3, 1) := by decide +kernel
theorem dX4_execute_12 : decode cX4_execute 12 = .ok (.iload_n 1, 1) := by decide +kernel
theorem dX4_execute_13 : decode cX4_execute 13 = .ok (.bipush 6, 2) := by decide +kernel
theorem dX4_execute_15 : decode cX4_execute 15 = .ok (.ishr, 1) := by decide +kernel
theorem dX4_execute_16 : decode cX4_execute 16 = .ok (.tableswitch 59 0 2 #[28, 37, 46], 28) := by decide +kernel
theorem dX4_execute_2 : decode cX4_execute 2 = .ok (.ishr, 1) := by decide +kernel
theorem dX4_execute_3 : decode cX4_execute 3 = .ok (.bipush 7, 2) := by decide +kernel
theorem dX4_execute_44 : decode cX4_execute 44 = .ok (.aload_n 0, 1) := by decide +kernel
theorem dX4_execute_45 : decode cX4_execute 45 = .ok (.iload_n 2, 1) := by decide +kernel
theorem dX4_execute_46 : decode cX4_execute 46 = .ok (.iload_n 3, 1) := by decide +kernel
theorem dX4_execute_47 : decode cX4_execute 47 = .ok (.invokevirtual 93, 3) := by decide +kernel
theorem dX4_execute_5 : decode cX4_execute 5 = .ok (.iand, 1) := by decide +kernel
theorem dX4_execute_50 : decode cX4_execute 50 = .ok (.goto 31, 3) := by decide +kernel
theorem dX4_execute_6 : decode cX4_execute 6 = .ok (.istore_n 2, 1) := by decide +kernel
theorem dX4_execute_7 : decode cX4_execute 7 = .ok (.iload_n 1, 1) := by decide +kernel
theorem dX4_execute_8 : decode cX4_execute 8 = .ok (.bipush 7, 2) := by decide +kernel
theorem dX4_execute_81 : decode cX4_execute 81 = .ok (.return_, 1) := by decide +kernel
theorem dX4_useMask_0 : decode cX4_useMask 0 = .ok (.iload_n 1, 1) := by decide +kernel
theorem dX4_useMask_1 : decode cX4_useMask 1 = .ok (.iconst 4, 1) := by decide +kernel
theorem dX4_useMask_2 : decode cX4_useMask 2 = .ok (.if_icmp .ne 35, 3) := by decide +kernel
theorem dX4_useMask_37 : decode cX4_useMask 37 = .ok (.iload_n 1, 1) := by decide +kernel
theorem dX4_useMask_38 : decode cX4_useMask 38 = .ok (.bipush 6, 2) := by decide +kernel
theorem dX4_useMask_40 : decode cX4_useMask 40 = .ok (.if_icmp .ne 17, 3) := by decide +kernel
theorem dX4_useMask_57 : decode cX4_useMask 57 = .ok (.return_, 1) := by decide +kernel
set_option maxHeartbeats 4000000 in
set_option maxRecDepth 100000 in
/-- Interrupts.serve, off: none is due -/
theorem c_serve (l : Launch) (dC : Nat → ClassId) (dI : Nat → Nat → Nat) (a_i : Nat) (b : Int32) (sz : Nat) : Met l yX1_serve (zq yX1_serve cX1_serve 3 (some .int)) ({ frames := 0, cells := 0, slots := 0, locals := 0 }) (va_Pc [.ref a_i, .int b] (zc_P (dC, dI) [(a_i, .inr (1, [.int 0, .int 0, .int 7, .int 0, .int 0, .int 0, .int 0]))] [] sz)) (va_Qi (fun r _ => r = 0) (fun (u : Unit) t => zc_B (dC, dI) (va_A [(a_i, .inr (1, [.int 0, .int 0, .int 7, .int 0, .int 0, .int 0, .int 0]))] sz) [(a_i, .inr (1, [.int 0, .int 0, .int 7, .int 0, .int 0, .int 0, .int 0]))] [] t) (va_A [(a_i, .inr (1, [.int 0, .int 0, .int 7, .int 0, .int 0, .int 0, .int 0]))] sz)) 0 0 (va_A [(a_i, .inr (1, [.int 0, .int 0, .int 7, .int 0, .int 0, .int 0, .int 0]))] sz) := by
  refine Met.ofW (cc := cX1_serve) (maxL := 3) (ret := (some .int)) (by decide) rfl ?_
  intro p e s m args below meth c s₁ B hml hv
  obtain ⟨rfl, hsz, hP, hK, hD0, hN⟩ := hv
  have hx := B.exec
  have hb := B.bytes
  have hr := B.returns
  have hts : ∀ w ∈ zw, w.before _ s = true := fun w h => atoms_spec (ws := (zq yX1_serve cX1_serve 3 (some .int))) B.pre w (List.mem_cons_of_mem _ h)
  have hown : s.vm.findClass RX1 = some m.cls := findClass_of_methodNamed B.named
  have hlocks := B.notSynchronized
  subst hsz
  have hD := hD0.self (sz := s.heap.size)
  generalize hAe : va_A [(a_i, .inr (1, [.int 0, .int 0, .int 7, .int 0, .int 0, .int 0, .int 0]))] s.heap.size = A at hD ⊢
  have hA : ∀ q : Nat, s.heap.size ≤ q → A q := fun q h => by rw [← hAe]; exact Or.inr h
  have hS : va_S A s.heap s.heap [] := va_S.rf
  have hP : va_P (dC, dI) vwCl [(a_i, .inr (1, [.int 0, .int 0, .int 7, .int 0, .int 0, .int 0, .int 0]))] s.heap := hP
  have hl := lv_entry ([.ref a_i, .int b]) (n := 3) (Nat.le_of_ble_eq_true rfl)
  rw [lg_entry_eq]
  generalize (lg_sl ([.ref a_i, .int b]) ++ List.replicate (3 - (lg_sl ([.ref a_i, .int b])).length) Slot.unset).toArray = ls at hl ⊢
  have hl : lv_has ls 3 [(0, .ref a_i), (1, .int b)] := hl
  refine lv_aload_n hx hb dX1_serve_0 rfl (lv_at hl 0 rfl) ?_
  refine va_get (D := (dC, dI)) (ci := 1) (v := .int 0) (C := RX1) (T := TX1) (N := 7) hx hb hts zx_1 hown hK hP 0 rfl rfl 0 (by decide) (hts (.fieldLink RX1 13 "KeyboardKit$Interrupts" "on" "Z") zw_188) (fun _ h9 => h9) rfl dX1_serve_1 ?_
  refine lv_if_eq (tgt := 29) hx hb dX1_serve_4 (by decide) (fun c_1 => ?_) (fun c_1 => absurd (by decide) c_1)
  refine lv_iconst (v := 0) hx hb dX1_serve_29 (by decide) ?_
  refine lv_istore_n (lv' := [(2, .int 0), (0, .ref a_i), (1, .int b)]) hx hb dX1_serve_30 rfl hl (by decide) rfl (fun ls hl => ?_)
  refine lv_iload_n hx hb dX1_serve_31 rfl (lv_at hl 0 rfl) ?_
  refine lv_if_ne (tgt := 37) hx hb dX1_serve_32 (by decide) (fun c_2 => absurd c_2 (by decide)) (fun c_2 => ?_)
  refine lv_iconst (v := 0) hx hb dX1_serve_35 (by decide) ?_
  have hP9 := hP.sub (ws' := [(a_i, .inr (1, [.int 0, .int 0, .int 7, .int 0, .int 0, .int 0, .int 0]))]) [0] rfl
  have hD9 := hD.sub (ws' := [(a_i, .inr (1, [.int 0, .int 0, .int 7, .int 0, .int 0, .int 0, .int 0]))]) [0] (by decide) rfl
  have hK9 := hK.sub (tys' := []) [] rfl
  exact W.iret (v := 0) hx hb hr (fun t9 ht hW => ⟨⟨0, (), rfl, rfl, by rw [ht]; exact hP9, va_K.moved hW.alike hK9, hD9⟩, hS.F ht⟩) hS.2.2 dX1_serve_36
set_option maxHeartbeats 4000000 in
set_option maxRecDepth 100000 in
/-- Processor.useMask(0): nothing -/
theorem c_mask (l : Launch) (dC : Nat → ClassId) (dI : Nat → Nat → Nat) (a_p : Nat) (a_m : Nat) (a_t : Nat) (a_u : Nat) (a_i : Nat) (a_o : Nat) (a_r : Nat) (a_f : Nat) (pc : Int32) (tk : Int32) (sz : Nat) : Met l yX4_useMask (zq yX4_useMask cX4_useMask 2 none) ({ frames := 0, cells := 0, slots := 0, locals := 0 }) (va_Pc [.ref a_p, .int 0] (zc_P (dC, dI) [(a_p, .inr (4, [.ref a_m, .ref a_t, .ref a_u, .ref a_i, .ref a_o, .ref a_r, .ref a_f, .int 0, .int pc, .int 0, .int tk]))] [] sz)) (va_Qv (fun _ => True) (fun (u : Unit) t => zc_B (dC, dI) (va_A [(a_p, .inr (4, [.ref a_m, .ref a_t, .ref a_u, .ref a_i, .ref a_o, .ref a_r, .ref a_f, .int 0, .int pc, .int 0, .int tk]))] sz) [(a_p, .inr (4, [.ref a_m, .ref a_t, .ref a_u, .ref a_i, .ref a_o, .ref a_r, .ref a_f, .int 0, .int pc, .int 0, .int tk]))] [] t) (va_A [(a_p, .inr (4, [.ref a_m, .ref a_t, .ref a_u, .ref a_i, .ref a_o, .ref a_r, .ref a_f, .int 0, .int pc, .int 0, .int tk]))] sz)) 0 0 (va_A [(a_p, .inr (4, [.ref a_m, .ref a_t, .ref a_u, .ref a_i, .ref a_o, .ref a_r, .ref a_f, .int 0, .int pc, .int 0, .int tk]))] sz) := by
  refine Met.ofW (cc := cX4_useMask) (maxL := 2) (ret := none) (by decide) rfl ?_
  intro p e s m args below meth c s₁ B hml hv
  obtain ⟨rfl, hsz, hP, hK, hD0, hN⟩ := hv
  have hx := B.exec
  have hb := B.bytes
  have hr := B.returns
  have hts : ∀ w ∈ zw, w.before _ s = true := fun w h => atoms_spec (ws := (zq yX4_useMask cX4_useMask 2 none)) B.pre w (List.mem_cons_of_mem _ h)
  have hown : s.vm.findClass RX4 = some m.cls := findClass_of_methodNamed B.named
  have hlocks := B.notSynchronized
  subst hsz
  have hD := hD0.self (sz := s.heap.size)
  generalize hAe : va_A [(a_p, .inr (4, [.ref a_m, .ref a_t, .ref a_u, .ref a_i, .ref a_o, .ref a_r, .ref a_f, .int 0, .int pc, .int 0, .int tk]))] s.heap.size = A at hD ⊢
  have hA : ∀ q : Nat, s.heap.size ≤ q → A q := fun q h => by rw [← hAe]; exact Or.inr h
  have hS : va_S A s.heap s.heap [] := va_S.rf
  have hP : va_P (dC, dI) vwCl [(a_p, .inr (4, [.ref a_m, .ref a_t, .ref a_u, .ref a_i, .ref a_o, .ref a_r, .ref a_f, .int 0, .int pc, .int 0, .int tk]))] s.heap := hP
  have hl := lv_entry ([.ref a_p, .int 0]) (n := 2) (Nat.le_of_ble_eq_true rfl)
  rw [lg_entry_eq]
  generalize (lg_sl ([.ref a_p, .int 0]) ++ List.replicate (2 - (lg_sl ([.ref a_p, .int 0])).length) Slot.unset).toArray = ls at hl ⊢
  have hl : lv_has ls 2 [(0, .ref a_p), (1, .int 0)] := hl
  refine lv_iload_n hx hb dX4_useMask_0 rfl (lv_at hl 1 rfl) ?_
  refine lv_iconst (v := 4) hx hb dX4_useMask_1 (by decide) ?_
  refine lv_icmp_ne (tgt := 37) hx hb dX4_useMask_2 (by decide) (fun c_1 => ?_) (fun c_1 => absurd (by decide) c_1)
  refine lv_iload_n hx hb dX4_useMask_37 rfl (lv_at hl 1 rfl) ?_
  refine lv_bipush (v := 6) hx hb dX4_useMask_38 (by decide) ?_
  refine lv_icmp_ne (tgt := 57) hx hb dX4_useMask_40 (by decide) (fun c_2 => ?_) (fun c_2 => absurd (by decide) c_2)
  have hP9 := hP.sub (ws' := [(a_p, .inr (4, [.ref a_m, .ref a_t, .ref a_u, .ref a_i, .ref a_o, .ref a_r, .ref a_f, .int 0, .int pc, .int 0, .int tk]))]) [0] rfl
  have hD9 := hD.sub (ws' := [(a_p, .inr (4, [.ref a_m, .ref a_t, .ref a_u, .ref a_i, .ref a_o, .ref a_r, .ref a_f, .int 0, .int pc, .int 0, .int tk]))]) [0] (by decide) rfl
  have hK9 := hK.sub (tys' := []) [] rfl
  exact W.vret hx hb hr (fun t9 ht hW => ⟨⟨(), rfl, trivial, by rw [ht]; exact hP9, va_K.moved hW.alike hK9, hD9⟩, hS.F ht⟩) hS.2.2 dX4_useMask_57
set_option maxHeartbeats 4000000 in
set_option maxRecDepth 100000 in
/-- Processor.executeGroup0(0, 0): nothing -/
theorem c_g0 (l : Launch) (dC : Nat → ClassId) (dI : Nat → Nat → Nat) (a_p : Nat) (a_m : Nat) (a_t : Nat) (a_u : Nat) (a_i : Nat) (a_o : Nat) (a_r : Nat) (a_f : Nat) (pc : Int32) (tk : Int32) (sz : Nat) : Met l yX4_executeGroup0 (zq yX4_executeGroup0 cX4_executeGroup0 3 none) ({ frames := 1, cells := 0, slots := 0, locals := 21 }) (va_Pc [.ref a_p, .int 0, .int 0] (zc_P (dC, dI) [(a_p, .inr (4, [.ref a_m, .ref a_t, .ref a_u, .ref a_i, .ref a_o, .ref a_r, .ref a_f, .int 0, .int pc, .int 0, .int tk]))] [] sz)) (va_Qv (fun _ => True) (fun (u : Unit) t => zc_B (dC, dI) (va_A [(a_p, .inr (4, [.ref a_m, .ref a_t, .ref a_u, .ref a_i, .ref a_o, .ref a_r, .ref a_f, .int 0, .int pc, .int 0, .int tk]))] sz) [(a_p, .inr (4, [.ref a_m, .ref a_t, .ref a_u, .ref a_i, .ref a_o, .ref a_r, .ref a_f, .int 0, .int pc, .int 0, .int tk]))] [] t) (va_A [(a_p, .inr (4, [.ref a_m, .ref a_t, .ref a_u, .ref a_i, .ref a_o, .ref a_r, .ref a_f, .int 0, .int pc, .int 0, .int tk]))] sz)) 0 0 (va_A [(a_p, .inr (4, [.ref a_m, .ref a_t, .ref a_u, .ref a_i, .ref a_o, .ref a_r, .ref a_f, .int 0, .int pc, .int 0, .int tk]))] sz) := by
  refine Met.ofW (cc := cX4_executeGroup0) (maxL := 3) (ret := none) (by decide) rfl ?_
  intro p e s m args below meth c s₁ B hml hv
  obtain ⟨rfl, hsz, hP, hK, hD0, hN⟩ := hv
  have hx := B.exec
  have hb := B.bytes
  have hr := B.returns
  have hts : ∀ w ∈ zw, w.before _ s = true := fun w h => atoms_spec (ws := (zq yX4_executeGroup0 cX4_executeGroup0 3 none)) B.pre w (List.mem_cons_of_mem _ h)
  have hown : s.vm.findClass RX4 = some m.cls := findClass_of_methodNamed B.named
  have hlocks := B.notSynchronized
  subst hsz
  have hD := hD0.self (sz := s.heap.size)
  generalize hAe : va_A [(a_p, .inr (4, [.ref a_m, .ref a_t, .ref a_u, .ref a_i, .ref a_o, .ref a_r, .ref a_f, .int 0, .int pc, .int 0, .int tk]))] s.heap.size = A at hD ⊢
  have hA : ∀ q : Nat, s.heap.size ≤ q → A q := fun q h => by rw [← hAe]; exact Or.inr h
  have hS : va_S A s.heap s.heap [] := va_S.rf
  have hP : va_P (dC, dI) vwCl [(a_p, .inr (4, [.ref a_m, .ref a_t, .ref a_u, .ref a_i, .ref a_o, .ref a_r, .ref a_f, .int 0, .int pc, .int 0, .int tk]))] s.heap := hP
  have hl := lv_entry ([.ref a_p, .int 0, .int 0]) (n := 3) (Nat.le_of_ble_eq_true rfl)
  rw [lg_entry_eq]
  generalize (lg_sl ([.ref a_p, .int 0, .int 0]) ++ List.replicate (3 - (lg_sl ([.ref a_p, .int 0, .int 0])).length) Slot.unset).toArray = ls at hl ⊢
  have hl : lv_has ls 3 [(0, .ref a_p), (1, .int 0), (2, .int 0)] := hl
  refine lv_iload_n hx hb dX4_executeGroup0_0 rfl (lv_at hl 2 rfl) ?_
  refine lv_tableIn (off := 43) (tgt := 44) hx hb dX4_executeGroup0_1 (by decide) (by decide) rfl (by decide) ?_
  refine lv_aload_n hx hb dX4_executeGroup0_44 rfl (lv_at hl 0 rfl) ?_
  refine lv_iload_n hx hb dX4_executeGroup0_45 rfl (lv_at hl 1 rfl) ?_
  refine zc_v (wr := []) hP hD hS hA [0] [] rfl rfl (by decide) (by decide) (va_runV (As := [.int 0]) (rest := []) ⟨hx, hb, hml, hown, hts⟩ (c_mask l dC dI a_p a_m a_t a_u a_i a_o a_r a_f pc tk _) (cwV 1 hts (zg_V zw_349 zw_351 zw_6 zw_87 zw_352) rfl rfl rfl (by decide +kernel) ⟨Nat.le_of_ble_eq_true rfl, Nat.le_of_ble_eq_true rfl⟩) ⟨zc_blind, va_recv hK hP (ci := 4) (q0 := 0) rfl rfl, zc_start hP hD hK hN [0] [] rfl (by decide) rfl⟩ rfl rfl hl.1 rfl (lv_room (Nat.le_of_ble_eq_true rfl)) dX4_executeGroup0_46 ⟨Nat.le_of_ble_eq_true rfl, Nat.le_of_ble_eq_true rfl⟩) (fun u_1 H locs hw hK1 hP hD hS => ?_)
  have hP : va_P (dC, dI) vwCl [(a_p, .inr (4, [.ref a_m, .ref a_t, .ref a_u, .ref a_i, .ref a_o, .ref a_r, .ref a_f, .int 0, .int pc, .int 0, .int tk]))] H := hP
  have hD : va_D A [(a_p, .inr (4, [.ref a_m, .ref a_t, .ref a_u, .ref a_i, .ref a_o, .ref a_r, .ref a_f, .int 0, .int pc, .int 0, .int tk]))] := hD
  refine lv_goto (tgt := 109) hx hb dX4_executeGroup0_49 (by decide) ?_
  have hP9 := hP.sub (ws' := [(a_p, .inr (4, [.ref a_m, .ref a_t, .ref a_u, .ref a_i, .ref a_o, .ref a_r, .ref a_f, .int 0, .int pc, .int 0, .int tk]))]) [0] rfl
  have hD9 := hD.sub (ws' := [(a_p, .inr (4, [.ref a_m, .ref a_t, .ref a_u, .ref a_i, .ref a_o, .ref a_r, .ref a_f, .int 0, .int pc, .int 0, .int tk]))]) [0] (by decide) rfl
  have hK9 := hK.sub (tys' := []) [] rfl
  exact W.vret hx hb hr (fun t9 ht hW => ⟨⟨(), rfl, trivial, by rw [ht]; exact hP9, va_K.moved hW.alike hK9, hD9⟩, hS.F ht⟩) hS.2.2 dX4_executeGroup0_109
set_option maxHeartbeats 4000000 in
set_option maxRecDepth 100000 in
/-- Processor.execute(0): nothing -/
theorem c_exec (l : Launch) (dC : Nat → ClassId) (dI : Nat → Nat → Nat) (a_p : Nat) (a_m : Nat) (a_t : Nat) (a_u : Nat) (a_i : Nat) (a_o : Nat) (a_r : Nat) (a_f : Nat) (pc : Int32) (tk : Int32) (sz : Nat) : Met l yX4_execute (zq yX4_execute cX4_execute 4 none) ({ frames := 2, cells := 0, slots := 0, locals := 43 }) (va_Pc [.ref a_p, .int 0] (zc_P (dC, dI) [(a_p, .inr (4, [.ref a_m, .ref a_t, .ref a_u, .ref a_i, .ref a_o, .ref a_r, .ref a_f, .int 0, .int pc, .int 0, .int tk]))] [] sz)) (va_Qv (fun _ => True) (fun (u : Unit) t => zc_B (dC, dI) (va_A [(a_p, .inr (4, [.ref a_m, .ref a_t, .ref a_u, .ref a_i, .ref a_o, .ref a_r, .ref a_f, .int 0, .int pc, .int 0, .int tk]))] sz) [(a_p, .inr (4, [.ref a_m, .ref a_t, .ref a_u, .ref a_i, .ref a_o, .ref a_r, .ref a_f, .int 0, .int pc, .int 0, .int tk]))] [] t) (va_A [(a_p, .inr (4, [.ref a_m, .ref a_t, .ref a_u, .ref a_i, .ref a_o, .ref a_r, .ref a_f, .int 0, .int pc, .int 0, .int tk]))] sz)) 0 0 (va_A [(a_p, .inr (4, [.ref a_m, .ref a_t, .ref a_u, .ref a_i, .ref a_o, .ref a_r, .ref a_f, .int 0, .int pc, .int 0, .int tk]))] sz) := by
  refine Met.ofW (cc := cX4_execute) (maxL := 4) (ret := none) (by decide) rfl ?_
  intro p e s m args below meth c s₁ B hml hv
  obtain ⟨rfl, hsz, hP, hK, hD0, hN⟩ := hv
  have hx := B.exec
  have hb := B.bytes
  have hr := B.returns
  have hts : ∀ w ∈ zw, w.before _ s = true := fun w h => atoms_spec (ws := (zq yX4_execute cX4_execute 4 none)) B.pre w (List.mem_cons_of_mem _ h)
  have hown : s.vm.findClass RX4 = some m.cls := findClass_of_methodNamed B.named
  have hlocks := B.notSynchronized
  subst hsz
  have hD := hD0.self (sz := s.heap.size)
  generalize hAe : va_A [(a_p, .inr (4, [.ref a_m, .ref a_t, .ref a_u, .ref a_i, .ref a_o, .ref a_r, .ref a_f, .int 0, .int pc, .int 0, .int tk]))] s.heap.size = A at hD ⊢
  have hA : ∀ q : Nat, s.heap.size ≤ q → A q := fun q h => by rw [← hAe]; exact Or.inr h
  have hS : va_S A s.heap s.heap [] := va_S.rf
  have hP : va_P (dC, dI) vwCl [(a_p, .inr (4, [.ref a_m, .ref a_t, .ref a_u, .ref a_i, .ref a_o, .ref a_r, .ref a_f, .int 0, .int pc, .int 0, .int tk]))] s.heap := hP
  have hl := lv_entry ([.ref a_p, .int 0]) (n := 4) (Nat.le_of_ble_eq_true rfl)
  rw [lg_entry_eq]
  generalize (lg_sl ([.ref a_p, .int 0]) ++ List.replicate (4 - (lg_sl ([.ref a_p, .int 0])).length) Slot.unset).toArray = ls at hl ⊢
  have hl : lv_has ls 4 [(0, .ref a_p), (1, .int 0)] := hl
  refine lv_iload_n hx hb dX4_execute_0 rfl (lv_at hl 1 rfl) ?_
  refine lv_iconst (v := 3) hx hb dX4_execute_1 (by decide) ?_
  refine lv_ishr hx hb dX4_execute_2 ?_
  refine lv_topi (fun v_1 ev_1 => ?_)
  obtain rfl : v_1 = 0 := ev_1.trans (by decide)
  refine lv_bipush (v := 7) hx hb dX4_execute_3 (by decide) ?_
  refine lv_iand hx hb dX4_execute_5 ?_
  refine lv_topi (fun v_2 ev_2 => ?_)
  obtain rfl : v_2 = 0 := ev_2.trans (by decide)
  refine lv_istore_n (lv' := [(2, .int 0), (0, .ref a_p), (1, .int 0)]) hx hb dX4_execute_6 rfl hl (by decide) rfl (fun ls hl => ?_)
  refine lv_iload_n hx hb dX4_execute_7 rfl (lv_at hl 2 rfl) ?_
  refine lv_bipush (v := 7) hx hb dX4_execute_8 (by decide) ?_
  refine lv_iand hx hb dX4_execute_10 ?_
  refine lv_topi (fun v_3 ev_3 => ?_)
  obtain rfl : v_3 = 0 := ev_3.trans (by decide)
  refine lv_istore_n (lv' := [(3, .int 0), (2, .int 0), (0, .ref a_p), (1, .int 0)]) hx hb dX4_execute_11 rfl hl (by decide) rfl (fun ls hl => ?_)
  refine lv_iload_n hx hb dX4_execute_12 rfl (lv_at hl 3 rfl) ?_
  refine lv_bipush (v := 6) hx hb dX4_execute_13 (by decide) ?_
  refine lv_ishr hx hb dX4_execute_15 ?_
  refine lv_topi (fun v_4 ev_4 => ?_)
  obtain rfl : v_4 = 0 := ev_4.trans (by decide)
  refine lv_tableIn (off := 28) (tgt := 44) hx hb dX4_execute_16 (by decide) (by decide) rfl (by decide) ?_
  refine lv_aload_n hx hb dX4_execute_44 rfl (lv_at hl 2 rfl) ?_
  refine lv_iload_n hx hb dX4_execute_45 rfl (lv_at hl 1 rfl) ?_
  refine lv_iload_n hx hb dX4_execute_46 rfl (lv_at hl 0 rfl) ?_
  refine zc_v (wr := []) hP hD hS hA [0] [] rfl rfl (by decide) (by decide) (va_runV (As := [.int 0, .int 0]) (rest := []) ⟨hx, hb, hml, hown, hts⟩ (c_g0 l dC dI a_p a_m a_t a_u a_i a_o a_r a_f pc tk _) (cwV 2 hts (zg_V zw_345 zw_347 zw_5 zw_87 zw_348) rfl rfl rfl (by decide +kernel) ⟨Nat.le_of_ble_eq_true rfl, Nat.le_of_ble_eq_true rfl⟩) ⟨zc_blind, va_recv hK hP (ci := 4) (q0 := 0) rfl rfl, zc_start hP hD hK hN [0] [] rfl (by decide) rfl⟩ rfl rfl hl.1 rfl (lv_room (Nat.le_of_ble_eq_true rfl)) dX4_execute_47 ⟨Nat.le_of_ble_eq_true rfl, Nat.le_of_ble_eq_true rfl⟩) (fun u_5 H locs hw hK1 hP hD hS => ?_)
  have hP : va_P (dC, dI) vwCl [(a_p, .inr (4, [.ref a_m, .ref a_t, .ref a_u, .ref a_i, .ref a_o, .ref a_r, .ref a_f, .int 0, .int pc, .int 0, .int tk]))] H := hP
  have hD : va_D A [(a_p, .inr (4, [.ref a_m, .ref a_t, .ref a_u, .ref a_i, .ref a_o, .ref a_r, .ref a_f, .int 0, .int pc, .int 0, .int tk]))] := hD
  refine lv_goto (tgt := 81) hx hb dX4_execute_50 (by decide) ?_
  have hP9 := hP.sub (ws' := [(a_p, .inr (4, [.ref a_m, .ref a_t, .ref a_u, .ref a_i, .ref a_o, .ref a_r, .ref a_f, .int 0, .int pc, .int 0, .int tk]))]) [0] rfl
  have hD9 := hD.sub (ws' := [(a_p, .inr (4, [.ref a_m, .ref a_t, .ref a_u, .ref a_i, .ref a_o, .ref a_r, .ref a_f, .int 0, .int pc, .int 0, .int tk]))]) [0] (by decide) rfl
  have hK9 := hK.sub (tys' := []) [] rfl
  exact W.vret hx hb hr (fun t9 ht hW => ⟨⟨(), rfl, trivial, by rw [ht]; exact hP9, va_K.moved hW.alike hK9, hD9⟩, hS.F ht⟩) hS.2.2 dX4_execute_81
end
section
theorem dX4_passTicks_0 : decode cX4_passTicks 0 = .ok (.iconst 0, 1) := by decide +kernel
theorem dX4_passTicks_1 : decode cX4_passTicks 1 = .ok (.istore_n 2, 1) := by decide +kernel
theorem dX4_passTicks_11 : decode cX4_passTicks 11 = .ok (.invokevirtual 82, 3) := by decide +kernel
theorem dX4_passTicks_14 : decode cX4_passTicks 14 = .ok (.ifCond .eq 11, 3) := by decide +kernel
theorem dX4_passTicks_2 : decode cX4_passTicks 2 = .ok (.iload_n 2, 1) := by decide +kernel
theorem dX4_passTicks_25 : decode cX4_passTicks 25 = .ok (.aload_n 0, 1) := by decide +kernel
theorem dX4_passTicks_26 : decode cX4_passTicks 26 = .ok (.getfield 29, 3) := by decide +kernel
theorem dX4_passTicks_29 : decode cX4_passTicks 29 = .ok (.invokevirtual 91, 3) := by decide +kernel
theorem dX4_passTicks_3 : decode cX4_passTicks 3 = .ok (.iload_n 1, 1) := by decide +kernel
theorem dX4_passTicks_32 : decode cX4_passTicks 32 = .ok (.iinc 2 1, 3) := by decide +kernel
theorem dX4_passTicks_35 : decode cX4_passTicks 35 = .ok (.goto (-33), 3) := by decide +kernel
theorem dX4_passTicks_38 : decode cX4_passTicks 38 = .ok (.return_, 1) := by decide +kernel
theorem dX4_passTicks_4 : decode cX4_passTicks 4 = .ok (.if_icmp .ge 34, 3) := by decide +kernel
theorem dX4_passTicks_7 : decode cX4_passTicks 7 = .ok (.aload_n 0, 1) := by decide +kernel
theorem dX4_passTicks_8 : decode cX4_passTicks 8 = .ok (.getfield 25, 3) := by decide +kernel
set_option maxHeartbeats 4000000 in
set_option maxRecDepth 100000 in
/-- Processor.passTicks(4), nothing runs, no key down -/
theorem c_pass (l : Launch) (dC : Nat → ClassId) (dI : Nat → Nat → Nat) (a_p : Nat) (a_m : Nat) (a_t : Nat) (a_u : Nat) (a_i : Nat) (a_o : Nat) (a_r : Nat) (a_f : Nat) (a_d : Nat) (a_b : Nat) (a_c : Nat) (a_q : Nat) (a_s : Nat) (k_d : ClassId) (k_b : ClassId) (k_c : ClassId) (pc : Int32) (tk : Int32) (t : Int32) (sz : Nat) : Met l yX4_passTicks (zq yX4_passTicks cX4_passTicks 3 none) ({ frames := 2, cells := 0, slots := 0, locals := 42 }) (va_Pc [.ref a_p, .int 4] (zc_P (dC, dI) [(a_p, .inr (4, [.ref a_m, .ref a_t, .ref a_u, .ref a_i, .ref a_o, .ref a_r, .ref a_f, .int 0, .int pc, .int 0, .int tk])), (a_t, .inr (5, [.int 0, .int 0, .int 0, .int 0, .int 0, .int 0, .int 0])), (a_u, .inr (2, [.ref a_d, .ref a_b, .ref a_c, .ref a_q, .int 0, .int 0, .int 0, .int 0, .ref a_s, .int 0, .int t])), (a_d, .inl (k_d, 16, .inl (fun _ => 0))), (a_b, .inl (k_b, 16, .inl (fun _ => 0))), (a_c, .inl (k_c, 16, .inl (fun _ => 0))), (a_i, .inr (1, [.int 0, .int 0, .int 7, .int 0, .int 0, .int 0, .int 0]))] [(k_d, .boolean), (k_b, .boolean), (k_c, .boolean)] sz)) (va_Qv (fun _ => True) (fun (u : Int32) t => zc_B (dC, dI) (va_A [(a_p, .inr (4, [.ref a_m, .ref a_t, .ref a_u, .ref a_i, .ref a_o, .ref a_r, .ref a_f, .int 0, .int pc, .int 0, .int tk])), (a_t, .inr (5, [.int 0, .int 0, .int 0, .int 0, .int 0, .int 0, .int 0])), (a_u, .inr (2, [.ref a_d, .ref a_b, .ref a_c, .ref a_q, .int 0, .int 0, .int 0, .int 0, .ref a_s, .int 0, .int t])), (a_d, .inl (k_d, 16, .inl (fun _ => 0))), (a_b, .inl (k_b, 16, .inl (fun _ => 0))), (a_c, .inl (k_c, 16, .inl (fun _ => 0))), (a_i, .inr (1, [.int 0, .int 0, .int 7, .int 0, .int 0, .int 0, .int 0]))] sz) [(a_p, .inr (4, [.ref a_m, .ref a_t, .ref a_u, .ref a_i, .ref a_o, .ref a_r, .ref a_f, .int 0, .int pc, .int 0, .int tk])), (a_t, .inr (5, [.int 0, .int 0, .int 0, .int 0, .int 0, .int 0, .int 0])), (a_u, .inr (2, [.ref a_d, .ref a_b, .ref a_c, .ref a_q, .int 0, .int 0, .int 0, .int 0, .ref a_s, .int 0, .int u])), (a_d, .inl (k_d, 16, .inl (fun _ => 0))), (a_b, .inl (k_b, 16, .inl (fun _ => 0))), (a_c, .inl (k_c, 16, .inl (fun _ => 0))), (a_i, .inr (1, [.int 0, .int 0, .int 7, .int 0, .int 0, .int 0, .int 0]))] [(k_d, .boolean), (k_b, .boolean), (k_c, .boolean)] t) (va_A [(a_p, .inr (4, [.ref a_m, .ref a_t, .ref a_u, .ref a_i, .ref a_o, .ref a_r, .ref a_f, .int 0, .int pc, .int 0, .int tk])), (a_t, .inr (5, [.int 0, .int 0, .int 0, .int 0, .int 0, .int 0, .int 0])), (a_u, .inr (2, [.ref a_d, .ref a_b, .ref a_c, .ref a_q, .int 0, .int 0, .int 0, .int 0, .ref a_s, .int 0, .int t])), (a_d, .inl (k_d, 16, .inl (fun _ => 0))), (a_b, .inl (k_b, 16, .inl (fun _ => 0))), (a_c, .inl (k_c, 16, .inl (fun _ => 0))), (a_i, .inr (1, [.int 0, .int 0, .int 7, .int 0, .int 0, .int 0, .int 0]))] sz)) 0 0 (va_A [(a_p, .inr (4, [.ref a_m, .ref a_t, .ref a_u, .ref a_i, .ref a_o, .ref a_r, .ref a_f, .int 0, .int pc, .int 0, .int tk])), (a_t, .inr (5, [.int 0, .int 0, .int 0, .int 0, .int 0, .int 0, .int 0])), (a_u, .inr (2, [.ref a_d, .ref a_b, .ref a_c, .ref a_q, .int 0, .int 0, .int 0, .int 0, .ref a_s, .int 0, .int t])), (a_d, .inl (k_d, 16, .inl (fun _ => 0))), (a_b, .inl (k_b, 16, .inl (fun _ => 0))), (a_c, .inl (k_c, 16, .inl (fun _ => 0))), (a_i, .inr (1, [.int 0, .int 0, .int 7, .int 0, .int 0, .int 0, .int 0]))] sz) := by
  refine Met.ofW (cc := cX4_passTicks) (maxL := 3) (ret := none) (by decide) rfl ?_
  intro p e s m args below meth c s₁ B hml hv
  obtain ⟨rfl, hsz, hP, hK, hD0, hN⟩ := hv
  have hx := B.exec
  have hb := B.bytes
  have hr := B.returns
  have hts : ∀ w ∈ zw, w.before _ s = true := fun w h => atoms_spec (ws := (zq yX4_passTicks cX4_passTicks 3 none)) B.pre w (List.mem_cons_of_mem _ h)
  have hown : s.vm.findClass RX4 = some m.cls := findClass_of_methodNamed B.named
  have hlocks := B.notSynchronized
  subst hsz
  have hD := hD0.self (sz := s.heap.size)
  generalize hAe : va_A [(a_p, .inr (4, [.ref a_m, .ref a_t, .ref a_u, .ref a_i, .ref a_o, .ref a_r, .ref a_f, .int 0, .int pc, .int 0, .int tk])), (a_t, .inr (5, [.int 0, .int 0, .int 0, .int 0, .int 0, .int 0, .int 0])), (a_u, .inr (2, [.ref a_d, .ref a_b, .ref a_c, .ref a_q, .int 0, .int 0, .int 0, .int 0, .ref a_s, .int 0, .int t])), (a_d, .inl (k_d, 16, .inl (fun _ => 0))), (a_b, .inl (k_b, 16, .inl (fun _ => 0))), (a_c, .inl (k_c, 16, .inl (fun _ => 0))), (a_i, .inr (1, [.int 0, .int 0, .int 7, .int 0, .int 0, .int 0, .int 0]))] s.heap.size = A at hD ⊢
  have hA : ∀ q : Nat, s.heap.size ≤ q → A q := fun q h => by rw [← hAe]; exact Or.inr h
  have hS : va_S A s.heap s.heap [] := va_S.rf
  have hP : va_P (dC, dI) vwCl [(a_p, .inr (4, [.ref a_m, .ref a_t, .ref a_u, .ref a_i, .ref a_o, .ref a_r, .ref a_f, .int 0, .int pc, .int 0, .int tk])), (a_t, .inr (5, [.int 0, .int 0, .int 0, .int 0, .int 0, .int 0, .int 0])), (a_u, .inr (2, [.ref a_d, .ref a_b, .ref a_c, .ref a_q, .int 0, .int 0, .int 0, .int 0, .ref a_s, .int 0, .int t])), (a_d, .inl (k_d, 16, .inl (fun _ => 0))), (a_b, .inl (k_b, 16, .inl (fun _ => 0))), (a_c, .inl (k_c, 16, .inl (fun _ => 0))), (a_i, .inr (1, [.int 0, .int 0, .int 7, .int 0, .int 0, .int 0, .int 0]))] s.heap := hP
  have hl := lv_entry ([.ref a_p, .int 4]) (n := 3) (Nat.le_of_ble_eq_true rfl)
  rw [lg_entry_eq]
  generalize (lg_sl ([.ref a_p, .int 4]) ++ List.replicate (3 - (lg_sl ([.ref a_p, .int 4])).length) Slot.unset).toArray = ls at hl ⊢
  have hl : lv_has ls 3 [(0, .ref a_p), (1, .int 4)] := hl
  refine lv_iconst (v := 0) hx hb dX4_passTicks_0 (by decide) ?_
  refine lv_istore_n (lv' := [(2, .int 0), (0, .ref a_p), (1, .int 4)]) hx hb dX4_passTicks_1 rfl hl (by decide) rfl (fun ls hl => ?_)
  refine lv_iload_n hx hb dX4_passTicks_2 rfl (lv_at hl 0 rfl) ?_
  refine lv_iload_n hx hb dX4_passTicks_3 rfl (lv_at hl 2 rfl) ?_
  refine lv_icmp_ge (tgt := 38) hx hb dX4_passTicks_4 (by decide) (fun c_1 => absurd c_1 (by decide)) (fun c_1 => ?_)
  refine lv_aload_n hx hb dX4_passTicks_7 rfl (lv_at hl 1 rfl) ?_
  refine va_get (D := (dC, dI)) (ci := 4) (v := .ref a_t) (C := RX4) (T := TX4) (N := 11) hx hb hts zx_4 hown hK hP 0 rfl rfl 1 (by decide) (hts (.fieldLink RX4 25 "KeyboardKit$Processor" "timer" "LKeyboardKit$Timer;") zw_250) (fun _ h9 => h9) rfl dX4_passTicks_8 ?_
  refine zc_i (wr := [(a_p, .inr (4, [.ref a_m, .ref a_t, .ref a_u, .ref a_i, .ref a_o, .ref a_r, .ref a_f, .int 0, .int pc, .int 0, .int tk])), (a_u, .inr (2, [.ref a_d, .ref a_b, .ref a_c, .ref a_q, .int 0, .int 0, .int 0, .int 0, .ref a_s, .int 0, .int t])), (a_d, .inl (k_d, 16, .inl (fun _ => 0))), (a_b, .inl (k_b, 16, .inl (fun _ => 0))), (a_c, .inl (k_c, 16, .inl (fun _ => 0))), (a_i, .inr (1, [.int 0, .int 0, .int 7, .int 0, .int 0, .int 0, .int 0]))]) hP hD hS hA [1] [0, 2, 3, 4, 5, 6] rfl rfl (by decide) (by decide) (va_runV (As := []) (rest := []) ⟨hx, hb, hml, hown, hts⟩ (c_tick l dC dI a_t _) (cwV 0 hts (zg_V zw_565 zw_566 zw_567 zw_84 zw_568) rfl rfl rfl (by decide +kernel) ⟨Nat.le_of_ble_eq_true rfl, Nat.le_of_ble_eq_true rfl⟩) ⟨zc_blind, va_recv hK hP (ci := 5) (q0 := 1) rfl rfl, zc_start hP hD hK hN [1] [] rfl (by decide) rfl⟩ rfl rfl hl.1 rfl (lv_room (Nat.le_of_ble_eq_true rfl)) dX4_passTicks_11 ⟨Nat.le_of_ble_eq_true rfl, Nat.le_of_ble_eq_true rfl⟩) (fun r_2 u_2 H locs hw hK1 hP hD hS => ?_)
  have hP : va_P (dC, dI) vwCl [(a_p, .inr (4, [.ref a_m, .ref a_t, .ref a_u, .ref a_i, .ref a_o, .ref a_r, .ref a_f, .int 0, .int pc, .int 0, .int tk])), (a_u, .inr (2, [.ref a_d, .ref a_b, .ref a_c, .ref a_q, .int 0, .int 0, .int 0, .int 0, .ref a_s, .int 0, .int t])), (a_d, .inl (k_d, 16, .inl (fun _ => 0))), (a_b, .inl (k_b, 16, .inl (fun _ => 0))), (a_c, .inl (k_c, 16, .inl (fun _ => 0))), (a_i, .inr (1, [.int 0, .int 0, .int 7, .int 0, .int 0, .int 0, .int 0])), (a_t, .inr (5, [.int 0, .int 0, .int 0, .int 0, .int 0, .int 0, .int 0]))] H := hP
  have hD : va_D A [(a_p, .inr (4, [.ref a_m, .ref a_t, .ref a_u, .ref a_i, .ref a_o, .ref a_r, .ref a_f, .int 0, .int pc, .int 0, .int tk])), (a_u, .inr (2, [.ref a_d, .ref a_b, .ref a_c, .ref a_q, .int 0, .int 0, .int 0, .int 0, .ref a_s, .int 0, .int t])), (a_d, .inl (k_d, 16, .inl (fun _ => 0))), (a_b, .inl (k_b, 16, .inl (fun _ => 0))), (a_c, .inl (k_c, 16, .inl (fun _ => 0))), (a_i, .inr (1, [.int 0, .int 0, .int 7, .int 0, .int 0, .int 0, .int 0])), (a_t, .inr (5, [.int 0, .int 0, .int 0, .int 0, .int 0, .int 0, .int 0]))] := hD
  obtain rfl : r_2 = 0 := hw
  refine lv_if_eq (tgt := 25) hx hb dX4_passTicks_14 (by decide) (fun c_3 => ?_) (fun c_3 => absurd (by decide) c_3)
  refine lv_aload_n hx hb dX4_passTicks_25 rfl (lv_at hl 1 rfl) ?_
  refine va_get (D := (dC, dI)) (ci := 4) (v := .ref a_u) (C := RX4) (T := TX4) (N := 11) hx hb hts zx_4 hown hK hP 0 rfl rfl 2 (by decide) (hts (.fieldLink RX4 29 "KeyboardKit$Processor" "unit" "LKeyboardKit$KeyUnit;") zw_251) (fun _ h9 => h9) rfl dX4_passTicks_26 ?_
  refine zc_v (wr := [(a_p, .inr (4, [.ref a_m, .ref a_t, .ref a_u, .ref a_i, .ref a_o, .ref a_r, .ref a_f, .int 0, .int pc, .int 0, .int tk])), (a_i, .inr (1, [.int 0, .int 0, .int 7, .int 0, .int 0, .int 0, .int 0])), (a_t, .inr (5, [.int 0, .int 0, .int 0, .int 0, .int 0, .int 0, .int 0]))]) hP hD hS hA [1, 2, 3, 4] [0, 5, 6] rfl rfl (by decide) (by decide) (va_runV (As := []) (rest := []) ⟨hx, hb, hml, hown, hts⟩ (c_utick l dC dI a_u a_d a_b a_c a_q a_s k_d k_b k_c t _) (cwV 0 hts (zg_V zw_569 zw_570 zw_571 zw_85 zw_572) rfl rfl rfl (by decide +kernel) ⟨Nat.le_of_ble_eq_true rfl, Nat.le_of_ble_eq_true rfl⟩) ⟨zc_blind, va_recv hK hP (ci := 2) (q0 := 1) rfl rfl, zc_start hP hD hK hN [1, 2, 3, 4] [0, 1, 2] rfl (by decide) rfl⟩ rfl rfl hl.1 rfl (lv_room (Nat.le_of_ble_eq_true rfl)) dX4_passTicks_29 ⟨Nat.le_of_ble_eq_true rfl, Nat.le_of_ble_eq_true rfl⟩) (fun u_4 H locs hw hK1 hP hD hS => ?_)
  have hP : va_P (dC, dI) vwCl [(a_p, .inr (4, [.ref a_m, .ref a_t, .ref a_u, .ref a_i, .ref a_o, .ref a_r, .ref a_f, .int 0, .int pc, .int 0, .int tk])), (a_i, .inr (1, [.int 0, .int 0, .int 7, .int 0, .int 0, .int 0, .int 0])), (a_t, .inr (5, [.int 0, .int 0, .int 0, .int 0, .int 0, .int 0, .int 0])), (a_u, .inr (2, [.ref a_d, .ref a_b, .ref a_c, .ref a_q, .int 0, .int 0, .int 0, .int 0, .ref a_s, .int 0, .int u_4])), (a_d, .inl (k_d, 16, .inl (fun _ => 0))), (a_b, .inl (k_b, 16, .inl (fun _ => 0))), (a_c, .inl (k_c, 16, .inl (fun _ => 0)))] H := hP
  have hD : va_D A [(a_p, .inr (4, [.ref a_m, .ref a_t, .ref a_u, .ref a_i, .ref a_o, .ref a_r, .ref a_f, .int 0, .int pc, .int 0, .int tk])), (a_i, .inr (1, [.int 0, .int 0, .int 7, .int 0, .int 0, .int 0, .int 0])), (a_t, .inr (5, [.int 0, .int 0, .int 0, .int 0, .int 0, .int 0, .int 0])), (a_u, .inr (2, [.ref a_d, .ref a_b, .ref a_c, .ref a_q, .int 0, .int 0, .int 0, .int 0, .ref a_s, .int 0, .int u_4])), (a_d, .inl (k_d, 16, .inl (fun _ => 0))), (a_b, .inl (k_b, 16, .inl (fun _ => 0))), (a_c, .inl (k_c, 16, .inl (fun _ => 0)))] := hD
  refine lv_iinc (v := 1) (lv' := [(2, .int 1), (0, .ref a_p), (1, .int 4)]) hx hb dX4_passTicks_32 hl (k := 0) rfl (by decide) (by decide) rfl (fun ls hl => ?_)
  refine lv_goto (tgt := 2) hx hb dX4_passTicks_35 (by decide) ?_
  refine lv_iload_n hx hb dX4_passTicks_2 rfl (lv_at hl 0 rfl) ?_
  refine lv_iload_n hx hb dX4_passTicks_3 rfl (lv_at hl 2 rfl) ?_
  refine lv_icmp_ge (tgt := 38) hx hb dX4_passTicks_4 (by decide) (fun c_5 => absurd c_5 (by decide)) (fun c_5 => ?_)
  refine lv_aload_n hx hb dX4_passTicks_7 rfl (lv_at hl 1 rfl) ?_
  refine va_get (D := (dC, dI)) (ci := 4) (v := .ref a_t) (C := RX4) (T := TX4) (N := 11) hx hb hts zx_4 hown hK hP 0 rfl rfl 1 (by decide) (hts (.fieldLink RX4 25 "KeyboardKit$Processor" "timer" "LKeyboardKit$Timer;") zw_250) (fun _ h9 => h9) rfl dX4_passTicks_8 ?_
  refine zc_i (wr := [(a_p, .inr (4, [.ref a_m, .ref a_t, .ref a_u, .ref a_i, .ref a_o, .ref a_r, .ref a_f, .int 0, .int pc, .int 0, .int tk])), (a_i, .inr (1, [.int 0, .int 0, .int 7, .int 0, .int 0, .int 0, .int 0])), (a_u, .inr (2, [.ref a_d, .ref a_b, .ref a_c, .ref a_q, .int 0, .int 0, .int 0, .int 0, .ref a_s, .int 0, .int u_4])), (a_d, .inl (k_d, 16, .inl (fun _ => 0))), (a_b, .inl (k_b, 16, .inl (fun _ => 0))), (a_c, .inl (k_c, 16, .inl (fun _ => 0)))]) hP hD hS hA [2] [0, 1, 3, 4, 5, 6] rfl rfl (by decide) (by decide) (va_runV (As := []) (rest := []) ⟨hx, hb, hml, hown, hts⟩ (c_tick l dC dI a_t _) (cwV 0 hts (zg_V zw_565 zw_566 zw_567 zw_84 zw_568) rfl rfl rfl (by decide +kernel) ⟨Nat.le_of_ble_eq_true rfl, Nat.le_of_ble_eq_true rfl⟩) ⟨zc_blind, va_recv hK hP (ci := 5) (q0 := 2) rfl rfl, zc_start hP hD hK hN [2] [] rfl (by decide) rfl⟩ rfl rfl hl.1 rfl (lv_room (Nat.le_of_ble_eq_true rfl)) dX4_passTicks_11 ⟨Nat.le_of_ble_eq_true rfl, Nat.le_of_ble_eq_true rfl⟩) (fun r_6 u_6 H locs hw hK1 hP hD hS => ?_)
  have hP : va_P (dC, dI) vwCl [(a_p, .inr (4, [.ref a_m, .ref a_t, .ref a_u, .ref a_i, .ref a_o, .ref a_r, .ref a_f, .int 0, .int pc, .int 0, .int tk])), (a_i, .inr (1, [.int 0, .int 0, .int 7, .int 0, .int 0, .int 0, .int 0])), (a_u, .inr (2, [.ref a_d, .ref a_b, .ref a_c, .ref a_q, .int 0, .int 0, .int 0, .int 0, .ref a_s, .int 0, .int u_4])), (a_d, .inl (k_d, 16, .inl (fun _ => 0))), (a_b, .inl (k_b, 16, .inl (fun _ => 0))), (a_c, .inl (k_c, 16, .inl (fun _ => 0))), (a_t, .inr (5, [.int 0, .int 0, .int 0, .int 0, .int 0, .int 0, .int 0]))] H := hP
  have hD : va_D A [(a_p, .inr (4, [.ref a_m, .ref a_t, .ref a_u, .ref a_i, .ref a_o, .ref a_r, .ref a_f, .int 0, .int pc, .int 0, .int tk])), (a_i, .inr (1, [.int 0, .int 0, .int 7, .int 0, .int 0, .int 0, .int 0])), (a_u, .inr (2, [.ref a_d, .ref a_b, .ref a_c, .ref a_q, .int 0, .int 0, .int 0, .int 0, .ref a_s, .int 0, .int u_4])), (a_d, .inl (k_d, 16, .inl (fun _ => 0))), (a_b, .inl (k_b, 16, .inl (fun _ => 0))), (a_c, .inl (k_c, 16, .inl (fun _ => 0))), (a_t, .inr (5, [.int 0, .int 0, .int 0, .int 0, .int 0, .int 0, .int 0]))] := hD
  obtain rfl : r_6 = 0 := hw
  refine lv_if_eq (tgt := 25) hx hb dX4_passTicks_14 (by decide) (fun c_7 => ?_) (fun c_7 => absurd (by decide) c_7)
  refine lv_aload_n hx hb dX4_passTicks_25 rfl (lv_at hl 1 rfl) ?_
  refine va_get (D := (dC, dI)) (ci := 4) (v := .ref a_u) (C := RX4) (T := TX4) (N := 11) hx hb hts zx_4 hown hK hP 0 rfl rfl 2 (by decide) (hts (.fieldLink RX4 29 "KeyboardKit$Processor" "unit" "LKeyboardKit$KeyUnit;") zw_251) (fun _ h9 => h9) rfl dX4_passTicks_26 ?_
  refine zc_v (wr := [(a_p, .inr (4, [.ref a_m, .ref a_t, .ref a_u, .ref a_i, .ref a_o, .ref a_r, .ref a_f, .int 0, .int pc, .int 0, .int tk])), (a_i, .inr (1, [.int 0, .int 0, .int 7, .int 0, .int 0, .int 0, .int 0])), (a_t, .inr (5, [.int 0, .int 0, .int 0, .int 0, .int 0, .int 0, .int 0]))]) hP hD hS hA [2, 3, 4, 5] [0, 1, 6] rfl rfl (by decide) (by decide) (va_runV (As := []) (rest := []) ⟨hx, hb, hml, hown, hts⟩ (c_utick l dC dI a_u a_d a_b a_c a_q a_s k_d k_b k_c u_4 _) (cwV 0 hts (zg_V zw_569 zw_570 zw_571 zw_85 zw_572) rfl rfl rfl (by decide +kernel) ⟨Nat.le_of_ble_eq_true rfl, Nat.le_of_ble_eq_true rfl⟩) ⟨zc_blind, va_recv hK hP (ci := 2) (q0 := 2) rfl rfl, zc_start hP hD hK hN [2, 3, 4, 5] [0, 1, 2] rfl (by decide) rfl⟩ rfl rfl hl.1 rfl (lv_room (Nat.le_of_ble_eq_true rfl)) dX4_passTicks_29 ⟨Nat.le_of_ble_eq_true rfl, Nat.le_of_ble_eq_true rfl⟩) (fun u_8 H locs hw hK1 hP hD hS => ?_)
  have hP : va_P (dC, dI) vwCl [(a_p, .inr (4, [.ref a_m, .ref a_t, .ref a_u, .ref a_i, .ref a_o, .ref a_r, .ref a_f, .int 0, .int pc, .int 0, .int tk])), (a_i, .inr (1, [.int 0, .int 0, .int 7, .int 0, .int 0, .int 0, .int 0])), (a_t, .inr (5, [.int 0, .int 0, .int 0, .int 0, .int 0, .int 0, .int 0])), (a_u, .inr (2, [.ref a_d, .ref a_b, .ref a_c, .ref a_q, .int 0, .int 0, .int 0, .int 0, .ref a_s, .int 0, .int u_8])), (a_d, .inl (k_d, 16, .inl (fun _ => 0))), (a_b, .inl (k_b, 16, .inl (fun _ => 0))), (a_c, .inl (k_c, 16, .inl (fun _ => 0)))] H := hP
  have hD : va_D A [(a_p, .inr (4, [.ref a_m, .ref a_t, .ref a_u, .ref a_i, .ref a_o, .ref a_r, .ref a_f, .int 0, .int pc, .int 0, .int tk])), (a_i, .inr (1, [.int 0, .int 0, .int 7, .int 0, .int 0, .int 0, .int 0])), (a_t, .inr (5, [.int 0, .int 0, .int 0, .int 0, .int 0, .int 0, .int 0])), (a_u, .inr (2, [.ref a_d, .ref a_b, .ref a_c, .ref a_q, .int 0, .int 0, .int 0, .int 0, .ref a_s, .int 0, .int u_8])), (a_d, .inl (k_d, 16, .inl (fun _ => 0))), (a_b, .inl (k_b, 16, .inl (fun _ => 0))), (a_c, .inl (k_c, 16, .inl (fun _ => 0)))] := hD
  refine lv_iinc (v := 2) (lv' := [(2, .int 2), (0, .ref a_p), (1, .int 4)]) hx hb dX4_passTicks_32 hl (k := 0) rfl (by decide) (by decide) rfl (fun ls hl => ?_)
  refine lv_goto (tgt := 2) hx hb dX4_passTicks_35 (by decide) ?_
  refine lv_iload_n hx hb dX4_passTicks_2 rfl (lv_at hl 0 rfl) ?_
  refine lv_iload_n hx hb dX4_passTicks_3 rfl (lv_at hl 2 rfl) ?_
  refine lv_icmp_ge (tgt := 38) hx hb dX4_passTicks_4 (by decide) (fun c_9 => absurd c_9 (by decide)) (fun c_9 => ?_)
  refine lv_aload_n hx hb dX4_passTicks_7 rfl (lv_at hl 1 rfl) ?_
  refine va_get (D := (dC, dI)) (ci := 4) (v := .ref a_t) (C := RX4) (T := TX4) (N := 11) hx hb hts zx_4 hown hK hP 0 rfl rfl 1 (by decide) (hts (.fieldLink RX4 25 "KeyboardKit$Processor" "timer" "LKeyboardKit$Timer;") zw_250) (fun _ h9 => h9) rfl dX4_passTicks_8 ?_
  refine zc_i (wr := [(a_p, .inr (4, [.ref a_m, .ref a_t, .ref a_u, .ref a_i, .ref a_o, .ref a_r, .ref a_f, .int 0, .int pc, .int 0, .int tk])), (a_i, .inr (1, [.int 0, .int 0, .int 7, .int 0, .int 0, .int 0, .int 0])), (a_u, .inr (2, [.ref a_d, .ref a_b, .ref a_c, .ref a_q, .int 0, .int 0, .int 0, .int 0, .ref a_s, .int 0, .int u_8])), (a_d, .inl (k_d, 16, .inl (fun _ => 0))), (a_b, .inl (k_b, 16, .inl (fun _ => 0))), (a_c, .inl (k_c, 16, .inl (fun _ => 0)))]) hP hD hS hA [2] [0, 1, 3, 4, 5, 6] rfl rfl (by decide) (by decide) (va_runV (As := []) (rest := []) ⟨hx, hb, hml, hown, hts⟩ (c_tick l dC dI a_t _) (cwV 0 hts (zg_V zw_565 zw_566 zw_567 zw_84 zw_568) rfl rfl rfl (by decide +kernel) ⟨Nat.le_of_ble_eq_true rfl, Nat.le_of_ble_eq_true rfl⟩) ⟨zc_blind, va_recv hK hP (ci := 5) (q0 := 2) rfl rfl, zc_start hP hD hK hN [2] [] rfl (by decide) rfl⟩ rfl rfl hl.1 rfl (lv_room (Nat.le_of_ble_eq_true rfl)) dX4_passTicks_11 ⟨Nat.le_of_ble_eq_true rfl, Nat.le_of_ble_eq_true rfl⟩) (fun r_10 u_10 H locs hw hK1 hP hD hS => ?_)
  have hP : va_P (dC, dI) vwCl [(a_p, .inr (4, [.ref a_m, .ref a_t, .ref a_u, .ref a_i, .ref a_o, .ref a_r, .ref a_f, .int 0, .int pc, .int 0, .int tk])), (a_i, .inr (1, [.int 0, .int 0, .int 7, .int 0, .int 0, .int 0, .int 0])), (a_u, .inr (2, [.ref a_d, .ref a_b, .ref a_c, .ref a_q, .int 0, .int 0, .int 0, .int 0, .ref a_s, .int 0, .int u_8])), (a_d, .inl (k_d, 16, .inl (fun _ => 0))), (a_b, .inl (k_b, 16, .inl (fun _ => 0))), (a_c, .inl (k_c, 16, .inl (fun _ => 0))), (a_t, .inr (5, [.int 0, .int 0, .int 0, .int 0, .int 0, .int 0, .int 0]))] H := hP
  have hD : va_D A [(a_p, .inr (4, [.ref a_m, .ref a_t, .ref a_u, .ref a_i, .ref a_o, .ref a_r, .ref a_f, .int 0, .int pc, .int 0, .int tk])), (a_i, .inr (1, [.int 0, .int 0, .int 7, .int 0, .int 0, .int 0, .int 0])), (a_u, .inr (2, [.ref a_d, .ref a_b, .ref a_c, .ref a_q, .int 0, .int 0, .int 0, .int 0, .ref a_s, .int 0, .int u_8])), (a_d, .inl (k_d, 16, .inl (fun _ => 0))), (a_b, .inl (k_b, 16, .inl (fun _ => 0))), (a_c, .inl (k_c, 16, .inl (fun _ => 0))), (a_t, .inr (5, [.int 0, .int 0, .int 0, .int 0, .int 0, .int 0, .int 0]))] := hD
  obtain rfl : r_10 = 0 := hw
  refine lv_if_eq (tgt := 25) hx hb dX4_passTicks_14 (by decide) (fun c_11 => ?_) (fun c_11 => absurd (by decide) c_11)
  refine lv_aload_n hx hb dX4_passTicks_25 rfl (lv_at hl 1 rfl) ?_
  refine va_get (D := (dC, dI)) (ci := 4) (v := .ref a_u) (C := RX4) (T := TX4) (N := 11) hx hb hts zx_4 hown hK hP 0 rfl rfl 2 (by decide) (hts (.fieldLink RX4 29 "KeyboardKit$Processor" "unit" "LKeyboardKit$KeyUnit;") zw_251) (fun _ h9 => h9) rfl dX4_passTicks_26 ?_
  refine zc_v (wr := [(a_p, .inr (4, [.ref a_m, .ref a_t, .ref a_u, .ref a_i, .ref a_o, .ref a_r, .ref a_f, .int 0, .int pc, .int 0, .int tk])), (a_i, .inr (1, [.int 0, .int 0, .int 7, .int 0, .int 0, .int 0, .int 0])), (a_t, .inr (5, [.int 0, .int 0, .int 0, .int 0, .int 0, .int 0, .int 0]))]) hP hD hS hA [2, 3, 4, 5] [0, 1, 6] rfl rfl (by decide) (by decide) (va_runV (As := []) (rest := []) ⟨hx, hb, hml, hown, hts⟩ (c_utick l dC dI a_u a_d a_b a_c a_q a_s k_d k_b k_c u_8 _) (cwV 0 hts (zg_V zw_569 zw_570 zw_571 zw_85 zw_572) rfl rfl rfl (by decide +kernel) ⟨Nat.le_of_ble_eq_true rfl, Nat.le_of_ble_eq_true rfl⟩) ⟨zc_blind, va_recv hK hP (ci := 2) (q0 := 2) rfl rfl, zc_start hP hD hK hN [2, 3, 4, 5] [0, 1, 2] rfl (by decide) rfl⟩ rfl rfl hl.1 rfl (lv_room (Nat.le_of_ble_eq_true rfl)) dX4_passTicks_29 ⟨Nat.le_of_ble_eq_true rfl, Nat.le_of_ble_eq_true rfl⟩) (fun u_12 H locs hw hK1 hP hD hS => ?_)
  have hP : va_P (dC, dI) vwCl [(a_p, .inr (4, [.ref a_m, .ref a_t, .ref a_u, .ref a_i, .ref a_o, .ref a_r, .ref a_f, .int 0, .int pc, .int 0, .int tk])), (a_i, .inr (1, [.int 0, .int 0, .int 7, .int 0, .int 0, .int 0, .int 0])), (a_t, .inr (5, [.int 0, .int 0, .int 0, .int 0, .int 0, .int 0, .int 0])), (a_u, .inr (2, [.ref a_d, .ref a_b, .ref a_c, .ref a_q, .int 0, .int 0, .int 0, .int 0, .ref a_s, .int 0, .int u_12])), (a_d, .inl (k_d, 16, .inl (fun _ => 0))), (a_b, .inl (k_b, 16, .inl (fun _ => 0))), (a_c, .inl (k_c, 16, .inl (fun _ => 0)))] H := hP
  have hD : va_D A [(a_p, .inr (4, [.ref a_m, .ref a_t, .ref a_u, .ref a_i, .ref a_o, .ref a_r, .ref a_f, .int 0, .int pc, .int 0, .int tk])), (a_i, .inr (1, [.int 0, .int 0, .int 7, .int 0, .int 0, .int 0, .int 0])), (a_t, .inr (5, [.int 0, .int 0, .int 0, .int 0, .int 0, .int 0, .int 0])), (a_u, .inr (2, [.ref a_d, .ref a_b, .ref a_c, .ref a_q, .int 0, .int 0, .int 0, .int 0, .ref a_s, .int 0, .int u_12])), (a_d, .inl (k_d, 16, .inl (fun _ => 0))), (a_b, .inl (k_b, 16, .inl (fun _ => 0))), (a_c, .inl (k_c, 16, .inl (fun _ => 0)))] := hD
  refine lv_iinc (v := 3) (lv' := [(2, .int 3), (0, .ref a_p), (1, .int 4)]) hx hb dX4_passTicks_32 hl (k := 0) rfl (by decide) (by decide) rfl (fun ls hl => ?_)
  refine lv_goto (tgt := 2) hx hb dX4_passTicks_35 (by decide) ?_
  refine lv_iload_n hx hb dX4_passTicks_2 rfl (lv_at hl 0 rfl) ?_
  refine lv_iload_n hx hb dX4_passTicks_3 rfl (lv_at hl 2 rfl) ?_
  refine lv_icmp_ge (tgt := 38) hx hb dX4_passTicks_4 (by decide) (fun c_13 => absurd c_13 (by decide)) (fun c_13 => ?_)
  refine lv_aload_n hx hb dX4_passTicks_7 rfl (lv_at hl 1 rfl) ?_
  refine va_get (D := (dC, dI)) (ci := 4) (v := .ref a_t) (C := RX4) (T := TX4) (N := 11) hx hb hts zx_4 hown hK hP 0 rfl rfl 1 (by decide) (hts (.fieldLink RX4 25 "KeyboardKit$Processor" "timer" "LKeyboardKit$Timer;") zw_250) (fun _ h9 => h9) rfl dX4_passTicks_8 ?_
  refine zc_i (wr := [(a_p, .inr (4, [.ref a_m, .ref a_t, .ref a_u, .ref a_i, .ref a_o, .ref a_r, .ref a_f, .int 0, .int pc, .int 0, .int tk])), (a_i, .inr (1, [.int 0, .int 0, .int 7, .int 0, .int 0, .int 0, .int 0])), (a_u, .inr (2, [.ref a_d, .ref a_b, .ref a_c, .ref a_q, .int 0, .int 0, .int 0, .int 0, .ref a_s, .int 0, .int u_12])), (a_d, .inl (k_d, 16, .inl (fun _ => 0))), (a_b, .inl (k_b, 16, .inl (fun _ => 0))), (a_c, .inl (k_c, 16, .inl (fun _ => 0)))]) hP hD hS hA [2] [0, 1, 3, 4, 5, 6] rfl rfl (by decide) (by decide) (va_runV (As := []) (rest := []) ⟨hx, hb, hml, hown, hts⟩ (c_tick l dC dI a_t _) (cwV 0 hts (zg_V zw_565 zw_566 zw_567 zw_84 zw_568) rfl rfl rfl (by decide +kernel) ⟨Nat.le_of_ble_eq_true rfl, Nat.le_of_ble_eq_true rfl⟩) ⟨zc_blind, va_recv hK hP (ci := 5) (q0 := 2) rfl rfl, zc_start hP hD hK hN [2] [] rfl (by decide) rfl⟩ rfl rfl hl.1 rfl (lv_room (Nat.le_of_ble_eq_true rfl)) dX4_passTicks_11 ⟨Nat.le_of_ble_eq_true rfl, Nat.le_of_ble_eq_true rfl⟩) (fun r_14 u_14 H locs hw hK1 hP hD hS => ?_)
  have hP : va_P (dC, dI) vwCl [(a_p, .inr (4, [.ref a_m, .ref a_t, .ref a_u, .ref a_i, .ref a_o, .ref a_r, .ref a_f, .int 0, .int pc, .int 0, .int tk])), (a_i, .inr (1, [.int 0, .int 0, .int 7, .int 0, .int 0, .int 0, .int 0])), (a_u, .inr (2, [.ref a_d, .ref a_b, .ref a_c, .ref a_q, .int 0, .int 0, .int 0, .int 0, .ref a_s, .int 0, .int u_12])), (a_d, .inl (k_d, 16, .inl (fun _ => 0))), (a_b, .inl (k_b, 16, .inl (fun _ => 0))), (a_c, .inl (k_c, 16, .inl (fun _ => 0))), (a_t, .inr (5, [.int 0, .int 0, .int 0, .int 0, .int 0, .int 0, .int 0]))] H := hP
  have hD : va_D A [(a_p, .inr (4, [.ref a_m, .ref a_t, .ref a_u, .ref a_i, .ref a_o, .ref a_r, .ref a_f, .int 0, .int pc, .int 0, .int tk])), (a_i, .inr (1, [.int 0, .int 0, .int 7, .int 0, .int 0, .int 0, .int 0])), (a_u, .inr (2, [.ref a_d, .ref a_b, .ref a_c, .ref a_q, .int 0, .int 0, .int 0, .int 0, .ref a_s, .int 0, .int u_12])), (a_d, .inl (k_d, 16, .inl (fun _ => 0))), (a_b, .inl (k_b, 16, .inl (fun _ => 0))), (a_c, .inl (k_c, 16, .inl (fun _ => 0))), (a_t, .inr (5, [.int 0, .int 0, .int 0, .int 0, .int 0, .int 0, .int 0]))] := hD
  obtain rfl : r_14 = 0 := hw
  refine lv_if_eq (tgt := 25) hx hb dX4_passTicks_14 (by decide) (fun c_15 => ?_) (fun c_15 => absurd (by decide) c_15)
  refine lv_aload_n hx hb dX4_passTicks_25 rfl (lv_at hl 1 rfl) ?_
  refine va_get (D := (dC, dI)) (ci := 4) (v := .ref a_u) (C := RX4) (T := TX4) (N := 11) hx hb hts zx_4 hown hK hP 0 rfl rfl 2 (by decide) (hts (.fieldLink RX4 29 "KeyboardKit$Processor" "unit" "LKeyboardKit$KeyUnit;") zw_251) (fun _ h9 => h9) rfl dX4_passTicks_26 ?_
  refine zc_v (wr := [(a_p, .inr (4, [.ref a_m, .ref a_t, .ref a_u, .ref a_i, .ref a_o, .ref a_r, .ref a_f, .int 0, .int pc, .int 0, .int tk])), (a_i, .inr (1, [.int 0, .int 0, .int 7, .int 0, .int 0, .int 0, .int 0])), (a_t, .inr (5, [.int 0, .int 0, .int 0, .int 0, .int 0, .int 0, .int 0]))]) hP hD hS hA [2, 3, 4, 5] [0, 1, 6] rfl rfl (by decide) (by decide) (va_runV (As := []) (rest := []) ⟨hx, hb, hml, hown, hts⟩ (c_utick l dC dI a_u a_d a_b a_c a_q a_s k_d k_b k_c u_12 _) (cwV 0 hts (zg_V zw_569 zw_570 zw_571 zw_85 zw_572) rfl rfl rfl (by decide +kernel) ⟨Nat.le_of_ble_eq_true rfl, Nat.le_of_ble_eq_true rfl⟩) ⟨zc_blind, va_recv hK hP (ci := 2) (q0 := 2) rfl rfl, zc_start hP hD hK hN [2, 3, 4, 5] [0, 1, 2] rfl (by decide) rfl⟩ rfl rfl hl.1 rfl (lv_room (Nat.le_of_ble_eq_true rfl)) dX4_passTicks_29 ⟨Nat.le_of_ble_eq_true rfl, Nat.le_of_ble_eq_true rfl⟩) (fun u_16 H locs hw hK1 hP hD hS => ?_)
  have hP : va_P (dC, dI) vwCl [(a_p, .inr (4, [.ref a_m, .ref a_t, .ref a_u, .ref a_i, .ref a_o, .ref a_r, .ref a_f, .int 0, .int pc, .int 0, .int tk])), (a_i, .inr (1, [.int 0, .int 0, .int 7, .int 0, .int 0, .int 0, .int 0])), (a_t, .inr (5, [.int 0, .int 0, .int 0, .int 0, .int 0, .int 0, .int 0])), (a_u, .inr (2, [.ref a_d, .ref a_b, .ref a_c, .ref a_q, .int 0, .int 0, .int 0, .int 0, .ref a_s, .int 0, .int u_16])), (a_d, .inl (k_d, 16, .inl (fun _ => 0))), (a_b, .inl (k_b, 16, .inl (fun _ => 0))), (a_c, .inl (k_c, 16, .inl (fun _ => 0)))] H := hP
  have hD : va_D A [(a_p, .inr (4, [.ref a_m, .ref a_t, .ref a_u, .ref a_i, .ref a_o, .ref a_r, .ref a_f, .int 0, .int pc, .int 0, .int tk])), (a_i, .inr (1, [.int 0, .int 0, .int 7, .int 0, .int 0, .int 0, .int 0])), (a_t, .inr (5, [.int 0, .int 0, .int 0, .int 0, .int 0, .int 0, .int 0])), (a_u, .inr (2, [.ref a_d, .ref a_b, .ref a_c, .ref a_q, .int 0, .int 0, .int 0, .int 0, .ref a_s, .int 0, .int u_16])), (a_d, .inl (k_d, 16, .inl (fun _ => 0))), (a_b, .inl (k_b, 16, .inl (fun _ => 0))), (a_c, .inl (k_c, 16, .inl (fun _ => 0)))] := hD
  refine lv_iinc (v := 4) (lv' := [(2, .int 4), (0, .ref a_p), (1, .int 4)]) hx hb dX4_passTicks_32 hl (k := 0) rfl (by decide) (by decide) rfl (fun ls hl => ?_)
  refine lv_goto (tgt := 2) hx hb dX4_passTicks_35 (by decide) ?_
  refine lv_iload_n hx hb dX4_passTicks_2 rfl (lv_at hl 0 rfl) ?_
  refine lv_iload_n hx hb dX4_passTicks_3 rfl (lv_at hl 2 rfl) ?_
  refine lv_icmp_ge (tgt := 38) hx hb dX4_passTicks_4 (by decide) (fun c_17 => ?_) (fun c_17 => absurd (by decide) c_17)
  have hP9 := hP.sub (ws' := [(a_p, .inr (4, [.ref a_m, .ref a_t, .ref a_u, .ref a_i, .ref a_o, .ref a_r, .ref a_f, .int 0, .int pc, .int 0, .int tk])), (a_t, .inr (5, [.int 0, .int 0, .int 0, .int 0, .int 0, .int 0, .int 0])), (a_u, .inr (2, [.ref a_d, .ref a_b, .ref a_c, .ref a_q, .int 0, .int 0, .int 0, .int 0, .ref a_s, .int 0, .int u_16])), (a_d, .inl (k_d, 16, .inl (fun _ => 0))), (a_b, .inl (k_b, 16, .inl (fun _ => 0))), (a_c, .inl (k_c, 16, .inl (fun _ => 0))), (a_i, .inr (1, [.int 0, .int 0, .int 7, .int 0, .int 0, .int 0, .int 0]))]) [0, 2, 3, 4, 5, 6, 1] rfl
  have hD9 := hD.sub (ws' := [(a_p, .inr (4, [.ref a_m, .ref a_t, .ref a_u, .ref a_i, .ref a_o, .ref a_r, .ref a_f, .int 0, .int pc, .int 0, .int tk])), (a_t, .inr (5, [.int 0, .int 0, .int 0, .int 0, .int 0, .int 0, .int 0])), (a_u, .inr (2, [.ref a_d, .ref a_b, .ref a_c, .ref a_q, .int 0, .int 0, .int 0, .int 0, .ref a_s, .int 0, .int u_16])), (a_d, .inl (k_d, 16, .inl (fun _ => 0))), (a_b, .inl (k_b, 16, .inl (fun _ => 0))), (a_c, .inl (k_c, 16, .inl (fun _ => 0))), (a_i, .inr (1, [.int 0, .int 0, .int 7, .int 0, .int 0, .int 0, .int 0]))]) [0, 2, 3, 4, 5, 6, 1] (by decide) rfl
  have hK9 := hK.sub (tys' := [(k_d, .boolean), (k_b, .boolean), (k_c, .boolean)]) [0, 1, 2] rfl
  exact W.vret hx hb hr (fun t9 ht hW => ⟨⟨u_16, rfl, trivial, by rw [ht]; exact hP9, va_K.moved hW.alike hK9, hD9⟩, hS.F ht⟩) hS.2.2 dX4_passTicks_38
end
section
theorem dX4_advance_0 : decode cX4_advance 0 = .ok (.aload_n 0, 1) := by decide +kernel
theorem dX4_advance_1 : decode cX4_advance 1 = .ok (.iconst 4, 1) := by decide +kernel
theorem dX4_advance_10 : decode cX4_advance 10 = .ok (.getfield 29, 3) := by decide +kernel
theorem dX4_advance_100 : decode cX4_advance 100 = .ok (.aload_n 0, 1) := by decide +kernel
theorem dX4_advance_101 : decode cX4_advance 101 = .ok (.getfield 46, 3) := by decide +kernel
theorem dX4_advance_104 : decode cX4_advance 104 = .ok (.ireturn, 1) := by decide +kernel
theorem dX4_advance_13 : decode cX4_advance 13 = .ok (.getfield 50, 3) := by decide +kernel
theorem dX4_advance_16 : decode cX4_advance 16 = .ok (.ifCond .le 7, 3) := by decide +kernel
theorem dX4_advance_2 : decode cX4_advance 2 = .ok (.putfield 46, 3) := by decide +kernel
theorem dX4_advance_23 : decode cX4_advance 23 = .ok (.iconst 0, 1) := by decide +kernel
theorem dX4_advance_24 : decode cX4_advance 24 = .ok (.invokevirtual 55, 3) := by decide +kernel
theorem dX4_advance_27 : decode cX4_advance 27 = .ok (.istore_n 1, 1) := by decide +kernel
theorem dX4_advance_28 : decode cX4_advance 28 = .ok (.iload_n 1, 1) := by decide +kernel
theorem dX4_advance_29 : decode cX4_advance 29 = .ok (.ifCond .eq 16, 3) := by decide +kernel
theorem dX4_advance_45 : decode cX4_advance 45 = .ok (.aload_n 0, 1) := by decide +kernel
theorem dX4_advance_46 : decode cX4_advance 46 = .ok (.getfield 61, 3) := by decide +kernel
theorem dX4_advance_49 : decode cX4_advance 49 = .ok (.ifCond .ne 43, 3) := by decide +kernel
theorem dX4_advance_5 : decode cX4_advance 5 = .ok (.aload_n 0, 1) := by decide +kernel
theorem dX4_advance_52 : decode cX4_advance 52 = .ok (.aload_n 0, 1) := by decide +kernel
theorem dX4_advance_53 : decode cX4_advance 53 = .ok (.getfield 33, 3) := by decide +kernel
theorem dX4_advance_56 : decode cX4_advance 56 = .ok (.iconst 0, 1) := by decide +kernel
theorem dX4_advance_57 : decode cX4_advance 57 = .ok (.putfield 69, 3) := by decide +kernel
theorem dX4_advance_6 : decode cX4_advance 6 = .ok (.getfield 33, 3) := by decide +kernel
theorem dX4_advance_60 : decode cX4_advance 60 = .ok (.aload_n 0, 1) := by decide +kernel
theorem dX4_advance_61 : decode cX4_advance 61 = .ok (.getfield 22, 3) := by decide +kernel
theorem dX4_advance_64 : decode cX4_advance 64 = .ok (.aload_n 0, 1) := by decide +kernel
theorem dX4_advance_65 : decode cX4_advance 65 = .ok (.getfield 72, 3) := by decide +kernel
theorem dX4_advance_68 : decode cX4_advance 68 = .ok (.sipush 1023, 3) := by decide +kernel
theorem dX4_advance_71 : decode cX4_advance 71 = .ok (.iand, 1) := by decide +kernel
theorem dX4_advance_72 : decode cX4_advance 72 = .ok (.iaload, 1) := by decide +kernel
theorem dX4_advance_73 : decode cX4_advance 73 = .ok (.istore_n 2, 1) := by decide +kernel
theorem dX4_advance_74 : decode cX4_advance 74 = .ok (.aload_n 0, 1) := by decide +kernel
theorem dX4_advance_75 : decode cX4_advance 75 = .ok (.aload_n 0, 1) := by decide +kernel
theorem dX4_advance_76 : decode cX4_advance 76 = .ok (.getfield 72, 3) := by decide +kernel
theorem dX4_advance_79 : decode cX4_advance 79 = .ok (.iconst 1, 1) := by decide +kernel
theorem dX4_advance_80 : decode cX4_advance 80 = .ok (.iadd, 1) := by decide +kernel
theorem dX4_advance_81 : decode cX4_advance 81 = .ok (.ldc 75, 2) := by decide +kernel
theorem dX4_advance_83 : decode cX4_advance 83 = .ok (.iand, 1) := by decide +kernel
theorem dX4_advance_84 : decode cX4_advance 84 = .ok (.putfield 72, 3) := by decide +kernel
theorem dX4_advance_87 : decode cX4_advance 87 = .ok (.aload_n 0, 1) := by decide +kernel
theorem dX4_advance_88 : decode cX4_advance 88 = .ok (.iload_n 2, 1) := by decide +kernel
theorem dX4_advance_89 : decode cX4_advance 89 = .ok (.invokevirtual 76, 3) := by decide +kernel
theorem dX4_advance_9 : decode cX4_advance 9 = .ok (.aload_n 0, 1) := by decide +kernel
theorem dX4_advance_92 : decode cX4_advance 92 = .ok (.aload_n 0, 1) := by decide +kernel
theorem dX4_advance_93 : decode cX4_advance 93 = .ok (.aload_n 0, 1) := by decide +kernel
theorem dX4_advance_94 : decode cX4_advance 94 = .ok (.getfield 46, 3) := by decide +kernel
theorem dX4_advance_97 : decode cX4_advance 97 = .ok (.invokevirtual 79, 3) := by decide +kernel
set_option maxHeartbeats 4000000 in
set_option maxRecDepth 100000 in
/-- Processor.advance over NOP: four ticks -/
theorem c_adv (l : Launch) (dC : Nat → ClassId) (dI : Nat → Nat → Nat) (a_p : Nat) (a_m : Nat) (a_t : Nat) (a_u : Nat) (a_i : Nat) (a_o : Nat) (a_r : Nat) (a_f : Nat) (a_d : Nat) (a_b : Nat) (a_c : Nat) (a_q : Nat) (a_s : Nat) (k_d : ClassId) (k_b : ClassId) (k_c : ClassId) (k_m : ClassId) (pc : Int32) (tk : Int32) (t : Int32) (sz : Nat) : Met l yX4_advance (zq yX4_advance cX4_advance 3 (some .int)) ({ frames := 3, cells := 0, slots := 0, locals := 66 }) (va_Pc [.ref a_p] (zc_P (dC, dI) [(a_p, .inr (4, [.ref a_m, .ref a_t, .ref a_u, .ref a_i, .ref a_o, .ref a_r, .ref a_f, .int 0, .int pc, .int 0, .int tk])), (a_t, .inr (5, [.int 0, .int 0, .int 0, .int 0, .int 0, .int 0, .int 0])), (a_u, .inr (2, [.ref a_d, .ref a_b, .ref a_c, .ref a_q, .int 0, .int 0, .int 0, .int 0, .ref a_s, .int 0, .int t])), (a_d, .inl (k_d, 16, .inl (fun _ => 0))), (a_b, .inl (k_b, 16, .inl (fun _ => 0))), (a_c, .inl (k_c, 16, .inl (fun _ => 0))), (a_i, .inr (1, [.int 0, .int 0, .int 7, .int 0, .int 0, .int 0, .int 0])), (a_m, .inl (k_m, 1024, .inl (fun _ => 0)))] [(k_d, .boolean), (k_b, .boolean), (k_c, .boolean), (k_m, .int)] sz)) (va_Qi (fun r _ => r = 4) (fun (u : Nat → Int32) t => zc_B (dC, dI) (va_A [(a_p, .inr (4, [.ref a_m, .ref a_t, .ref a_u, .ref a_i, .ref a_o, .ref a_r, .ref a_f, .int 0, .int pc, .int 0, .int tk])), (a_t, .inr (5, [.int 0, .int 0, .int 0, .int 0, .int 0, .int 0, .int 0])), (a_u, .inr (2, [.ref a_d, .ref a_b, .ref a_c, .ref a_q, .int 0, .int 0, .int 0, .int 0, .ref a_s, .int 0, .int t])), (a_d, .inl (k_d, 16, .inl (fun _ => 0))), (a_b, .inl (k_b, 16, .inl (fun _ => 0))), (a_c, .inl (k_c, 16, .inl (fun _ => 0))), (a_i, .inr (1, [.int 0, .int 0, .int 7, .int 0, .int 0, .int 0, .int 0])), (a_m, .inl (k_m, 1024, .inl (fun _ => 0)))] sz) [(a_p, .inr (4, [.ref a_m, .ref a_t, .ref a_u, .ref a_i, .ref a_o, .ref a_r, .ref a_f, .int 0, .int (u 0), .int 0, .int 4])), (a_t, .inr (5, [.int 0, .int 0, .int 0, .int 0, .int 0, .int 0, .int 0])), (a_u, .inr (2, [.ref a_d, .ref a_b, .ref a_c, .ref a_q, .int 0, .int 0, .int 0, .int 0, .ref a_s, .int 0, .int (u 1)])), (a_d, .inl (k_d, 16, .inl (fun _ => 0))), (a_b, .inl (k_b, 16, .inl (fun _ => 0))), (a_c, .inl (k_c, 16, .inl (fun _ => 0))), (a_i, .inr (1, [.int 0, .int 0, .int 7, .int 0, .int 0, .int 0, .int 0])), (a_m, .inl (k_m, 1024, .inl (fun _ => 0)))] [(k_d, .boolean), (k_b, .boolean), (k_c, .boolean), (k_m, .int)] t) (va_A [(a_p, .inr (4, [.ref a_m, .ref a_t, .ref a_u, .ref a_i, .ref a_o, .ref a_r, .ref a_f, .int 0, .int pc, .int 0, .int tk])), (a_t, .inr (5, [.int 0, .int 0, .int 0, .int 0, .int 0, .int 0, .int 0])), (a_u, .inr (2, [.ref a_d, .ref a_b, .ref a_c, .ref a_q, .int 0, .int 0, .int 0, .int 0, .ref a_s, .int 0, .int t])), (a_d, .inl (k_d, 16, .inl (fun _ => 0))), (a_b, .inl (k_b, 16, .inl (fun _ => 0))), (a_c, .inl (k_c, 16, .inl (fun _ => 0))), (a_i, .inr (1, [.int 0, .int 0, .int 7, .int 0, .int 0, .int 0, .int 0])), (a_m, .inl (k_m, 1024, .inl (fun _ => 0)))] sz)) 0 0 (va_A [(a_p, .inr (4, [.ref a_m, .ref a_t, .ref a_u, .ref a_i, .ref a_o, .ref a_r, .ref a_f, .int 0, .int pc, .int 0, .int tk])), (a_t, .inr (5, [.int 0, .int 0, .int 0, .int 0, .int 0, .int 0, .int 0])), (a_u, .inr (2, [.ref a_d, .ref a_b, .ref a_c, .ref a_q, .int 0, .int 0, .int 0, .int 0, .ref a_s, .int 0, .int t])), (a_d, .inl (k_d, 16, .inl (fun _ => 0))), (a_b, .inl (k_b, 16, .inl (fun _ => 0))), (a_c, .inl (k_c, 16, .inl (fun _ => 0))), (a_i, .inr (1, [.int 0, .int 0, .int 7, .int 0, .int 0, .int 0, .int 0])), (a_m, .inl (k_m, 1024, .inl (fun _ => 0)))] sz) := by
  refine Met.ofW (cc := cX4_advance) (maxL := 3) (ret := (some .int)) (by decide) rfl ?_
  intro p e s m args below meth c s₁ B hml hv
  obtain ⟨rfl, hsz, hP, hK, hD0, hN⟩ := hv
  have hx := B.exec
  have hb := B.bytes
  have hr := B.returns
  have hts : ∀ w ∈ zw, w.before _ s = true := fun w h => atoms_spec (ws := (zq yX4_advance cX4_advance 3 (some .int))) B.pre w (List.mem_cons_of_mem _ h)
  have hown : s.vm.findClass RX4 = some m.cls := findClass_of_methodNamed B.named
  have hlocks := B.notSynchronized
  subst hsz
  have hD := hD0.self (sz := s.heap.size)
  generalize hAe : va_A [(a_p, .inr (4, [.ref a_m, .ref a_t, .ref a_u, .ref a_i, .ref a_o, .ref a_r, .ref a_f, .int 0, .int pc, .int 0, .int tk])), (a_t, .inr (5, [.int 0, .int 0, .int 0, .int 0, .int 0, .int 0, .int 0])), (a_u, .inr (2, [.ref a_d, .ref a_b, .ref a_c, .ref a_q, .int 0, .int 0, .int 0, .int 0, .ref a_s, .int 0, .int t])), (a_d, .inl (k_d, 16, .inl (fun _ => 0))), (a_b, .inl (k_b, 16, .inl (fun _ => 0))), (a_c, .inl (k_c, 16, .inl (fun _ => 0))), (a_i, .inr (1, [.int 0, .int 0, .int 7, .int 0, .int 0, .int 0, .int 0])), (a_m, .inl (k_m, 1024, .inl (fun _ => 0)))] s.heap.size = A at hD ⊢
  have hA : ∀ q : Nat, s.heap.size ≤ q → A q := fun q h => by rw [← hAe]; exact Or.inr h
  have hS : va_S A s.heap s.heap [] := va_S.rf
  have hP : va_P (dC, dI) vwCl [(a_p, .inr (4, [.ref a_m, .ref a_t, .ref a_u, .ref a_i, .ref a_o, .ref a_r, .ref a_f, .int 0, .int pc, .int 0, .int tk])), (a_t, .inr (5, [.int 0, .int 0, .int 0, .int 0, .int 0, .int 0, .int 0])), (a_u, .inr (2, [.ref a_d, .ref a_b, .ref a_c, .ref a_q, .int 0, .int 0, .int 0, .int 0, .ref a_s, .int 0, .int t])), (a_d, .inl (k_d, 16, .inl (fun _ => 0))), (a_b, .inl (k_b, 16, .inl (fun _ => 0))), (a_c, .inl (k_c, 16, .inl (fun _ => 0))), (a_i, .inr (1, [.int 0, .int 0, .int 7, .int 0, .int 0, .int 0, .int 0])), (a_m, .inl (k_m, 1024, .inl (fun _ => 0)))] s.heap := hP
  have hl := lv_entry ([.ref a_p]) (n := 3) (Nat.le_of_ble_eq_true rfl)
  rw [lg_entry_eq]
  generalize (lg_sl ([.ref a_p]) ++ List.replicate (3 - (lg_sl ([.ref a_p])).length) Slot.unset).toArray = ls at hl ⊢
  have hl : lv_has ls 3 [(0, .ref a_p)] := hl
  refine lv_aload_n hx hb dX4_advance_0 rfl (lv_at hl 0 rfl) ?_
  refine lv_iconst (v := 4) hx hb dX4_advance_1 (by decide) ?_
  refine va_put (D := (dC, dI)) (ci := 4) (v := .int 4) (ty := .int) (C := RX4) (T := TX4) (N := 11) hx hb hts zx_4 tyX4 tyX4_ok nmX4 hown hK hP hD hS 0 rfl rfl 10 (by decide) (hts (.fieldLink RX4 46 "KeyboardKit$Processor" "ticks" "I") zw_264) (fun _ h9 => h9) rfl (by decide +kernel) rfl rfl (Nat.le_of_ble_eq_true rfl) dX4_advance_2 (fun H locs hP hD hS => ?_)
  have hP : va_P (dC, dI) vwCl [(a_p, .inr (4, [.ref a_m, .ref a_t, .ref a_u, .ref a_i, .ref a_o, .ref a_r, .ref a_f, .int 0, .int pc, .int 0, .int 4])), (a_t, .inr (5, [.int 0, .int 0, .int 0, .int 0, .int 0, .int 0, .int 0])), (a_u, .inr (2, [.ref a_d, .ref a_b, .ref a_c, .ref a_q, .int 0, .int 0, .int 0, .int 0, .ref a_s, .int 0, .int t])), (a_d, .inl (k_d, 16, .inl (fun _ => 0))), (a_b, .inl (k_b, 16, .inl (fun _ => 0))), (a_c, .inl (k_c, 16, .inl (fun _ => 0))), (a_i, .inr (1, [.int 0, .int 0, .int 7, .int 0, .int 0, .int 0, .int 0])), (a_m, .inl (k_m, 1024, .inl (fun _ => 0)))] H := hP
  have hD : va_D A [(a_p, .inr (4, [.ref a_m, .ref a_t, .ref a_u, .ref a_i, .ref a_o, .ref a_r, .ref a_f, .int 0, .int pc, .int 0, .int 4])), (a_t, .inr (5, [.int 0, .int 0, .int 0, .int 0, .int 0, .int 0, .int 0])), (a_u, .inr (2, [.ref a_d, .ref a_b, .ref a_c, .ref a_q, .int 0, .int 0, .int 0, .int 0, .ref a_s, .int 0, .int t])), (a_d, .inl (k_d, 16, .inl (fun _ => 0))), (a_b, .inl (k_b, 16, .inl (fun _ => 0))), (a_c, .inl (k_c, 16, .inl (fun _ => 0))), (a_i, .inr (1, [.int 0, .int 0, .int 7, .int 0, .int 0, .int 0, .int 0])), (a_m, .inl (k_m, 1024, .inl (fun _ => 0)))] := hD
  refine lv_aload_n hx hb dX4_advance_5 rfl (lv_at hl 0 rfl) ?_
  refine va_get (D := (dC, dI)) (ci := 4) (v := .ref a_i) (C := RX4) (T := TX4) (N := 11) hx hb hts zx_4 hown hK hP 0 rfl rfl 3 (by decide) (hts (.fieldLink RX4 33 "KeyboardKit$Processor" "interrupts" "LKeyboardKit$Interrupts;") zw_252) (fun _ h9 => h9) rfl dX4_advance_6 ?_
  refine lv_aload_n hx hb dX4_advance_9 rfl (lv_at hl 0 rfl) ?_
  refine va_get (D := (dC, dI)) (ci := 4) (v := .ref a_u) (C := RX4) (T := TX4) (N := 11) hx hb hts zx_4 hown hK hP 0 rfl rfl 2 (by decide) (hts (.fieldLink RX4 29 "KeyboardKit$Processor" "unit" "LKeyboardKit$KeyUnit;") zw_251) (fun _ h9 => h9) rfl dX4_advance_10 ?_
  refine va_getN (D := (dC, dI)) (ci := 2) (v := .int 0) (C := RX2) (T := TX2) (N := 11) hx hb hts zx_2 hown hK hP 2 rfl rfl 5 (by decide) (va_Nw.use rfl (nf_4 hN)) (fun _ h9 => h9) rfl dX4_advance_13 ?_
  refine lv_if_le (tgt := 23) hx hb dX4_advance_16 (by decide) (fun c_1 => ?_) (fun c_1 => absurd (by decide) c_1)
  refine lv_iconst (v := 0) hx hb dX4_advance_23 (by decide) ?_
  refine zc_i (wr := [(a_p, .inr (4, [.ref a_m, .ref a_t, .ref a_u, .ref a_i, .ref a_o, .ref a_r, .ref a_f, .int 0, .int pc, .int 0, .int 4])), (a_t, .inr (5, [.int 0, .int 0, .int 0, .int 0, .int 0, .int 0, .int 0])), (a_u, .inr (2, [.ref a_d, .ref a_b, .ref a_c, .ref a_q, .int 0, .int 0, .int 0, .int 0, .ref a_s, .int 0, .int t])), (a_d, .inl (k_d, 16, .inl (fun _ => 0))), (a_b, .inl (k_b, 16, .inl (fun _ => 0))), (a_c, .inl (k_c, 16, .inl (fun _ => 0))), (a_m, .inl (k_m, 1024, .inl (fun _ => 0)))]) hP hD hS hA [6] [0, 1, 2, 3, 4, 5, 7] rfl rfl (by decide) (by decide) (va_runV (As := [.int 0]) (rest := []) ⟨hx, hb, hml, hown, hts⟩ (c_serve l dC dI a_i 0 _) (cwV 1 hts (zg_V zw_320 zw_321 zw_322 zw_86 zw_323) rfl rfl rfl (by decide +kernel) ⟨Nat.le_of_ble_eq_true rfl, Nat.le_of_ble_eq_true rfl⟩) ⟨zc_blind, va_recv hK hP (ci := 1) (q0 := 6) rfl rfl, zc_start hP hD hK hN [6] [] rfl (by decide) rfl⟩ rfl rfl hl.1 rfl (lv_room (Nat.le_of_ble_eq_true rfl)) dX4_advance_24 ⟨Nat.le_of_ble_eq_true rfl, Nat.le_of_ble_eq_true rfl⟩) (fun r_2 u_2 H locs hw hK1 hP hD hS => ?_)
  have hP : va_P (dC, dI) vwCl [(a_p, .inr (4, [.ref a_m, .ref a_t, .ref a_u, .ref a_i, .ref a_o, .ref a_r, .ref a_f, .int 0, .int pc, .int 0, .int 4])), (a_t, .inr (5, [.int 0, .int 0, .int 0, .int 0, .int 0, .int 0, .int 0])), (a_u, .inr (2, [.ref a_d, .ref a_b, .ref a_c, .ref a_q, .int 0, .int 0, .int 0, .int 0, .ref a_s, .int 0, .int t])), (a_d, .inl (k_d, 16, .inl (fun _ => 0))), (a_b, .inl (k_b, 16, .inl (fun _ => 0))), (a_c, .inl (k_c, 16, .inl (fun _ => 0))), (a_m, .inl (k_m, 1024, .inl (fun _ => 0))), (a_i, .inr (1, [.int 0, .int 0, .int 7, .int 0, .int 0, .int 0, .int 0]))] H := hP
  have hD : va_D A [(a_p, .inr (4, [.ref a_m, .ref a_t, .ref a_u, .ref a_i, .ref a_o, .ref a_r, .ref a_f, .int 0, .int pc, .int 0, .int 4])), (a_t, .inr (5, [.int 0, .int 0, .int 0, .int 0, .int 0, .int 0, .int 0])), (a_u, .inr (2, [.ref a_d, .ref a_b, .ref a_c, .ref a_q, .int 0, .int 0, .int 0, .int 0, .ref a_s, .int 0, .int t])), (a_d, .inl (k_d, 16, .inl (fun _ => 0))), (a_b, .inl (k_b, 16, .inl (fun _ => 0))), (a_c, .inl (k_c, 16, .inl (fun _ => 0))), (a_m, .inl (k_m, 1024, .inl (fun _ => 0))), (a_i, .inr (1, [.int 0, .int 0, .int 7, .int 0, .int 0, .int 0, .int 0]))] := hD
  obtain rfl : r_2 = 0 := hw
  refine lv_istore_n (lv' := [(1, .int 0), (0, .ref a_p)]) hx hb dX4_advance_27 rfl hl (by decide) rfl (fun ls hl => ?_)
  refine lv_iload_n hx hb dX4_advance_28 rfl (lv_at hl 0 rfl) ?_
  refine lv_if_eq (tgt := 45) hx hb dX4_advance_29 (by decide) (fun c_3 => ?_) (fun c_3 => absurd (by decide) c_3)
  refine lv_aload_n hx hb dX4_advance_45 rfl (lv_at hl 1 rfl) ?_
  refine va_get (D := (dC, dI)) (ci := 4) (v := .int 0) (C := RX4) (T := TX4) (N := 11) hx hb hts zx_4 hown hK hP 0 rfl rfl 9 (by decide) (hts (.fieldLink RX4 61 "KeyboardKit$Processor" "halts" "Z") zw_262) (fun _ h9 => h9) rfl dX4_advance_46 ?_
  refine lv_if_ne (tgt := 92) hx hb dX4_advance_49 (by decide) (fun c_4 => absurd c_4 (by decide)) (fun c_4 => ?_)
  refine lv_aload_n hx hb dX4_advance_52 rfl (lv_at hl 1 rfl) ?_
  refine va_get (D := (dC, dI)) (ci := 4) (v := .ref a_i) (C := RX4) (T := TX4) (N := 11) hx hb hts zx_4 hown hK hP 0 rfl rfl 3 (by decide) (hts (.fieldLink RX4 33 "KeyboardKit$Processor" "interrupts" "LKeyboardKit$Interrupts;") zw_252) (fun _ h9 => h9) rfl dX4_advance_53 ?_
  refine lv_iconst (v := 0) hx hb dX4_advance_56 (by decide) ?_
  refine va_putN (D := (dC, dI)) (ci := 1) (v := .int 0) (ty := .boolean) (C := RX1) (T := TX1) (N := 7) hx hb hts zx_1 tyX1 tyX1_ok nmX1 hown hK hP hD hS 7 rfl rfl 1 (by decide) (va_Nw.use rfl (nf_8 hN)) (fun _ h9 => h9) rfl (by decide +kernel) rfl rfl (Nat.le_of_ble_eq_true rfl) dX4_advance_57 (fun H locs hP hD hS => ?_)
  have hP : va_P (dC, dI) vwCl [(a_p, .inr (4, [.ref a_m, .ref a_t, .ref a_u, .ref a_i, .ref a_o, .ref a_r, .ref a_f, .int 0, .int pc, .int 0, .int 4])), (a_t, .inr (5, [.int 0, .int 0, .int 0, .int 0, .int 0, .int 0, .int 0])), (a_u, .inr (2, [.ref a_d, .ref a_b, .ref a_c, .ref a_q, .int 0, .int 0, .int 0, .int 0, .ref a_s, .int 0, .int t])), (a_d, .inl (k_d, 16, .inl (fun _ => 0))), (a_b, .inl (k_b, 16, .inl (fun _ => 0))), (a_c, .inl (k_c, 16, .inl (fun _ => 0))), (a_m, .inl (k_m, 1024, .inl (fun _ => 0))), (a_i, .inr (1, [.int 0, .int 0, .int 7, .int 0, .int 0, .int 0, .int 0]))] H := hP
  have hD : va_D A [(a_p, .inr (4, [.ref a_m, .ref a_t, .ref a_u, .ref a_i, .ref a_o, .ref a_r, .ref a_f, .int 0, .int pc, .int 0, .int 4])), (a_t, .inr (5, [.int 0, .int 0, .int 0, .int 0, .int 0, .int 0, .int 0])), (a_u, .inr (2, [.ref a_d, .ref a_b, .ref a_c, .ref a_q, .int 0, .int 0, .int 0, .int 0, .ref a_s, .int 0, .int t])), (a_d, .inl (k_d, 16, .inl (fun _ => 0))), (a_b, .inl (k_b, 16, .inl (fun _ => 0))), (a_c, .inl (k_c, 16, .inl (fun _ => 0))), (a_m, .inl (k_m, 1024, .inl (fun _ => 0))), (a_i, .inr (1, [.int 0, .int 0, .int 7, .int 0, .int 0, .int 0, .int 0]))] := hD
  refine lv_aload_n hx hb dX4_advance_60 rfl (lv_at hl 1 rfl) ?_
  refine va_get (D := (dC, dI)) (ci := 4) (v := .ref a_m) (C := RX4) (T := TX4) (N := 11) hx hb hts zx_4 hown hK hP 0 rfl rfl 0 (by decide) (hts (.fieldLink RX4 22 "KeyboardKit$Processor" "memory" "[I") zw_249) (fun _ h9 => h9) rfl dX4_advance_61 ?_
  refine lv_aload_n hx hb dX4_advance_64 rfl (lv_at hl 1 rfl) ?_
  refine va_get (D := (dC, dI)) (ci := 4) (v := .int pc) (C := RX4) (T := TX4) (N := 11) hx hb hts zx_4 hown hK hP 0 rfl rfl 8 (by decide) (hts (.fieldLink RX4 72 "KeyboardKit$Processor" "pc" "I") zw_260) (fun _ h9 => h9) rfl dX4_advance_65 ?_
  refine lv_sipush (v := 1023) hx hb dX4_advance_68 (by decide) ?_
  refine lv_iand hx hb dX4_advance_71 ?_
  refine lv_topi (fun v_5 ev_5 => ?_)
  refine va_iald hx hb hK hP 6 3 rfl rfl (by rw [ev_5]; exact pk_andIn _ 10 (by decide) (by decide)) dX4_advance_72 ?_
  refine lv_topi (fun v_6 ev_6 => ?_)
  obtain rfl : v_6 = 0 := ev_6.trans rfl
  refine lv_istore_n (lv' := [(2, .int 0), (1, .int 0), (0, .ref a_p)]) hx hb dX4_advance_73 rfl hl (by decide) rfl (fun ls hl => ?_)
  refine lv_aload_n hx hb dX4_advance_74 rfl (lv_at hl 2 rfl) ?_
  refine lv_aload_n hx hb dX4_advance_75 rfl (lv_at hl 2 rfl) ?_
  refine va_get (D := (dC, dI)) (ci := 4) (v := .int pc) (C := RX4) (T := TX4) (N := 11) hx hb hts zx_4 hown hK hP 0 rfl rfl 8 (by decide) (hts (.fieldLink RX4 72 "KeyboardKit$Processor" "pc" "I") zw_260) (fun _ h9 => h9) rfl dX4_advance_76 ?_
  refine lv_iconst (v := 1) hx hb dX4_advance_79 (by decide) ?_
  refine lv_iadd hx hb dX4_advance_80 ?_
  refine lv_topi (fun v_7 ev_7 => ?_)
  refine lv_ldc (v := 65535) hx hb hown (hts (.constant RX4 75 (65535)) zw_336) dX4_advance_81 ?_
  refine lv_iand hx hb dX4_advance_83 ?_
  refine lv_topi (fun v_8 ev_8 => ?_)
  refine va_put (D := (dC, dI)) (ci := 4) (v := .int v_8) (ty := .int) (C := RX4) (T := TX4) (N := 11) hx hb hts zx_4 tyX4 tyX4_ok nmX4 hown hK hP hD hS 0 rfl rfl 8 (by decide) (hts (.fieldLink RX4 72 "KeyboardKit$Processor" "pc" "I") zw_260) (fun _ h9 => h9) rfl (by decide +kernel) rfl rfl (Nat.le_of_ble_eq_true rfl) dX4_advance_84 (fun H locs hP hD hS => ?_)
  have hP : va_P (dC, dI) vwCl [(a_p, .inr (4, [.ref a_m, .ref a_t, .ref a_u, .ref a_i, .ref a_o, .ref a_r, .ref a_f, .int 0, .int v_8, .int 0, .int 4])), (a_t, .inr (5, [.int 0, .int 0, .int 0, .int 0, .int 0, .int 0, .int 0])), (a_u, .inr (2, [.ref a_d, .ref a_b, .ref a_c, .ref a_q, .int 0, .int 0, .int 0, .int 0, .ref a_s, .int 0, .int t])), (a_d, .inl (k_d, 16, .inl (fun _ => 0))), (a_b, .inl (k_b, 16, .inl (fun _ => 0))), (a_c, .inl (k_c, 16, .inl (fun _ => 0))), (a_m, .inl (k_m, 1024, .inl (fun _ => 0))), (a_i, .inr (1, [.int 0, .int 0, .int 7, .int 0, .int 0, .int 0, .int 0]))] H := hP
  have hD : va_D A [(a_p, .inr (4, [.ref a_m, .ref a_t, .ref a_u, .ref a_i, .ref a_o, .ref a_r, .ref a_f, .int 0, .int v_8, .int 0, .int 4])), (a_t, .inr (5, [.int 0, .int 0, .int 0, .int 0, .int 0, .int 0, .int 0])), (a_u, .inr (2, [.ref a_d, .ref a_b, .ref a_c, .ref a_q, .int 0, .int 0, .int 0, .int 0, .ref a_s, .int 0, .int t])), (a_d, .inl (k_d, 16, .inl (fun _ => 0))), (a_b, .inl (k_b, 16, .inl (fun _ => 0))), (a_c, .inl (k_c, 16, .inl (fun _ => 0))), (a_m, .inl (k_m, 1024, .inl (fun _ => 0))), (a_i, .inr (1, [.int 0, .int 0, .int 7, .int 0, .int 0, .int 0, .int 0]))] := hD
  refine lv_aload_n hx hb dX4_advance_87 rfl (lv_at hl 2 rfl) ?_
  refine lv_iload_n hx hb dX4_advance_88 rfl (lv_at hl 0 rfl) ?_
  refine zc_v (wr := [(a_t, .inr (5, [.int 0, .int 0, .int 0, .int 0, .int 0, .int 0, .int 0])), (a_u, .inr (2, [.ref a_d, .ref a_b, .ref a_c, .ref a_q, .int 0, .int 0, .int 0, .int 0, .ref a_s, .int 0, .int t])), (a_d, .inl (k_d, 16, .inl (fun _ => 0))), (a_b, .inl (k_b, 16, .inl (fun _ => 0))), (a_c, .inl (k_c, 16, .inl (fun _ => 0))), (a_m, .inl (k_m, 1024, .inl (fun _ => 0))), (a_i, .inr (1, [.int 0, .int 0, .int 7, .int 0, .int 0, .int 0, .int 0]))]) hP hD hS hA [0] [1, 2, 3, 4, 5, 6, 7] rfl rfl (by decide) (by decide) (va_runV (As := [.int 0]) (rest := []) ⟨hx, hb, hml, hown, hts⟩ (c_exec l dC dI a_p a_m a_t a_u a_i a_o a_r a_f v_8 4 _) (cwV 1 hts (zg_V zw_341 zw_343 zw_4 zw_87 zw_344) rfl rfl rfl (by decide +kernel) ⟨Nat.le_of_ble_eq_true rfl, Nat.le_of_ble_eq_true rfl⟩) ⟨zc_blind, va_recv hK hP (ci := 4) (q0 := 0) rfl rfl, zc_start hP hD hK hN [0] [] rfl (by decide) rfl⟩ rfl rfl hl.1 rfl (lv_room (Nat.le_of_ble_eq_true rfl)) dX4_advance_89 ⟨Nat.le_of_ble_eq_true rfl, Nat.le_of_ble_eq_true rfl⟩) (fun u_9 H locs hw hK1 hP hD hS => ?_)
  have hP : va_P (dC, dI) vwCl [(a_t, .inr (5, [.int 0, .int 0, .int 0, .int 0, .int 0, .int 0, .int 0])), (a_u, .inr (2, [.ref a_d, .ref a_b, .ref a_c, .ref a_q, .int 0, .int 0, .int 0, .int 0, .ref a_s, .int 0, .int t])), (a_d, .inl (k_d, 16, .inl (fun _ => 0))), (a_b, .inl (k_b, 16, .inl (fun _ => 0))), (a_c, .inl (k_c, 16, .inl (fun _ => 0))), (a_m, .inl (k_m, 1024, .inl (fun _ => 0))), (a_i, .inr (1, [.int 0, .int 0, .int 7, .int 0, .int 0, .int 0, .int 0])), (a_p, .inr (4, [.ref a_m, .ref a_t, .ref a_u, .ref a_i, .ref a_o, .ref a_r, .ref a_f, .int 0, .int v_8, .int 0, .int 4]))] H := hP
  have hD : va_D A [(a_t, .inr (5, [.int 0, .int 0, .int 0, .int 0, .int 0, .int 0, .int 0])), (a_u, .inr (2, [.ref a_d, .ref a_b, .ref a_c, .ref a_q, .int 0, .int 0, .int 0, .int 0, .ref a_s, .int 0, .int t])), (a_d, .inl (k_d, 16, .inl (fun _ => 0))), (a_b, .inl (k_b, 16, .inl (fun _ => 0))), (a_c, .inl (k_c, 16, .inl (fun _ => 0))), (a_m, .inl (k_m, 1024, .inl (fun _ => 0))), (a_i, .inr (1, [.int 0, .int 0, .int 7, .int 0, .int 0, .int 0, .int 0])), (a_p, .inr (4, [.ref a_m, .ref a_t, .ref a_u, .ref a_i, .ref a_o, .ref a_r, .ref a_f, .int 0, .int v_8, .int 0, .int 4]))] := hD
  refine lv_aload_n hx hb dX4_advance_92 rfl (lv_at hl 2 rfl) ?_
  refine lv_aload_n hx hb dX4_advance_93 rfl (lv_at hl 2 rfl) ?_
  refine va_get (D := (dC, dI)) (ci := 4) (v := .int 4) (C := RX4) (T := TX4) (N := 11) hx hb hts zx_4 hown hK hP 7 rfl rfl 10 (by decide) (hts (.fieldLink RX4 46 "KeyboardKit$Processor" "ticks" "I") zw_264) (fun _ h9 => h9) rfl dX4_advance_94 ?_
  refine zc_v (wr := [(a_m, .inl (k_m, 1024, .inl (fun _ => 0)))]) hP hD hS hA [7, 0, 1, 2, 3, 4, 6] [5] rfl rfl (by decide) (by decide) (va_runV (As := [.int 4]) (rest := []) ⟨hx, hb, hml, hown, hts⟩ (c_pass l dC dI a_p a_m a_t a_u a_i a_o a_r a_f a_d a_b a_c a_q a_s k_d k_b k_c v_8 4 t _) (cwV 1 hts (zg_V zw_561 zw_563 zw_37 zw_87 zw_564) rfl rfl rfl (by decide +kernel) ⟨Nat.le_of_ble_eq_true rfl, Nat.le_of_ble_eq_true rfl⟩) ⟨zc_blind, va_recv hK hP (ci := 4) (q0 := 7) rfl rfl, zc_start hP hD hK hN [7, 0, 1, 2, 3, 4, 6] [0, 1, 2] rfl (by decide) rfl⟩ rfl rfl hl.1 rfl (lv_room (Nat.le_of_ble_eq_true rfl)) dX4_advance_97 ⟨Nat.le_of_ble_eq_true rfl, Nat.le_of_ble_eq_true rfl⟩) (fun u_10 H locs hw hK1 hP hD hS => ?_)
  have hP : va_P (dC, dI) vwCl [(a_m, .inl (k_m, 1024, .inl (fun _ => 0))), (a_p, .inr (4, [.ref a_m, .ref a_t, .ref a_u, .ref a_i, .ref a_o, .ref a_r, .ref a_f, .int 0, .int v_8, .int 0, .int 4])), (a_t, .inr (5, [.int 0, .int 0, .int 0, .int 0, .int 0, .int 0, .int 0])), (a_u, .inr (2, [.ref a_d, .ref a_b, .ref a_c, .ref a_q, .int 0, .int 0, .int 0, .int 0, .ref a_s, .int 0, .int u_10])), (a_d, .inl (k_d, 16, .inl (fun _ => 0))), (a_b, .inl (k_b, 16, .inl (fun _ => 0))), (a_c, .inl (k_c, 16, .inl (fun _ => 0))), (a_i, .inr (1, [.int 0, .int 0, .int 7, .int 0, .int 0, .int 0, .int 0]))] H := hP
  have hD : va_D A [(a_m, .inl (k_m, 1024, .inl (fun _ => 0))), (a_p, .inr (4, [.ref a_m, .ref a_t, .ref a_u, .ref a_i, .ref a_o, .ref a_r, .ref a_f, .int 0, .int v_8, .int 0, .int 4])), (a_t, .inr (5, [.int 0, .int 0, .int 0, .int 0, .int 0, .int 0, .int 0])), (a_u, .inr (2, [.ref a_d, .ref a_b, .ref a_c, .ref a_q, .int 0, .int 0, .int 0, .int 0, .ref a_s, .int 0, .int u_10])), (a_d, .inl (k_d, 16, .inl (fun _ => 0))), (a_b, .inl (k_b, 16, .inl (fun _ => 0))), (a_c, .inl (k_c, 16, .inl (fun _ => 0))), (a_i, .inr (1, [.int 0, .int 0, .int 7, .int 0, .int 0, .int 0, .int 0]))] := hD
  refine lv_aload_n hx hb dX4_advance_100 rfl (lv_at hl 2 rfl) ?_
  refine va_get (D := (dC, dI)) (ci := 4) (v := .int 4) (C := RX4) (T := TX4) (N := 11) hx hb hts zx_4 hown hK hP 1 rfl rfl 10 (by decide) (hts (.fieldLink RX4 46 "KeyboardKit$Processor" "ticks" "I") zw_264) (fun _ h9 => h9) rfl dX4_advance_101 ?_
  have hP9 := hP.sub (ws' := [(a_p, .inr (4, [.ref a_m, .ref a_t, .ref a_u, .ref a_i, .ref a_o, .ref a_r, .ref a_f, .int 0, .int v_8, .int 0, .int 4])), (a_t, .inr (5, [.int 0, .int 0, .int 0, .int 0, .int 0, .int 0, .int 0])), (a_u, .inr (2, [.ref a_d, .ref a_b, .ref a_c, .ref a_q, .int 0, .int 0, .int 0, .int 0, .ref a_s, .int 0, .int u_10])), (a_d, .inl (k_d, 16, .inl (fun _ => 0))), (a_b, .inl (k_b, 16, .inl (fun _ => 0))), (a_c, .inl (k_c, 16, .inl (fun _ => 0))), (a_i, .inr (1, [.int 0, .int 0, .int 7, .int 0, .int 0, .int 0, .int 0])), (a_m, .inl (k_m, 1024, .inl (fun _ => 0)))]) [1, 2, 3, 4, 5, 6, 7, 0] rfl
  have hD9 := hD.sub (ws' := [(a_p, .inr (4, [.ref a_m, .ref a_t, .ref a_u, .ref a_i, .ref a_o, .ref a_r, .ref a_f, .int 0, .int v_8, .int 0, .int 4])), (a_t, .inr (5, [.int 0, .int 0, .int 0, .int 0, .int 0, .int 0, .int 0])), (a_u, .inr (2, [.ref a_d, .ref a_b, .ref a_c, .ref a_q, .int 0, .int 0, .int 0, .int 0, .ref a_s, .int 0, .int u_10])), (a_d, .inl (k_d, 16, .inl (fun _ => 0))), (a_b, .inl (k_b, 16, .inl (fun _ => 0))), (a_c, .inl (k_c, 16, .inl (fun _ => 0))), (a_i, .inr (1, [.int 0, .int 0, .int 7, .int 0, .int 0, .int 0, .int 0])), (a_m, .inl (k_m, 1024, .inl (fun _ => 0)))]) [1, 2, 3, 4, 5, 6, 7, 0] (by decide) rfl
  have hK9 := hK.sub (tys' := [(k_d, .boolean), (k_b, .boolean), (k_c, .boolean), (k_m, .int)]) [0, 1, 2, 3] rfl
  exact W.iret (v := 4) hx hb hr (fun t9 ht hW => ⟨⟨4, (fun k => match k with | 0 => v_8 | _ => u_10), rfl, rfl, by rw [ht]; exact hP9, va_K.moved hW.alike hK9, hD9⟩, hS.F ht⟩) hS.2.2 dX4_advance_104
end
