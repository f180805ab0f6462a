section
-- ===== PART A: goes FIRST, ahead of the names: the tables' words, and 'selects' of the private methods out of them =====
/-- a private method of a class that the tables say can be made, by its rows of tables_1 -/
def lw_okq (q : MethodName × Nat) : Prop := (q.1.cls ≠ "java/lang/invoke/MethodHandle" ∧ q.1.cls ≠ "java/lang/invoke/VarHandle") ∧ Cond.instantiable q.1.cls q.2 ∈ tables_1 ∧ Cond.privateMethod q.1 ∈ tables_1 ∧ Cond.instanceMethod q.1 ∈ tables_1
theorem lw_p0 : lw_okq (⟨"WorkflowEngine$Reader", "readBody", "(I)I"⟩, 6) := ⟨⟨by decide +kernel, by decide +kernel⟩, List.mem_of_getElem? (i := 23) (by decide +kernel), List.mem_of_getElem? (i := 327) (by decide +kernel), List.mem_of_getElem? (i := 328) (by decide +kernel)⟩
theorem lw_p1 : lw_okq (⟨"WorkflowEngine$Reader", "readItem", "(I)I"⟩, 6) := ⟨⟨by decide +kernel, by decide +kernel⟩, List.mem_of_getElem? (i := 23) (by decide +kernel), List.mem_of_getElem? (i := 331) (by decide +kernel), List.mem_of_getElem? (i := 332) (by decide +kernel)⟩
theorem lw_p2 : lw_okq (⟨"WorkflowEngine$Reader", "sign", "()I"⟩, 6) := ⟨⟨by decide +kernel, by decide +kernel⟩, List.mem_of_getElem? (i := 23) (by decide +kernel), List.mem_of_getElem? (i := 335) (by decide +kernel), List.mem_of_getElem? (i := 336) (by decide +kernel)⟩
theorem lw_p3 : lw_okq (⟨"WorkflowEngine$Reader", "fail", "(I)V"⟩, 6) := ⟨⟨by decide +kernel, by decide +kernel⟩, List.mem_of_getElem? (i := 23) (by decide +kernel), List.mem_of_getElem? (i := 342) (by decide +kernel), List.mem_of_getElem? (i := 343) (by decide +kernel)⟩
theorem lw_p4 : lw_okq (⟨"WorkflowEngine$Reader", "readTask", "(I)V"⟩, 6) := ⟨⟨by decide +kernel, by decide +kernel⟩, List.mem_of_getElem? (i := 23) (by decide +kernel), List.mem_of_getElem? (i := 351) (by decide +kernel), List.mem_of_getElem? (i := 352) (by decide +kernel)⟩
theorem lw_p5 : lw_okq (⟨"WorkflowEngine$Reader", "readCode", "()I"⟩, 6) := ⟨⟨by decide +kernel, by decide +kernel⟩, List.mem_of_getElem? (i := 23) (by decide +kernel), List.mem_of_getElem? (i := 355) (by decide +kernel), List.mem_of_getElem? (i := 356) (by decide +kernel)⟩
theorem lw_p6 : lw_okq (⟨"WorkflowEngine$Reader", "readBetween", "(II)I"⟩, 6) := ⟨⟨by decide +kernel, by decide +kernel⟩, List.mem_of_getElem? (i := 23) (by decide +kernel), List.mem_of_getElem? (i := 359) (by decide +kernel), List.mem_of_getElem? (i := 360) (by decide +kernel)⟩
theorem lw_p7 : lw_okq (⟨"WorkflowEngine$Reader", "takes", "(I)Z"⟩, 6) := ⟨⟨by decide +kernel, by decide +kernel⟩, List.mem_of_getElem? (i := 23) (by decide +kernel), List.mem_of_getElem? (i := 363) (by decide +kernel), List.mem_of_getElem? (i := 364) (by decide +kernel)⟩
theorem lw_p8 : lw_okq (⟨"WorkflowEngine$Reader", "readNumber", "()I"⟩, 6) := ⟨⟨by decide +kernel, by decide +kernel⟩, List.mem_of_getElem? (i := 23) (by decide +kernel), List.mem_of_getElem? (i := 367) (by decide +kernel), List.mem_of_getElem? (i := 368) (by decide +kernel)⟩
theorem lw_p9 : lw_okq (⟨"WorkflowEngine$Reader", "readSignal", "(I)V"⟩, 6) := ⟨⟨by decide +kernel, by decide +kernel⟩, List.mem_of_getElem? (i := 23) (by decide +kernel), List.mem_of_getElem? (i := 374) (by decide +kernel), List.mem_of_getElem? (i := 375) (by decide +kernel)⟩
theorem lw_p10 : lw_okq (⟨"WorkflowEngine$Reader", "readSet", "(I)V"⟩, 6) := ⟨⟨by decide +kernel, by decide +kernel⟩, List.mem_of_getElem? (i := 23) (by decide +kernel), List.mem_of_getElem? (i := 378) (by decide +kernel), List.mem_of_getElem? (i := 379) (by decide +kernel)⟩
theorem lw_p11 : lw_okq (⟨"WorkflowEngine$Reader", "readVariable", "()I"⟩, 6) := ⟨⟨by decide +kernel, by decide +kernel⟩, List.mem_of_getElem? (i := 23) (by decide +kernel), List.mem_of_getElem? (i := 382) (by decide +kernel), List.mem_of_getElem? (i := 383) (by decide +kernel)⟩
theorem lw_p12 : lw_okq (⟨"WorkflowEngine$Reader", "expect", "(I)V"⟩, 6) := ⟨⟨by decide +kernel, by decide +kernel⟩, List.mem_of_getElem? (i := 23) (by decide +kernel), List.mem_of_getElem? (i := 386) (by decide +kernel), List.mem_of_getElem? (i := 387) (by decide +kernel)⟩
theorem lw_p13 : lw_okq (⟨"WorkflowEngine$Reader", "readChoice", "(II)V"⟩, 6) := ⟨⟨by decide +kernel, by decide +kernel⟩, List.mem_of_getElem? (i := 23) (by decide +kernel), List.mem_of_getElem? (i := 390) (by decide +kernel), List.mem_of_getElem? (i := 391) (by decide +kernel)⟩
theorem lw_p14 : lw_okq (⟨"WorkflowEngine$Reader", "readBodyOf", "(III)I"⟩, 6) := ⟨⟨by decide +kernel, by decide +kernel⟩, List.mem_of_getElem? (i := 23) (by decide +kernel), List.mem_of_getElem? (i := 394) (by decide +kernel), List.mem_of_getElem? (i := 395) (by decide +kernel)⟩
theorem lw_p15 : lw_okq (⟨"WorkflowEngine$Reader", "readParallel", "(II)V"⟩, 6) := ⟨⟨by decide +kernel, by decide +kernel⟩, List.mem_of_getElem? (i := 23) (by decide +kernel), List.mem_of_getElem? (i := 398) (by decide +kernel), List.mem_of_getElem? (i := 399) (by decide +kernel)⟩
def lw_privs_1 : List (MethodName × Nat) := [(⟨"WorkflowEngine$Reader", "readBody", "(I)I"⟩, 6), (⟨"WorkflowEngine$Reader", "readItem", "(I)I"⟩, 6), (⟨"WorkflowEngine$Reader", "sign", "()I"⟩, 6), (⟨"WorkflowEngine$Reader", "fail", "(I)V"⟩, 6), (⟨"WorkflowEngine$Reader", "readTask", "(I)V"⟩, 6), (⟨"WorkflowEngine$Reader", "readCode", "()I"⟩, 6), (⟨"WorkflowEngine$Reader", "readBetween", "(II)I"⟩, 6), (⟨"WorkflowEngine$Reader", "takes", "(I)Z"⟩, 6), (⟨"WorkflowEngine$Reader", "readNumber", "()I"⟩, 6), (⟨"WorkflowEngine$Reader", "readSignal", "(I)V"⟩, 6), (⟨"WorkflowEngine$Reader", "readSet", "(I)V"⟩, 6), (⟨"WorkflowEngine$Reader", "readVariable", "()I"⟩, 6), (⟨"WorkflowEngine$Reader", "expect", "(I)V"⟩, 6), (⟨"WorkflowEngine$Reader", "readChoice", "(II)V"⟩, 6), (⟨"WorkflowEngine$Reader", "readBodyOf", "(III)I"⟩, 6), (⟨"WorkflowEngine$Reader", "readParallel", "(II)V"⟩, 6)]
theorem lw_r1 : ∀ q ∈ lw_privs_1, lw_okq q := List.forall_mem_cons.mpr ⟨lw_p0, List.forall_mem_cons.mpr ⟨lw_p1, List.forall_mem_cons.mpr ⟨lw_p2, List.forall_mem_cons.mpr ⟨lw_p3, List.forall_mem_cons.mpr ⟨lw_p4, List.forall_mem_cons.mpr ⟨lw_p5, List.forall_mem_cons.mpr ⟨lw_p6, List.forall_mem_cons.mpr ⟨lw_p7, List.forall_mem_cons.mpr ⟨lw_p8, List.forall_mem_cons.mpr ⟨lw_p9, List.forall_mem_cons.mpr ⟨lw_p10, List.forall_mem_cons.mpr ⟨lw_p11, List.forall_mem_cons.mpr ⟨lw_p12, List.forall_mem_cons.mpr ⟨lw_p13, List.forall_mem_cons.mpr ⟨lw_p14, List.forall_mem_cons.mpr ⟨lw_p15, fun _ h => absurd h List.not_mem_nil⟩⟩⟩⟩⟩⟩⟩⟩⟩⟩⟩⟩⟩⟩⟩⟩
theorem lw_p16 : lw_okq (⟨"WorkflowEngine$Instance", "beginBody", "(II)V"⟩, 18) := ⟨⟨by decide +kernel, by decide +kernel⟩, List.mem_of_getElem? (i := 163) (by decide +kernel), List.mem_of_getElem? (i := 435) (by decide +kernel), List.mem_of_getElem? (i := 436) (by decide +kernel)⟩
theorem lw_p17 : lw_okq (⟨"WorkflowEngine$Instance", "beginItem", "(II)V"⟩, 18) := ⟨⟨by decide +kernel, by decide +kernel⟩, List.mem_of_getElem? (i := 163) (by decide +kernel), List.mem_of_getElem? (i := 440) (by decide +kernel), List.mem_of_getElem? (i := 441) (by decide +kernel)⟩
theorem lw_p18 : lw_okq (⟨"WorkflowEngine$Instance", "beginAttempt", "(I)V"⟩, 18) := ⟨⟨by decide +kernel, by decide +kernel⟩, List.mem_of_getElem? (i := 163) (by decide +kernel), List.mem_of_getElem? (i := 445) (by decide +kernel), List.mem_of_getElem? (i := 446) (by decide +kernel)⟩
theorem lw_p19 : lw_okq (⟨"WorkflowEngine$Instance", "beginSignal", "(I)V"⟩, 18) := ⟨⟨by decide +kernel, by decide +kernel⟩, List.mem_of_getElem? (i := 163) (by decide +kernel), List.mem_of_getElem? (i := 457) (by decide +kernel), List.mem_of_getElem? (i := 458) (by decide +kernel)⟩
theorem lw_p20 : lw_okq (⟨"WorkflowEngine$Instance", "chosenBody", "(I)I"⟩, 18) := ⟨⟨by decide +kernel, by decide +kernel⟩, List.mem_of_getElem? (i := 163) (by decide +kernel), List.mem_of_getElem? (i := 461) (by decide +kernel), List.mem_of_getElem? (i := 462) (by decide +kernel)⟩
theorem lw_p21 : lw_okq (⟨"WorkflowEngine$Instance", "beginBodies", "(II)V"⟩, 18) := ⟨⟨by decide +kernel, by decide +kernel⟩, List.mem_of_getElem? (i := 163) (by decide +kernel), List.mem_of_getElem? (i := 469) (by decide +kernel), List.mem_of_getElem? (i := 470) (by decide +kernel)⟩
theorem lw_p22 : lw_okq (⟨"WorkflowEngine$Instance", "goOn", "(II)V"⟩, 18) := ⟨⟨by decide +kernel, by decide +kernel⟩, List.mem_of_getElem? (i := 163) (by decide +kernel), List.mem_of_getElem? (i := 473) (by decide +kernel), List.mem_of_getElem? (i := 474) (by decide +kernel)⟩
theorem lw_p23 : lw_okq (⟨"WorkflowEngine$Instance", "lookAt", "(II)V"⟩, 18) := ⟨⟨by decide +kernel, by decide +kernel⟩, List.mem_of_getElem? (i := 163) (by decide +kernel), List.mem_of_getElem? (i := 477) (by decide +kernel), List.mem_of_getElem? (i := 478) (by decide +kernel)⟩
theorem lw_p24 : lw_okq (⟨"WorkflowEngine$Instance", "lookAtTask", "(I)V"⟩, 18) := ⟨⟨by decide +kernel, by decide +kernel⟩, List.mem_of_getElem? (i := 163) (by decide +kernel), List.mem_of_getElem? (i := 481) (by decide +kernel), List.mem_of_getElem? (i := 482) (by decide +kernel)⟩
theorem lw_p25 : lw_okq (⟨"WorkflowEngine$Instance", "goesOn", "(I)Z"⟩, 18) := ⟨⟨by decide +kernel, by decide +kernel⟩, List.mem_of_getElem? (i := 163) (by decide +kernel), List.mem_of_getElem? (i := 485) (by decide +kernel), List.mem_of_getElem? (i := 486) (by decide +kernel)⟩
theorem lw_p26 : lw_okq (⟨"WorkflowEngine$Instance", "endAttempt", "(I)V"⟩, 18) := ⟨⟨by decide +kernel, by decide +kernel⟩, List.mem_of_getElem? (i := 163) (by decide +kernel), List.mem_of_getElem? (i := 489) (by decide +kernel), List.mem_of_getElem? (i := 490) (by decide +kernel)⟩
theorem lw_p27 : lw_okq (⟨"WorkflowEngine$Instance", "lookAtWait", "(I)V"⟩, 18) := ⟨⟨by decide +kernel, by decide +kernel⟩, List.mem_of_getElem? (i := 163) (by decide +kernel), List.mem_of_getElem? (i := 497) (by decide +kernel), List.mem_of_getElem? (i := 498) (by decide +kernel)⟩
theorem lw_p28 : lw_okq (⟨"WorkflowEngine$Instance", "lookAtSignal", "(I)V"⟩, 18) := ⟨⟨by decide +kernel, by decide +kernel⟩, List.mem_of_getElem? (i := 163) (by decide +kernel), List.mem_of_getElem? (i := 501) (by decide +kernel), List.mem_of_getElem? (i := 502) (by decide +kernel)⟩
theorem lw_p29 : lw_okq (⟨"WorkflowEngine$Instance", "changeVariable", "(I)V"⟩, 18) := ⟨⟨by decide +kernel, by decide +kernel⟩, List.mem_of_getElem? (i := 163) (by decide +kernel), List.mem_of_getElem? (i := 505) (by decide +kernel), List.mem_of_getElem? (i := 506) (by decide +kernel)⟩
theorem lw_p30 : lw_okq (⟨"WorkflowEngine$Instance", "lookAtChoice", "(II)V"⟩, 18) := ⟨⟨by decide +kernel, by decide +kernel⟩, List.mem_of_getElem? (i := 163) (by decide +kernel), List.mem_of_getElem? (i := 509) (by decide +kernel), List.mem_of_getElem? (i := 510) (by decide +kernel)⟩
theorem lw_p31 : lw_okq (⟨"WorkflowEngine$Instance", "lookAtParallel", "(II)V"⟩, 18) := ⟨⟨by decide +kernel, by decide +kernel⟩, List.mem_of_getElem? (i := 163) (by decide +kernel), List.mem_of_getElem? (i := 513) (by decide +kernel), List.mem_of_getElem? (i := 514) (by decide +kernel)⟩
def lw_privs_2 : List (MethodName × Nat) := [(⟨"WorkflowEngine$Instance", "beginBody", "(II)V"⟩, 18), (⟨"WorkflowEngine$Instance", "beginItem", "(II)V"⟩, 18), (⟨"WorkflowEngine$Instance", "beginAttempt", "(I)V"⟩, 18), (⟨"WorkflowEngine$Instance", "beginSignal", "(I)V"⟩, 18), (⟨"WorkflowEngine$Instance", "chosenBody", "(I)I"⟩, 18), (⟨"WorkflowEngine$Instance", "beginBodies", "(II)V"⟩, 18), (⟨"WorkflowEngine$Instance", "goOn", "(II)V"⟩, 18), (⟨"WorkflowEngine$Instance", "lookAt", "(II)V"⟩, 18), (⟨"WorkflowEngine$Instance", "lookAtTask", "(I)V"⟩, 18), (⟨"WorkflowEngine$Instance", "goesOn", "(I)Z"⟩, 18), (⟨"WorkflowEngine$Instance", "endAttempt", "(I)V"⟩, 18), (⟨"WorkflowEngine$Instance", "lookAtWait", "(I)V"⟩, 18), (⟨"WorkflowEngine$Instance", "lookAtSignal", "(I)V"⟩, 18), (⟨"WorkflowEngine$Instance", "changeVariable", "(I)V"⟩, 18), (⟨"WorkflowEngine$Instance", "lookAtChoice", "(II)V"⟩, 18), (⟨"WorkflowEngine$Instance", "lookAtParallel", "(II)V"⟩, 18)]
theorem lw_r2 : ∀ q ∈ lw_privs_2, lw_okq q := List.forall_mem_cons.mpr ⟨lw_p16, List.forall_mem_cons.mpr ⟨lw_p17, List.forall_mem_cons.mpr ⟨lw_p18, List.forall_mem_cons.mpr ⟨lw_p19, List.forall_mem_cons.mpr ⟨lw_p20, List.forall_mem_cons.mpr ⟨lw_p21, List.forall_mem_cons.mpr ⟨lw_p22, List.forall_mem_cons.mpr ⟨lw_p23, List.forall_mem_cons.mpr ⟨lw_p24, List.forall_mem_cons.mpr ⟨lw_p25, List.forall_mem_cons.mpr ⟨lw_p26, List.forall_mem_cons.mpr ⟨lw_p27, List.forall_mem_cons.mpr ⟨lw_p28, List.forall_mem_cons.mpr ⟨lw_p29, List.forall_mem_cons.mpr ⟨lw_p30, List.forall_mem_cons.mpr ⟨lw_p31, fun _ h => absurd h List.not_mem_nil⟩⟩⟩⟩⟩⟩⟩⟩⟩⟩⟩⟩⟩⟩⟩⟩
theorem lw_p32 : lw_okq (⟨"WorkflowEngine$Instance", "join", "(I)V"⟩, 18) := ⟨⟨by decide +kernel, by decide +kernel⟩, List.mem_of_getElem? (i := 163) (by decide +kernel), List.mem_of_getElem? (i := 517) (by decide +kernel), List.mem_of_getElem? (i := 518) (by decide +kernel)⟩
theorem lw_p33 : lw_okq (⟨"WorkflowEngine$Instance", "bodiesWith", "(II)I"⟩, 18) := ⟨⟨by decide +kernel, by decide +kernel⟩, List.mem_of_getElem? (i := 163) (by decide +kernel), List.mem_of_getElem? (i := 521) (by decide +kernel), List.mem_of_getElem? (i := 522) (by decide +kernel)⟩
theorem lw_p34 : lw_okq (⟨"WorkflowEngine$Instance", "cancelBodies", "(I)V"⟩, 18) := ⟨⟨by decide +kernel, by decide +kernel⟩, List.mem_of_getElem? (i := 163) (by decide +kernel), List.mem_of_getElem? (i := 525) (by decide +kernel), List.mem_of_getElem? (i := 526) (by decide +kernel)⟩
theorem lw_p35 : lw_okq (⟨"WorkflowEngine$Instance", "cancel", "(II)V"⟩, 18) := ⟨⟨by decide +kernel, by decide +kernel⟩, List.mem_of_getElem? (i := 163) (by decide +kernel), List.mem_of_getElem? (i := 529) (by decide +kernel), List.mem_of_getElem? (i := 530) (by decide +kernel)⟩
theorem lw_p36 : lw_okq (⟨"WorkflowEngine$Instance", "reversesAll", "(I)Z"⟩, 18) := ⟨⟨by decide +kernel, by decide +kernel⟩, List.mem_of_getElem? (i := 163) (by decide +kernel), List.mem_of_getElem? (i := 533) (by decide +kernel), List.mem_of_getElem? (i := 534) (by decide +kernel)⟩
theorem lw_p37 : lw_okq (⟨"WorkflowEngine$Instance", "endReversal", "(II)V"⟩, 18) := ⟨⟨by decide +kernel, by decide +kernel⟩, List.mem_of_getElem? (i := 163) (by decide +kernel), List.mem_of_getElem? (i := 537) (by decide +kernel), List.mem_of_getElem? (i := 538) (by decide +kernel)⟩
theorem lw_p38 : lw_okq (⟨"WorkflowEngine$Instance", "lastToReverse", "(I)I"⟩, 18) := ⟨⟨by decide +kernel, by decide +kernel⟩, List.mem_of_getElem? (i := 163) (by decide +kernel), List.mem_of_getElem? (i := 541) (by decide +kernel), List.mem_of_getElem? (i := 542) (by decide +kernel)⟩
theorem lw_p39 : lw_okq (⟨"WorkflowEngine$Instance", "isReversible", "(I)Z"⟩, 18) := ⟨⟨by decide +kernel, by decide +kernel⟩, List.mem_of_getElem? (i := 163) (by decide +kernel), List.mem_of_getElem? (i := 546) (by decide +kernel), List.mem_of_getElem? (i := 547) (by decide +kernel)⟩
theorem lw_p40 : lw_okq (⟨"WorkflowEngine$Instance", "concerns", "(II)Z"⟩, 18) := ⟨⟨by decide +kernel, by decide +kernel⟩, List.mem_of_getElem? (i := 163) (by decide +kernel), List.mem_of_getElem? (i := 550) (by decide +kernel), List.mem_of_getElem? (i := 551) (by decide +kernel)⟩
theorem lw_p41 : lw_okq (⟨"WorkflowEngine$Instance", "become", "(I)V"⟩, 18) := ⟨⟨by decide +kernel, by decide +kernel⟩, List.mem_of_getElem? (i := 163) (by decide +kernel), List.mem_of_getElem? (i := 559) (by decide +kernel), List.mem_of_getElem? (i := 560) (by decide +kernel)⟩
theorem lw_p42 : lw_okq (⟨"WorkflowEngine", "find", "(I)LWorkflowEngine$Instance;"⟩, 8) := ⟨⟨by decide +kernel, by decide +kernel⟩, List.mem_of_getElem? (i := 15) (by decide +kernel), List.mem_of_getElem? (i := 571) (by decide +kernel), List.mem_of_getElem? (i := 572) (by decide +kernel)⟩
theorem lw_p43 : lw_okq (⟨"WorkflowEngine$Instance", "isRunning", "(I)Z"⟩, 18) := ⟨⟨by decide +kernel, by decide +kernel⟩, List.mem_of_getElem? (i := 163) (by decide +kernel), List.mem_of_getElem? (i := 632) (by decide +kernel), List.mem_of_getElem? (i := 633) (by decide +kernel)⟩
theorem lw_p44 : lw_okq (⟨"WorkflowEngineModel", "readsBody", "(II)Z"⟩, 21) := ⟨⟨by decide +kernel, by decide +kernel⟩, List.mem_of_getElem? (i := 750) (by decide +kernel), List.mem_of_getElem? (i := 834) (by decide +kernel), List.mem_of_getElem? (i := 835) (by decide +kernel)⟩
theorem lw_p45 : lw_okq (⟨"WorkflowEngineModel", "makes", "(II)I"⟩, 21) := ⟨⟨by decide +kernel, by decide +kernel⟩, List.mem_of_getElem? (i := 750) (by decide +kernel), List.mem_of_getElem? (i := 838) (by decide +kernel), List.mem_of_getElem? (i := 839) (by decide +kernel)⟩
theorem lw_p46 : lw_okq (⟨"WorkflowEngineModel", "put", "(III)V"⟩, 21) := ⟨⟨by decide +kernel, by decide +kernel⟩, List.mem_of_getElem? (i := 750) (by decide +kernel), List.mem_of_getElem? (i := 842) (by decide +kernel), List.mem_of_getElem? (i := 843) (by decide +kernel)⟩
theorem lw_p47 : lw_okq (⟨"WorkflowEngineModel", "readsItem", "(I)Z"⟩, 21) := ⟨⟨by decide +kernel, by decide +kernel⟩, List.mem_of_getElem? (i := 750) (by decide +kernel), List.mem_of_getElem? (i := 849) (by decide +kernel), List.mem_of_getElem? (i := 850) (by decide +kernel)⟩
def lw_privs_3 : List (MethodName × Nat) := [(⟨"WorkflowEngine$Instance", "join", "(I)V"⟩, 18), (⟨"WorkflowEngine$Instance", "bodiesWith", "(II)I"⟩, 18), (⟨"WorkflowEngine$Instance", "cancelBodies", "(I)V"⟩, 18), (⟨"WorkflowEngine$Instance", "cancel", "(II)V"⟩, 18), (⟨"WorkflowEngine$Instance", "reversesAll", "(I)Z"⟩, 18), (⟨"WorkflowEngine$Instance", "endReversal", "(II)V"⟩, 18), (⟨"WorkflowEngine$Instance", "lastToReverse", "(I)I"⟩, 18), (⟨"WorkflowEngine$Instance", "isReversible", "(I)Z"⟩, 18), (⟨"WorkflowEngine$Instance", "concerns", "(II)Z"⟩, 18), (⟨"WorkflowEngine$Instance", "become", "(I)V"⟩, 18), (⟨"WorkflowEngine", "find", "(I)LWorkflowEngine$Instance;"⟩, 8), (⟨"WorkflowEngine$Instance", "isRunning", "(I)Z"⟩, 18), (⟨"WorkflowEngineModel", "readsBody", "(II)Z"⟩, 21), (⟨"WorkflowEngineModel", "makes", "(II)I"⟩, 21), (⟨"WorkflowEngineModel", "put", "(III)V"⟩, 21), (⟨"WorkflowEngineModel", "readsItem", "(I)Z"⟩, 21)]
theorem lw_r3 : ∀ q ∈ lw_privs_3, lw_okq q := List.forall_mem_cons.mpr ⟨lw_p32, List.forall_mem_cons.mpr ⟨lw_p33, List.forall_mem_cons.mpr ⟨lw_p34, List.forall_mem_cons.mpr ⟨lw_p35, List.forall_mem_cons.mpr ⟨lw_p36, List.forall_mem_cons.mpr ⟨lw_p37, List.forall_mem_cons.mpr ⟨lw_p38, List.forall_mem_cons.mpr ⟨lw_p39, List.forall_mem_cons.mpr ⟨lw_p40, List.forall_mem_cons.mpr ⟨lw_p41, List.forall_mem_cons.mpr ⟨lw_p42, List.forall_mem_cons.mpr ⟨lw_p43, List.forall_mem_cons.mpr ⟨lw_p44, List.forall_mem_cons.mpr ⟨lw_p45, List.forall_mem_cons.mpr ⟨lw_p46, List.forall_mem_cons.mpr ⟨lw_p47, fun _ h => absurd h List.not_mem_nil⟩⟩⟩⟩⟩⟩⟩⟩⟩⟩⟩⟩⟩⟩⟩⟩
theorem lw_p48 : lw_okq (⟨"WorkflowEngineModel", "here", "()I"⟩, 21) := ⟨⟨by decide +kernel, by decide +kernel⟩, List.mem_of_getElem? (i := 750) (by decide +kernel), List.mem_of_getElem? (i := 853) (by decide +kernel), List.mem_of_getElem? (i := 854) (by decide +kernel)⟩
theorem lw_p49 : lw_okq (⟨"WorkflowEngineModel", "isTooMuch", "()Z"⟩, 21) := ⟨⟨by decide +kernel, by decide +kernel⟩, List.mem_of_getElem? (i := 750) (by decide +kernel), List.mem_of_getElem? (i := 860) (by decide +kernel), List.mem_of_getElem? (i := 861) (by decide +kernel)⟩
theorem lw_p50 : lw_okq (⟨"WorkflowEngineModel", "readsTask", "(I)Z"⟩, 21) := ⟨⟨by decide +kernel, by decide +kernel⟩, List.mem_of_getElem? (i := 750) (by decide +kernel), List.mem_of_getElem? (i := 864) (by decide +kernel), List.mem_of_getElem? (i := 865) (by decide +kernel)⟩
theorem lw_p51 : lw_okq (⟨"WorkflowEngineModel", "takesCode", "()Z"⟩, 21) := ⟨⟨by decide +kernel, by decide +kernel⟩, List.mem_of_getElem? (i := 750) (by decide +kernel), List.mem_of_getElem? (i := 868) (by decide +kernel), List.mem_of_getElem? (i := 869) (by decide +kernel)⟩
theorem lw_p52 : lw_okq (⟨"WorkflowEngineModel", "takes", "(I)Z"⟩, 21) := ⟨⟨by decide +kernel, by decide +kernel⟩, List.mem_of_getElem? (i := 750) (by decide +kernel), List.mem_of_getElem? (i := 872) (by decide +kernel), List.mem_of_getElem? (i := 873) (by decide +kernel)⟩
theorem lw_p53 : lw_okq (⟨"WorkflowEngineModel", "takesDigit", "(II)Z"⟩, 21) := ⟨⟨by decide +kernel, by decide +kernel⟩, List.mem_of_getElem? (i := 750) (by decide +kernel), List.mem_of_getElem? (i := 876) (by decide +kernel), List.mem_of_getElem? (i := 877) (by decide +kernel)⟩
theorem lw_p54 : lw_okq (⟨"WorkflowEngineModel", "takesNumber", "()Z"⟩, 21) := ⟨⟨by decide +kernel, by decide +kernel⟩, List.mem_of_getElem? (i := 750) (by decide +kernel), List.mem_of_getElem? (i := 880) (by decide +kernel), List.mem_of_getElem? (i := 881) (by decide +kernel)⟩
theorem lw_p55 : lw_okq (⟨"WorkflowEngineModel", "readsWait", "(I)Z"⟩, 21) := ⟨⟨by decide +kernel, by decide +kernel⟩, List.mem_of_getElem? (i := 750) (by decide +kernel), List.mem_of_getElem? (i := 884) (by decide +kernel), List.mem_of_getElem? (i := 885) (by decide +kernel)⟩
theorem lw_p56 : lw_okq (⟨"WorkflowEngineModel", "readsSignal", "(I)Z"⟩, 21) := ⟨⟨by decide +kernel, by decide +kernel⟩, List.mem_of_getElem? (i := 750) (by decide +kernel), List.mem_of_getElem? (i := 888) (by decide +kernel), List.mem_of_getElem? (i := 889) (by decide +kernel)⟩
theorem lw_p57 : lw_okq (⟨"WorkflowEngineModel", "readsSet", "(I)Z"⟩, 21) := ⟨⟨by decide +kernel, by decide +kernel⟩, List.mem_of_getElem? (i := 750) (by decide +kernel), List.mem_of_getElem? (i := 892) (by decide +kernel), List.mem_of_getElem? (i := 893) (by decide +kernel)⟩
theorem lw_p58 : lw_okq (⟨"WorkflowEngineModel", "takesSigned", "()Z"⟩, 21) := ⟨⟨by decide +kernel, by decide +kernel⟩, List.mem_of_getElem? (i := 750) (by decide +kernel), List.mem_of_getElem? (i := 896) (by decide +kernel), List.mem_of_getElem? (i := 897) (by decide +kernel)⟩
theorem lw_p59 : lw_okq (⟨"WorkflowEngineModel", "readsChoice", "(I)Z"⟩, 21) := ⟨⟨by decide +kernel, by decide +kernel⟩, List.mem_of_getElem? (i := 750) (by decide +kernel), List.mem_of_getElem? (i := 900) (by decide +kernel), List.mem_of_getElem? (i := 901) (by decide +kernel)⟩
theorem lw_p60 : lw_okq (⟨"WorkflowEngineModel", "opens", "()V"⟩, 21) := ⟨⟨by decide +kernel, by decide +kernel⟩, List.mem_of_getElem? (i := 750) (by decide +kernel), List.mem_of_getElem? (i := 904) (by decide +kernel), List.mem_of_getElem? (i := 905) (by decide +kernel)⟩
theorem lw_p61 : lw_okq (⟨"WorkflowEngineModel", "readsParallel", "(I)Z"⟩, 21) := ⟨⟨by decide +kernel, by decide +kernel⟩, List.mem_of_getElem? (i := 750) (by decide +kernel), List.mem_of_getElem? (i := 909) (by decide +kernel), List.mem_of_getElem? (i := 910) (by decide +kernel)⟩
theorem lw_p62 : lw_okq (⟨"WorkflowEngineModel", "tasksIn", "(I)I"⟩, 21) := ⟨⟨by decide +kernel, by decide +kernel⟩, List.mem_of_getElem? (i := 750) (by decide +kernel), List.mem_of_getElem? (i := 921) (by decide +kernel), List.mem_of_getElem? (i := 922) (by decide +kernel)⟩
theorem lw_p63 : lw_okq (⟨"WorkflowEngineModel", "kind", "(II)I"⟩, 21) := ⟨⟨by decide +kernel, by decide +kernel⟩, List.mem_of_getElem? (i := 750) (by decide +kernel), List.mem_of_getElem? (i := 925) (by decide +kernel), List.mem_of_getElem? (i := 926) (by decide +kernel)⟩
def lw_privs_4 : List (MethodName × Nat) := [(⟨"WorkflowEngineModel", "here", "()I"⟩, 21), (⟨"WorkflowEngineModel", "isTooMuch", "()Z"⟩, 21), (⟨"WorkflowEngineModel", "readsTask", "(I)Z"⟩, 21), (⟨"WorkflowEngineModel", "takesCode", "()Z"⟩, 21), (⟨"WorkflowEngineModel", "takes", "(I)Z"⟩, 21), (⟨"WorkflowEngineModel", "takesDigit", "(II)Z"⟩, 21), (⟨"WorkflowEngineModel", "takesNumber", "()Z"⟩, 21), (⟨"WorkflowEngineModel", "readsWait", "(I)Z"⟩, 21), (⟨"WorkflowEngineModel", "readsSignal", "(I)Z"⟩, 21), (⟨"WorkflowEngineModel", "readsSet", "(I)Z"⟩, 21), (⟨"WorkflowEngineModel", "takesSigned", "()Z"⟩, 21), (⟨"WorkflowEngineModel", "readsChoice", "(I)Z"⟩, 21), (⟨"WorkflowEngineModel", "opens", "()V"⟩, 21), (⟨"WorkflowEngineModel", "readsParallel", "(I)Z"⟩, 21), (⟨"WorkflowEngineModel", "tasksIn", "(I)I"⟩, 21), (⟨"WorkflowEngineModel", "kind", "(II)I"⟩, 21)]
theorem lw_r4 : ∀ q ∈ lw_privs_4, lw_okq q := List.forall_mem_cons.mpr ⟨lw_p48, List.forall_mem_cons.mpr ⟨lw_p49, List.forall_mem_cons.mpr ⟨lw_p50, List.forall_mem_cons.mpr ⟨lw_p51, List.forall_mem_cons.mpr ⟨lw_p52, List.forall_mem_cons.mpr ⟨lw_p53, List.forall_mem_cons.mpr ⟨lw_p54, List.forall_mem_cons.mpr ⟨lw_p55, List.forall_mem_cons.mpr ⟨lw_p56, List.forall_mem_cons.mpr ⟨lw_p57, List.forall_mem_cons.mpr ⟨lw_p58, List.forall_mem_cons.mpr ⟨lw_p59, List.forall_mem_cons.mpr ⟨lw_p60, List.forall_mem_cons.mpr ⟨lw_p61, List.forall_mem_cons.mpr ⟨lw_p62, List.forall_mem_cons.mpr ⟨lw_p63, fun _ h => absurd h List.not_mem_nil⟩⟩⟩⟩⟩⟩⟩⟩⟩⟩⟩⟩⟩⟩⟩⟩
theorem lw_p64 : lw_okq (⟨"WorkflowEngineModel", "width", "(II)I"⟩, 21) := ⟨⟨by decide +kernel, by decide +kernel⟩, List.mem_of_getElem? (i := 750) (by decide +kernel), List.mem_of_getElem? (i := 929) (by decide +kernel), List.mem_of_getElem? (i := 930) (by decide +kernel)⟩
theorem lw_p65 : lw_okq (⟨"WorkflowEngineModel", "child", "(II)I"⟩, 21) := ⟨⟨by decide +kernel, by decide +kernel⟩, List.mem_of_getElem? (i := 750) (by decide +kernel), List.mem_of_getElem? (i := 933) (by decide +kernel), List.mem_of_getElem? (i := 934) (by decide +kernel)⟩
theorem lw_p66 : lw_okq (⟨"WorkflowEngineModel", "next", "(II)I"⟩, 21) := ⟨⟨by decide +kernel, by decide +kernel⟩, List.mem_of_getElem? (i := 750) (by decide +kernel), List.mem_of_getElem? (i := 937) (by decide +kernel), List.mem_of_getElem? (i := 938) (by decide +kernel)⟩
theorem lw_p67 : lw_okq (⟨"WorkflowEngineModel", "instances", "()I"⟩, 21) := ⟨⟨by decide +kernel, by decide +kernel⟩, List.mem_of_getElem? (i := 750) (by decide +kernel), List.mem_of_getElem? (i := 956) (by decide +kernel), List.mem_of_getElem? (i := 957) (by decide +kernel)⟩
theorem lw_p68 : lw_okq (⟨"WorkflowEngineModel", "looksAt", "(I)V"⟩, 21) := ⟨⟨by decide +kernel, by decide +kernel⟩, List.mem_of_getElem? (i := 750) (by decide +kernel), List.mem_of_getElem? (i := 966) (by decide +kernel), List.mem_of_getElem? (i := 967) (by decide +kernel)⟩
theorem lw_p69 : lw_okq (⟨"WorkflowEngineModel", "looksAtBody", "(II)I"⟩, 21) := ⟨⟨by decide +kernel, by decide +kernel⟩, List.mem_of_getElem? (i := 750) (by decide +kernel), List.mem_of_getElem? (i := 970) (by decide +kernel), List.mem_of_getElem? (i := 971) (by decide +kernel)⟩
theorem lw_p70 : lw_okq (⟨"WorkflowEngineModel", "nodePart", "(III)I"⟩, 21) := ⟨⟨by decide +kernel, by decide +kernel⟩, List.mem_of_getElem? (i := 750) (by decide +kernel), List.mem_of_getElem? (i := 974) (by decide +kernel), List.mem_of_getElem? (i := 975) (by decide +kernel)⟩
theorem lw_p71 : lw_okq (⟨"WorkflowEngineModel", "versionOf", "(I)I"⟩, 21) := ⟨⟨by decide +kernel, by decide +kernel⟩, List.mem_of_getElem? (i := 750) (by decide +kernel), List.mem_of_getElem? (i := 978) (by decide +kernel), List.mem_of_getElem? (i := 979) (by decide +kernel)⟩
theorem lw_p72 : lw_okq (⟨"WorkflowEngineModel", "begins", "(II)I"⟩, 21) := ⟨⟨by decide +kernel, by decide +kernel⟩, List.mem_of_getElem? (i := 750) (by decide +kernel), List.mem_of_getElem? (i := 982) (by decide +kernel), List.mem_of_getElem? (i := 983) (by decide +kernel)⟩
theorem lw_p73 : lw_okq (⟨"WorkflowEngineModel", "tries", "(II)V"⟩, 21) := ⟨⟨by decide +kernel, by decide +kernel⟩, List.mem_of_getElem? (i := 750) (by decide +kernel), List.mem_of_getElem? (i := 986) (by decide +kernel), List.mem_of_getElem? (i := 987) (by decide +kernel)⟩
theorem lw_p74 : lw_okq (⟨"WorkflowEngineModel", "notes", "(III)V"⟩, 21) := ⟨⟨by decide +kernel, by decide +kernel⟩, List.mem_of_getElem? (i := 750) (by decide +kernel), List.mem_of_getElem? (i := 990) (by decide +kernel), List.mem_of_getElem? (i := 991) (by decide +kernel)⟩
theorem lw_p75 : lw_okq (⟨"WorkflowEngineModel", "looks", "(II)I"⟩, 21) := ⟨⟨by decide +kernel, by decide +kernel⟩, List.mem_of_getElem? (i := 750) (by decide +kernel), List.mem_of_getElem? (i := 994) (by decide +kernel), List.mem_of_getElem? (i := 995) (by decide +kernel)⟩
theorem lw_p76 : lw_okq (⟨"WorkflowEngineModel", "looksAtTask", "(II)I"⟩, 21) := ⟨⟨by decide +kernel, by decide +kernel⟩, List.mem_of_getElem? (i := 750) (by decide +kernel), List.mem_of_getElem? (i := 998) (by decide +kernel), List.mem_of_getElem? (i := 999) (by decide +kernel)⟩
theorem lw_p77 : lw_okq (⟨"WorkflowEngineModel", "fails", "(I)Z"⟩, 21) := ⟨⟨by decide +kernel, by decide +kernel⟩, List.mem_of_getElem? (i := 750) (by decide +kernel), List.mem_of_getElem? (i := 1002) (by decide +kernel), List.mem_of_getElem? (i := 1003) (by decide +kernel)⟩
theorem lw_p78 : lw_okq (⟨"WorkflowEngineModel", "comesTo", "(III)I"⟩, 21) := ⟨⟨by decide +kernel, by decide +kernel⟩, List.mem_of_getElem? (i := 750) (by decide +kernel), List.mem_of_getElem? (i := 1006) (by decide +kernel), List.mem_of_getElem? (i := 1007) (by decide +kernel)⟩
theorem lw_p79 : lw_okq (⟨"WorkflowEngineModel", "looksAtSignal", "(II)I"⟩, 21) := ⟨⟨by decide +kernel, by decide +kernel⟩, List.mem_of_getElem? (i := 750) (by decide +kernel), List.mem_of_getElem? (i := 1010) (by decide +kernel), List.mem_of_getElem? (i := 1011) (by decide +kernel)⟩
def lw_privs_5 : List (MethodName × Nat) := [(⟨"WorkflowEngineModel", "width", "(II)I"⟩, 21), (⟨"WorkflowEngineModel", "child", "(II)I"⟩, 21), (⟨"WorkflowEngineModel", "next", "(II)I"⟩, 21), (⟨"WorkflowEngineModel", "instances", "()I"⟩, 21), (⟨"WorkflowEngineModel", "looksAt", "(I)V"⟩, 21), (⟨"WorkflowEngineModel", "looksAtBody", "(II)I"⟩, 21), (⟨"WorkflowEngineModel", "nodePart", "(III)I"⟩, 21), (⟨"WorkflowEngineModel", "versionOf", "(I)I"⟩, 21), (⟨"WorkflowEngineModel", "begins", "(II)I"⟩, 21), (⟨"WorkflowEngineModel", "tries", "(II)V"⟩, 21), (⟨"WorkflowEngineModel", "notes", "(III)V"⟩, 21), (⟨"WorkflowEngineModel", "looks", "(II)I"⟩, 21), (⟨"WorkflowEngineModel", "looksAtTask", "(II)I"⟩, 21), (⟨"WorkflowEngineModel", "fails", "(I)Z"⟩, 21), (⟨"WorkflowEngineModel", "comesTo", "(III)I"⟩, 21), (⟨"WorkflowEngineModel", "looksAtSignal", "(II)I"⟩, 21)]
theorem lw_r5 : ∀ q ∈ lw_privs_5, lw_okq q := List.forall_mem_cons.mpr ⟨lw_p64, List.forall_mem_cons.mpr ⟨lw_p65, List.forall_mem_cons.mpr ⟨lw_p66, List.forall_mem_cons.mpr ⟨lw_p67, List.forall_mem_cons.mpr ⟨lw_p68, List.forall_mem_cons.mpr ⟨lw_p69, List.forall_mem_cons.mpr ⟨lw_p70, List.forall_mem_cons.mpr ⟨lw_p71, List.forall_mem_cons.mpr ⟨lw_p72, List.forall_mem_cons.mpr ⟨lw_p73, List.forall_mem_cons.mpr ⟨lw_p74, List.forall_mem_cons.mpr ⟨lw_p75, List.forall_mem_cons.mpr ⟨lw_p76, List.forall_mem_cons.mpr ⟨lw_p77, List.forall_mem_cons.mpr ⟨lw_p78, List.forall_mem_cons.mpr ⟨lw_p79, fun _ h => absurd h List.not_mem_nil⟩⟩⟩⟩⟩⟩⟩⟩⟩⟩⟩⟩⟩⟩⟩⟩
theorem lw_p80 : lw_okq (⟨"WorkflowEngineModel", "sets", "(II)I"⟩, 21) := ⟨⟨by decide +kernel, by decide +kernel⟩, List.mem_of_getElem? (i := 750) (by decide +kernel), List.mem_of_getElem? (i := 1014) (by decide +kernel), List.mem_of_getElem? (i := 1015) (by decide +kernel)⟩
theorem lw_p81 : lw_okq (⟨"WorkflowEngineModel", "looksAtParallel", "(II)I"⟩, 21) := ⟨⟨by decide +kernel, by decide +kernel⟩, List.mem_of_getElem? (i := 750) (by decide +kernel), List.mem_of_getElem? (i := 1018) (by decide +kernel), List.mem_of_getElem? (i := 1019) (by decide +kernel)⟩
theorem lw_p82 : lw_okq (⟨"WorkflowEngineModel", "bodiesIn", "(III)I"⟩, 21) := ⟨⟨by decide +kernel, by decide +kernel⟩, List.mem_of_getElem? (i := 750) (by decide +kernel), List.mem_of_getElem? (i := 1022) (by decide +kernel), List.mem_of_getElem? (i := 1023) (by decide +kernel)⟩
theorem lw_p83 : lw_okq (⟨"WorkflowEngineModel", "cancelsBodies", "(II)V"⟩, 21) := ⟨⟨by decide +kernel, by decide +kernel⟩, List.mem_of_getElem? (i := 750) (by decide +kernel), List.mem_of_getElem? (i := 1026) (by decide +kernel), List.mem_of_getElem? (i := 1027) (by decide +kernel)⟩
theorem lw_p84 : lw_okq (⟨"WorkflowEngineModel", "cancels", "(II)V"⟩, 21) := ⟨⟨by decide +kernel, by decide +kernel⟩, List.mem_of_getElem? (i := 750) (by decide +kernel), List.mem_of_getElem? (i := 1030) (by decide +kernel), List.mem_of_getElem? (i := 1031) (by decide +kernel)⟩
theorem lw_p85 : lw_okq (⟨"WorkflowEngineModel", "compensates", "(II)Z"⟩, 21) := ⟨⟨by decide +kernel, by decide +kernel⟩, List.mem_of_getElem? (i := 750) (by decide +kernel), List.mem_of_getElem? (i := 1034) (by decide +kernel), List.mem_of_getElem? (i := 1035) (by decide +kernel)⟩
theorem lw_p86 : lw_okq (⟨"WorkflowEngineModel", "nextToCompensate", "(II)I"⟩, 21) := ⟨⟨by decide +kernel, by decide +kernel⟩, List.mem_of_getElem? (i := 750) (by decide +kernel), List.mem_of_getElem? (i := 1038) (by decide +kernel), List.mem_of_getElem? (i := 1039) (by decide +kernel)⟩
theorem lw_p87 : lw_okq (⟨"WorkflowEngineModel", "isFor", "(III)Z"⟩, 21) := ⟨⟨by decide +kernel, by decide +kernel⟩, List.mem_of_getElem? (i := 750) (by decide +kernel), List.mem_of_getElem? (i := 1042) (by decide +kernel), List.mem_of_getElem? (i := 1043) (by decide +kernel)⟩
theorem lw_p88 : lw_okq (⟨"WorkflowEngineModel", "triesToCompensate", "(II)V"⟩, 21) := ⟨⟨by decide +kernel, by decide +kernel⟩, List.mem_of_getElem? (i := 750) (by decide +kernel), List.mem_of_getElem? (i := 1046) (by decide +kernel), List.mem_of_getElem? (i := 1047) (by decide +kernel)⟩
theorem lw_p89 : lw_okq (⟨"WorkflowEngineModel", "handles", "(IIII)V"⟩, 21) := ⟨⟨by decide +kernel, by decide +kernel⟩, List.mem_of_getElem? (i := 750) (by decide +kernel), List.mem_of_getElem? (i := 1050) (by decide +kernel), List.mem_of_getElem? (i := 1051) (by decide +kernel)⟩
theorem lw_p90 : lw_okq (⟨"WorkflowEngineModel", "becomes", "(II)V"⟩, 21) := ⟨⟨by decide +kernel, by decide +kernel⟩, List.mem_of_getElem? (i := 750) (by decide +kernel), List.mem_of_getElem? (i := 1054) (by decide +kernel), List.mem_of_getElem? (i := 1055) (by decide +kernel)⟩
theorem lw_p91 : lw_okq (⟨"WorkflowEngineModel", "isInstance", "(I)Z"⟩, 21) := ⟨⟨by decide +kernel, by decide +kernel⟩, List.mem_of_getElem? (i := 750) (by decide +kernel), List.mem_of_getElem? (i := 1062) (by decide +kernel), List.mem_of_getElem? (i := 1063) (by decide +kernel)⟩
theorem lw_p92 : lw_okq (⟨"WorkflowEngineModel", "passes", "()V"⟩, 21) := ⟨⟨by decide +kernel, by decide +kernel⟩, List.mem_of_getElem? (i := 750) (by decide +kernel), List.mem_of_getElem? (i := 1079) (by decide +kernel), List.mem_of_getElem? (i := 1080) (by decide +kernel)⟩
theorem lw_p93 : lw_okq (⟨"WorkflowEngineModel", "keptEntries", "(I)I"⟩, 21) := ⟨⟨by decide +kernel, by decide +kernel⟩, List.mem_of_getElem? (i := 750) (by decide +kernel), List.mem_of_getElem? (i := 1091) (by decide +kernel), List.mem_of_getElem? (i := 1092) (by decide +kernel)⟩
theorem lw_p94 : lw_okq (⟨"WorkflowEngineModel", "runs", "(II)Z"⟩, 21) := ⟨⟨by decide +kernel, by decide +kernel⟩, List.mem_of_getElem? (i := 750) (by decide +kernel), List.mem_of_getElem? (i := 1100) (by decide +kernel), List.mem_of_getElem? (i := 1101) (by decide +kernel)⟩
theorem lw_p95 : lw_okq (⟨"WorkflowEngineModel", "dueAt", "(II)I"⟩, 21) := ⟨⟨by decide +kernel, by decide +kernel⟩, List.mem_of_getElem? (i := 750) (by decide +kernel), List.mem_of_getElem? (i := 1108) (by decide +kernel), List.mem_of_getElem? (i := 1109) (by decide +kernel)⟩
def lw_privs_6 : List (MethodName × Nat) := [(⟨"WorkflowEngineModel", "sets", "(II)I"⟩, 21), (⟨"WorkflowEngineModel", "looksAtParallel", "(II)I"⟩, 21), (⟨"WorkflowEngineModel", "bodiesIn", "(III)I"⟩, 21), (⟨"WorkflowEngineModel", "cancelsBodies", "(II)V"⟩, 21), (⟨"WorkflowEngineModel", "cancels", "(II)V"⟩, 21), (⟨"WorkflowEngineModel", "compensates", "(II)Z"⟩, 21), (⟨"WorkflowEngineModel", "nextToCompensate", "(II)I"⟩, 21), (⟨"WorkflowEngineModel", "isFor", "(III)Z"⟩, 21), (⟨"WorkflowEngineModel", "triesToCompensate", "(II)V"⟩, 21), (⟨"WorkflowEngineModel", "handles", "(IIII)V"⟩, 21), (⟨"WorkflowEngineModel", "becomes", "(II)V"⟩, 21), (⟨"WorkflowEngineModel", "isInstance", "(I)Z"⟩, 21), (⟨"WorkflowEngineModel", "passes", "()V"⟩, 21), (⟨"WorkflowEngineModel", "keptEntries", "(I)I"⟩, 21), (⟨"WorkflowEngineModel", "runs", "(II)Z"⟩, 21), (⟨"WorkflowEngineModel", "dueAt", "(II)I"⟩, 21)]
theorem lw_r6 : ∀ q ∈ lw_privs_6, lw_okq q := List.forall_mem_cons.mpr ⟨lw_p80, List.forall_mem_cons.mpr ⟨lw_p81, List.forall_mem_cons.mpr ⟨lw_p82, List.forall_mem_cons.mpr ⟨lw_p83, List.forall_mem_cons.mpr ⟨lw_p84, List.forall_mem_cons.mpr ⟨lw_p85, List.forall_mem_cons.mpr ⟨lw_p86, List.forall_mem_cons.mpr ⟨lw_p87, List.forall_mem_cons.mpr ⟨lw_p88, List.forall_mem_cons.mpr ⟨lw_p89, List.forall_mem_cons.mpr ⟨lw_p90, List.forall_mem_cons.mpr ⟨lw_p91, List.forall_mem_cons.mpr ⟨lw_p92, List.forall_mem_cons.mpr ⟨lw_p93, List.forall_mem_cons.mpr ⟨lw_p94, List.forall_mem_cons.mpr ⟨lw_p95, fun _ h => absurd h List.not_mem_nil⟩⟩⟩⟩⟩⟩⟩⟩⟩⟩⟩⟩⟩⟩⟩⟩
theorem lw_p96 : lw_okq (⟨"WorkflowEngineModel", "entriesOf", "(II)I"⟩, 21) := ⟨⟨by decide +kernel, by decide +kernel⟩, List.mem_of_getElem? (i := 750) (by decide +kernel), List.mem_of_getElem? (i := 1123) (by decide +kernel), List.mem_of_getElem? (i := 1124) (by decide +kernel)⟩
theorem lw_p97 : lw_okq (⟨"WorkflowEngineModel", "instancesOf", "(II)I"⟩, 21) := ⟨⟨by decide +kernel, by decide +kernel⟩, List.mem_of_getElem? (i := 750) (by decide +kernel), List.mem_of_getElem? (i := 1131) (by decide +kernel), List.mem_of_getElem? (i := 1132) (by decide +kernel)⟩
theorem lw_p98 : lw_okq (⟨"WorkflowEngineModel", "withStatus", "(I)I"⟩, 21) := ⟨⟨by decide +kernel, by decide +kernel⟩, List.mem_of_getElem? (i := 750) (by decide +kernel), List.mem_of_getElem? (i := 1157) (by decide +kernel), List.mem_of_getElem? (i := 1158) (by decide +kernel)⟩
theorem lw_p99 : lw_okq (⟨"WorkflowEngineModel", "versions", "()I"⟩, 21) := ⟨⟨by decide +kernel, by decide +kernel⟩, List.mem_of_getElem? (i := 750) (by decide +kernel), List.mem_of_getElem? (i := 1161) (by decide +kernel), List.mem_of_getElem? (i := 1162) (by decide +kernel)⟩
def lw_privs_7 : List (MethodName × Nat) := [(⟨"WorkflowEngineModel", "entriesOf", "(II)I"⟩, 21), (⟨"WorkflowEngineModel", "instancesOf", "(II)I"⟩, 21), (⟨"WorkflowEngineModel", "withStatus", "(I)I"⟩, 21), (⟨"WorkflowEngineModel", "versions", "()I"⟩, 21)]
theorem lw_r7 : ∀ q ∈ lw_privs_7, lw_okq q := List.forall_mem_cons.mpr ⟨lw_p96, List.forall_mem_cons.mpr ⟨lw_p97, List.forall_mem_cons.mpr ⟨lw_p98, List.forall_mem_cons.mpr ⟨lw_p99, fun _ h => absurd h List.not_mem_nil⟩⟩⟩⟩
def lw_privs : List (MethodName × Nat) := lw_privs_1 ++ (lw_privs_2 ++ (lw_privs_3 ++ (lw_privs_4 ++ (lw_privs_5 ++ (lw_privs_6 ++ (lw_privs_7))))))
def lw_tbl : List Cond := k2_sels lw_privs ++ tables_1
theorem lw_privs_ok : ∀ q ∈ lw_privs, lw_okq q := by
  show ∀ q ∈ lw_privs_1 ++ (lw_privs_2 ++ (lw_privs_3 ++ (lw_privs_4 ++ (lw_privs_5 ++ (lw_privs_6 ++ (lw_privs_7)))))), lw_okq q
  exact List.forall_mem_append.mpr ⟨lw_r1, List.forall_mem_append.mpr ⟨lw_r2, List.forall_mem_append.mpr ⟨lw_r3, List.forall_mem_append.mpr ⟨lw_r4, List.forall_mem_append.mpr ⟨lw_r5, List.forall_mem_append.mpr ⟨lw_r6, lw_r7⟩⟩⟩⟩⟩⟩
/-- the streams that the claim lets the run draw from -/
abbrev lw_cs : List Choice := [Jvm.Choice.named "NaN.bits"]
theorem lw_bits : nanBits ∈ lw_cs := by first | decide | exact List.mem_cons_self | simp [lw_cs, nanBits]
-- ===== end of PART A; then your names; then what follows =====
def RX0 : String := "WorkflowEngine$Environment"
def TX0 : u_T := fun k => match k with
  | 0 => ("WorkflowEngine$Environment", "durations", "[I", true)
  | 1 => ("WorkflowEngine$Environment", "failing", "[I", true)
  | _ => ("WorkflowEngine$Environment", "minute", "I", false)
def tyX0 : Nat → FieldType := fun k => match k with
  | 0 => .array .int
  | 1 => .array .int
  | _ => .int
abbrev wsX00 : List Cond := u_ws RX0 TX0 3
theorem nmX0 : ∀ a, a < 3 → ∀ b, b < 3 → a ≠ b → (TX0 a).2.1 ≠ (TX0 b).2.1 := by decide +kernel
theorem tyX0_ok : ∀ k, k < 3 → parseFieldDescriptor (TX0 k).2.2.1 = some (tyX0 k) := by decide +kernel
abbrev cX0_init : ByteArray := prog_2_method_1_code
def yX0_init : MethodName := ⟨RX0, "<init>", "()V"⟩
abbrev cX0_copy : ByteArray := prog_2_method_2_code
def yX0_copy : MethodName := ⟨RX0, "copy", "(LWorkflowEngine$Environment;)V"⟩
abbrev cX0_endOfAttempt : ByteArray := prog_2_method_3_code
def yX0_endOfAttempt : MethodName := ⟨RX0, "endOfAttempt", "(I)I"⟩
abbrev cX0_succeeds : ByteArray := prog_2_method_4_code
def yX0_succeeds : MethodName := ⟨RX0, "succeeds", "(I)Z"⟩
def RX1 : String := "WorkflowEngine$History"
def TX1 : u_T := fun k => match k with
  | 0 => ("WorkflowEngine$History", "environment", "LWorkflowEngine$Environment;", true)
  | 1 => ("WorkflowEngine$History", "rows", "[I", true)
  | _ => ("WorkflowEngine$History", "entries", "I", false)
def tyX1 : Nat → FieldType := fun k => match k with
  | 0 => .object "WorkflowEngine$Environment"
  | 1 => .array .int
  | _ => .int
abbrev wsX10 : List Cond := u_ws RX1 TX1 3
theorem nmX1 : ∀ a, a < 3 → ∀ b, b < 3 → a ≠ b → (TX1 a).2.1 ≠ (TX1 b).2.1 := by decide +kernel
theorem tyX1_ok : ∀ k, k < 3 → parseFieldDescriptor (TX1 k).2.2.1 = some (tyX1 k) := by decide +kernel
abbrev cX1_init : ByteArray := prog_3_method_1_code
def yX1_init : MethodName := ⟨RX1, "<init>", "(LWorkflowEngine$Environment;I)V"⟩
abbrev cX1_copy : ByteArray := prog_3_method_2_code
def yX1_copy : MethodName := ⟨RX1, "copy", "(LWorkflowEngine$History;)V"⟩
abbrev cX1_add : ByteArray := prog_3_method_3_code
def yX1_add : MethodName := ⟨RX1, "add", "(II)V"⟩
abbrev cX1_kept : ByteArray := prog_3_method_4_code
def yX1_kept : MethodName := ⟨RX1, "kept", "()I"⟩
abbrev cX1_minuteOf : ByteArray := prog_3_method_5_code
def yX1_minuteOf : MethodName := ⟨RX1, "minuteOf", "(I)I"⟩
abbrev cX1_kindOf : ByteArray := prog_3_method_6_code
def yX1_kindOf : MethodName := ⟨RX1, "kindOf", "(I)I"⟩
abbrev cX1_valueOf : ByteArray := prog_3_method_7_code
def yX1_valueOf : MethodName := ⟨RX1, "valueOf", "(I)I"⟩
abbrev cX1_entriesOf : ByteArray := prog_3_method_8_code
def yX1_entriesOf : MethodName := ⟨RX1, "entriesOf", "(I)I"⟩
abbrev cX1_attempts : ByteArray := prog_3_method_9_code
def yX1_attempts : MethodName := ⟨RX1, "attempts", "()I"⟩
abbrev cX1_lastStatus : ByteArray := prog_3_method_10_code
def yX1_lastStatus : MethodName := ⟨RX1, "lastStatus", "()I"⟩
def RX2 : String := "WorkflowEngine$Instance"
def TX2 : u_T := fun k => match k with
  | 0 => ("WorkflowEngine$Instance", "environment", "LWorkflowEngine$Environment;", true)
  | 1 => ("WorkflowEngine$Instance", "history", "LWorkflowEngine$History;", true)
  | 2 => ("WorkflowEngine$Instance", "plan", "LWorkflowEngine$Version;", false)
  | 3 => ("WorkflowEngine$Instance", "status", "I", false)
  | 4 => ("WorkflowEngine$Instance", "started", "I", false)
  | 5 => ("WorkflowEngine$Instance", "ended", "I", false)
  | 6 => ("WorkflowEngine$Instance", "done", "I", false)
  | 7 => ("WorkflowEngine$Instance", "reversed", "I", false)
  | 8 => ("WorkflowEngine$Instance", "stuck", "I", false)
  | 9 => ("WorkflowEngine$Instance", "variables", "[I", true)
  | 10 => ("WorkflowEngine$Instance", "pending", "[I", true)
  | 11 => ("WorkflowEngine$Instance", "state", "[I", true)
  | 12 => ("WorkflowEngine$Instance", "bodyState", "[I", true)
  | 13 => ("WorkflowEngine$Instance", "bodyItem", "[I", true)
  | 14 => ("WorkflowEngine$Instance", "order", "[I", true)
  | 15 => ("WorkflowEngine$Instance", "until", "[I", true)
  | 16 => ("WorkflowEngine$Instance", "attempts", "[I", true)
  | _ => ("WorkflowEngine$Instance", "reversing", "[I", true)
def tyX2 : Nat → FieldType := fun k => match k with
  | 0 => .object "WorkflowEngine$Environment"
  | 1 => .object "WorkflowEngine$History"
  | 2 => .object "WorkflowEngine$Version"
  | 3 => .int
  | 4 => .int
  | 5 => .int
  | 6 => .int
  | 7 => .int
  | 8 => .int
  | 9 => .array .int
  | 10 => .array .int
  | 11 => .array .int
  | 12 => .array .int
  | 13 => .array .int
  | 14 => .array .int
  | 15 => .array .int
  | 16 => .array .int
  | _ => .array .int
abbrev wsX20 : List Cond := u_ws RX2 TX2 18
theorem nmX2 : ∀ a, a < 18 → ∀ b, b < 18 → a ≠ b → (TX2 a).2.1 ≠ (TX2 b).2.1 := by decide +kernel
theorem tyX2_ok : ∀ k, k < 18 → parseFieldDescriptor (TX2 k).2.2.1 = some (tyX2 k) := by decide +kernel
abbrev cX2_init : ByteArray := prog_4_method_1_code
def yX2_init : MethodName := ⟨RX2, "<init>", "(LWorkflowEngine$Environment;LWorkflowEngine$Version;I)V"⟩
abbrev cX2_copy : ByteArray := prog_4_method_2_code
def yX2_copy : MethodName := ⟨RX2, "copy", "(LWorkflowEngine$Instance;)V"⟩
abbrev cX2_begin : ByteArray := prog_4_method_3_code
def yX2_begin : MethodName := ⟨RX2, "begin", "(LWorkflowEngine$Version;)V"⟩
abbrev cX2_look : ByteArray := prog_4_method_4_code
def yX2_look : MethodName := ⟨RX2, "look", "()V"⟩
abbrev cX2_giveUp : ByteArray := prog_4_method_5_code
def yX2_giveUp : MethodName := ⟨RX2, "giveUp", "()V"⟩
abbrev cX2_become : ByteArray := prog_4_method_6_code
def yX2_become : MethodName := ⟨RX2, "become", "(I)V"⟩
abbrev cX2_hasEnded : ByteArray := prog_4_method_7_code
def yX2_hasEnded : MethodName := ⟨RX2, "hasEnded", "()Z"⟩
abbrev cX2_beginBody : ByteArray := prog_4_method_8_code
def yX2_beginBody : MethodName := ⟨RX2, "beginBody", "(II)V"⟩
abbrev cX2_goOn : ByteArray := prog_4_method_9_code
def yX2_goOn : MethodName := ⟨RX2, "goOn", "(II)V"⟩
abbrev cX2_beginItem : ByteArray := prog_4_method_10_code
def yX2_beginItem : MethodName := ⟨RX2, "beginItem", "(II)V"⟩
abbrev cX2_beginSignal : ByteArray := prog_4_method_11_code
def yX2_beginSignal : MethodName := ⟨RX2, "beginSignal", "(I)V"⟩
abbrev cX2_beginBodies : ByteArray := prog_4_method_12_code
def yX2_beginBodies : MethodName := ⟨RX2, "beginBodies", "(II)V"⟩
abbrev cX2_beginAttempt : ByteArray := prog_4_method_13_code
def yX2_beginAttempt : MethodName := ⟨RX2, "beginAttempt", "(I)V"⟩
abbrev cX2_lookAt : ByteArray := prog_4_method_14_code
def yX2_lookAt : MethodName := ⟨RX2, "lookAt", "(II)V"⟩
abbrev cX2_lookAtTask : ByteArray := prog_4_method_15_code
def yX2_lookAtTask : MethodName := ⟨RX2, "lookAtTask", "(I)V"⟩
abbrev cX2_endAttempt : ByteArray := prog_4_method_16_code
def yX2_endAttempt : MethodName := ⟨RX2, "endAttempt", "(I)V"⟩
abbrev cX2_lookAtWait : ByteArray := prog_4_method_17_code
def yX2_lookAtWait : MethodName := ⟨RX2, "lookAtWait", "(I)V"⟩
abbrev cX2_lookAtSignal : ByteArray := prog_4_method_18_code
def yX2_lookAtSignal : MethodName := ⟨RX2, "lookAtSignal", "(I)V"⟩
abbrev cX2_changeVariable : ByteArray := prog_4_method_19_code
def yX2_changeVariable : MethodName := ⟨RX2, "changeVariable", "(I)V"⟩
abbrev cX2_chosenBody : ByteArray := prog_4_method_20_code
def yX2_chosenBody : MethodName := ⟨RX2, "chosenBody", "(I)I"⟩
abbrev cX2_lookAtChoice : ByteArray := prog_4_method_21_code
def yX2_lookAtChoice : MethodName := ⟨RX2, "lookAtChoice", "(II)V"⟩
abbrev cX2_lookAtParallel : ByteArray := prog_4_method_22_code
def yX2_lookAtParallel : MethodName := ⟨RX2, "lookAtParallel", "(II)V"⟩
abbrev cX2_join : ByteArray := prog_4_method_23_code
def yX2_join : MethodName := ⟨RX2, "join", "(I)V"⟩
abbrev cX2_bodiesWith : ByteArray := prog_4_method_24_code
def yX2_bodiesWith : MethodName := ⟨RX2, "bodiesWith", "(II)I"⟩
abbrev cX2_cancelBodies : ByteArray := prog_4_method_25_code
def yX2_cancelBodies : MethodName := ⟨RX2, "cancelBodies", "(I)V"⟩
abbrev cX2_cancel : ByteArray := prog_4_method_26_code
def yX2_cancel : MethodName := ⟨RX2, "cancel", "(II)V"⟩
abbrev cX2_goesOn : ByteArray := prog_4_method_27_code
def yX2_goesOn : MethodName := ⟨RX2, "goesOn", "(I)Z"⟩
abbrev cX2_reversesAll : ByteArray := prog_4_method_28_code
def yX2_reversesAll : MethodName := ⟨RX2, "reversesAll", "(I)Z"⟩
abbrev cX2_endReversal : ByteArray := prog_4_method_29_code
def yX2_endReversal : MethodName := ⟨RX2, "endReversal", "(II)V"⟩
abbrev cX2_lastToReverse : ByteArray := prog_4_method_30_code
def yX2_lastToReverse : MethodName := ⟨RX2, "lastToReverse", "(I)I"⟩
abbrev cX2_isReversible : ByteArray := prog_4_method_31_code
def yX2_isReversible : MethodName := ⟨RX2, "isReversible", "(I)Z"⟩
abbrev cX2_concerns : ByteArray := prog_4_method_32_code
def yX2_concerns : MethodName := ⟨RX2, "concerns", "(II)Z"⟩
abbrev cX2_runningItems : ByteArray := prog_4_method_33_code
def yX2_runningItems : MethodName := ⟨RX2, "runningItems", "()I"⟩
abbrev cX2_placeOfRunning : ByteArray := prog_4_method_34_code
def yX2_placeOfRunning : MethodName := ⟨RX2, "placeOfRunning", "(I)I"⟩
abbrev cX2_isRunning : ByteArray := prog_4_method_35_code
def yX2_isRunning : MethodName := ⟨RX2, "isRunning", "(I)Z"⟩
abbrev cX2_nextMinute : ByteArray := prog_4_method_36_code
def yX2_nextMinute : MethodName := ⟨RX2, "nextMinute", "()I"⟩
def RX3 : String := "WorkflowEngine$Reader"
def TX3 : u_T := fun k => match k with
  | 0 => ("WorkflowEngine$Reader", "widths", "[I", true)
  | 1 => ("WorkflowEngine$Reader", "text", "[I", false)
  | 2 => ("WorkflowEngine$Reader", "length", "I", false)
  | 3 => ("WorkflowEngine$Reader", "target", "LWorkflowEngine$Version;", false)
  | 4 => ("WorkflowEngine$Reader", "reason", "I", false)
  | _ => ("WorkflowEngine$Reader", "at", "I", false)
def tyX3 : Nat → FieldType := fun k => match k with
  | 0 => .array .int
  | 1 => .array .int
  | 2 => .int
  | 3 => .object "WorkflowEngine$Version"
  | 4 => .int
  | _ => .int
abbrev wsX30 : List Cond := u_ws RX3 TX3 6
theorem nmX3 : ∀ a, a < 6 → ∀ b, b < 6 → a ≠ b → (TX3 a).2.1 ≠ (TX3 b).2.1 := by decide +kernel
theorem tyX3_ok : ∀ k, k < 6 → parseFieldDescriptor (TX3 k).2.2.1 = some (tyX3 k) := by decide +kernel
abbrev cX3_init : ByteArray := prog_5_method_1_code
def yX3_init : MethodName := ⟨RX3, "<init>", "()V"⟩
abbrev cX3_read : ByteArray := prog_5_method_2_code
def yX3_read : MethodName := ⟨RX3, "read", "([IILWorkflowEngine$Version;)I"⟩
abbrev cX3_readBody : ByteArray := prog_5_method_3_code
def yX3_readBody : MethodName := ⟨RX3, "readBody", "(I)I"⟩
abbrev cX3_readItem : ByteArray := prog_5_method_4_code
def yX3_readItem : MethodName := ⟨RX3, "readItem", "(I)I"⟩
abbrev cX3_readTask : ByteArray := prog_5_method_5_code
def yX3_readTask : MethodName := ⟨RX3, "readTask", "(I)V"⟩
abbrev cX3_readSignal : ByteArray := prog_5_method_6_code
def yX3_readSignal : MethodName := ⟨RX3, "readSignal", "(I)V"⟩
abbrev cX3_readSet : ByteArray := prog_5_method_7_code
def yX3_readSet : MethodName := ⟨RX3, "readSet", "(I)V"⟩
abbrev cX3_readChoice : ByteArray := prog_5_method_8_code
def yX3_readChoice : MethodName := ⟨RX3, "readChoice", "(II)V"⟩
abbrev cX3_readParallel : ByteArray := prog_5_method_9_code
def yX3_readParallel : MethodName := ⟨RX3, "readParallel", "(II)V"⟩
abbrev cX3_readBodyOf : ByteArray := prog_5_method_10_code
def yX3_readBodyOf : MethodName := ⟨RX3, "readBodyOf", "(III)I"⟩
abbrev cX3_readCode : ByteArray := prog_5_method_11_code
def yX3_readCode : MethodName := ⟨RX3, "readCode", "()I"⟩
abbrev cX3_readVariable : ByteArray := prog_5_method_12_code
def yX3_readVariable : MethodName := ⟨RX3, "readVariable", "()I"⟩
abbrev cX3_readNumber : ByteArray := prog_5_method_13_code
def yX3_readNumber : MethodName := ⟨RX3, "readNumber", "()I"⟩
abbrev cX3_readBetween : ByteArray := prog_5_method_14_code
def yX3_readBetween : MethodName := ⟨RX3, "readBetween", "(II)I"⟩
abbrev cX3_expect : ByteArray := prog_5_method_15_code
def yX3_expect : MethodName := ⟨RX3, "expect", "(I)V"⟩
abbrev cX3_takes : ByteArray := prog_5_method_16_code
def yX3_takes : MethodName := ⟨RX3, "takes", "(I)Z"⟩
abbrev cX3_fail : ByteArray := prog_5_method_17_code
def yX3_fail : MethodName := ⟨RX3, "fail", "(I)V"⟩
abbrev cX3_sign : ByteArray := prog_5_method_18_code
def yX3_sign : MethodName := ⟨RX3, "sign", "()I"⟩
abbrev cX3_isDigit : ByteArray := prog_5_method_19_code
def yX3_isDigit : MethodName := ⟨RX3, "isDigit", "(I)Z"⟩
abbrev cX3_kindOf : ByteArray := prog_5_method_20_code
def yX3_kindOf : MethodName := ⟨RX3, "kindOf", "(I)I"⟩
def RX4 : String := "WorkflowEngine$Version"
def TX4 : u_T := fun k => match k with
  | 0 => ("WorkflowEngine$Version", "workflow", "I", true)
  | 1 => ("WorkflowEngine$Version", "number", "I", true)
  | 2 => ("WorkflowEngine$Version", "kind", "[I", true)
  | 3 => ("WorkflowEngine$Version", "place", "[I", true)
  | 4 => ("WorkflowEngine$Version", "code", "[I", true)
  | 5 => ("WorkflowEngine$Version", "amount", "[I", true)
  | 6 => ("WorkflowEngine$Version", "digit", "[I", true)
  | 7 => ("WorkflowEngine$Version", "reversal", "[I", true)
  | 8 => ("WorkflowEngine$Version", "next", "[I", true)
  | 9 => ("WorkflowEngine$Version", "end", "[I", true)
  | 10 => ("WorkflowEngine$Version", "bodies", "[I", true)
  | 11 => ("WorkflowEngine$Version", "items", "I", false)
  | 12 => ("WorkflowEngine$Version", "tasks", "I", false)
  | 13 => ("WorkflowEngine$Version", "depth", "I", false)
  | 14 => ("WorkflowEngine$Version", "length", "I", false)
  | _ => ("WorkflowEngine$Version", "width", "I", false)
def tyX4 : Nat → FieldType := fun k => match k with
  | 0 => .int
  | 1 => .int
  | 2 => .array .int
  | 3 => .array .int
  | 4 => .array .int
  | 5 => .array .int
  | 6 => .array .int
  | 7 => .array .int
  | 8 => .array .int
  | 9 => .array .int
  | 10 => .array .int
  | 11 => .int
  | 12 => .int
  | 13 => .int
  | 14 => .int
  | _ => .int
abbrev wsX40 : List Cond := u_ws RX4 TX4 16
theorem nmX4 : ∀ a, a < 16 → ∀ b, b < 16 → a ≠ b → (TX4 a).2.1 ≠ (TX4 b).2.1 := by decide +kernel
theorem tyX4_ok : ∀ k, k < 16 → parseFieldDescriptor (TX4 k).2.2.1 = some (tyX4 k) := by decide +kernel
abbrev cX4_init : ByteArray := prog_6_method_1_code
def yX4_init : MethodName := ⟨RX4, "<init>", "(II)V"⟩
abbrev cX4_clear : ByteArray := prog_6_method_2_code
def yX4_clear : MethodName := ⟨RX4, "clear", "(I)V"⟩
abbrev cX4_add : ByteArray := prog_6_method_3_code
def yX4_add : MethodName := ⟨RX4, "add", "(II)I"⟩
abbrev cX4_body : ByteArray := prog_6_method_4_code
def yX4_body : MethodName := ⟨RX4, "body", "(II)I"⟩
def RX5 : String := "WorkflowEngine$World"
def TX5 : u_T := fun k => match k with
  | 0 => ("WorkflowEngine$World", "environment", "LWorkflowEngine$Environment;", true)
  | 1 => ("WorkflowEngine$World", "instances", "[LWorkflowEngine$Instance;", true)
  | 2 => ("WorkflowEngine$World", "defined", "[I", true)
  | 3 => ("WorkflowEngine$World", "reason", "I", false)
  | _ => ("WorkflowEngine$World", "wrongAt", "I", false)
def tyX5 : Nat → FieldType := fun k => match k with
  | 0 => .object "WorkflowEngine$Environment"
  | 1 => .array (.object "WorkflowEngine$Instance")
  | 2 => .array .int
  | 3 => .int
  | _ => .int
abbrev wsX50 : List Cond := u_ws RX5 TX5 5
theorem nmX5 : ∀ a, a < 5 → ∀ b, b < 5 → a ≠ b → (TX5 a).2.1 ≠ (TX5 b).2.1 := by decide +kernel
theorem tyX5_ok : ∀ k, k < 5 → parseFieldDescriptor (TX5 k).2.2.1 = some (tyX5 k) := by decide +kernel
abbrev cX5_init : ByteArray := prog_7_method_1_code
def yX5_init : MethodName := ⟨RX5, "<init>", "(LWorkflowEngine$Environment;LWorkflowEngine$Version;I)V"⟩
abbrev cX5_copy : ByteArray := prog_7_method_2_code
def yX5_copy : MethodName := ⟨RX5, "copy", "(LWorkflowEngine$World;)V"⟩
abbrev cX5_letPass : ByteArray := prog_7_method_3_code
def yX5_letPass : MethodName := ⟨RX5, "letPass", "(I)V"⟩
abbrev cX5_lowestFree : ByteArray := prog_7_method_4_code
def yX5_lowestFree : MethodName := ⟨RX5, "lowestFree", "()I"⟩
abbrev cX5_allDefined : ByteArray := prog_7_method_5_code
def yX5_allDefined : MethodName := ⟨RX5, "allDefined", "()I"⟩
abbrev cX5_instancesOf : ByteArray := prog_7_method_6_code
def yX5_instancesOf : MethodName := ⟨RX5, "instancesOf", "(II)I"⟩
abbrev cX5_instancesWith : ByteArray := prog_7_method_7_code
def yX5_instancesWith : MethodName := ⟨RX5, "instancesWith", "(I)I"⟩
abbrev cX5_startedOf : ByteArray := prog_7_method_8_code
def yX5_startedOf : MethodName := ⟨RX5, "startedOf", "(I)I"⟩
abbrev cX5_started : ByteArray := prog_7_method_9_code
def yX5_started : MethodName := ⟨RX5, "started", "()I"⟩
abbrev cX5_endedOf : ByteArray := prog_7_method_10_code
def yX5_endedOf : MethodName := ⟨RX5, "endedOf", "(I)I"⟩
abbrev cX5_minutesOf : ByteArray := prog_7_method_11_code
def yX5_minutesOf : MethodName := ⟨RX5, "minutesOf", "(I)I"⟩
def RX6 : String := "WorkflowEngine"
def TX6 : u_T := fun k => match k with
  | 0 => ("WorkflowEngine", "tape", "[I", true)
  | 1 => ("WorkflowEngine", "reader", "LWorkflowEngine$Reader;", true)
  | 2 => ("WorkflowEngine", "versions", "[LWorkflowEngine$Version;", true)
  | 3 => ("WorkflowEngine", "present", "LWorkflowEngine$World;", true)
  | 4 => ("WorkflowEngine", "saved", "LWorkflowEngine$World;", true)
  | 5 => ("WorkflowEngine", "forecast", "LWorkflowEngine$World;", true)
  | 6 => ("WorkflowEngine", "fed", "I", false)
  | _ => ("WorkflowEngine", "hasSaved", "Z", false)
def tyX6 : Nat → FieldType := fun k => match k with
  | 0 => .array .int
  | 1 => .object "WorkflowEngine$Reader"
  | 2 => .array (.object "WorkflowEngine$Version")
  | 3 => .object "WorkflowEngine$World"
  | 4 => .object "WorkflowEngine$World"
  | 5 => .object "WorkflowEngine$World"
  | 6 => .int
  | _ => .boolean
abbrev wsX60 : List Cond := u_ws RX6 TX6 8
theorem nmX6 : ∀ a, a < 8 → ∀ b, b < 8 → a ≠ b → (TX6 a).2.1 ≠ (TX6 b).2.1 := by decide +kernel
theorem tyX6_ok : ∀ k, k < 8 → parseFieldDescriptor (TX6 k).2.2.1 = some (tyX6 k) := by decide +kernel
abbrev cX6_init : ByteArray := prog_1_method_1_code
def yX6_init : MethodName := ⟨RX6, "<init>", "()V"⟩
abbrev cX6_feed : ByteArray := prog_1_method_2_code
def yX6_feed : MethodName := ⟨RX6, "feed", "(I)I"⟩
abbrev cX6_define : ByteArray := prog_1_method_3_code
def yX6_define : MethodName := ⟨RX6, "define", "(I)I"⟩
abbrev cX6_wrong : ByteArray := prog_1_method_4_code
def yX6_wrong : MethodName := ⟨RX6, "wrong", "(I)I"⟩
abbrev cX6_version : ByteArray := prog_1_method_5_code
def yX6_version : MethodName := ⟨RX6, "version", "(III)I"⟩
abbrev cX6_duration : ByteArray := prog_1_method_6_code
def yX6_duration : MethodName := ⟨RX6, "duration", "(II)I"⟩
abbrev cX6_failures : ByteArray := prog_1_method_7_code
def yX6_failures : MethodName := ⟨RX6, "failures", "(II)I"⟩
abbrev cX6_start : ByteArray := prog_1_method_8_code
def yX6_start : MethodName := ⟨RX6, "start", "(I)I"⟩
abbrev cX6_signal : ByteArray := prog_1_method_9_code
def yX6_signal : MethodName := ⟨RX6, "signal", "(II)I"⟩
abbrev cX6_abort : ByteArray := prog_1_method_10_code
def yX6_abort : MethodName := ⟨RX6, "abort", "(I)I"⟩
abbrev cX6_remove : ByteArray := prog_1_method_11_code
def yX6_remove : MethodName := ⟨RX6, "remove", "(I)I"⟩
abbrev cX6_pass : ByteArray := prog_1_method_12_code
def yX6_pass : MethodName := ⟨RX6, "pass", "(I)I"⟩
abbrev cX6_instance : ByteArray := prog_1_method_13_code
def yX6_instance : MethodName := ⟨RX6, "instance", "(II)I"⟩
abbrev cX6_entry : ByteArray := prog_1_method_14_code
def yX6_entry : MethodName := ⟨RX6, "entry", "(III)I"⟩
abbrev cX6_running : ByteArray := prog_1_method_15_code
def yX6_running : MethodName := ⟨RX6, "running", "(II)I"⟩
abbrev cX6_due : ByteArray := prog_1_method_16_code
def yX6_due : MethodName := ⟨RX6, "due", "(I)I"⟩
abbrev cX6_ahead : ByteArray := prog_1_method_17_code
def yX6_ahead : MethodName := ⟨RX6, "ahead", "(II)I"⟩
abbrev cX6_replayed : ByteArray := prog_1_method_18_code
def yX6_replayed : MethodName := ⟨RX6, "replayed", "(II)I"⟩
abbrev cX6_statistic : ByteArray := prog_1_method_19_code
def yX6_statistic : MethodName := ⟨RX6, "statistic", "(II)I"⟩
abbrev cX6_image : ByteArray := prog_1_method_20_code
def yX6_image : MethodName := ⟨RX6, "image", "()I"⟩
abbrev cX6_undo : ByteArray := prog_1_method_21_code
def yX6_undo : MethodName := ⟨RX6, "undo", "()I"⟩
abbrev cX6_count : ByteArray := prog_1_method_22_code
def yX6_count : MethodName := ⟨RX6, "count", "(I)I"⟩
abbrev cX6_find : ByteArray := prog_1_method_23_code
def yX6_find : MethodName := ⟨RX6, "find", "(I)LWorkflowEngine$Instance;"⟩
abbrev cX6_replaced : ByteArray := prog_1_method_24_code
def yX6_replaced : MethodName := ⟨RX6, "replaced", "([III)I"⟩
abbrev cX6_isInside : ByteArray := prog_1_method_25_code
def yX6_isInside : MethodName := ⟨RX6, "isInside", "(II)Z"⟩
abbrev cX6_copyRow : ByteArray := prog_1_method_26_code
def yX6_copyRow : MethodName := ⟨RX6, "copyRow", "([I[I)V"⟩
abbrev cX6_floatBits : ByteArray := prog_1_method_27_code
def yX6_floatBits : MethodName := ⟨RX6, "floatBits", "(II)I"⟩
def RX7 : String := "WorkflowEngineModel"
def TX7 : u_T := fun k => match k with
  | 0 => ("WorkflowEngineModel", "v", "[I", true)
  | 1 => ("WorkflowEngineModel", "keptV", "[I", true)
  | 2 => ("WorkflowEngineModel", "size", "[I", true)
  | 3 => ("WorkflowEngineModel", "keptSize", "[I", true)
  | 4 => ("WorkflowEngineModel", "s", "[I", true)
  | 5 => ("WorkflowEngineModel", "kept", "[I", true)
  | 6 => ("WorkflowEngineModel", "aside", "[I", true)
  | 7 => ("WorkflowEngineModel", "isKept", "Z", false)
  | 8 => ("WorkflowEngineModel", "tape", "[I", true)
  | 9 => ("WorkflowEngineModel", "fed", "I", false)
  | 10 => ("WorkflowEngineModel", "wrongAt", "I", false)
  | 11 => ("WorkflowEngineModel", "wrongWhy", "I", false)
  | 12 => ("WorkflowEngineModel", "at", "I", false)
  | 13 => ("WorkflowEngineModel", "why", "I", false)
  | 14 => ("WorkflowEngineModel", "nodes", "I", false)
  | 15 => ("WorkflowEngineModel", "items", "I", false)
  | 16 => ("WorkflowEngineModel", "open", "I", false)
  | 17 => ("WorkflowEngineModel", "mostOpen", "I", false)
  | 18 => ("WorkflowEngineModel", "number", "I", false)
  | 19 => ("WorkflowEngineModel", "keptWrongAt", "I", false)
  | _ => ("WorkflowEngineModel", "keptWrongWhy", "I", false)
def tyX7 : Nat → FieldType := fun k => match k with
  | 0 => .array .int
  | 1 => .array .int
  | 2 => .array .int
  | 3 => .array .int
  | 4 => .array .int
  | 5 => .array .int
  | 6 => .array .int
  | 7 => .boolean
  | 8 => .array .int
  | 9 => .int
  | 10 => .int
  | 11 => .int
  | 12 => .int
  | 13 => .int
  | 14 => .int
  | 15 => .int
  | 16 => .int
  | 17 => .int
  | 18 => .int
  | 19 => .int
  | _ => .int
abbrev wsX70 : List Cond := u_ws RX7 TX7 21
theorem nmX7 : ∀ a, a < 21 → ∀ b, b < 21 → a ≠ b → (TX7 a).2.1 ≠ (TX7 b).2.1 := by decide +kernel
theorem tyX7_ok : ∀ k, k < 21 → parseFieldDescriptor (TX7 k).2.2.1 = some (tyX7 k) := by decide +kernel
abbrev cX7_init : ByteArray := prog_9_method_1_code
def yX7_init : MethodName := ⟨RX7, "<init>", "()V"⟩
abbrev cX7_isIn : ByteArray := prog_9_method_2_code
def yX7_isIn : MethodName := ⟨RX7, "isIn", "(III)Z"⟩
abbrev cX7_isCode : ByteArray := prog_9_method_3_code
def yX7_isCode : MethodName := ⟨RX7, "isCode", "(I)Z"⟩
abbrev cX7_isWorkflow : ByteArray := prog_9_method_4_code
def yX7_isWorkflow : MethodName := ⟨RX7, "isWorkflow", "(I)Z"⟩
abbrev cX7_feed : ByteArray := prog_9_method_5_code
def yX7_feed : MethodName := ⟨RX7, "feed", "(I)I"⟩
abbrev cX7_here : ByteArray := prog_9_method_6_code
def yX7_here : MethodName := ⟨RX7, "here", "()I"⟩
abbrev cX7_takes : ByteArray := prog_9_method_7_code
def yX7_takes : MethodName := ⟨RX7, "takes", "(I)Z"⟩
abbrev cX7_takesDigit : ByteArray := prog_9_method_8_code
def yX7_takesDigit : MethodName := ⟨RX7, "takesDigit", "(II)Z"⟩
abbrev cX7_takesNumber : ByteArray := prog_9_method_9_code
def yX7_takesNumber : MethodName := ⟨RX7, "takesNumber", "()Z"⟩
abbrev cX7_takesSigned : ByteArray := prog_9_method_10_code
def yX7_takesSigned : MethodName := ⟨RX7, "takesSigned", "()Z"⟩
abbrev cX7_takesCode : ByteArray := prog_9_method_11_code
def yX7_takesCode : MethodName := ⟨RX7, "takesCode", "()Z"⟩
abbrev cX7_part : ByteArray := prog_9_method_12_code
def yX7_part : MethodName := ⟨RX7, "part", "(III)I"⟩
abbrev cX7_put : ByteArray := prog_9_method_14_code
def yX7_put : MethodName := ⟨RX7, "put", "(III)V"⟩
abbrev cX7_makes : ByteArray := prog_9_method_15_code
def yX7_makes : MethodName := ⟨RX7, "makes", "(II)I"⟩
abbrev cX7_beginsItem : ByteArray := prog_9_method_16_code
def yX7_beginsItem : MethodName := ⟨RX7, "beginsItem", "(I)Z"⟩
abbrev cX7_isTooMuch : ByteArray := prog_9_method_17_code
def yX7_isTooMuch : MethodName := ⟨RX7, "isTooMuch", "()Z"⟩
abbrev cX7_readsBody : ByteArray := prog_9_method_18_code
def yX7_readsBody : MethodName := ⟨RX7, "readsBody", "(II)Z"⟩
abbrev cX7_readsItem : ByteArray := prog_9_method_19_code
def yX7_readsItem : MethodName := ⟨RX7, "readsItem", "(I)Z"⟩
abbrev cX7_readsTask : ByteArray := prog_9_method_20_code
def yX7_readsTask : MethodName := ⟨RX7, "readsTask", "(I)Z"⟩
abbrev cX7_readsWait : ByteArray := prog_9_method_21_code
def yX7_readsWait : MethodName := ⟨RX7, "readsWait", "(I)Z"⟩
abbrev cX7_readsSignal : ByteArray := prog_9_method_22_code
def yX7_readsSignal : MethodName := ⟨RX7, "readsSignal", "(I)Z"⟩
abbrev cX7_readsSet : ByteArray := prog_9_method_23_code
def yX7_readsSet : MethodName := ⟨RX7, "readsSet", "(I)Z"⟩
abbrev cX7_opens : ByteArray := prog_9_method_24_code
def yX7_opens : MethodName := ⟨RX7, "opens", "()V"⟩
abbrev cX7_readsChoice : ByteArray := prog_9_method_25_code
def yX7_readsChoice : MethodName := ⟨RX7, "readsChoice", "(I)Z"⟩
abbrev cX7_readsParallel : ByteArray := prog_9_method_26_code
def yX7_readsParallel : MethodName := ⟨RX7, "readsParallel", "(I)Z"⟩
abbrev cX7_define : ByteArray := prog_9_method_27_code
def yX7_define : MethodName := ⟨RX7, "define", "(I)I"⟩
abbrev cX7_wrong : ByteArray := prog_9_method_28_code
def yX7_wrong : MethodName := ⟨RX7, "wrong", "(I)I"⟩
abbrev cX7_kind : ByteArray := prog_9_method_29_code
def yX7_kind : MethodName := ⟨RX7, "kind", "(II)I"⟩
abbrev cX7_child : ByteArray := prog_9_method_30_code
def yX7_child : MethodName := ⟨RX7, "child", "(II)I"⟩
abbrev cX7_next : ByteArray := prog_9_method_31_code
def yX7_next : MethodName := ⟨RX7, "next", "(II)I"⟩
abbrev cX7_tasksIn : ByteArray := prog_9_method_32_code
def yX7_tasksIn : MethodName := ⟨RX7, "tasksIn", "(I)I"⟩
abbrev cX7_width : ByteArray := prog_9_method_33_code
def yX7_width : MethodName := ⟨RX7, "width", "(II)I"⟩
abbrev cX7_version : ByteArray := prog_9_method_34_code
def yX7_version : MethodName := ⟨RX7, "version", "(III)I"⟩
abbrev cX7_duration : ByteArray := prog_9_method_35_code
def yX7_duration : MethodName := ⟨RX7, "duration", "(II)I"⟩
abbrev cX7_failures : ByteArray := prog_9_method_36_code
def yX7_failures : MethodName := ⟨RX7, "failures", "(II)I"⟩
abbrev cX7_fails : ByteArray := prog_9_method_37_code
def yX7_fails : MethodName := ⟨RX7, "fails", "(I)Z"⟩
abbrev cX7_of : ByteArray := prog_9_method_38_code
def yX7_of : MethodName := ⟨RX7, "of", "(II)I"⟩
abbrev cX7_at : ByteArray := prog_9_method_39_code
def yX7_at : MethodName := ⟨RX7, "at", "(III)I"⟩
abbrev cX7_versionOf : ByteArray := prog_9_method_40_code
def yX7_versionOf : MethodName := ⟨RX7, "versionOf", "(I)I"⟩
abbrev cX7_nodePart : ByteArray := prog_9_method_41_code
def yX7_nodePart : MethodName := ⟨RX7, "nodePart", "(III)I"⟩
abbrev cX7_isInstance : ByteArray := prog_9_method_42_code
def yX7_isInstance : MethodName := ⟨RX7, "isInstance", "(I)Z"⟩
abbrev cX7_notes : ByteArray := prog_9_method_43_code
def yX7_notes : MethodName := ⟨RX7, "notes", "(III)V"⟩
abbrev cX7_comesTo : ByteArray := prog_9_method_44_code
def yX7_comesTo : MethodName := ⟨RX7, "comesTo", "(III)I"⟩
abbrev cX7_tries : ByteArray := prog_9_method_45_code
def yX7_tries : MethodName := ⟨RX7, "tries", "(II)V"⟩
abbrev cX7_looksAtTask : ByteArray := prog_9_method_46_code
def yX7_looksAtTask : MethodName := ⟨RX7, "looksAtTask", "(II)I"⟩
abbrev cX7_looksAtSignal : ByteArray := prog_9_method_47_code
def yX7_looksAtSignal : MethodName := ⟨RX7, "looksAtSignal", "(II)I"⟩
abbrev cX7_sets : ByteArray := prog_9_method_48_code
def yX7_sets : MethodName := ⟨RX7, "sets", "(II)I"⟩
abbrev cX7_looks : ByteArray := prog_9_method_49_code
def yX7_looks : MethodName := ⟨RX7, "looks", "(II)I"⟩
abbrev cX7_begins : ByteArray := prog_9_method_50_code
def yX7_begins : MethodName := ⟨RX7, "begins", "(II)I"⟩
abbrev cX7_looksAtBody : ByteArray := prog_9_method_51_code
def yX7_looksAtBody : MethodName := ⟨RX7, "looksAtBody", "(II)I"⟩
abbrev cX7_bodiesIn : ByteArray := prog_9_method_52_code
def yX7_bodiesIn : MethodName := ⟨RX7, "bodiesIn", "(III)I"⟩
abbrev cX7_cancels : ByteArray := prog_9_method_53_code
def yX7_cancels : MethodName := ⟨RX7, "cancels", "(II)V"⟩
abbrev cX7_cancelsBodies : ByteArray := prog_9_method_54_code
def yX7_cancelsBodies : MethodName := ⟨RX7, "cancelsBodies", "(II)V"⟩
abbrev cX7_looksAtParallel : ByteArray := prog_9_method_55_code
def yX7_looksAtParallel : MethodName := ⟨RX7, "looksAtParallel", "(II)I"⟩
abbrev cX7_isFor : ByteArray := prog_9_method_56_code
def yX7_isFor : MethodName := ⟨RX7, "isFor", "(III)Z"⟩
abbrev cX7_nextToCompensate : ByteArray := prog_9_method_57_code
def yX7_nextToCompensate : MethodName := ⟨RX7, "nextToCompensate", "(II)I"⟩
abbrev cX7_triesToCompensate : ByteArray := prog_9_method_58_code
def yX7_triesToCompensate : MethodName := ⟨RX7, "triesToCompensate", "(II)V"⟩
abbrev cX7_handles : ByteArray := prog_9_method_59_code
def yX7_handles : MethodName := ⟨RX7, "handles", "(IIII)V"⟩
abbrev cX7_compensates : ByteArray := prog_9_method_60_code
def yX7_compensates : MethodName := ⟨RX7, "compensates", "(II)Z"⟩
abbrev cX7_becomes : ByteArray := prog_9_method_61_code
def yX7_becomes : MethodName := ⟨RX7, "becomes", "(II)V"⟩
abbrev cX7_looksAt : ByteArray := prog_9_method_62_code
def yX7_looksAt : MethodName := ⟨RX7, "looksAt", "(I)V"⟩
abbrev cX7_instances : ByteArray := prog_9_method_63_code
def yX7_instances : MethodName := ⟨RX7, "instances", "()I"⟩
abbrev cX7_start : ByteArray := prog_9_method_64_code
def yX7_start : MethodName := ⟨RX7, "start", "(I)I"⟩
abbrev cX7_signal : ByteArray := prog_9_method_65_code
def yX7_signal : MethodName := ⟨RX7, "signal", "(II)I"⟩
abbrev cX7_abort : ByteArray := prog_9_method_66_code
def yX7_abort : MethodName := ⟨RX7, "abort", "(I)I"⟩
abbrev cX7_remove : ByteArray := prog_9_method_67_code
def yX7_remove : MethodName := ⟨RX7, "remove", "(I)I"⟩
abbrev cX7_passes : ByteArray := prog_9_method_68_code
def yX7_passes : MethodName := ⟨RX7, "passes", "()V"⟩
abbrev cX7_pass : ByteArray := prog_9_method_69_code
def yX7_pass : MethodName := ⟨RX7, "pass", "(I)I"⟩
abbrev cX7_instance : ByteArray := prog_9_method_70_code
def yX7_instance : MethodName := ⟨RX7, "instance", "(II)I"⟩
abbrev cX7_keptEntries : ByteArray := prog_9_method_71_code
def yX7_keptEntries : MethodName := ⟨RX7, "keptEntries", "(I)I"⟩
abbrev cX7_entry : ByteArray := prog_9_method_72_code
def yX7_entry : MethodName := ⟨RX7, "entry", "(III)I"⟩
abbrev cX7_runs : ByteArray := prog_9_method_73_code
def yX7_runs : MethodName := ⟨RX7, "runs", "(II)Z"⟩
abbrev cX7_running : ByteArray := prog_9_method_74_code
def yX7_running : MethodName := ⟨RX7, "running", "(II)I"⟩
abbrev cX7_dueAt : ByteArray := prog_9_method_75_code
def yX7_dueAt : MethodName := ⟨RX7, "dueAt", "(II)I"⟩
abbrev cX7_due : ByteArray := prog_9_method_76_code
def yX7_due : MethodName := ⟨RX7, "due", "(I)I"⟩
abbrev cX7_copies : ByteArray := prog_9_method_77_code
def yX7_copies : MethodName := ⟨RX7, "copies", "([I[II)V"⟩
abbrev cX7_ahead : ByteArray := prog_9_method_78_code
def yX7_ahead : MethodName := ⟨RX7, "ahead", "(II)I"⟩
abbrev cX7_entriesOf : ByteArray := prog_9_method_79_code
def yX7_entriesOf : MethodName := ⟨RX7, "entriesOf", "(II)I"⟩
abbrev cX7_replayed : ByteArray := prog_9_method_80_code
def yX7_replayed : MethodName := ⟨RX7, "replayed", "(II)I"⟩
abbrev cX7_instancesOf : ByteArray := prog_9_method_81_code
def yX7_instancesOf : MethodName := ⟨RX7, "instancesOf", "(II)I"⟩
abbrev cX7_statistic : ByteArray := prog_9_method_82_code
def yX7_statistic : MethodName := ⟨RX7, "statistic", "(II)I"⟩
abbrev cX7_image : ByteArray := prog_9_method_83_code
def yX7_image : MethodName := ⟨RX7, "image", "()I"⟩
abbrev cX7_undo : ByteArray := prog_9_method_84_code
def yX7_undo : MethodName := ⟨RX7, "undo", "()I"⟩
abbrev cX7_withStatus : ByteArray := prog_9_method_85_code
def yX7_withStatus : MethodName := ⟨RX7, "withStatus", "(I)I"⟩
abbrev cX7_versions : ByteArray := prog_9_method_86_code
def yX7_versions : MethodName := ⟨RX7, "versions", "()I"⟩
abbrev cX7_count : ByteArray := prog_9_method_87_code
def yX7_count : MethodName := ⟨RX7, "count", "(I)I"⟩
def RL : String := "WorkflowEngineLaw"
abbrev cL_law : ByteArray := code
def yL_law : MethodName := ⟨RL, "law", "([I)Z"⟩
abbrev vwCl : List vw_C := [(RX0, TX0, 3), (RX1, TX1, 3), (RX2, TX2, 18), (RX3, TX3, 6), (RX4, TX4, 16), (RX5, TX5, 5), (RX6, TX6, 8), (RX7, TX7, 21)]
end
section
/-! THE LIGHT JUDGEMENT: a method's walk over a list of cells, its answer a partial pure function's -/
def WS : List Cond := lw_tbl.filter goodWord
theorem ws_in {w : Cond} (h : w ∈ lw_tbl) (g : goodWord w = true) : w ∈ WS := List.mem_filter.mpr ⟨h, g⟩
theorem ws_of {w : Cond} (h : w ∈ WS) : w ∈ WS ∧ ((w.onTables && w.keeps) = true ∨ ∃ ty, w = .arrayClass ty) := ⟨h, good_of_word (List.mem_filter.mp h).2⟩
/-- the calls of a nest mate's private method: their words don't keep by themselves -/
def nwOf : Cond → Option (String × Nat × MethodName × String)
  | .methodLinkNest a i y h => some (a, i, y, h)
  | _ => none
def NWl : List (String × Nat × MethodName × String) := lw_tbl.filterMap nwOf
def Nst (U : State) : Prop := ∀ q ∈ NWl, va_Nw (.methodLinkNest q.1 q.2.1 q.2.2.1 q.2.2.2) U
theorem Nst.warm {s U : State} (hW : s.WarmedH U.vm) (h : Nst s) : Nst U := fun q hq => va_Nw.warmM hW (h q hq)
theorem Nst.same {u U : State} (hv : u.vm = U.vm) (h : Nst u) : Nst U := fun q hq => va_Nw.same rfl hv (h q hq)
theorem Nst.of {A : Array Value} {U : State} (h : ∀ w ∈ lw_tbl, w.before A U = true) : Nst U := fun q hq => by
  obtain ⟨w, hw, hq⟩ := List.mem_filterMap.mp hq
  unfold nwOf at hq
  split at hq
  · cases hq; exact va_Nw.of rfl (h _ hw)
  · cases hq
abbrev Ev : Type := va_G × (ClassId × ClassId × ClassId)
def tysE (E : Ev) : List (ClassId × FieldType) := [(E.2.1, .int), (E.2.2.1, .object "WorkflowEngine$Version"), (E.2.2.2, .object "WorkflowEngine$Instance")]
def Cx (E : Ev) (own : String) (cc : ByteArray) (nL : Nat) (ret : Option FieldType) (p : Program) (s : State) (m : MethodId) (args : Array Value) (meth : Method) (c : Code) : Prop :=
  p.tables.exec = Jvm.exec ∧ c.code = cc ∧ c.maxLocals = nL ∧ s.vm.findClass own = some m.cls ∧ (∀ w ∈ WS, w.before args s = true) ∧ va_K E.1 vwCl (tysE E) s ∧ Nst s ∧ meth.sig.returnType = ret ∧ meth.locks = false
abbrev rmd (d : Nat) : Room := { frames := d, cells := 0, slots := 0, locals := 40 * d }
/-- the addresses of a list of cells -/
def Ad (ws : va_W) : Nat → Prop := fun q => ∃ (k : Nat) (e : va_E), ws[k]? = some (q, e)
abbrev Rs : Type := Option Value × va_W
def QQ {α : Type} (E : Ev) (A : Nat → Prop) (X : Option α) (φ : α → Rs) : Array Value → State → Outcome → State → Prop := fun _ st oc t => (∃ a, X = some a ∧ oc = .returned (φ a).1 ∧ va_P E.1 vwCl (φ a).2 t.heap) ∧ va_F A st t
def Bd {α : Type} (l : Launch) (E : Ev) (A : Nat → Prop) (own : String) (cc : ByteArray) (nL : Nat) (ret : Option FieldType) (d : Nat) (φ : α → Rs) (pc : Nat) (L : List (Nat × Value)) (st : List Value) (ws : va_W) (X : Option α) : Prop :=
  X.isSome = true → ∀ (p : Program) (e : Env) (s : State) (m : MethodId) (args : Array Value) (below : List Frame) (meth : Method) (c : Code) (H : Heap) (locs : List Loc) (ls : Array Slot), Cx E own cc nL ret p s m args meth c → va_P E.1 vwCl ws H → va_D A ws → va_S A s.heap H locs → lv_has ls nL L → W p l e (rmd d) s m args below meth c H locs 0 0 (MQ below (QQ E A X φ) args s 0 0 A) (F0 m pc ls st)
def Pcd (E : Ev) (ws : va_W) (args : List Value) : Array Value → State → Prop := va_Pc args (fun U => va_P E.1 vwCl ws U.heap ∧ va_K E.1 vwCl (tysE E) U ∧ Nst U ∧ va_D (fun _ => True) ws)
def Ct {α : Type} (l : Launch) (y : MethodName) (cc : ByteArray) (nL : Nat) (ret : Option FieldType) (d : Nat) (E : Ev) (ws : va_W) (args : List Value) (φ : α → Rs) (X : Option α) : Prop :=
  X.isSome = true → Met l y (Cond.code y cc nL ret :: WS) (rmd d) (Pcd E ws args) (QQ E (Ad ws) X φ) 0 0 (Ad ws)
theorem Ct.of {α : Type} {l : Launch} {y : MethodName} {cc : ByteArray} {nL : Nat} {ret : Option FieldType} {d : Nat} {E : Ev} {ws : va_W} {args : List Value} {φ : α → Rs} {X : Option α} (L : List (Nat × Value)) (hy : plainName y.cls = true) (hlen : (lg_sl args).length ≤ nL) (hL : lv_args 0 args = L)
    (k : Bd l E (Ad ws) y.cls cc nL ret d φ 0 L [] ws X) : Ct l y cc nL ret d E ws args φ X := by
  intro hX
  subst hL
  refine Met.ofW (cc := cc) (maxL := nL) (ret := ret) hy rfl ?_
  intro p e s m args' below meth c s₁ B hml hv
  obtain ⟨rfl, hP, hK, hN, hD0⟩ := hv
  have hts := atoms_spec (ws := Cond.code y cc nL ret :: WS) B.pre
  rw [lg_entry_eq]
  exact k hX p e s m _ below meth c s.heap [] _ ⟨B.exec, B.bytes, hml, findClass_of_methodNamed B.named, fun w h => hts w (List.mem_cons_of_mem _ h), hK, hN, B.returns, B.notSynchronized⟩ hP ⟨hD0.1, fun k q h => ⟨k, q.2, h⟩⟩ va_S.rf (lv_entry args hlen)
theorem Ct.of2 {α : Type} {l : Launch} {y : MethodName} {own : String} {cc : ByteArray} {nL : Nat} {ret : Option FieldType} {d : Nat} {E : Ev} {ws : va_W} {args : List Value} {φ : α → Rs} {X : Option α} {L : List (Nat × Value)} (ho : y.cls = own) (hy : plainName y.cls = true) (hlen : (lg_sl args).length ≤ nL) (hL : lv_args 0 args = L)
    (k : Bd l E (Ad ws) own cc nL ret d φ 0 L [] ws X) : Ct l y cc nL ret d E ws args φ X := by
  subst ho
  exact Ct.of L hy hlen hL k
section B1
variable {α : Type} {l : Launch} {E : Ev} {A : Nat → Prop} {own : String} {cc : ByteArray} {nL : Nat} {ret : Option FieldType} {d : Nat} {φ : α → Rs} {pc n : Nat} {L : List (Nat × Value)} {st : List Value} {ws : va_W} {X : Option α}
theorem Bd.sub {L' : List (Nat × Value)} (ks : List Nat) (hl : lv_pick L ks = L') (k : Bd l E A own cc nL ret d φ pc L' st ws X) : Bd l E A own cc nL ret d φ pc L st ws X :=
  fun hX p e s m args below meth c H locs ls C hP hD hS hl' => k hX p e s m args below meth c H locs ls C hP hD hS (lv_sub hl' ks hl)
theorem b_iconst {i : Int} {v : Int32} (hdg : decode cc pc = .ok (.iconst i, 1)) (hn : pc + 1 = n) (hv : Int32.ofInt i = v) (k : Bd l E A own cc nL ret d φ n L (.int v :: st) ws X) : Bd l E A own cc nL ret d φ pc L st ws X :=
  fun hX p e s m args below meth c H locs ls C hP hD hS hl => lv_iconst C.1 C.2.1 hdg hv (hn ▸ k hX p e s m args below meth c H locs ls C hP hD hS hl)
theorem b_bipush {i : Int} {v : Int32} (hdg : decode cc pc = .ok (.bipush i, 2)) (hn : pc + 2 = n) (hv : (Int8.ofInt i).toInt32 = v) (k : Bd l E A own cc nL ret d φ n L (.int v :: st) ws X) : Bd l E A own cc nL ret d φ pc L st ws X :=
  fun hX p e s m args below meth c H locs ls C hP hD hS hl => lv_bipush C.1 C.2.1 hdg hv (hn ▸ k hX p e s m args below meth c H locs ls C hP hD hS hl)
theorem b_sipush {i : Int} {v : Int32} (hdg : decode cc pc = .ok (.sipush i, 3)) (hn : pc + 3 = n) (hv : (Int16.ofInt i).toInt32 = v) (k : Bd l E A own cc nL ret d φ n L (.int v :: st) ws X) : Bd l E A own cc nL ret d φ pc L st ws X :=
  fun hX p e s m args below meth c H locs ls C hP hD hS hl => lv_sipush C.1 C.2.1 hdg hv (hn ▸ k hX p e s m args below meth c H locs ls C hP hD hS hl)
theorem b_ldc {i : Nat} {v : Int32} (hw : Cond.constant own i v ∈ WS) (hdg : decode cc pc = .ok (.ldc i, 2)) (hn : pc + 2 = n) (k : Bd l E A own cc nL ret d φ n L (.int v :: st) ws X) : Bd l E A own cc nL ret d φ pc L st ws X :=
  fun hX p e s m args below meth c H locs ls C hP hD hS hl => lv_ldc C.1 C.2.1 C.2.2.2.1 (C.2.2.2.2.1 _ hw) hdg (hn ▸ k hX p e s m args below meth c H locs ls C hP hD hS hl)
theorem b_iload_n {k : Fin 4} {i : Nat} {x : Int32} (q : Nat) (hdg : decode cc pc = .ok (.iload_n k, 1)) (hn : pc + 1 = n) (hi : (k : Nat) = i) (hl : L[q]? = some (i, .int x)) (kk : Bd l E A own cc nL ret d φ n L (.int x :: st) ws X) : Bd l E A own cc nL ret d φ pc L st ws X :=
  fun hX p e s m args below meth c H locs ls C hP hD hS hl' => lv_iload_n C.1 C.2.1 hdg hi (lv_at hl' q hl) (hn ▸ kk hX p e s m args below meth c H locs ls C hP hD hS hl')
theorem b_iload {i : Nat} {x : Int32} (q : Nat) (hdg : decode cc pc = .ok (.iload i, 2)) (hn : pc + 2 = n) (hl : L[q]? = some (i, .int x)) (kk : Bd l E A own cc nL ret d φ n L (.int x :: st) ws X) : Bd l E A own cc nL ret d φ pc L st ws X :=
  fun hX p e s m args below meth c H locs ls C hP hD hS hl' => lv_iload C.1 C.2.1 hdg (lv_at hl' q hl) (hn ▸ kk hX p e s m args below meth c H locs ls C hP hD hS hl')
theorem b_aload_n {k : Fin 4} {i : Nat} {x : Nat} (q : Nat) (hdg : decode cc pc = .ok (.aload_n k, 1)) (hn : pc + 1 = n) (hi : (k : Nat) = i) (hl : L[q]? = some (i, .ref x)) (kk : Bd l E A own cc nL ret d φ n L (.ref x :: st) ws X) : Bd l E A own cc nL ret d φ pc L st ws X :=
  fun hX p e s m args below meth c H locs ls C hP hD hS hl' => lv_aload_n C.1 C.2.1 hdg hi (lv_at hl' q hl) (hn ▸ kk hX p e s m args below meth c H locs ls C hP hD hS hl')
theorem b_aload {i : Nat} {x : Nat} (q : Nat) (hdg : decode cc pc = .ok (.aload i, 2)) (hn : pc + 2 = n) (hl : L[q]? = some (i, .ref x)) (kk : Bd l E A own cc nL ret d φ n L (.ref x :: st) ws X) : Bd l E A own cc nL ret d φ pc L st ws X :=
  fun hX p e s m args below meth c H locs ls C hP hD hS hl' => lv_aload C.1 C.2.1 hdg (lv_at hl' q hl) (hn ▸ kk hX p e s m args below meth c H locs ls C hP hD hS hl')
theorem b_istore_n {k : Fin 4} {i : Nat} {x : Int32} {L' : List (Nat × Value)} (hdg : decode cc pc = .ok (.istore_n k, 1)) (hn : pc + 1 = n) (hi : (k : Nat) = i) (hm : i < nL) (hl : (i, Value.int x) :: L.filter (fun q => !(q.1 == i) && !(q.1 + 1 == i && q.2.category == 2)) = L') (kk : Bd l E A own cc nL ret d φ n L' st ws X) : Bd l E A own cc nL ret d φ pc L (.int x :: st) ws X :=
  fun hX p e s m args below meth c H locs ls C hP hD hS hl' => lv_istore_n C.1 C.2.1 hdg hi hl' hm hl (fun ls' h' => hn ▸ kk hX p e s m args below meth c H locs ls' C hP hD hS h')
theorem b_istore {i : Nat} {x : Int32} {L' : List (Nat × Value)} (hdg : decode cc pc = .ok (.istore i, 2)) (hn : pc + 2 = n) (hm : i < nL) (hl : (i, Value.int x) :: L.filter (fun q => !(q.1 == i) && !(q.1 + 1 == i && q.2.category == 2)) = L') (kk : Bd l E A own cc nL ret d φ n L' st ws X) : Bd l E A own cc nL ret d φ pc L (.int x :: st) ws X :=
  fun hX p e s m args below meth c H locs ls C hP hD hS hl' => lv_istore C.1 C.2.1 hdg hl' hm hl (fun ls' h' => hn ▸ kk hX p e s m args below meth c H locs ls' C hP hD hS h')
theorem b_astore_n {k : Fin 4} {i : Nat} {x : Nat} {L' : List (Nat × Value)} (hdg : decode cc pc = .ok (.astore_n k, 1)) (hn : pc + 1 = n) (hi : (k : Nat) = i) (hm : i < nL) (hl : (i, Value.ref x) :: L.filter (fun q => !(q.1 == i) && !(q.1 + 1 == i && q.2.category == 2)) = L') (kk : Bd l E A own cc nL ret d φ n L' st ws X) : Bd l E A own cc nL ret d φ pc L (.ref x :: st) ws X :=
  fun hX p e s m args below meth c H locs ls C hP hD hS hl' => lv_astore_n C.1 C.2.1 hdg hi hl' hm hl (fun ls' h' => hn ▸ kk hX p e s m args below meth c H locs ls' C hP hD hS h')
theorem b_astore {i : Nat} {x : Nat} {L' : List (Nat × Value)} (hdg : decode cc pc = .ok (.astore i, 2)) (hn : pc + 2 = n) (hm : i < nL) (hl : (i, Value.ref x) :: L.filter (fun q => !(q.1 == i) && !(q.1 + 1 == i && q.2.category == 2)) = L') (kk : Bd l E A own cc nL ret d φ n L' st ws X) : Bd l E A own cc nL ret d φ pc L (.ref x :: st) ws X :=
  fun hX p e s m args below meth c H locs ls C hP hD hS hl' => lv_astore C.1 C.2.1 hdg hl' hm hl (fun ls' h' => hn ▸ kk hX p e s m args below meth c H locs ls' C hP hD hS h')
theorem b_iinc {i : Nat} {j : Int} {x : Int32} {L' : List (Nat × Value)} (q : Nat) (w : Int32) (hdg : decode cc pc = .ok (.iinc i j, 3)) (hn : pc + 3 = n) (hq : L[q]? = some (i, .int x)) (hv : Int32.ofInt j = w) (hm : i < nL) (hl : (i, Value.int (x + w)) :: L.filter (fun q => !(q.1 == i) && !(q.1 + 1 == i && q.2.category == 2)) = L') (kk : Bd l E A own cc nL ret d φ n L' st ws X) : Bd l E A own cc nL ret d φ pc L st ws X :=
  fun hX p e s m args below meth c H locs ls C hP hD hS hl' => lv_iinc C.1 C.2.1 hdg hl' hq (by rw [hv]) hm hl (fun ls' h' => hn ▸ kk hX p e s m args below meth c H locs ls' C hP hD hS h')
theorem b_iadd {x y : Int32} (hdg : decode cc pc = .ok (.iadd, 1)) (hn : pc + 1 = n) (kk : Bd l E A own cc nL ret d φ n L (.int (x + y) :: st) ws X) : Bd l E A own cc nL ret d φ pc L (.int y :: .int x :: st) ws X :=
  fun hX p e s m args below meth c H locs ls C hP hD hS hl => lv_iadd C.1 C.2.1 hdg (hn ▸ kk hX p e s m args below meth c H locs ls C hP hD hS hl)
theorem b_isub {x y : Int32} (hdg : decode cc pc = .ok (.isub, 1)) (hn : pc + 1 = n) (kk : Bd l E A own cc nL ret d φ n L (.int (x - y) :: st) ws X) : Bd l E A own cc nL ret d φ pc L (.int y :: .int x :: st) ws X :=
  fun hX p e s m args below meth c H locs ls C hP hD hS hl => lv_isub C.1 C.2.1 hdg (hn ▸ kk hX p e s m args below meth c H locs ls C hP hD hS hl)
theorem b_imul {x y : Int32} (hdg : decode cc pc = .ok (.imul, 1)) (hn : pc + 1 = n) (kk : Bd l E A own cc nL ret d φ n L (.int (x * y) :: st) ws X) : Bd l E A own cc nL ret d φ pc L (.int y :: .int x :: st) ws X :=
  fun hX p e s m args below meth c H locs ls C hP hD hS hl => lv_imul C.1 C.2.1 hdg (hn ▸ kk hX p e s m args below meth c H locs ls C hP hD hS hl)
theorem b_ineg {x : Int32} (hdg : decode cc pc = .ok (.ineg, 1)) (hn : pc + 1 = n) (kk : Bd l E A own cc nL ret d φ n L (.int (-x) :: st) ws X) : Bd l E A own cc nL ret d φ pc L (.int x :: st) ws X :=
  fun hX p e s m args below meth c H locs ls C hP hD hS hl => lv_ineg C.1 C.2.1 hdg (hn ▸ kk hX p e s m args below meth c H locs ls C hP hD hS hl)
theorem b_ishl {x y : Int32} (hdg : decode cc pc = .ok (.ishl, 1)) (hn : pc + 1 = n) (kk : Bd l E A own cc nL ret d φ n L (.int (x <<< (y &&& 31)) :: st) ws X) : Bd l E A own cc nL ret d φ pc L (.int y :: .int x :: st) ws X :=
  fun hX p e s m args below meth c H locs ls C hP hD hS hl => lv_ishl C.1 C.2.1 hdg (hn ▸ kk hX p e s m args below meth c H locs ls C hP hD hS hl)
theorem b_ishr {x y : Int32} (hdg : decode cc pc = .ok (.ishr, 1)) (hn : pc + 1 = n) (kk : Bd l E A own cc nL ret d φ n L (.int (x >>> (y &&& 31)) :: st) ws X) : Bd l E A own cc nL ret d φ pc L (.int y :: .int x :: st) ws X :=
  fun hX p e s m args below meth c H locs ls C hP hD hS hl => lv_ishr C.1 C.2.1 hdg (hn ▸ kk hX p e s m args below meth c H locs ls C hP hD hS hl)
theorem b_iand {x y : Int32} (hdg : decode cc pc = .ok (.iand, 1)) (hn : pc + 1 = n) (kk : Bd l E A own cc nL ret d φ n L (.int (x &&& y) :: st) ws X) : Bd l E A own cc nL ret d φ pc L (.int y :: .int x :: st) ws X :=
  fun hX p e s m args below meth c H locs ls C hP hD hS hl => lv_iand C.1 C.2.1 hdg (hn ▸ kk hX p e s m args below meth c H locs ls C hP hD hS hl)
theorem b_ior {x y : Int32} (hdg : decode cc pc = .ok (.ior, 1)) (hn : pc + 1 = n) (kk : Bd l E A own cc nL ret d φ n L (.int (x ||| y) :: st) ws X) : Bd l E A own cc nL ret d φ pc L (.int y :: .int x :: st) ws X :=
  fun hX p e s m args below meth c H locs ls C hP hD hS hl => lv_ior C.1 C.2.1 hdg (hn ▸ kk hX p e s m args below meth c H locs ls C hP hD hS hl)
theorem b_dup {v : Value} (hdg : decode cc pc = .ok (.dup, 1)) (hn : pc + 1 = n) (hv : v.category = 1) (kk : Bd l E A own cc nL ret d φ n L (v :: v :: st) ws X) : Bd l E A own cc nL ret d φ pc L (v :: st) ws X :=
  fun hX p e s m args below meth c H locs ls C hP hD hS hl => lv_dup C.1 C.2.1 hdg hv (hn ▸ kk hX p e s m args below meth c H locs ls C hP hD hS hl)
theorem b_goto {off : Int} (hdg : decode cc pc = .ok (.goto off, 3)) (hn : (pc : Int) + off = (n : Int)) (kk : Bd l E A own cc nL ret d φ n L st ws X) : Bd l E A own cc nL ret d φ pc L st ws X :=
  fun hX p e s m args below meth c H locs ls C hP hD hS hl => lv_goto C.1 C.2.1 hdg hn (kk hX p e s m args below meth c H locs ls C hP hD hS hl)
theorem b_if {t : Prop} [hd : Decidable t] {X1 X2 : Option α} (k1 : t → Bd l E A own cc nL ret d φ pc L st ws X1) (k2 : ¬ t → Bd l E A own cc nL ret d φ pc L st ws X2) : Bd l E A own cc nL ret d φ pc L st ws (if t then X1 else X2) := by
  by_cases h : t
  · rw [if_pos h]; exact k1 h
  · rw [if_neg h]; exact k2 h
end B1
end
section
/-! reads and writes of arrays and fields, branches, ends -/
def rd (n : Nat) (f : Nat → Int32) (i : Int32) : Option Int32 := if 0 ≤ i.toInt ∧ i.toInt < (n : Int) then some (f i.toNatClampNeg) else none
def ck {α : Type} (n : Nat) (i : Int32) (K : Option α) : Option α := if 0 ≤ i.toInt ∧ i.toInt < (n : Int) then K else none
theorem inb_vp {i : Int32} {n : Nat} (h : 0 ≤ i.toInt ∧ i.toInt < (n : Int)) : vp_in i n := vp_in_iff.mpr h
/-- a field's place: the class's number, the slot's -/
def FL (own : String) (idx ci k : Nat) : Prop := ∃ (C : String) (T : u_T) (N : Nat), vwCl[ci]? = some (C, T, N) ∧ k < N ∧ (∀ w ∈ u_ws C T N, w ∈ WS) ∧ Cond.fieldLink own idx (T k).1 (T k).2.1 (T k).2.2.1 ∈ WS
def FLp (own : String) (idx ci k : Nat) (ty : FieldType) : Prop := ∃ (C : String) (T : u_T) (N : Nat) (ty0 : Nat → FieldType), vwCl[ci]? = some (C, T, N) ∧ k < N ∧ (∀ w ∈ u_ws C T N, w ∈ WS) ∧ Cond.fieldLink own idx (T k).1 (T k).2.1 (T k).2.2.1 ∈ WS ∧ (∀ k, k < N → parseFieldDescriptor (T k).2.2.1 = some (ty0 k)) ∧ (∀ a, a < N → ∀ b, b < N → a ≠ b → (T a).2.1 ≠ (T b).2.1) ∧ (T k).2.2.2 = false ∧ ty0 k = ty
def LkV (own : String) (idx : Nat) (y : MethodName) (cc : ByteArray) (nL : Nat) (ret : Option FieldType) (n : Nat) : Prop :=
  Cond.methodLink own idx y ∈ WS ∧ Cond.instanceMethod y ∈ WS ∧ Cond.selects y.cls y y ∈ WS ∧ Cond.initialized y.cls ∈ WS ∧ Cond.code y cc nL ret ∈ WS ∧ (y.cls ≠ "java/lang/invoke/MethodHandle" ∧ y.cls ≠ "java/lang/invoke/VarHandle") ∧ (parseMethodDescriptor y.desc).map (fun d => d.parameters.length) = some n ∧ nL ≤ 20
def LkS (own : String) (idx : Nat) (y : MethodName) (cc : ByteArray) (nL : Nat) (ret : Option FieldType) (n : Nat) : Prop :=
  Cond.methodLink own idx y ∈ WS ∧ Cond.static y ∈ WS ∧ Cond.initialized y.cls ∈ WS ∧ Cond.code y cc nL ret ∈ WS ∧ (y.cls ≠ "java/lang/invoke/MethodHandle" ∧ y.cls ≠ "java/lang/invoke/VarHandle") ∧ (parseMethodDescriptor y.desc).map (fun d => d.parameters.length) = some n ∧ nL ≤ 20
def LkN (own : String) (idx : Nat) (y : MethodName) (host : String) (cc : ByteArray) (nL : Nat) (ret : Option FieldType) (n : Nat) : Prop :=
  (own, idx, y, host) ∈ NWl ∧ Cond.static y ∈ WS ∧ Cond.initialized y.cls ∈ WS ∧ Cond.code y cc nL ret ∈ WS ∧ (y.cls ≠ "java/lang/invoke/MethodHandle" ∧ y.cls ≠ "java/lang/invoke/VarHandle") ∧ (parseMethodDescriptor y.desc).map (fun d => d.parameters.length) = some n ∧ nL ≤ 20
theorem va_D.fst {A : Nat → Prop} {ws w1 : va_W} (h : va_D A ws) (he : w1.map Prod.fst = ws.map Prod.fst) : va_D A w1 := by
  have key : ∀ (k : Nat) (q : Nat × va_E), w1[k]? = some q → ∃ q', ws[k]? = some q' ∧ q'.1 = q.1 := by
    intro k q hq
    have h1 : (w1.map Prod.fst)[k]? = some q.1 := by rw [List.getElem?_map, hq]; rfl
    rw [he, List.getElem?_map] at h1
    cases hw : ws[k]? with
    | none => rw [hw] at h1; cases h1
    | some q' => rw [hw] at h1; exact ⟨q', rfl, Option.some.inj h1⟩
  refine ⟨fun i j p q hp hq hpq => ?_, fun k q hq => ?_⟩
  · obtain ⟨p', h1, h2⟩ := key i p hp
    obtain ⟨q', h3, h4⟩ := key j q hq
    exact h.1 i j p' q' h1 h3 (by rw [h2, h4]; exact hpq)
  · obtain ⟨q', h3, h4⟩ := key k q hq
    rw [← h4]; exact h.2 k q' h3
def patch : va_W → List Nat → va_W → va_W
  | ws, i :: is, c :: w => patch (ws.set i c) is w
  | ws, _, _ => ws
theorem patch_at : ∀ (is : List Nat) (w ws : va_W) (k : Nat) (q : Nat × va_E), is.Nodup → is.length = w.length → (patch ws is w)[k]? = some q → (∃ j : Nat, is[j]? = some k ∧ w[j]? = some q) ∨ (k ∉ is ∧ ws[k]? = some q)
  | [], [], ws, k, q, _, _, h => Or.inr ⟨List.not_mem_nil, h⟩
  | i :: is, c :: w, ws, k, q, hn, hl, h => by
    have hn' := List.nodup_cons.mp hn
    rcases patch_at is w (ws.set i c) k q hn'.2 (by simpa using hl) h with ⟨j, h1, h2⟩ | ⟨h1, h2⟩
    · exact Or.inl ⟨j + 1, h1, h2⟩
    · by_cases hik : i = k
      · subst hik
        rw [List.getElem?_set_self'] at h2
        cases hw : ws[i]? with
        | none => rw [hw] at h2; cases h2
        | some x => rw [hw] at h2; exact Or.inl ⟨0, rfl, h2⟩
      · rw [List.getElem?_set_ne hik] at h2
        exact Or.inr ⟨fun hm => by rcases List.mem_cons.mp hm with e | e; exact hik e.symm; exact h1 e, h2⟩
theorem patch_fst : ∀ (is : List Nat) (w ws : va_W), (∀ (j i : Nat) (q : Nat × va_E), is[j]? = some i → w[j]? = some q → ∃ q', ws[i]? = some q' ∧ q'.1 = q.1) → (patch ws is w).map Prod.fst = ws.map Prod.fst
  | [], w, ws, _ => by simp [patch]
  | i :: is, [], ws, _ => by simp [patch]
  | i :: is, c :: w, ws, h => by
    have e : (ws.set i c).map Prod.fst = ws.map Prod.fst := by
      obtain ⟨q', h1, h2⟩ := h 0 i c rfl rfl
      rw [List.map_set, ← h2]
      apply List.ext_getElem?
      intro n
      by_cases hn : i = n
      · subst hn
        rw [List.getElem?_set_self', List.getElem?_map, h1]
        rfl
      · rw [List.getElem?_set_ne hn]
    show (patch (ws.set i c) is w).map Prod.fst = _
    rw [patch_fst is w (ws.set i c) ?_, e]
    intro j i' q h1 h2
    obtain ⟨q', h3, h4⟩ := h (j + 1) i' q h1 h2
    have h5 : ((ws.set i c).map Prod.fst)[i']? = some q.1 := by rw [e, List.getElem?_map, h3]; exact congrArg some h4
    rw [List.getElem?_map] at h5
    cases hw : (ws.set i c)[i']? with
    | none => rw [hw] at h5; cases h5
    | some q2 => rw [hw] at h5; exact ⟨q2, rfl, Option.some.inj h5⟩
section B2
variable {α : Type} {l : Launch} {E : Ev} {A : Nat → Prop} {own : String} {cc : ByteArray} {nL : Nat} {ret : Option FieldType} {d : Nat} {φ : α → Rs} {pc n : Nat} {L : List (Nat × Value)} {st : List Value} {ws : va_W} {X : Option α}
theorem b_get {idx ci k a : Nat} {fs : List Value} {v : Value} (q : Nat) (hf : FL own idx ci k) (hdg : decode cc pc = .ok (.getfield idx, 3)) (hn : pc + 3 = n) (he : ws[q]? = some (a, .inr (ci, fs))) (hv : fs[k]? = some v) (kk : Bd l E A own cc nL ret d φ n L (v :: st) ws X) : Bd l E A own cc nL ret d φ pc L (.ref a :: st) ws X :=
  fun hX p e s m args below meth c H locs ls C hP hD hS hl => by
    obtain ⟨C0, T, N, h1, h2, h3, h4⟩ := hf
    exact va_get C.1 C.2.1 C.2.2.2.2.1 h3 C.2.2.2.1 C.2.2.2.2.2.1 hP q he h1 k h2 (C.2.2.2.2.1 _ h4) (fun _ h => h) hv hdg (hn ▸ kk hX p e s m args below meth c H locs ls C hP hD hS hl)
theorem b_put {idx ci k a : Nat} {fs : List Value} {v : Value} {ty : FieldType} {ws' : va_W} (q : Nat) (hf : FLp own idx ci k ty) (hdg : decode cc pc = .ok (.putfield idx, 3)) (hn : pc + 3 = n) (he : ws[q]? = some (a, .inr (ci, fs))) (hv : narrow ty v = v) (ht : fits ty v = true) (hk : k < fs.length) (hw : ws.set q (a, .inr (ci, fs.set k v)) = ws') (kk : Bd l E A own cc nL ret d φ n L st ws' X) : Bd l E A own cc nL ret d φ pc L (v :: .ref a :: st) ws X :=
  fun hX p e s m args below meth c H locs ls C hP hD hS hl => by
    obtain ⟨C0, T, N, ty0, h1, h2, h3, h4, h5, h6, h7, h8⟩ := hf
    exact va_put C.1 C.2.1 C.2.2.2.2.1 h3 ty0 h5 h6 C.2.2.2.1 C.2.2.2.2.2.1 hP hD hS q he h1 k h2 (C.2.2.2.2.1 _ h4) (fun _ h => h) h7 (by rw [h5 k h2, h8]) hv ht hk hdg (fun H1 locs1 hP1 hD1 hS1 => hn ▸ kk hX p e s m args below meth c H1 locs1 ls C (hw ▸ hP1) (hw ▸ hD1) hS1 hl)
theorem b_iald {a N : Nat} {f : Nat → Int32} {i : Int32} {K : Int32 → Option α} (q : Nat) (hdg : decode cc pc = .ok (.iaload, 1)) (hn : pc + 1 = n) (he : ws[q]? = some (a, .inl (E.2.1, N, .inl f))) (kk : ∀ v, Bd l E A own cc nL ret d φ n L (.int v :: st) ws (K v)) : Bd l E A own cc nL ret d φ pc L (.int i :: .ref a :: st) ws ((rd N f i).bind K) := by
  unfold rd
  by_cases h : 0 ≤ i.toInt ∧ i.toInt < (N : Int)
  · rw [if_pos h]
    exact fun hX p e s m args below meth c H locs ls C hP hD hS hl => va_iald C.1 C.2.1 C.2.2.2.2.2.1 hP q 0 he rfl (inb_vp h) hdg (hn ▸ kk (f i.toNatClampNeg) hX p e s m args below meth c H locs ls C hP hD hS hl)
  · rw [if_neg h]
    exact fun hX => by cases hX
theorem b_iast {a N : Nat} {f : Nat → Int32} {i x : Int32} {ws' : va_W} (q : Nat) (hdg : decode cc pc = .ok (.iastore, 1)) (hn : pc + 1 = n) (he : ws[q]? = some (a, .inl (E.2.1, N, .inl f))) (hw : ws.set q (a, .inl (E.2.1, N, .inl (upd f i.toNatClampNeg x))) = ws') (kk : Bd l E A own cc nL ret d φ n L st ws' X) : Bd l E A own cc nL ret d φ pc L (.int x :: .int i :: .ref a :: st) ws (ck N i X) := by
  unfold ck
  by_cases h : 0 ≤ i.toInt ∧ i.toInt < (N : Int)
  · rw [if_pos h]
    exact fun hX p e s m args below meth c H locs ls C hP hD hS hl => va_iast C.1 C.2.1 C.2.2.2.2.2.1 hP hD hS q 0 he rfl (inb_vp h) hdg (fun H1 locs1 hP1 hD1 hS1 => hn ▸ kk hX p e s m args below meth c H1 locs1 ls C (hw ▸ hP1) (hw ▸ hD1) hS1 hl)
  · rw [if_neg h]
    exact fun hX => by cases hX
theorem b_alen {a : Nat} {x : vp_A} {v : Int32} (q : Nat) (hdg : decode cc pc = .ok (.arraylength, 1)) (hn : pc + 1 = n) (he : ws[q]? = some (a, .inl (E.2.1, x))) (hv : Int32.ofNat x.1 = v) (kk : Bd l E A own cc nL ret d φ n L (.int v :: st) ws X) : Bd l E A own cc nL ret d φ pc L (.ref a :: st) ws X :=
  fun hX p e s m args below meth c H locs ls C hP hD hS hl => va_alen C.1 C.2.1 C.2.2.2.2.2.1 hP q 0 he rfl hv hdg (hn ▸ kk hX p e s m args below meth c H locs ls C hP hD hS hl)
theorem b_dup2 {v w : Value} (hdg : decode cc pc = .ok (.dup2, 1)) (hn : pc + 1 = n) (hv : v.category = 1) (hw : w.category = 1) (kk : Bd l E A own cc nL ret d φ n L (v :: w :: v :: w :: st) ws X) : Bd l E A own cc nL ret d φ pc L (v :: w :: st) ws X :=
  fun hX p e s m args below meth c H locs ls C hP hD hS hl => lv_dup2_11 C.1 C.2.1 hdg hv hw (hn ▸ kk hX p e s m args below meth c H locs ls C hP hD hS hl)
theorem i32_le {x y : Int32} : y ≤ x ↔ ¬ x < y := by
  rw [Int32.le_iff_toInt_le, Int32.lt_iff_toInt_lt]; omega
theorem bX {X Y : Option α} (e : X = Y) (k : Bd l E A own cc nL ret d φ pc L st ws Y) : Bd l E A own cc nL ret d φ pc L st ws X := e ▸ k
section BR
variable {x y : Int32} {off : Int} {tgt : Nat} {Y : Option α}
theorem b_cmp_lt (hdg : decode cc pc = .ok (.if_icmp .lt off, 3)) (ht : (pc : Int) + off = (tgt : Int)) (hn : pc + 3 = n) (k1 : x < y → Bd l E A own cc nL ret d φ tgt L st ws X) (k2 : ¬ x < y → Bd l E A own cc nL ret d φ n L st ws Y) : Bd l E A own cc nL ret d φ pc L (.int y :: .int x :: st) ws (if x < y then X else Y) :=
  b_if (fun h hX p e s m args below meth c H locs ls C hP hD hS hl => lv_icmp_lt C.1 C.2.1 hdg ht (fun _ => k1 h hX p e s m args below meth c H locs ls C hP hD hS hl) (fun h' => absurd h h'))
    (fun h hX p e s m args below meth c H locs ls C hP hD hS hl => lv_icmp_lt C.1 C.2.1 hdg ht (fun h' => absurd h' h) (fun _ => hn ▸ k2 h hX p e s m args below meth c H locs ls C hP hD hS hl))
theorem b_cmp_ge (hdg : decode cc pc = .ok (.if_icmp .ge off, 3)) (ht : (pc : Int) + off = (tgt : Int)) (hn : pc + 3 = n) (k1 : x < y → Bd l E A own cc nL ret d φ n L st ws X) (k2 : ¬ x < y → Bd l E A own cc nL ret d φ tgt L st ws Y) : Bd l E A own cc nL ret d φ pc L (.int y :: .int x :: st) ws (if x < y then X else Y) :=
  b_if (fun h hX p e s m args below meth c H locs ls C hP hD hS hl => lv_icmp_ge C.1 C.2.1 hdg ht (fun h' => absurd h (i32_le.mp h')) (fun _ => hn ▸ k1 h hX p e s m args below meth c H locs ls C hP hD hS hl))
    (fun h hX p e s m args below meth c H locs ls C hP hD hS hl => lv_icmp_ge C.1 C.2.1 hdg ht (fun _ => k2 h hX p e s m args below meth c H locs ls C hP hD hS hl) (fun h' => absurd (i32_le.mpr h) h'))
theorem b_cmp_gt (hdg : decode cc pc = .ok (.if_icmp .gt off, 3)) (ht : (pc : Int) + off = (tgt : Int)) (hn : pc + 3 = n) (k1 : y < x → Bd l E A own cc nL ret d φ tgt L st ws X) (k2 : ¬ y < x → Bd l E A own cc nL ret d φ n L st ws Y) : Bd l E A own cc nL ret d φ pc L (.int y :: .int x :: st) ws (if y < x then X else Y) :=
  b_if (fun h hX p e s m args below meth c H locs ls C hP hD hS hl => lv_icmp_gt C.1 C.2.1 hdg ht (fun _ => k1 h hX p e s m args below meth c H locs ls C hP hD hS hl) (fun h' => absurd h h'))
    (fun h hX p e s m args below meth c H locs ls C hP hD hS hl => lv_icmp_gt C.1 C.2.1 hdg ht (fun h' => absurd h' h) (fun _ => hn ▸ k2 h hX p e s m args below meth c H locs ls C hP hD hS hl))
theorem b_cmp_le (hdg : decode cc pc = .ok (.if_icmp .le off, 3)) (ht : (pc : Int) + off = (tgt : Int)) (hn : pc + 3 = n) (k1 : y < x → Bd l E A own cc nL ret d φ n L st ws X) (k2 : ¬ y < x → Bd l E A own cc nL ret d φ tgt L st ws Y) : Bd l E A own cc nL ret d φ pc L (.int y :: .int x :: st) ws (if y < x then X else Y) :=
  b_if (fun h hX p e s m args below meth c H locs ls C hP hD hS hl => lv_icmp_le C.1 C.2.1 hdg ht (fun h' => absurd h (i32_le.mp h')) (fun _ => hn ▸ k1 h hX p e s m args below meth c H locs ls C hP hD hS hl))
    (fun h hX p e s m args below meth c H locs ls C hP hD hS hl => lv_icmp_le C.1 C.2.1 hdg ht (fun _ => k2 h hX p e s m args below meth c H locs ls C hP hD hS hl) (fun h' => absurd (i32_le.mpr h) h'))
theorem b_cmp_eq (hdg : decode cc pc = .ok (.if_icmp .eq off, 3)) (ht : (pc : Int) + off = (tgt : Int)) (hn : pc + 3 = n) (k1 : x = y → Bd l E A own cc nL ret d φ tgt L st ws X) (k2 : ¬ x = y → Bd l E A own cc nL ret d φ n L st ws Y) : Bd l E A own cc nL ret d φ pc L (.int y :: .int x :: st) ws (if x = y then X else Y) :=
  b_if (fun h hX p e s m args below meth c H locs ls C hP hD hS hl => lv_icmp_eq C.1 C.2.1 hdg ht (fun _ => k1 h hX p e s m args below meth c H locs ls C hP hD hS hl) (fun h' => absurd h h'))
    (fun h hX p e s m args below meth c H locs ls C hP hD hS hl => lv_icmp_eq C.1 C.2.1 hdg ht (fun h' => absurd h' h) (fun _ => hn ▸ k2 h hX p e s m args below meth c H locs ls C hP hD hS hl))
theorem b_cmp_ne (hdg : decode cc pc = .ok (.if_icmp .ne off, 3)) (ht : (pc : Int) + off = (tgt : Int)) (hn : pc + 3 = n) (k1 : x = y → Bd l E A own cc nL ret d φ n L st ws X) (k2 : ¬ x = y → Bd l E A own cc nL ret d φ tgt L st ws Y) : Bd l E A own cc nL ret d φ pc L (.int y :: .int x :: st) ws (if x = y then X else Y) :=
  b_if (fun h hX p e s m args below meth c H locs ls C hP hD hS hl => lv_icmp_ne C.1 C.2.1 hdg ht (fun h' => absurd h h') (fun _ => hn ▸ k1 h hX p e s m args below meth c H locs ls C hP hD hS hl))
    (fun h hX p e s m args below meth c H locs ls C hP hD hS hl => lv_icmp_ne C.1 C.2.1 hdg ht (fun _ => k2 h hX p e s m args below meth c H locs ls C hP hD hS hl) (fun h' => absurd h' h))
theorem b_if_lt (hdg : decode cc pc = .ok (.ifCond .lt off, 3)) (ht : (pc : Int) + off = (tgt : Int)) (hn : pc + 3 = n) (k1 : x < 0 → Bd l E A own cc nL ret d φ tgt L st ws X) (k2 : ¬ x < 0 → Bd l E A own cc nL ret d φ n L st ws Y) : Bd l E A own cc nL ret d φ pc L (.int x :: st) ws (if x < 0 then X else Y) :=
  b_if (fun h hX p e s m args below meth c H locs ls C hP hD hS hl => lv_if_lt C.1 C.2.1 hdg ht (fun _ => k1 h hX p e s m args below meth c H locs ls C hP hD hS hl) (fun h' => absurd h h'))
    (fun h hX p e s m args below meth c H locs ls C hP hD hS hl => lv_if_lt C.1 C.2.1 hdg ht (fun h' => absurd h' h) (fun _ => hn ▸ k2 h hX p e s m args below meth c H locs ls C hP hD hS hl))
theorem b_if_ge (hdg : decode cc pc = .ok (.ifCond .ge off, 3)) (ht : (pc : Int) + off = (tgt : Int)) (hn : pc + 3 = n) (k1 : x < 0 → Bd l E A own cc nL ret d φ n L st ws X) (k2 : ¬ x < 0 → Bd l E A own cc nL ret d φ tgt L st ws Y) : Bd l E A own cc nL ret d φ pc L (.int x :: st) ws (if x < 0 then X else Y) :=
  b_if (fun h hX p e s m args below meth c H locs ls C hP hD hS hl => lv_if_ge C.1 C.2.1 hdg ht (fun h' => absurd h (i32_le.mp h')) (fun _ => hn ▸ k1 h hX p e s m args below meth c H locs ls C hP hD hS hl))
    (fun h hX p e s m args below meth c H locs ls C hP hD hS hl => lv_if_ge C.1 C.2.1 hdg ht (fun _ => k2 h hX p e s m args below meth c H locs ls C hP hD hS hl) (fun h' => absurd (i32_le.mpr h) h'))
theorem b_if_gt (hdg : decode cc pc = .ok (.ifCond .gt off, 3)) (ht : (pc : Int) + off = (tgt : Int)) (hn : pc + 3 = n) (k1 : 0 < x → Bd l E A own cc nL ret d φ tgt L st ws X) (k2 : ¬ 0 < x → Bd l E A own cc nL ret d φ n L st ws Y) : Bd l E A own cc nL ret d φ pc L (.int x :: st) ws (if 0 < x then X else Y) :=
  b_if (fun h hX p e s m args below meth c H locs ls C hP hD hS hl => lv_if_gt C.1 C.2.1 hdg ht (fun _ => k1 h hX p e s m args below meth c H locs ls C hP hD hS hl) (fun h' => absurd h h'))
    (fun h hX p e s m args below meth c H locs ls C hP hD hS hl => lv_if_gt C.1 C.2.1 hdg ht (fun h' => absurd h' h) (fun _ => hn ▸ k2 h hX p e s m args below meth c H locs ls C hP hD hS hl))
theorem b_if_le (hdg : decode cc pc = .ok (.ifCond .le off, 3)) (ht : (pc : Int) + off = (tgt : Int)) (hn : pc + 3 = n) (k1 : 0 < x → Bd l E A own cc nL ret d φ n L st ws X) (k2 : ¬ 0 < x → Bd l E A own cc nL ret d φ tgt L st ws Y) : Bd l E A own cc nL ret d φ pc L (.int x :: st) ws (if 0 < x then X else Y) :=
  b_if (fun h hX p e s m args below meth c H locs ls C hP hD hS hl => lv_if_le C.1 C.2.1 hdg ht (fun h' => absurd h (i32_le.mp h')) (fun _ => hn ▸ k1 h hX p e s m args below meth c H locs ls C hP hD hS hl))
    (fun h hX p e s m args below meth c H locs ls C hP hD hS hl => lv_if_le C.1 C.2.1 hdg ht (fun _ => k2 h hX p e s m args below meth c H locs ls C hP hD hS hl) (fun h' => absurd (i32_le.mpr h) h'))
theorem b_if_eq (hdg : decode cc pc = .ok (.ifCond .eq off, 3)) (ht : (pc : Int) + off = (tgt : Int)) (hn : pc + 3 = n) (k1 : x = 0 → Bd l E A own cc nL ret d φ tgt L st ws X) (k2 : ¬ x = 0 → Bd l E A own cc nL ret d φ n L st ws Y) : Bd l E A own cc nL ret d φ pc L (.int x :: st) ws (if x = 0 then X else Y) :=
  b_if (fun h hX p e s m args below meth c H locs ls C hP hD hS hl => lv_if_eq C.1 C.2.1 hdg ht (fun _ => k1 h hX p e s m args below meth c H locs ls C hP hD hS hl) (fun h' => absurd h h'))
    (fun h hX p e s m args below meth c H locs ls C hP hD hS hl => lv_if_eq C.1 C.2.1 hdg ht (fun h' => absurd h' h) (fun _ => hn ▸ k2 h hX p e s m args below meth c H locs ls C hP hD hS hl))
theorem b_if_ne (hdg : decode cc pc = .ok (.ifCond .ne off, 3)) (ht : (pc : Int) + off = (tgt : Int)) (hn : pc + 3 = n) (k1 : x = 0 → Bd l E A own cc nL ret d φ n L st ws X) (k2 : ¬ x = 0 → Bd l E A own cc nL ret d φ tgt L st ws Y) : Bd l E A own cc nL ret d φ pc L (.int x :: st) ws (if x = 0 then X else Y) :=
  b_if (fun h hX p e s m args below meth c H locs ls C hP hD hS hl => lv_if_ne C.1 C.2.1 hdg ht (fun h' => absurd h h') (fun _ => hn ▸ k1 h hX p e s m args below meth c H locs ls C hP hD hS hl))
    (fun h hX p e s m args below meth c H locs ls C hP hD hS hl => lv_if_ne C.1 C.2.1 hdg ht (fun _ => k2 h hX p e s m args below meth c H locs ls C hP hD hS hl) (fun h' => absurd h' h))
def b2i (b : Bool) : Int32 := if b then 1 else 0
/-- a truth value on the stack: ifeq jumps where it is false -/
theorem b_bz {b : Bool} (hdg : decode cc pc = .ok (.ifCond .eq off, 3)) (ht : (pc : Int) + off = (tgt : Int)) (hn : pc + 3 = n) (k1 : b = true → Bd l E A own cc nL ret d φ n L st ws X) (k2 : ¬ b = true → Bd l E A own cc nL ret d φ tgt L st ws Y) : Bd l E A own cc nL ret d φ pc L (.int (b2i b) :: st) ws (if b = true then X else Y) :=
  b_if (fun h hX p e s m args below meth c H locs ls C hP hD hS hl => lv_if_eq C.1 C.2.1 hdg ht (fun h' => by subst h; exact absurd h' (by decide)) (fun _ => hn ▸ k1 h hX p e s m args below meth c H locs ls C hP hD hS hl))
    (fun h hX p e s m args below meth c H locs ls C hP hD hS hl => lv_if_eq C.1 C.2.1 hdg ht (fun _ => k2 h hX p e s m args below meth c H locs ls C hP hD hS hl) (fun h' => by rw [Bool.not_eq_true] at h; subst h; exact absurd rfl h'))
theorem b_bnz {b : Bool} (hdg : decode cc pc = .ok (.ifCond .ne off, 3)) (ht : (pc : Int) + off = (tgt : Int)) (hn : pc + 3 = n) (k1 : b = true → Bd l E A own cc nL ret d φ tgt L st ws X) (k2 : ¬ b = true → Bd l E A own cc nL ret d φ n L st ws Y) : Bd l E A own cc nL ret d φ pc L (.int (b2i b) :: st) ws (if b = true then X else Y) :=
  b_if (fun h hX p e s m args below meth c H locs ls C hP hD hS hl => lv_if_ne C.1 C.2.1 hdg ht (fun _ => k1 h hX p e s m args below meth c H locs ls C hP hD hS hl) (fun h' => by subst h; exact absurd h' (by decide)))
    (fun h hX p e s m args below meth c H locs ls C hP hD hS hl => lv_if_ne C.1 C.2.1 hdg ht (fun h' => by rw [Bool.not_eq_true] at h; subst h; exact absurd rfl h') (fun _ => hn ▸ k2 h hX p e s m args below meth c H locs ls C hP hD hS hl))
end BR
theorem b_iret {v : Int32} {a : α} (hdg : decode cc pc = .ok (.ireturn, 1)) (hr : ret = some .int) (hφ : φ a = (some (.int v), ws)) : Bd l E A own cc nL ret d φ pc L [.int v] ws (some a) :=
  fun _ p e s m args below meth c H locs ls C hP hD hS hl => W.iret C.1 C.2.1 (C.2.2.2.2.2.2.2.1.trans hr) (fun t ht hW => ⟨⟨a, rfl, by rw [hφ], by rw [hφ, ht]; exact hP⟩, hS.F ht⟩) hS.2.2 hdg C.2.2.2.2.2.2.2.2
theorem b_zret {b : Bool} {a : α} (hdg : decode cc pc = .ok (.ireturn, 1)) (hr : ret = some .boolean) (hφ : φ a = (some (.int (b2i b)), ws)) : Bd l E A own cc nL ret d φ pc L [.int (b2i b)] ws (some a) :=
  fun _ p e s m args below meth c H locs ls C hP hD hS hl => W.zret C.1 C.2.1 (C.2.2.2.2.2.2.2.1.trans hr) (by cases b <;> decide) (fun t ht hW => ⟨⟨a, rfl, by rw [hφ], by rw [hφ, ht]; exact hP⟩, hS.F ht⟩) hS.2.2 hdg C.2.2.2.2.2.2.2.2
theorem b_vret {a : α} (hdg : decode cc pc = .ok (.return_, 1)) (hr : ret = none) (hφ : φ a = (none, ws)) : Bd l E A own cc nL ret d φ pc L [] ws (some a) :=
  fun _ p e s m args below meth c H locs ls C hP hD hS hl => W.vret C.1 C.2.1 (C.2.2.2.2.2.2.2.1.trans hr) (fun t ht hW => ⟨⟨a, rfl, by rw [hφ], by rw [hφ, ht]; exact hP⟩, hS.F ht⟩) hS.2.2 hdg C.2.2.2.2.2.2.2.2
end B2
end
section
/-! calls -/
theorem QQ.blind {E : Ev} {ws : va_W} {args : List Value} : FrameBlind (Pcd E ws args) := fun a U g mk q => by
  obtain ⟨q0, qP, qK, qN, qD⟩ := q
  exact ⟨q0, qP, va_K.moved (u := U) (U := U.calling g mk a) (Vm.Alike.refl U.vm) qK, Nst.same (U := U.calling g mk a) rfl qN, qD⟩
theorem wsGood {Ts ws : List Cond} (h : ∀ w ∈ ws, w ∈ WS) (hT : Ts = WS) : GoodIn Ts ws := fun w hw => by
  subst hT; exact ws_of (h w hw)
section C1
variable {α β : Type} {p : Program} {l : Launch} {e : Env} {R : Room} {s : State} {m : MethodId} {args : Array Value} {below : List Frame} {meth : Method} {c : Code} {H : Heap} {locs : List Loc} {Q : State → Prop} {E : Ev} {A A1 : Nat → Prop} {pc : Nat} {ls : Array Slot} {rest st0 : List Value} {a : Array Value} {H0 : Heap}
theorem w_call {cells slots : Nat} {F : Option β} {ψ : β → Rs} (hr : va_Run p l e R s m args below meth c H locs cells slots 0 0 (F0 m pc ls st0) rest (QQ E A1 F ψ a) A1) (hS : va_S A H0 H locs) (hA : ∀ q, A1 q → A q)
    (kk : ∀ (b : β) (H1 : Heap) (locs1 : List Loc), F = some b → va_P E.1 vwCl (ψ b).2 H1 → (∀ q : Nat, q < H.size → ¬ A1 q → H1[q]? = H[q]?) → va_S A H0 H1 locs1 → W p l e R s m args below meth c H1 locs1 cells slots Q (F0 m (pc + 3) ls ((ψ b).1.toList ++ rest))) : W p l e R s m args below meth c H locs cells slots Q (F0 m pc ls st0) := by
  intro T hT X
  obtain ⟨v, st₀, t, T', L, h0, X', hL, e1, e2, ⟨⟨b, hF, hv, hP⟩, hz, hk⟩, st⟩ := hr T hT X
  cases hv
  rw [h0] at hz hk
  obtain ⟨t2, a1, b1⟩ := kk b T'.heap (locs ++ L) hF (by rw [e1]; exact hP) (fun q h1 h2 => by rw [e1]; exact hk q h1 h2)
    ⟨Nat.le_trans hS.1 (by rw [e1]; exact hz), fun q h1 h2 => by rw [e1, hk q (Nat.lt_of_lt_of_le h1 hS.1) (fun z => h2 (hA q z))]; exact hS.2.1 q h1 h2, fun q hq => by
      rcases List.mem_append.mp hq with h | h
      · exact hS.2.2 q h
      · exact hA _ (hL q h)⟩ T' rfl X'
  exact ⟨t2, st t2 a1, b1⟩
/-- behind a call on a part of the cells: the rest stands as it was -/
theorem va_P.patch {ws wc w1 : va_W} {H H1 : Heap} {is : List Nat} (hP : va_P E.1 vwCl ws H) (hD : va_D A ws) (hC : is.map (fun i => ws[i]?) = wc.map some) (hnd : is.Nodup) (hfst : w1.map Prod.fst = wc.map Prod.fst) (hP1 : va_P E.1 vwCl w1 H1) (hk : ∀ q : Nat, q < H.size → ¬ Ad wc q → H1[q]? = H[q]?) : va_P E.1 vwCl (patch ws is w1) H1 ∧ (patch ws is w1).map Prod.fst = ws.map Prod.fst := by
  have hlen1 : is.length = wc.length := by have := congrArg List.length hC; simpa using this
  have hlen2 : w1.length = wc.length := by have := congrArg List.length hfst; simpa using this
  have hat : ∀ (j i : Nat), is[j]? = some i → ∃ q, wc[j]? = some q ∧ ws[i]? = some q := by
    intro j i hj
    have h1 : (is.map (fun i => ws[i]?))[j]? = some (ws[i]?) := by rw [List.getElem?_map, hj]; rfl
    rw [hC, List.getElem?_map] at h1
    cases hw : wc[j]? with
    | none => rw [hw] at h1; cases h1
    | some q => rw [hw] at h1; exact ⟨q, rfl, (Option.some.inj h1).symm⟩
  refine ⟨fun k q hq => ?_, patch_fst is w1 ws fun j i q h1 h2 => ?_⟩
  · rcases patch_at is w1 ws k q hnd (hlen1.trans hlen2.symm) hq with ⟨j, -, h2⟩ | ⟨h1, h2⟩
    · exact hP1 j q h2
    · refine (hP k q h2).kept (hk q.1 (hP k q h2).lt fun ⟨j, e, hj⟩ => ?_)
      have hjl : j < is.length := by rw [hlen1]; exact (List.getElem?_eq_some_iff.mp hj).1
      obtain ⟨q', h3, h4⟩ := hat j is[j] (List.getElem?_eq_getElem hjl)
      have h5 : q' = (q.1, e) := Option.some.inj (h3.symm.trans hj)
      subst h5
      have h6 := hD.1 k is[j] q (q.1, e) h2 h4 rfl
      exact h1 (h6 ▸ List.getElem_mem hjl)
  · obtain ⟨q', h3, h4⟩ := hat j i h1
    have h5 : (w1.map Prod.fst)[j]? = some q.1 := by rw [List.getElem?_map, h2]; rfl
    rw [hfst, List.getElem?_map, h3] at h5
    exact ⟨q', h4, Option.some.inj h5⟩
end C1
section C2
variable {α β : Type} {l : Launch} {E : Ev} {A : Nat → Prop} {own : String} {cc : ByteArray} {nL : Nat} {ret : Option FieldType} {d : Nat} {φ : α → Rs} {pc n : Nat} {L : List (Nat × Value)} {st rest As : List Value} {ws wc : va_W} {K : β → Option α} {F : Option β} {ψ : β → Rs}
variable {idx na d' nL' : Nat} {y : MethodName} {cc' : ByteArray} {ret' : Option FieldType} {host : String}
theorem pcd_of {p : Program} {s : State} {m : MethodId} {args : Array Value} {meth : Method} {c : Code} {H : Heap} {as : List Value} (C : Cx E own cc nL ret p s m args meth c) (hP : va_P E.1 vwCl wc H) (hD : va_D A wc) (U : State) (hU : U.heap = H) (hW : s.WarmedH U.vm) : Pcd E wc as as.toArray U :=
  ⟨rfl, by rw [hU]; exact hP, va_K.moved hW.alike C.2.2.2.2.2.1, C.2.2.2.2.2.2.1.warm hW, hD.weaken (fun _ _ _ _ => trivial)⟩
/-- a call of an instance's method, on a part wc of the cells, at the places 'is' -/
theorem b_callV (q0 : Nat) (is : List Nat) {a ci : Nat} {fs : List Value} (hlk : LkV own idx y cc' nL' ret' na) (hct : Ct l y cc' nL' ret' d' E wc (.ref a :: As) ψ F) (hd : d' + 1 ≤ d) (hC : is.map (fun i => ws[i]?) = wc.map some) (hnd : is.Nodup) (hfst : ∀ b, (ψ b).2.map Prod.fst = wc.map Prod.fst)
    (he : ws[q0]? = some (a, .inr (ci, fs))) (hci : (vwCl[ci]?).map (·.1) = some y.cls) (hna : As.length = na) (hst : As.reverse ++ .ref a :: rest = st) (hrest : (rest.map fun v => v.category).sum ≤ 8) (hdg : decode cc pc = .ok (.invokevirtual idx, 3)) (hn : pc + 3 = n)
    (kk : ∀ b, F = some b → Bd l E A own cc nL ret d φ n L ((ψ b).1.toList ++ rest) (patch ws is (ψ b).2) (K b)) : Bd l E A own cc nL ret d φ pc L st ws (F.bind K) := by
  intro hX p e s m args below meth c H locs ls C hP hD hS hl
  have hF : F.isSome = true := by cases F with | none => cases hX | some b => rfl
  obtain ⟨h1, h2, h3, h4, h5, h6, h7, h8⟩ := hlk
  have hwords : ∀ w ∈ wsV own idx y.cls y (Cond.code y cc' nL' ret' :: WS), w ∈ WS := by
    intro w hw
    unfold wsV at hw
    rcases List.mem_append.mp hw with h | h
    · simp only [List.mem_cons, List.not_mem_nil, or_false] at h
      rcases h with rfl | rfl | rfl | rfl
      · exact h1
      · exact h2
      · exact h3
      · exact h4
    · rcases List.mem_cons.mp h with rfl | h
      · exact h5
      · exact h
  have hPc : va_P E.1 vwCl wc H := hP.sub is (by rw [show is.filterMap (fun i => ws[i]?) = wc from by
    have h9 : (is.map (fun i => ws[i]?)).filterMap id = (wc.map some).filterMap id := by rw [hC]
    simpa [List.filterMap_map] using h9])
  have hat : ∀ (j : Nat) (q : Nat × va_E), wc[j]? = some q → ∃ i, is[j]? = some i ∧ ws[i]? = some q := by
    intro j q hj
    have g1 : (wc.map some)[j]? = some (some q) := by rw [List.getElem?_map, hj]; rfl
    rw [← hC, List.getElem?_map] at g1
    cases hi : is[j]? with
    | none => rw [hi] at g1; cases g1
    | some i => rw [hi] at g1; exact ⟨i, rfl, Option.some.inj g1⟩
  have hDc : va_D A wc := by
    refine ⟨fun i j p q hp hq hpq => ?_, fun k q hq => ?_⟩
    · obtain ⟨i1, a1, a2⟩ := hat i p hp
      obtain ⟨j1, b1, b2⟩ := hat j q hq
      have := hD.1 i1 j1 p q a2 b2 hpq
      subst this
      obtain ⟨x1, x2⟩ := List.getElem?_eq_some_iff.mp a1
      obtain ⟨y1, y2⟩ := List.getElem?_eq_some_iff.mp b1
      exact (List.getElem_inj hnd).mp (x2.trans y2.symm)
    · obtain ⟨i1, a1, a2⟩ := hat k q hq
      exact hD.2 i1 q a2
  have hA : ∀ q, Ad wc q → A q := fun q ⟨k, e, h⟩ => hDc.2 k _ h
  obtain ⟨q, hq1, hq2⟩ : ∃ q, vwCl[ci]? = some q ∧ q.1 = y.cls := by
    cases hq : vwCl[ci]? with
    | none => rw [hq] at hci; cases hci
    | some q => rw [hq] at hci; exact ⟨q, rfl, Option.some.inj hci⟩
  subst hst
  refine w_call (va_runV (C := y.cls) (As := As) (rest := rest) (n := na) (Ts := WS) ⟨C.1, C.2.1, C.2.2.1, C.2.2.2.1, C.2.2.2.2.1⟩ (hct hF) (cwV na C.2.2.2.2.1 (wsGood hwords rfl) rfl rfl rfl ⟨rfl, h6.1, h6.2, h7⟩ ⟨hd, by show 8 + (nL' + 11) + 40 * d' ≤ 40 * d; omega⟩) ⟨QQ.blind, by rw [← hq2]; exact va_recv C.2.2.2.2.2.1 hP hq1 he, fun U hU hW => pcd_of C hPc hDc U hU hW⟩ rfl hna hl.1 rfl (lv_room hrest) hdg ⟨Nat.zero_le _, Nat.zero_le _⟩) hS hA (fun b H1 locs1 hb hP1 hk hS1 => ?_)
  obtain ⟨g1, g2⟩ := va_P.patch hP hD hC hnd (hfst b) hP1 hk
  subst hb
  exact hn ▸ kk b rfl hX p e s m args below meth c H1 locs1 ls C g1 (hD.fst g2) hS1 hl
theorem b_callS (is : List Nat) (hlk : LkS own idx y cc' nL' ret' na) (hct : Ct l y cc' nL' ret' d' E wc As ψ F) (hd : d' + 1 ≤ d) (hC : is.map (fun i => ws[i]?) = wc.map some) (hnd : is.Nodup) (hfst : ∀ b, (ψ b).2.map Prod.fst = wc.map Prod.fst)
    (hna : As.length = na) (hst : As.reverse ++ rest = st) (hrest : (rest.map fun v => v.category).sum ≤ 8) (hdg : decode cc pc = .ok (.invokestatic idx, 3)) (hn : pc + 3 = n)
    (kk : ∀ b, F = some b → Bd l E A own cc nL ret d φ n L ((ψ b).1.toList ++ rest) (patch ws is (ψ b).2) (K b)) : Bd l E A own cc nL ret d φ pc L st ws (F.bind K) := by
  intro hX p e s m args below meth c H locs ls C hP hD hS hl
  have hF : F.isSome = true := by cases F with | none => cases hX | some b => rfl
  obtain ⟨h1, h2, h4, h5, h6, h7, h8⟩ := hlk
  have hPc : va_P E.1 vwCl wc H := hP.sub is (by rw [show is.filterMap (fun i => ws[i]?) = wc from by
    have h9 : (is.map (fun i => ws[i]?)).filterMap id = (wc.map some).filterMap id := by rw [hC]
    simpa [List.filterMap_map] using h9])
  have hat : ∀ (j : Nat) (q : Nat × va_E), wc[j]? = some q → ∃ i, is[j]? = some i ∧ ws[i]? = some q := by
    intro j q hj
    have g1 : (wc.map some)[j]? = some (some q) := by rw [List.getElem?_map, hj]; rfl
    rw [← hC, List.getElem?_map] at g1
    cases hi : is[j]? with
    | none => rw [hi] at g1; cases g1
    | some i => rw [hi] at g1; exact ⟨i, rfl, Option.some.inj g1⟩
  have hDc : va_D A wc := by
    refine ⟨fun i j p q hp hq hpq => ?_, fun k q hq => ?_⟩
    · obtain ⟨i1, a1, a2⟩ := hat i p hp
      obtain ⟨j1, b1, b2⟩ := hat j q hq
      have := hD.1 i1 j1 p q a2 b2 hpq
      subst this
      obtain ⟨x1, x2⟩ := List.getElem?_eq_some_iff.mp a1
      obtain ⟨y1, y2⟩ := List.getElem?_eq_some_iff.mp b1
      exact (List.getElem_inj hnd).mp (x2.trans y2.symm)
    · obtain ⟨i1, a1, a2⟩ := hat k q hq
      exact hD.2 i1 q a2
  have hA : ∀ q, Ad wc q → A q := fun q ⟨k, e, h⟩ => hDc.2 k _ h
  have hwords : ∀ w ∈ (Cond.code y cc' nL' ret' :: WS), w ∈ WS := by
    intro w hw
    rcases List.mem_cons.mp hw with rfl | h
    · exact h5
    · exact h
  subst hst
  refine w_call (va_runS (As := As) (rest := rest) (n := na) (Ts := WS) ⟨C.1, C.2.1, C.2.2.1, C.2.2.2.1, C.2.2.2.2.1⟩ (hct hF) ⟨callB_of na C.2.2.2.2.1 (wsGood hwords rfl) rfl rfl rfl (C.2.2.2.2.1 _ h4) (C.2.2.2.2.1 _ h1) ⟨h6.1, h6.2, h7⟩ ⟨hd, by show 8 + (nL' + 11) + 40 * d' ≤ 40 * d; omega⟩, C.2.2.2.2.1 _ h2⟩ ⟨QQ.blind, fun U hU hW => pcd_of C hPc hDc U hU hW⟩ rfl hna hl.1 rfl (lv_room hrest) hdg ⟨Nat.zero_le _, Nat.zero_le _⟩) hS hA (fun b H1 locs1 hb hP1 hk hS1 => ?_)
  obtain ⟨g1, g2⟩ := va_P.patch hP hD hC hnd (hfst b) hP1 hk
  subst hb
  exact hn ▸ kk b rfl hX p e s m args below meth c H1 locs1 ls C g1 (hD.fst g2) hS1 hl
theorem b_callN (is : List Nat) (hlk : LkN own idx y host cc' nL' ret' na) (hct : Ct l y cc' nL' ret' d' E wc As ψ F) (hd : d' + 1 ≤ d) (hC : is.map (fun i => ws[i]?) = wc.map some) (hnd : is.Nodup) (hfst : ∀ b, (ψ b).2.map Prod.fst = wc.map Prod.fst)
    (hna : As.length = na) (hst : As.reverse ++ rest = st) (hrest : (rest.map fun v => v.category).sum ≤ 8) (hdg : decode cc pc = .ok (.invokestatic idx, 3)) (hn : pc + 3 = n)
    (kk : ∀ b, F = some b → Bd l E A own cc nL ret d φ n L ((ψ b).1.toList ++ rest) (patch ws is (ψ b).2) (K b)) : Bd l E A own cc nL ret d φ pc L st ws (F.bind K) := by
  intro hX p e s m args below meth c H locs ls C hP hD hS hl
  have hF : F.isSome = true := by cases F with | none => cases hX | some b => rfl
  obtain ⟨h1, h2, h4, h5, h6, h7, h8⟩ := hlk
  have hPc : va_P E.1 vwCl wc H := hP.sub is (by rw [show is.filterMap (fun i => ws[i]?) = wc from by
    have h9 : (is.map (fun i => ws[i]?)).filterMap id = (wc.map some).filterMap id := by rw [hC]
    simpa [List.filterMap_map] using h9])
  have hat : ∀ (j : Nat) (q : Nat × va_E), wc[j]? = some q → ∃ i, is[j]? = some i ∧ ws[i]? = some q := by
    intro j q hj
    have g1 : (wc.map some)[j]? = some (some q) := by rw [List.getElem?_map, hj]; rfl
    rw [← hC, List.getElem?_map] at g1
    cases hi : is[j]? with
    | none => rw [hi] at g1; cases g1
    | some i => rw [hi] at g1; exact ⟨i, rfl, Option.some.inj g1⟩
  have hDc : va_D A wc := by
    refine ⟨fun i j p q hp hq hpq => ?_, fun k q hq => ?_⟩
    · obtain ⟨i1, a1, a2⟩ := hat i p hp
      obtain ⟨j1, b1, b2⟩ := hat j q hq
      have := hD.1 i1 j1 p q a2 b2 hpq
      subst this
      obtain ⟨x1, x2⟩ := List.getElem?_eq_some_iff.mp a1
      obtain ⟨y1, y2⟩ := List.getElem?_eq_some_iff.mp b1
      exact (List.getElem_inj hnd).mp (x2.trans y2.symm)
    · obtain ⟨i1, a1, a2⟩ := hat k q hq
      exact hD.2 i1 q a2
  have hA : ∀ q, Ad wc q → A q := fun q ⟨k, e, h⟩ => hDc.2 k _ h
  have hwords : ∀ w ∈ (Cond.code y cc' nL' ret' :: WS), w ∈ WS := by
    intro w hw
    rcases List.mem_cons.mp hw with rfl | h
    · exact h5
    · exact h
  subst hst
  refine w_call (va_runSN (host := host) (As := As) (rest := rest) (n := na) (Ts := WS) ⟨C.1, C.2.1, C.2.2.1, C.2.2.2.1, C.2.2.2.2.1⟩ (hct hF) ⟨va_cnB na C.2.2.2.2.1 (wsGood hwords rfl) rfl rfl rfl (C.2.2.2.2.2.2.1 _ h1) (C.2.2.2.2.1 _ h4) ⟨h6.1, h6.2, h7⟩ ⟨hd, by show 8 + (nL' + 11) + 40 * d' ≤ 40 * d; omega⟩, C.2.2.2.2.1 _ h2, trivial⟩ ⟨QQ.blind, fun U hU hW => pcd_of C hPc hDc U hU hW⟩ rfl hna hl.1 rfl (lv_room hrest) hdg ⟨Nat.zero_le _, Nat.zero_le _⟩) hS hA (fun b H1 locs1 hb hP1 hk hS1 => ?_)
  obtain ⟨g1, g2⟩ := va_P.patch hP hD hC hnd (hfst b) hP1 hk
  subst hb
  exact hn ▸ kk b rfl hX p e s m args below meth c H1 locs1 ls C g1 (hD.fst g2) hS1 hl
end C2
end
section
/-! calls by what they answer: i an int, b a truth value, v nothing; r they change no cell, w they do; 0 the whole list of cells, else a part of it -/
theorem patch_self : ∀ (is : List Nat) (w ws : va_W), is.map (fun i => ws[i]?) = w.map some → patch ws is w = ws
  | [], w, ws, _ => by simp [patch]
  | i :: is, [], ws, _ => by simp [patch]
  | i :: is, c :: w, ws, h => by
    simp only [List.map_cons, List.cons.injEq] at h
    have e : ws.set i c = ws := by
      apply List.ext_getElem?
      intro n
      by_cases hn : i = n
      · subst hn
        rw [List.getElem?_set_self', h.1]; rfl
      · rw [List.getElem?_set_ne hn]
    show patch (ws.set i c) is w = ws
    rw [e]
    exact patch_self is w ws h.2
theorem patch_all : ∀ (suf pre w : va_W), w.length = suf.length → patch (pre ++ suf) (List.range' pre.length suf.length) w = pre ++ w
  | [], pre, w, h => by
    cases w with
    | nil => rfl
    | cons => cases h
  | x :: suf, pre, [], h => by cases h
  | x :: suf, pre, c :: w, h => by
    show patch ((pre ++ x :: suf).set pre.length c) (List.range' (pre.length + 1) suf.length) w = _
    have e : (pre ++ x :: suf).set pre.length c = (pre ++ [c]) ++ suf := by simp
    have := patch_all suf (pre ++ [c]) w (by simpa using h)
    rw [e]
    simp only [List.length_append, List.length_singleton] at this
    rw [this]; simp
theorem range_at (ws : va_W) : (List.range ws.length).map (fun i => ws[i]?) = ws.map some := by
  apply List.ext_getElem?
  intro n
  by_cases hn : n < ws.length
  · rw [List.getElem?_map, List.getElem?_range hn, List.getElem?_map, List.getElem?_eq_getElem hn]; simp [hn]
  · rw [List.getElem?_eq_none (by simpa using hn), List.getElem?_eq_none (by simpa using hn)]
section C3
variable {α : Type} {l : Launch} {E : Ev} {A : Nat → Prop} {own : String} {cc : ByteArray} {nL : Nat} {ret : Option FieldType} {d : Nat} {φ : α → Rs} {pc n : Nat} {L : List (Nat × Value)} {st rest As : List Value} {ws wc : va_W}
variable {idx na d' nL' : Nat} {y : MethodName} {cc' : ByteArray} {ret' : Option FieldType} {host : String} {a ci : Nat} {fs : List Value} {S : Type} {hh : S → va_W}
theorem bVi {F : Option Int32} {K : Int32 → Option α} (q0 : Nat) (is : List Nat) (hlk : LkV own idx y cc' nL' ret' na) (hct : Ct l y cc' nL' ret' d' E wc (.ref a :: As) (fun v : Int32 => (some (.int v), wc)) F) (hd : d' + 1 ≤ d) (hC : is.map (fun i => ws[i]?) = wc.map some) (hnd : is.Nodup)
    (he : ws[q0]? = some (a, .inr (ci, fs))) (hci : (vwCl[ci]?).map (·.1) = some y.cls) (hna : As.length = na) (hst : As.reverse ++ .ref a :: rest = st) (hrest : (rest.map fun v => v.category).sum ≤ 8) (hdg : decode cc pc = .ok (.invokevirtual idx, 3)) (hn : pc + 3 = n)
    (kk : ∀ v, Bd l E A own cc nL ret d φ n L (.int v :: rest) ws (K v)) : Bd l E A own cc nL ret d φ pc L st ws (F.bind K) :=
  b_callV q0 is hlk hct hd hC hnd (fun _ => rfl) he hci hna hst hrest hdg hn (fun b _ => by
    show Bd l E A own cc nL ret d φ n L (.int b :: rest) (patch ws is wc) (K b)
    rw [patch_self is wc ws hC]; exact kk b)
theorem bVb {F : Option Bool} {K : Bool → Option α} (q0 : Nat) (is : List Nat) (hlk : LkV own idx y cc' nL' ret' na) (hct : Ct l y cc' nL' ret' d' E wc (.ref a :: As) (fun v : Bool => (some (.int (b2i v)), wc)) F) (hd : d' + 1 ≤ d) (hC : is.map (fun i => ws[i]?) = wc.map some) (hnd : is.Nodup)
    (he : ws[q0]? = some (a, .inr (ci, fs))) (hci : (vwCl[ci]?).map (·.1) = some y.cls) (hna : As.length = na) (hst : As.reverse ++ .ref a :: rest = st) (hrest : (rest.map fun v => v.category).sum ≤ 8) (hdg : decode cc pc = .ok (.invokevirtual idx, 3)) (hn : pc + 3 = n)
    (kk : ∀ v, Bd l E A own cc nL ret d φ n L (.int (b2i v) :: rest) ws (K v)) : Bd l E A own cc nL ret d φ pc L st ws (F.bind K) :=
  b_callV q0 is hlk hct hd hC hnd (fun _ => rfl) he hci hna hst hrest hdg hn (fun b _ => by
    show Bd l E A own cc nL ret d φ n L (.int (b2i b) :: rest) (patch ws is wc) (K b)
    rw [patch_self is wc ws hC]; exact kk b)
theorem bV0i {F : Option Int32} {K : Int32 → Option α} (q0 : Nat) (hlk : LkV own idx y cc' nL' ret' na) (hct : Ct l y cc' nL' ret' d' E ws (.ref a :: As) (fun v : Int32 => (some (.int v), ws)) F) (hd : d' + 1 ≤ d)
    (he : ws[q0]? = some (a, .inr (ci, fs))) (hci : (vwCl[ci]?).map (·.1) = some y.cls) (hna : As.length = na) (hst : As.reverse ++ .ref a :: rest = st) (hrest : (rest.map fun v => v.category).sum ≤ 8) (hdg : decode cc pc = .ok (.invokevirtual idx, 3)) (hn : pc + 3 = n)
    (kk : ∀ v, Bd l E A own cc nL ret d φ n L (.int v :: rest) ws (K v)) : Bd l E A own cc nL ret d φ pc L st ws (F.bind K) :=
  bVi q0 (List.range ws.length) hlk hct hd (range_at ws) List.nodup_range he hci hna hst hrest hdg hn kk
theorem bV0b {F : Option Bool} {K : Bool → Option α} (q0 : Nat) (hlk : LkV own idx y cc' nL' ret' na) (hct : Ct l y cc' nL' ret' d' E ws (.ref a :: As) (fun v : Bool => (some (.int (b2i v)), ws)) F) (hd : d' + 1 ≤ d)
    (he : ws[q0]? = some (a, .inr (ci, fs))) (hci : (vwCl[ci]?).map (·.1) = some y.cls) (hna : As.length = na) (hst : As.reverse ++ .ref a :: rest = st) (hrest : (rest.map fun v => v.category).sum ≤ 8) (hdg : decode cc pc = .ok (.invokevirtual idx, 3)) (hn : pc + 3 = n)
    (kk : ∀ v, Bd l E A own cc nL ret d φ n L (.int (b2i v) :: rest) ws (K v)) : Bd l E A own cc nL ret d φ pc L st ws (F.bind K) :=
  bVb q0 (List.range ws.length) hlk hct hd (range_at ws) List.nodup_range he hci hna hst hrest hdg hn kk
theorem patch_range {w ws : va_W} (h : w.map Prod.fst = ws.map Prod.fst) : patch ws (List.range ws.length) w = w := by
  have := patch_all ws [] w (by have := congrArg List.length h; simpa using this)
  simpa [List.range_eq_range'] using this
theorem bV0wv {F : Option S} {K : S → Option α} (q0 : Nat) (hlk : LkV own idx y cc' nL' ret' na) (hct : Ct l y cc' nL' ret' d' E ws (.ref a :: As) (fun q : S => (none, hh q)) F) (hd : d' + 1 ≤ d) (hfst : ∀ q, (hh q).map Prod.fst = ws.map Prod.fst)
    (he : ws[q0]? = some (a, .inr (ci, fs))) (hci : (vwCl[ci]?).map (·.1) = some y.cls) (hna : As.length = na) (hst : As.reverse ++ .ref a :: rest = st) (hrest : (rest.map fun v => v.category).sum ≤ 8) (hdg : decode cc pc = .ok (.invokevirtual idx, 3)) (hn : pc + 3 = n)
    (kk : ∀ q, Bd l E A own cc nL ret d φ n L rest (hh q) (K q)) : Bd l E A own cc nL ret d φ pc L st ws (F.bind K) :=
  b_callV q0 (List.range ws.length) hlk hct hd (range_at ws) List.nodup_range hfst he hci hna hst hrest hdg hn (fun b _ => by
    show Bd l E A own cc nL ret d φ n L rest (patch ws (List.range ws.length) (hh b)) (K b)
    rw [patch_range (hfst b)]; exact kk b)
theorem bV0wi {F : Option (Int32 × S)} {K : Int32 × S → Option α} (q0 : Nat) (hlk : LkV own idx y cc' nL' ret' na) (hct : Ct l y cc' nL' ret' d' E ws (.ref a :: As) (fun q : Int32 × S => (some (.int q.1), hh q.2)) F) (hd : d' + 1 ≤ d) (hfst : ∀ q, (hh q).map Prod.fst = ws.map Prod.fst)
    (he : ws[q0]? = some (a, .inr (ci, fs))) (hci : (vwCl[ci]?).map (·.1) = some y.cls) (hna : As.length = na) (hst : As.reverse ++ .ref a :: rest = st) (hrest : (rest.map fun v => v.category).sum ≤ 8) (hdg : decode cc pc = .ok (.invokevirtual idx, 3)) (hn : pc + 3 = n)
    (kk : ∀ v q, Bd l E A own cc nL ret d φ n L (.int v :: rest) (hh q) (K (v, q))) : Bd l E A own cc nL ret d φ pc L st ws (F.bind K) :=
  b_callV q0 (List.range ws.length) hlk hct hd (range_at ws) List.nodup_range (fun b => hfst b.2) he hci hna hst hrest hdg hn (fun b _ => by
    show Bd l E A own cc nL ret d φ n L (.int b.1 :: rest) (patch ws (List.range ws.length) (hh b.2)) (K (b.1, b.2))
    rw [patch_range (hfst b.2)]; exact kk b.1 b.2)
theorem bV0wb {F : Option (Bool × S)} {K : Bool × S → Option α} (q0 : Nat) (hlk : LkV own idx y cc' nL' ret' na) (hct : Ct l y cc' nL' ret' d' E ws (.ref a :: As) (fun q : Bool × S => (some (.int (b2i q.1)), hh q.2)) F) (hd : d' + 1 ≤ d) (hfst : ∀ q, (hh q).map Prod.fst = ws.map Prod.fst)
    (he : ws[q0]? = some (a, .inr (ci, fs))) (hci : (vwCl[ci]?).map (·.1) = some y.cls) (hna : As.length = na) (hst : As.reverse ++ .ref a :: rest = st) (hrest : (rest.map fun v => v.category).sum ≤ 8) (hdg : decode cc pc = .ok (.invokevirtual idx, 3)) (hn : pc + 3 = n)
    (kk : ∀ v q, Bd l E A own cc nL ret d φ n L (.int (b2i v) :: rest) (hh q) (K (v, q))) : Bd l E A own cc nL ret d φ pc L st ws (F.bind K) :=
  b_callV q0 (List.range ws.length) hlk hct hd (range_at ws) List.nodup_range (fun b => hfst b.2) he hci hna hst hrest hdg hn (fun b _ => by
    show Bd l E A own cc nL ret d φ n L (.int (b2i b.1) :: rest) (patch ws (List.range ws.length) (hh b.2)) (K (b.1, b.2))
    rw [patch_range (hfst b.2)]; exact kk b.1 b.2)
/-- a part of the cells is changed: h2 says what the whole list is then -/
theorem bVwv {F : Option S} {K : S → Option α} (h2 : S → va_W) (q0 : Nat) (is : List Nat) (hlk : LkV own idx y cc' nL' ret' na) (hct : Ct l y cc' nL' ret' d' E wc (.ref a :: As) (fun q : S => (none, hh q)) F) (hd : d' + 1 ≤ d) (hC : is.map (fun i => ws[i]?) = wc.map some) (hnd : is.Nodup) (hfst : ∀ q, (hh q).map Prod.fst = wc.map Prod.fst) (hp : ∀ q, patch ws is (hh q) = h2 q)
    (he : ws[q0]? = some (a, .inr (ci, fs))) (hci : (vwCl[ci]?).map (·.1) = some y.cls) (hna : As.length = na) (hst : As.reverse ++ .ref a :: rest = st) (hrest : (rest.map fun v => v.category).sum ≤ 8) (hdg : decode cc pc = .ok (.invokevirtual idx, 3)) (hn : pc + 3 = n)
    (kk : ∀ q, Bd l E A own cc nL ret d φ n L rest (h2 q) (K q)) : Bd l E A own cc nL ret d φ pc L st ws (F.bind K) :=
  b_callV q0 is hlk hct hd hC hnd hfst he hci hna hst hrest hdg hn (fun b _ => by
    show Bd l E A own cc nL ret d φ n L rest (patch ws is (hh b)) (K b)
    rw [hp]; exact kk b)
theorem bVwi {F : Option (Int32 × S)} {K : Int32 × S → Option α} (h2 : S → va_W) (q0 : Nat) (is : List Nat) (hlk : LkV own idx y cc' nL' ret' na) (hct : Ct l y cc' nL' ret' d' E wc (.ref a :: As) (fun q : Int32 × S => (some (.int q.1), hh q.2)) F) (hd : d' + 1 ≤ d) (hC : is.map (fun i => ws[i]?) = wc.map some) (hnd : is.Nodup) (hfst : ∀ q, (hh q).map Prod.fst = wc.map Prod.fst) (hp : ∀ q, patch ws is (hh q) = h2 q)
    (he : ws[q0]? = some (a, .inr (ci, fs))) (hci : (vwCl[ci]?).map (·.1) = some y.cls) (hna : As.length = na) (hst : As.reverse ++ .ref a :: rest = st) (hrest : (rest.map fun v => v.category).sum ≤ 8) (hdg : decode cc pc = .ok (.invokevirtual idx, 3)) (hn : pc + 3 = n)
    (kk : ∀ v q, Bd l E A own cc nL ret d φ n L (.int v :: rest) (h2 q) (K (v, q))) : Bd l E A own cc nL ret d φ pc L st ws (F.bind K) :=
  b_callV q0 is hlk hct hd hC hnd (fun b => hfst b.2) he hci hna hst hrest hdg hn (fun b _ => by
    show Bd l E A own cc nL ret d φ n L (.int b.1 :: rest) (patch ws is (hh b.2)) (K (b.1, b.2))
    rw [hp]; exact kk b.1 b.2)
theorem bVwb {F : Option (Bool × S)} {K : Bool × S → Option α} (h2 : S → va_W) (q0 : Nat) (is : List Nat) (hlk : LkV own idx y cc' nL' ret' na) (hct : Ct l y cc' nL' ret' d' E wc (.ref a :: As) (fun q : Bool × S => (some (.int (b2i q.1)), hh q.2)) F) (hd : d' + 1 ≤ d) (hC : is.map (fun i => ws[i]?) = wc.map some) (hnd : is.Nodup) (hfst : ∀ q, (hh q).map Prod.fst = wc.map Prod.fst) (hp : ∀ q, patch ws is (hh q) = h2 q)
    (he : ws[q0]? = some (a, .inr (ci, fs))) (hci : (vwCl[ci]?).map (·.1) = some y.cls) (hna : As.length = na) (hst : As.reverse ++ .ref a :: rest = st) (hrest : (rest.map fun v => v.category).sum ≤ 8) (hdg : decode cc pc = .ok (.invokevirtual idx, 3)) (hn : pc + 3 = n)
    (kk : ∀ v q, Bd l E A own cc nL ret d φ n L (.int (b2i v) :: rest) (h2 q) (K (v, q))) : Bd l E A own cc nL ret d φ pc L st ws (F.bind K) :=
  b_callV q0 is hlk hct hd hC hnd (fun b => hfst b.2) he hci hna hst hrest hdg hn (fun b _ => by
    show Bd l E A own cc nL ret d φ n L (.int (b2i b.1) :: rest) (patch ws is (hh b.2)) (K (b.1, b.2))
    rw [hp]; exact kk b.1 b.2)
theorem bSi {F : Option Int32} {K : Int32 → Option α} (hlk : LkS own idx y cc' nL' ret' na) (hct : Ct l y cc' nL' ret' d' E [] As (fun v : Int32 => (some (.int v), [])) F) (hd : d' + 1 ≤ d)
    (hna : As.length = na) (hst : As.reverse ++ rest = st) (hrest : (rest.map fun v => v.category).sum ≤ 8) (hdg : decode cc pc = .ok (.invokestatic idx, 3)) (hn : pc + 3 = n)
    (kk : ∀ v, Bd l E A own cc nL ret d φ n L (.int v :: rest) ws (K v)) : Bd l E A own cc nL ret d φ pc L st ws (F.bind K) :=
  b_callS [] hlk hct hd rfl List.nodup_nil (fun _ => rfl) hna hst hrest hdg hn (fun b _ => kk b)
theorem bSb {F : Option Bool} {K : Bool → Option α} (hlk : LkS own idx y cc' nL' ret' na) (hct : Ct l y cc' nL' ret' d' E [] As (fun v : Bool => (some (.int (b2i v)), [])) F) (hd : d' + 1 ≤ d)
    (hna : As.length = na) (hst : As.reverse ++ rest = st) (hrest : (rest.map fun v => v.category).sum ≤ 8) (hdg : decode cc pc = .ok (.invokestatic idx, 3)) (hn : pc + 3 = n)
    (kk : ∀ v, Bd l E A own cc nL ret d φ n L (.int (b2i v) :: rest) ws (K v)) : Bd l E A own cc nL ret d φ pc L st ws (F.bind K) :=
  b_callS [] hlk hct hd rfl List.nodup_nil (fun _ => rfl) hna hst hrest hdg hn (fun b _ => kk b)
theorem bNb {F : Option Bool} {K : Bool → Option α} (hlk : LkN own idx y host cc' nL' ret' na) (hct : Ct l y cc' nL' ret' d' E [] As (fun v : Bool => (some (.int (b2i v)), [])) F) (hd : d' + 1 ≤ d)
    (hna : As.length = na) (hst : As.reverse ++ rest = st) (hrest : (rest.map fun v => v.category).sum ≤ 8) (hdg : decode cc pc = .ok (.invokestatic idx, 3)) (hn : pc + 3 = n)
    (kk : ∀ v, Bd l E A own cc nL ret d φ n L (.int (b2i v) :: rest) ws (K v)) : Bd l E A own cc nL ret d φ pc L st ws (F.bind K) :=
  b_callN [] hlk hct hd rfl List.nodup_nil (fun _ => rfl) hna hst hrest hdg hn (fun b _ => kk b)
theorem b_mmax {x y0 : Int32} {X : Option α} (hw : Cond.methodLink own idx Lib.Math.max.name ∈ WS ∧ Cond.static Lib.Math.max.name ∈ WS ∧ Cond.initialized "java/lang/Math" ∈ WS ∧ Cond.code Lib.Math.max.name Lib.Math.max.code 2 (some .int) ∈ WS) (hd : 1 ≤ d) (hrest : (rest.map fun v => v.category).sum ≤ 8) (hdg : decode cc pc = .ok (.invokestatic idx, 3)) (hn : pc + 3 = n)
    (kk : Bd l E A own cc nL ret d φ n L (.int (if x < y0 then y0 else x) :: rest) ws X) : Bd l E A own cc nL ret d φ pc L (.int y0 :: .int x :: rest) ws X :=
  fun hX p e s m args below meth c H locs ls C hP hD hS hl => va_mmax C.1 C.2.1 (C.2.2.1.trans hl.1.symm) C.2.2.2.1 (C.2.2.2.2.1 _ hw.1) (C.2.2.2.2.1 _ hw.2.1) (C.2.2.2.2.1 _ hw.2.2.1) (C.2.2.2.2.1 _ hw.2.2.2) hd (by show _ + 13 ≤ 40 * d; omega) (Nat.zero_le _) (Nat.zero_le _) hdg (hn ▸ kk hX p e s m args below meth c H locs ls C hP hD hS hl)
theorem b_mmin {x y0 : Int32} {X : Option α} (hw : Cond.methodLink own idx Lib.Math.min.name ∈ WS ∧ Cond.static Lib.Math.min.name ∈ WS ∧ Cond.initialized "java/lang/Math" ∈ WS ∧ Cond.code Lib.Math.min.name Lib.Math.min.code 2 (some .int) ∈ WS) (hd : 1 ≤ d) (hrest : (rest.map fun v => v.category).sum ≤ 8) (hdg : decode cc pc = .ok (.invokestatic idx, 3)) (hn : pc + 3 = n)
    (kk : Bd l E A own cc nL ret d φ n L (.int (if y0 < x then y0 else x) :: rest) ws X) : Bd l E A own cc nL ret d φ pc L (.int y0 :: .int x :: rest) ws X :=
  fun hX p e s m args below meth c H locs ls C hP hD hS hl => va_mmin C.1 C.2.1 (C.2.2.1.trans hl.1.symm) C.2.2.2.1 (C.2.2.2.2.1 _ hw.1) (C.2.2.2.2.1 _ hw.2.1) (C.2.2.2.2.1 _ hw.2.2.1) (C.2.2.2.2.1 _ hw.2.2.2) hd (by show _ + 13 ≤ 40 * d; omega) (Nat.zero_le _) (Nat.zero_le _) hdg (hn ▸ kk hX p e s m args below meth c H locs ls C hP hD hS hl)
end C3
section B4
variable {α : Type} {l : Launch} {E : Ev} {A : Nat → Prop} {own : String} {cc : ByteArray} {nL : Nat} {ret : Option FieldType} {d : Nat} {φ : α → Rs} {pc n : Nat} {L : List (Nat × Value)} {st : List Value} {ws : va_W} {X : Option α}
/-- a test whose operand is written there -/
theorem b_eqT {x : Int32} {off : Int} (h : x = 0) (hdg : decode cc pc = .ok (.ifCond .eq off, 3)) (ht : (pc : Int) + off = (n : Int)) (k : Bd l E A own cc nL ret d φ n L st ws X) : Bd l E A own cc nL ret d φ pc L (.int x :: st) ws X :=
  fun hX p e s m args below meth c H locs ls C hP hD hS hl => lv_if_eq C.1 C.2.1 hdg ht (fun _ => k hX p e s m args below meth c H locs ls C hP hD hS hl) (fun h' => absurd h h')
theorem b_eqF {x : Int32} {off : Int} {tgt : Nat} (h : ¬ x = 0) (hdg : decode cc pc = .ok (.ifCond .eq off, 3)) (ht : (pc : Int) + off = (tgt : Int)) (hn : pc + 3 = n) (k : Bd l E A own cc nL ret d φ n L st ws X) : Bd l E A own cc nL ret d φ pc L (.int x :: st) ws X :=
  fun hX p e s m args below meth c H locs ls C hP hD hS hl => lv_if_eq C.1 C.2.1 hdg ht (fun h' => absurd h' h) (fun _ => hn ▸ k hX p e s m args below meth c H locs ls C hP hD hS hl)
theorem b_neT {x : Int32} {off : Int} (h : ¬ x = 0) (hdg : decode cc pc = .ok (.ifCond .ne off, 3)) (ht : (pc : Int) + off = (n : Int)) (k : Bd l E A own cc nL ret d φ n L st ws X) : Bd l E A own cc nL ret d φ pc L (.int x :: st) ws X :=
  fun hX p e s m args below meth c H locs ls C hP hD hS hl => lv_if_ne C.1 C.2.1 hdg ht (fun _ => k hX p e s m args below meth c H locs ls C hP hD hS hl) (fun h' => absurd h' h)
theorem b_neF {x : Int32} {off : Int} {tgt : Nat} (h : x = 0) (hdg : decode cc pc = .ok (.ifCond .ne off, 3)) (ht : (pc : Int) + off = (tgt : Int)) (hn : pc + 3 = n) (k : Bd l E A own cc nL ret d φ n L st ws X) : Bd l E A own cc nL ret d φ pc L (.int x :: st) ws X :=
  fun hX p e s m args below meth c H locs ls C hP hD hS hl => lv_if_ne C.1 C.2.1 hdg ht (fun h' => absurd h h') (fun _ => hn ▸ k hX p e s m args below meth c H locs ls C hP hD hS hl)
/-- a switch, where the number is known -/
theorem b_tsIn {dflt lo hi off : Int} {offs : Array Int} {len : Nat} {x w : Int32} (hx : x = w) (hdg : decode cc pc = .ok (.tableswitch dflt lo hi offs, len)) (h1 : ¬ w.toInt < lo) (h2 : ¬ hi < w.toInt) (ho : offs[(w.toInt - lo).toNat]? = some off) (ht : (pc : Int) + off = (n : Int)) (k : Bd l E A own cc nL ret d φ n L st ws X) : Bd l E A own cc nL ret d φ pc L (.int x :: st) ws X :=
  fun hX p e s m args below meth c H locs ls C hP hD hS hl => by subst hx; exact lv_tableIn C.1 C.2.1 hdg h1 h2 ho ht (k hX p e s m args below meth c H locs ls C hP hD hS hl)
theorem b_tsOut {dflt lo hi : Int} {offs : Array Int} {len : Nat} {x : Int32} (hdg : decode cc pc = .ok (.tableswitch dflt lo hi offs, len)) (h : x.toInt < lo ∨ hi < x.toInt) (ht : (pc : Int) + dflt = (n : Int)) (k : Bd l E A own cc nL ret d φ n L st ws X) : Bd l E A own cc nL ret d φ pc L (.int x :: st) ws X :=
  fun hX p e s m args below meth c H locs ls C hP hD hS hl => lv_tableOut C.1 C.2.1 hdg h ht (k hX p e s m args below meth c H locs ls C hP hD hS hl)
theorem b_lsw {dflt off : Int} {ps : Array (Int × Int)} {len : Nat} {x : Int32} (hdg : decode cc pc = .ok (.lookupswitch dflt ps, len)) (hp : (ps.toList.zip (ps.toList.drop 1)).all (fun (a, next) => a.1 < next.1) = true) (ho : Op.lookupswitch.offset ps.toList dflt x.toInt = off) (ht : (pc : Int) + off = (n : Int)) (k : Bd l E A own cc nL ret d φ n L st ws X) : Bd l E A own cc nL ret d φ pc L (.int x :: st) ws X :=
  fun hX p e s m args below meth c H locs ls C hP hD hS hl => lv_lookup C.1 C.2.1 hdg hp ho ht (k hX p e s m args below meth c H locs ls C hP hD hS hl)
theorem i32_ne {x w : Int32} {k : Int} (h : ¬ x = w) (hk : w.toInt = k) : x.toInt ≠ k := fun e => h (Int32.toInt_inj.mp (e.trans hk.symm))
theorem b_none : Bd l E A own cc nL ret d φ pc L st ws (none : Option α) := fun h => by cases h
end B4
/-! memories: cells of ints by number and place -/
abbrev Mem : Type := Nat → Nat → Int32
def up (m : Mem) (c i : Nat) (v : Int32) : Mem := fun c' => cond (Nat.beq c' c) (upd (m c) i v) (m c')
/-- a whole array put in place of another -/
def upA (m : Mem) (c : Nat) (f : Nat → Int32) : Mem := fun c' => cond (Nat.beq c' c) f (m c')
end
section
/-! decode rows of the reference, as the program printed them -/
theorem dX7_init_0 : decode cX7_init 0 = .ok (.aload_n 0, 1) := by decide +kernel
theorem dX7_init_1 : decode cX7_init 1 = .ok (.invokespecial 3, 3) := by decide +kernel
theorem dX7_init_4 : decode cX7_init 4 = .ok (.aload_n 0, 1) := by decide +kernel
theorem dX7_init_5 : decode cX7_init 5 = .ok (.sipush 9792, 3) := by decide +kernel
theorem dX7_init_8 : decode cX7_init 8 = .ok (.newarray .int, 2) := by decide +kernel
theorem dX7_init_10 : decode cX7_init 10 = .ok (.putfield 9, 3) := by decide +kernel
theorem dX7_init_13 : decode cX7_init 13 = .ok (.aload_n 0, 1) := by decide +kernel
theorem dX7_init_14 : decode cX7_init 14 = .ok (.sipush 9792, 3) := by decide +kernel
theorem dX7_init_17 : decode cX7_init 17 = .ok (.newarray .int, 2) := by decide +kernel
theorem dX7_init_19 : decode cX7_init 19 = .ok (.putfield 13, 3) := by decide +kernel
theorem dX7_init_22 : decode cX7_init 22 = .ok (.aload_n 0, 1) := by decide +kernel
theorem dX7_init_23 : decode cX7_init 23 = .ok (.bipush 68, 2) := by decide +kernel
theorem dX7_init_25 : decode cX7_init 25 = .ok (.newarray .int, 2) := by decide +kernel
theorem dX7_init_27 : decode cX7_init 27 = .ok (.putfield 16, 3) := by decide +kernel
theorem dX7_init_30 : decode cX7_init 30 = .ok (.aload_n 0, 1) := by decide +kernel
theorem dX7_init_31 : decode cX7_init 31 = .ok (.bipush 68, 2) := by decide +kernel
theorem dX7_init_33 : decode cX7_init 33 = .ok (.newarray .int, 2) := by decide +kernel
theorem dX7_init_35 : decode cX7_init 35 = .ok (.putfield 19, 3) := by decide +kernel
theorem dX7_init_38 : decode cX7_init 38 = .ok (.aload_n 0, 1) := by decide +kernel
theorem dX7_init_39 : decode cX7_init 39 = .ok (.sipush 7593, 3) := by decide +kernel
theorem dX7_init_42 : decode cX7_init 42 = .ok (.newarray .int, 2) := by decide +kernel
theorem dX7_init_44 : decode cX7_init 44 = .ok (.putfield 22, 3) := by decide +kernel
theorem dX7_init_47 : decode cX7_init 47 = .ok (.aload_n 0, 1) := by decide +kernel
theorem dX7_init_48 : decode cX7_init 48 = .ok (.sipush 7593, 3) := by decide +kernel
theorem dX7_init_51 : decode cX7_init 51 = .ok (.newarray .int, 2) := by decide +kernel
theorem dX7_init_53 : decode cX7_init 53 = .ok (.putfield 25, 3) := by decide +kernel
theorem dX7_init_56 : decode cX7_init 56 = .ok (.aload_n 0, 1) := by decide +kernel
theorem dX7_init_57 : decode cX7_init 57 = .ok (.sipush 7593, 3) := by decide +kernel
theorem dX7_init_60 : decode cX7_init 60 = .ok (.newarray .int, 2) := by decide +kernel
theorem dX7_init_62 : decode cX7_init 62 = .ok (.putfield 28, 3) := by decide +kernel
theorem dX7_init_65 : decode cX7_init 65 = .ok (.aload_n 0, 1) := by decide +kernel
theorem dX7_init_66 : decode cX7_init 66 = .ok (.bipush 80, 2) := by decide +kernel
theorem dX7_init_68 : decode cX7_init 68 = .ok (.newarray .int, 2) := by decide +kernel
theorem dX7_init_70 : decode cX7_init 70 = .ok (.putfield 31, 3) := by decide +kernel
theorem dX7_init_73 : decode cX7_init 73 = .ok (.aload_n 0, 1) := by decide +kernel
theorem dX7_init_74 : decode cX7_init 74 = .ok (.iconst (-1), 1) := by decide +kernel
theorem dX7_init_75 : decode cX7_init 75 = .ok (.putfield 34, 3) := by decide +kernel
theorem dX7_init_78 : decode cX7_init 78 = .ok (.iconst 0, 1) := by decide +kernel
theorem dX7_init_79 : decode cX7_init 79 = .ok (.istore_n 1, 1) := by decide +kernel
theorem dX7_init_80 : decode cX7_init 80 = .ok (.iload_n 1, 1) := by decide +kernel
theorem dX7_init_81 : decode cX7_init 81 = .ok (.bipush 8, 2) := by decide +kernel
theorem dX7_init_83 : decode cX7_init 83 = .ok (.if_icmp .ge 18, 3) := by decide +kernel
theorem dX7_init_86 : decode cX7_init 86 = .ok (.aload_n 0, 1) := by decide +kernel
theorem dX7_init_87 : decode cX7_init 87 = .ok (.getfield 22, 3) := by decide +kernel
theorem dX7_init_90 : decode cX7_init 90 = .ok (.iconst 1, 1) := by decide +kernel
theorem dX7_init_91 : decode cX7_init 91 = .ok (.iload_n 1, 1) := by decide +kernel
theorem dX7_init_92 : decode cX7_init 92 = .ok (.iadd, 1) := by decide +kernel
theorem dX7_init_93 : decode cX7_init 93 = .ok (.iconst 1, 1) := by decide +kernel
theorem dX7_init_94 : decode cX7_init 94 = .ok (.iastore, 1) := by decide +kernel
theorem dX7_init_95 : decode cX7_init 95 = .ok (.iinc 1 1, 3) := by decide +kernel
theorem dX7_init_98 : decode cX7_init 98 = .ok (.goto (-18), 3) := by decide +kernel
theorem dX7_init_101 : decode cX7_init 101 = .ok (.return_, 1) := by decide +kernel
theorem dX7_isIn_0 : decode cX7_isIn 0 = .ok (.iload_n 0, 1) := by decide +kernel
theorem dX7_isIn_1 : decode cX7_isIn 1 = .ok (.iload_n 1, 1) := by decide +kernel
theorem dX7_isIn_2 : decode cX7_isIn 2 = .ok (.if_icmp .lt 12, 3) := by decide +kernel
theorem dX7_isIn_5 : decode cX7_isIn 5 = .ok (.iload_n 0, 1) := by decide +kernel
theorem dX7_isIn_6 : decode cX7_isIn 6 = .ok (.iload_n 2, 1) := by decide +kernel
theorem dX7_isIn_7 : decode cX7_isIn 7 = .ok (.if_icmp .gt 7, 3) := by decide +kernel
theorem dX7_isIn_10 : decode cX7_isIn 10 = .ok (.iconst 1, 1) := by decide +kernel
theorem dX7_isIn_11 : decode cX7_isIn 11 = .ok (.goto 4, 3) := by decide +kernel
theorem dX7_isIn_14 : decode cX7_isIn 14 = .ok (.iconst 0, 1) := by decide +kernel
theorem dX7_isIn_15 : decode cX7_isIn 15 = .ok (.ireturn, 1) := by decide +kernel
theorem dX7_isCode_0 : decode cX7_isCode 0 = .ok (.iload_n 0, 1) := by decide +kernel
theorem dX7_isCode_1 : decode cX7_isCode 1 = .ok (.iconst 0, 1) := by decide +kernel
theorem dX7_isCode_2 : decode cX7_isCode 2 = .ok (.bipush 7, 2) := by decide +kernel
theorem dX7_isCode_4 : decode cX7_isCode 4 = .ok (.invokestatic 38, 3) := by decide +kernel
theorem dX7_isCode_7 : decode cX7_isCode 7 = .ok (.ireturn, 1) := by decide +kernel
theorem dX7_isWorkflow_0 : decode cX7_isWorkflow 0 = .ok (.iload_n 0, 1) := by decide +kernel
theorem dX7_isWorkflow_1 : decode cX7_isWorkflow 1 = .ok (.iconst 0, 1) := by decide +kernel
theorem dX7_isWorkflow_2 : decode cX7_isWorkflow 2 = .ok (.iconst 3, 1) := by decide +kernel
theorem dX7_isWorkflow_3 : decode cX7_isWorkflow 3 = .ok (.invokestatic 38, 3) := by decide +kernel
theorem dX7_isWorkflow_6 : decode cX7_isWorkflow 6 = .ok (.ireturn, 1) := by decide +kernel
theorem dX7_feed_0 : decode cX7_feed 0 = .ok (.iload_n 1, 1) := by decide +kernel
theorem dX7_feed_1 : decode cX7_feed 1 = .ok (.iconst 0, 1) := by decide +kernel
theorem dX7_feed_2 : decode cX7_feed 2 = .ok (.bipush 127, 2) := by decide +kernel
theorem dX7_feed_4 : decode cX7_feed 4 = .ok (.invokestatic 38, 3) := by decide +kernel
theorem dX7_feed_7 : decode cX7_feed 7 = .ok (.ifCond .ne 6, 3) := by decide +kernel
theorem dX7_feed_10 : decode cX7_feed 10 = .ok (.bipush (-2), 2) := by decide +kernel
theorem dX7_feed_12 : decode cX7_feed 12 = .ok (.ireturn, 1) := by decide +kernel
theorem dX7_feed_13 : decode cX7_feed 13 = .ok (.aload_n 0, 1) := by decide +kernel
theorem dX7_feed_14 : decode cX7_feed 14 = .ok (.getfield 42, 3) := by decide +kernel
theorem dX7_feed_17 : decode cX7_feed 17 = .ok (.bipush 80, 2) := by decide +kernel
theorem dX7_feed_19 : decode cX7_feed 19 = .ok (.if_icmp .ne 6, 3) := by decide +kernel
theorem dX7_feed_22 : decode cX7_feed 22 = .ok (.bipush (-4), 2) := by decide +kernel
theorem dX7_feed_24 : decode cX7_feed 24 = .ok (.ireturn, 1) := by decide +kernel
theorem dX7_feed_25 : decode cX7_feed 25 = .ok (.aload_n 0, 1) := by decide +kernel
theorem dX7_feed_26 : decode cX7_feed 26 = .ok (.getfield 31, 3) := by decide +kernel
theorem dX7_feed_29 : decode cX7_feed 29 = .ok (.aload_n 0, 1) := by decide +kernel
theorem dX7_feed_30 : decode cX7_feed 30 = .ok (.getfield 42, 3) := by decide +kernel
theorem dX7_feed_33 : decode cX7_feed 33 = .ok (.iload_n 1, 1) := by decide +kernel
theorem dX7_feed_34 : decode cX7_feed 34 = .ok (.iastore, 1) := by decide +kernel
theorem dX7_feed_35 : decode cX7_feed 35 = .ok (.aload_n 0, 1) := by decide +kernel
theorem dX7_feed_36 : decode cX7_feed 36 = .ok (.dup, 1) := by decide +kernel
theorem dX7_feed_37 : decode cX7_feed 37 = .ok (.getfield 42, 3) := by decide +kernel
theorem dX7_feed_40 : decode cX7_feed 40 = .ok (.iconst 1, 1) := by decide +kernel
theorem dX7_feed_41 : decode cX7_feed 41 = .ok (.iadd, 1) := by decide +kernel
theorem dX7_feed_42 : decode cX7_feed 42 = .ok (.putfield 42, 3) := by decide +kernel
theorem dX7_feed_45 : decode cX7_feed 45 = .ok (.aload_n 0, 1) := by decide +kernel
theorem dX7_feed_46 : decode cX7_feed 46 = .ok (.getfield 42, 3) := by decide +kernel
theorem dX7_feed_49 : decode cX7_feed 49 = .ok (.ireturn, 1) := by decide +kernel
theorem dX7_here_0 : decode cX7_here 0 = .ok (.aload_n 0, 1) := by decide +kernel
theorem dX7_here_1 : decode cX7_here 1 = .ok (.getfield 45, 3) := by decide +kernel
theorem dX7_here_4 : decode cX7_here 4 = .ok (.aload_n 0, 1) := by decide +kernel
theorem dX7_here_5 : decode cX7_here 5 = .ok (.getfield 42, 3) := by decide +kernel
theorem dX7_here_8 : decode cX7_here 8 = .ok (.if_icmp .ge 15, 3) := by decide +kernel
theorem dX7_here_11 : decode cX7_here 11 = .ok (.aload_n 0, 1) := by decide +kernel
theorem dX7_here_12 : decode cX7_here 12 = .ok (.getfield 31, 3) := by decide +kernel
theorem dX7_here_15 : decode cX7_here 15 = .ok (.aload_n 0, 1) := by decide +kernel
theorem dX7_here_16 : decode cX7_here 16 = .ok (.getfield 45, 3) := by decide +kernel
theorem dX7_here_19 : decode cX7_here 19 = .ok (.iaload, 1) := by decide +kernel
theorem dX7_here_20 : decode cX7_here 20 = .ok (.goto 4, 3) := by decide +kernel
theorem dX7_here_23 : decode cX7_here 23 = .ok (.iconst (-1), 1) := by decide +kernel
theorem dX7_here_24 : decode cX7_here 24 = .ok (.ireturn, 1) := by decide +kernel
theorem dX7_takes_0 : decode cX7_takes 0 = .ok (.aload_n 0, 1) := by decide +kernel
theorem dX7_takes_1 : decode cX7_takes 1 = .ok (.invokevirtual 48, 3) := by decide +kernel
theorem dX7_takes_4 : decode cX7_takes 4 = .ok (.iload_n 1, 1) := by decide +kernel
theorem dX7_takes_5 : decode cX7_takes 5 = .ok (.if_icmp .eq 5, 3) := by decide +kernel
theorem dX7_takes_8 : decode cX7_takes 8 = .ok (.iconst 0, 1) := by decide +kernel
theorem dX7_takes_9 : decode cX7_takes 9 = .ok (.ireturn, 1) := by decide +kernel
theorem dX7_takes_10 : decode cX7_takes 10 = .ok (.aload_n 0, 1) := by decide +kernel
theorem dX7_takes_11 : decode cX7_takes 11 = .ok (.dup, 1) := by decide +kernel
theorem dX7_takes_12 : decode cX7_takes 12 = .ok (.getfield 45, 3) := by decide +kernel
theorem dX7_takes_15 : decode cX7_takes 15 = .ok (.iconst 1, 1) := by decide +kernel
theorem dX7_takes_16 : decode cX7_takes 16 = .ok (.iadd, 1) := by decide +kernel
theorem dX7_takes_17 : decode cX7_takes 17 = .ok (.putfield 45, 3) := by decide +kernel
theorem dX7_takes_20 : decode cX7_takes 20 = .ok (.iconst 1, 1) := by decide +kernel
theorem dX7_takes_21 : decode cX7_takes 21 = .ok (.ireturn, 1) := by decide +kernel
theorem dX7_takesDigit_0 : decode cX7_takesDigit 0 = .ok (.aload_n 0, 1) := by decide +kernel
theorem dX7_takesDigit_1 : decode cX7_takesDigit 1 = .ok (.invokevirtual 48, 3) := by decide +kernel
theorem dX7_takesDigit_4 : decode cX7_takesDigit 4 = .ok (.bipush 48, 2) := by decide +kernel
theorem dX7_takesDigit_6 : decode cX7_takesDigit 6 = .ok (.iload_n 1, 1) := by decide +kernel
theorem dX7_takesDigit_7 : decode cX7_takesDigit 7 = .ok (.iadd, 1) := by decide +kernel
theorem dX7_takesDigit_8 : decode cX7_takesDigit 8 = .ok (.bipush 48, 2) := by decide +kernel
theorem dX7_takesDigit_10 : decode cX7_takesDigit 10 = .ok (.iload_n 2, 1) := by decide +kernel
theorem dX7_takesDigit_11 : decode cX7_takesDigit 11 = .ok (.iadd, 1) := by decide +kernel
theorem dX7_takesDigit_12 : decode cX7_takesDigit 12 = .ok (.invokestatic 38, 3) := by decide +kernel
theorem dX7_takesDigit_15 : decode cX7_takesDigit 15 = .ok (.ifCond .ne 5, 3) := by decide +kernel
theorem dX7_takesDigit_18 : decode cX7_takesDigit 18 = .ok (.iconst 0, 1) := by decide +kernel
theorem dX7_takesDigit_19 : decode cX7_takesDigit 19 = .ok (.ireturn, 1) := by decide +kernel
theorem dX7_takesDigit_20 : decode cX7_takesDigit 20 = .ok (.aload_n 0, 1) := by decide +kernel
theorem dX7_takesDigit_21 : decode cX7_takesDigit 21 = .ok (.aload_n 0, 1) := by decide +kernel
theorem dX7_takesDigit_22 : decode cX7_takesDigit 22 = .ok (.invokevirtual 48, 3) := by decide +kernel
theorem dX7_takesDigit_25 : decode cX7_takesDigit 25 = .ok (.bipush 48, 2) := by decide +kernel
theorem dX7_takesDigit_27 : decode cX7_takesDigit 27 = .ok (.isub, 1) := by decide +kernel
theorem dX7_takesDigit_28 : decode cX7_takesDigit 28 = .ok (.putfield 52, 3) := by decide +kernel
theorem dX7_takesDigit_31 : decode cX7_takesDigit 31 = .ok (.aload_n 0, 1) := by decide +kernel
theorem dX7_takesDigit_32 : decode cX7_takesDigit 32 = .ok (.dup, 1) := by decide +kernel
theorem dX7_takesDigit_33 : decode cX7_takesDigit 33 = .ok (.getfield 45, 3) := by decide +kernel
theorem dX7_takesDigit_36 : decode cX7_takesDigit 36 = .ok (.iconst 1, 1) := by decide +kernel
theorem dX7_takesDigit_37 : decode cX7_takesDigit 37 = .ok (.iadd, 1) := by decide +kernel
theorem dX7_takesDigit_38 : decode cX7_takesDigit 38 = .ok (.putfield 45, 3) := by decide +kernel
theorem dX7_takesDigit_41 : decode cX7_takesDigit 41 = .ok (.iconst 1, 1) := by decide +kernel
theorem dX7_takesDigit_42 : decode cX7_takesDigit 42 = .ok (.ireturn, 1) := by decide +kernel
theorem dX7_takesNumber_0 : decode cX7_takesNumber 0 = .ok (.aload_n 0, 1) := by decide +kernel
theorem dX7_takesNumber_1 : decode cX7_takesNumber 1 = .ok (.iconst 0, 1) := by decide +kernel
theorem dX7_takesNumber_2 : decode cX7_takesNumber 2 = .ok (.bipush 9, 2) := by decide +kernel
theorem dX7_takesNumber_4 : decode cX7_takesNumber 4 = .ok (.invokevirtual 55, 3) := by decide +kernel
theorem dX7_takesNumber_7 : decode cX7_takesNumber 7 = .ok (.ifCond .ne 5, 3) := by decide +kernel
theorem dX7_takesNumber_10 : decode cX7_takesNumber 10 = .ok (.iconst 0, 1) := by decide +kernel
theorem dX7_takesNumber_11 : decode cX7_takesNumber 11 = .ok (.ireturn, 1) := by decide +kernel
theorem dX7_takesNumber_12 : decode cX7_takesNumber 12 = .ok (.aload_n 0, 1) := by decide +kernel
theorem dX7_takesNumber_13 : decode cX7_takesNumber 13 = .ok (.getfield 52, 3) := by decide +kernel
theorem dX7_takesNumber_16 : decode cX7_takesNumber 16 = .ok (.istore_n 1, 1) := by decide +kernel
theorem dX7_takesNumber_17 : decode cX7_takesNumber 17 = .ok (.iconst 1, 1) := by decide +kernel
theorem dX7_takesNumber_18 : decode cX7_takesNumber 18 = .ok (.istore_n 2, 1) := by decide +kernel
theorem dX7_takesNumber_19 : decode cX7_takesNumber 19 = .ok (.iload_n 2, 1) := by decide +kernel
theorem dX7_takesNumber_20 : decode cX7_takesNumber 20 = .ok (.iconst 3, 1) := by decide +kernel
theorem dX7_takesNumber_21 : decode cX7_takesNumber 21 = .ok (.if_icmp .ge 50, 3) := by decide +kernel
theorem dX7_takesNumber_24 : decode cX7_takesNumber 24 = .ok (.iload_n 1, 1) := by decide +kernel
theorem dX7_takesNumber_25 : decode cX7_takesNumber 25 = .ok (.ifCond .le 46, 3) := by decide +kernel
theorem dX7_takesNumber_28 : decode cX7_takesNumber 28 = .ok (.aload_n 0, 1) := by decide +kernel
theorem dX7_takesNumber_29 : decode cX7_takesNumber 29 = .ok (.invokevirtual 48, 3) := by decide +kernel
theorem dX7_takesNumber_32 : decode cX7_takesNumber 32 = .ok (.bipush 48, 2) := by decide +kernel
theorem dX7_takesNumber_34 : decode cX7_takesNumber 34 = .ok (.bipush 57, 2) := by decide +kernel
theorem dX7_takesNumber_36 : decode cX7_takesNumber 36 = .ok (.invokestatic 38, 3) := by decide +kernel
theorem dX7_takesNumber_39 : decode cX7_takesNumber 39 = .ok (.ifCond .eq 32, 3) := by decide +kernel
theorem dX7_takesNumber_42 : decode cX7_takesNumber 42 = .ok (.bipush 10, 2) := by decide +kernel
theorem dX7_takesNumber_44 : decode cX7_takesNumber 44 = .ok (.iload_n 1, 1) := by decide +kernel
theorem dX7_takesNumber_45 : decode cX7_takesNumber 45 = .ok (.imul, 1) := by decide +kernel
theorem dX7_takesNumber_46 : decode cX7_takesNumber 46 = .ok (.aload_n 0, 1) := by decide +kernel
theorem dX7_takesNumber_47 : decode cX7_takesNumber 47 = .ok (.invokevirtual 48, 3) := by decide +kernel
theorem dX7_takesNumber_50 : decode cX7_takesNumber 50 = .ok (.iadd, 1) := by decide +kernel
theorem dX7_takesNumber_51 : decode cX7_takesNumber 51 = .ok (.bipush 48, 2) := by decide +kernel
theorem dX7_takesNumber_53 : decode cX7_takesNumber 53 = .ok (.isub, 1) := by decide +kernel
theorem dX7_takesNumber_54 : decode cX7_takesNumber 54 = .ok (.istore_n 1, 1) := by decide +kernel
theorem dX7_takesNumber_55 : decode cX7_takesNumber 55 = .ok (.aload_n 0, 1) := by decide +kernel
theorem dX7_takesNumber_56 : decode cX7_takesNumber 56 = .ok (.dup, 1) := by decide +kernel
theorem dX7_takesNumber_57 : decode cX7_takesNumber 57 = .ok (.getfield 45, 3) := by decide +kernel
theorem dX7_takesNumber_60 : decode cX7_takesNumber 60 = .ok (.iconst 1, 1) := by decide +kernel
theorem dX7_takesNumber_61 : decode cX7_takesNumber 61 = .ok (.iadd, 1) := by decide +kernel
theorem dX7_takesNumber_62 : decode cX7_takesNumber 62 = .ok (.putfield 45, 3) := by decide +kernel
theorem dX7_takesNumber_65 : decode cX7_takesNumber 65 = .ok (.iinc 2 1, 3) := by decide +kernel
theorem dX7_takesNumber_68 : decode cX7_takesNumber 68 = .ok (.goto (-49), 3) := by decide +kernel
theorem dX7_takesNumber_71 : decode cX7_takesNumber 71 = .ok (.aload_n 0, 1) := by decide +kernel
theorem dX7_takesNumber_72 : decode cX7_takesNumber 72 = .ok (.iload_n 1, 1) := by decide +kernel
theorem dX7_takesNumber_73 : decode cX7_takesNumber 73 = .ok (.putfield 52, 3) := by decide +kernel
theorem dX7_takesNumber_76 : decode cX7_takesNumber 76 = .ok (.iconst 1, 1) := by decide +kernel
theorem dX7_takesNumber_77 : decode cX7_takesNumber 77 = .ok (.ireturn, 1) := by decide +kernel
theorem dX7_takesSigned_0 : decode cX7_takesSigned 0 = .ok (.aload_n 0, 1) := by decide +kernel
theorem dX7_takesSigned_1 : decode cX7_takesSigned 1 = .ok (.bipush 45, 2) := by decide +kernel
theorem dX7_takesSigned_3 : decode cX7_takesSigned 3 = .ok (.invokevirtual 59, 3) := by decide +kernel
theorem dX7_takesSigned_6 : decode cX7_takesSigned 6 = .ok (.istore_n 1, 1) := by decide +kernel
theorem dX7_takesSigned_7 : decode cX7_takesSigned 7 = .ok (.aload_n 0, 1) := by decide +kernel
theorem dX7_takesSigned_8 : decode cX7_takesSigned 8 = .ok (.invokevirtual 63, 3) := by decide +kernel
theorem dX7_takesSigned_11 : decode cX7_takesSigned 11 = .ok (.ifCond .ne 5, 3) := by decide +kernel
theorem dX7_takesSigned_14 : decode cX7_takesSigned 14 = .ok (.iconst 0, 1) := by decide +kernel
theorem dX7_takesSigned_15 : decode cX7_takesSigned 15 = .ok (.ireturn, 1) := by decide +kernel
theorem dX7_takesSigned_16 : decode cX7_takesSigned 16 = .ok (.aload_n 0, 1) := by decide +kernel
theorem dX7_takesSigned_17 : decode cX7_takesSigned 17 = .ok (.iload_n 1, 1) := by decide +kernel
theorem dX7_takesSigned_18 : decode cX7_takesSigned 18 = .ok (.ifCond .eq 11, 3) := by decide +kernel
theorem dX7_takesSigned_21 : decode cX7_takesSigned 21 = .ok (.aload_n 0, 1) := by decide +kernel
theorem dX7_takesSigned_22 : decode cX7_takesSigned 22 = .ok (.getfield 52, 3) := by decide +kernel
theorem dX7_takesSigned_25 : decode cX7_takesSigned 25 = .ok (.ineg, 1) := by decide +kernel
theorem dX7_takesSigned_26 : decode cX7_takesSigned 26 = .ok (.goto 7, 3) := by decide +kernel
theorem dX7_takesSigned_29 : decode cX7_takesSigned 29 = .ok (.aload_n 0, 1) := by decide +kernel
theorem dX7_takesSigned_30 : decode cX7_takesSigned 30 = .ok (.getfield 52, 3) := by decide +kernel
theorem dX7_takesSigned_33 : decode cX7_takesSigned 33 = .ok (.putfield 52, 3) := by decide +kernel
theorem dX7_takesSigned_36 : decode cX7_takesSigned 36 = .ok (.iconst 1, 1) := by decide +kernel
theorem dX7_takesSigned_37 : decode cX7_takesSigned 37 = .ok (.ireturn, 1) := by decide +kernel
theorem dX7_takesCode_0 : decode cX7_takesCode 0 = .ok (.aload_n 0, 1) := by decide +kernel
theorem dX7_takesCode_1 : decode cX7_takesCode 1 = .ok (.invokevirtual 48, 3) := by decide +kernel
theorem dX7_takesCode_4 : decode cX7_takesCode 4 = .ok (.bipush 97, 2) := by decide +kernel
theorem dX7_takesCode_6 : decode cX7_takesCode 6 = .ok (.bipush 104, 2) := by decide +kernel
theorem dX7_takesCode_8 : decode cX7_takesCode 8 = .ok (.invokestatic 38, 3) := by decide +kernel
theorem dX7_takesCode_11 : decode cX7_takesCode 11 = .ok (.ifCond .ne 5, 3) := by decide +kernel
theorem dX7_takesCode_14 : decode cX7_takesCode 14 = .ok (.iconst 0, 1) := by decide +kernel
theorem dX7_takesCode_15 : decode cX7_takesCode 15 = .ok (.ireturn, 1) := by decide +kernel
theorem dX7_takesCode_16 : decode cX7_takesCode 16 = .ok (.aload_n 0, 1) := by decide +kernel
theorem dX7_takesCode_17 : decode cX7_takesCode 17 = .ok (.aload_n 0, 1) := by decide +kernel
theorem dX7_takesCode_18 : decode cX7_takesCode 18 = .ok (.invokevirtual 48, 3) := by decide +kernel
theorem dX7_takesCode_21 : decode cX7_takesCode 21 = .ok (.bipush 97, 2) := by decide +kernel
theorem dX7_takesCode_23 : decode cX7_takesCode 23 = .ok (.isub, 1) := by decide +kernel
theorem dX7_takesCode_24 : decode cX7_takesCode 24 = .ok (.putfield 52, 3) := by decide +kernel
theorem dX7_takesCode_27 : decode cX7_takesCode 27 = .ok (.aload_n 0, 1) := by decide +kernel
theorem dX7_takesCode_28 : decode cX7_takesCode 28 = .ok (.dup, 1) := by decide +kernel
theorem dX7_takesCode_29 : decode cX7_takesCode 29 = .ok (.getfield 45, 3) := by decide +kernel
theorem dX7_takesCode_32 : decode cX7_takesCode 32 = .ok (.iconst 1, 1) := by decide +kernel
theorem dX7_takesCode_33 : decode cX7_takesCode 33 = .ok (.iadd, 1) := by decide +kernel
theorem dX7_takesCode_34 : decode cX7_takesCode 34 = .ok (.putfield 45, 3) := by decide +kernel
theorem dX7_takesCode_37 : decode cX7_takesCode 37 = .ok (.iconst 1, 1) := by decide +kernel
theorem dX7_takesCode_38 : decode cX7_takesCode 38 = .ok (.ireturn, 1) := by decide +kernel
theorem dX7_part_0 : decode cX7_part 0 = .ok (.bipush 64, 2) := by decide +kernel
theorem dX7_part_2 : decode cX7_part 2 = .ok (.iload_n 0, 1) := by decide +kernel
theorem dX7_part_3 : decode cX7_part 3 = .ok (.imul, 1) := by decide +kernel
theorem dX7_part_4 : decode cX7_part 4 = .ok (.iload_n 1, 1) := by decide +kernel
theorem dX7_part_5 : decode cX7_part 5 = .ok (.iadd, 1) := by decide +kernel
theorem dX7_part_6 : decode cX7_part 6 = .ok (.bipush 9, 2) := by decide +kernel
theorem dX7_part_8 : decode cX7_part 8 = .ok (.imul, 1) := by decide +kernel
theorem dX7_part_9 : decode cX7_part 9 = .ok (.iload_n 2, 1) := by decide +kernel
theorem dX7_part_10 : decode cX7_part 10 = .ok (.iadd, 1) := by decide +kernel
theorem dX7_part_11 : decode cX7_part 11 = .ok (.ireturn, 1) := by decide +kernel
theorem dX7_put_0 : decode cX7_put 0 = .ok (.aload_n 0, 1) := by decide +kernel
theorem dX7_put_1 : decode cX7_put 1 = .ok (.getfield 9, 3) := by decide +kernel
theorem dX7_put_4 : decode cX7_put 4 = .ok (.bipush 16, 2) := by decide +kernel
theorem dX7_put_6 : decode cX7_put 6 = .ok (.iload_n 1, 1) := by decide +kernel
theorem dX7_put_7 : decode cX7_put 7 = .ok (.iload_n 2, 1) := by decide +kernel
theorem dX7_put_8 : decode cX7_put 8 = .ok (.invokestatic 67, 3) := by decide +kernel
theorem dX7_put_11 : decode cX7_put 11 = .ok (.iload_n 3, 1) := by decide +kernel
theorem dX7_put_12 : decode cX7_put 12 = .ok (.iastore, 1) := by decide +kernel
theorem dX7_put_13 : decode cX7_put 13 = .ok (.return_, 1) := by decide +kernel
theorem dX7_makes_0 : decode cX7_makes 0 = .ok (.aload_n 0, 1) := by decide +kernel
theorem dX7_makes_1 : decode cX7_makes 1 = .ok (.getfield 71, 3) := by decide +kernel
theorem dX7_makes_4 : decode cX7_makes 4 = .ok (.istore_n 3, 1) := by decide +kernel
theorem dX7_makes_5 : decode cX7_makes 5 = .ok (.aload_n 0, 1) := by decide +kernel
theorem dX7_makes_6 : decode cX7_makes 6 = .ok (.dup, 1) := by decide +kernel
theorem dX7_makes_7 : decode cX7_makes 7 = .ok (.getfield 71, 3) := by decide +kernel
theorem dX7_makes_10 : decode cX7_makes 10 = .ok (.iconst 1, 1) := by decide +kernel
theorem dX7_makes_11 : decode cX7_makes 11 = .ok (.iadd, 1) := by decide +kernel
theorem dX7_makes_12 : decode cX7_makes 12 = .ok (.putfield 71, 3) := by decide +kernel
theorem dX7_makes_15 : decode cX7_makes 15 = .ok (.iconst 0, 1) := by decide +kernel
theorem dX7_makes_16 : decode cX7_makes 16 = .ok (.istore 4, 2) := by decide +kernel
theorem dX7_makes_18 : decode cX7_makes 18 = .ok (.iload 4, 2) := by decide +kernel
theorem dX7_makes_20 : decode cX7_makes 20 = .ok (.bipush 9, 2) := by decide +kernel
theorem dX7_makes_22 : decode cX7_makes 22 = .ok (.if_icmp .ge 17, 3) := by decide +kernel
theorem dX7_makes_25 : decode cX7_makes 25 = .ok (.aload_n 0, 1) := by decide +kernel
theorem dX7_makes_26 : decode cX7_makes 26 = .ok (.iload_n 3, 1) := by decide +kernel
theorem dX7_makes_27 : decode cX7_makes 27 = .ok (.iload 4, 2) := by decide +kernel
theorem dX7_makes_29 : decode cX7_makes 29 = .ok (.iconst (-1), 1) := by decide +kernel
theorem dX7_makes_30 : decode cX7_makes 30 = .ok (.invokevirtual 74, 3) := by decide +kernel
theorem dX7_makes_33 : decode cX7_makes 33 = .ok (.iinc 4 1, 3) := by decide +kernel
theorem dX7_makes_36 : decode cX7_makes 36 = .ok (.goto (-18), 3) := by decide +kernel
theorem dX7_makes_39 : decode cX7_makes 39 = .ok (.aload_n 0, 1) := by decide +kernel
theorem dX7_makes_40 : decode cX7_makes 40 = .ok (.iload_n 3, 1) := by decide +kernel
theorem dX7_makes_41 : decode cX7_makes 41 = .ok (.iconst 0, 1) := by decide +kernel
theorem dX7_makes_42 : decode cX7_makes 42 = .ok (.iload_n 1, 1) := by decide +kernel
theorem dX7_makes_43 : decode cX7_makes 43 = .ok (.invokevirtual 74, 3) := by decide +kernel
theorem dX7_makes_46 : decode cX7_makes 46 = .ok (.aload_n 0, 1) := by decide +kernel
theorem dX7_makes_47 : decode cX7_makes 47 = .ok (.iload_n 3, 1) := by decide +kernel
theorem dX7_makes_48 : decode cX7_makes 48 = .ok (.bipush 7, 2) := by decide +kernel
theorem dX7_makes_50 : decode cX7_makes 50 = .ok (.aload_n 0, 1) := by decide +kernel
theorem dX7_makes_51 : decode cX7_makes 51 = .ok (.getfield 45, 3) := by decide +kernel
theorem dX7_makes_54 : decode cX7_makes 54 = .ok (.invokevirtual 74, 3) := by decide +kernel
theorem dX7_makes_57 : decode cX7_makes 57 = .ok (.aload_n 0, 1) := by decide +kernel
theorem dX7_makes_58 : decode cX7_makes 58 = .ok (.iload_n 3, 1) := by decide +kernel
theorem dX7_makes_59 : decode cX7_makes 59 = .ok (.bipush 8, 2) := by decide +kernel
theorem dX7_makes_61 : decode cX7_makes 61 = .ok (.iload_n 2, 1) := by decide +kernel
theorem dX7_makes_62 : decode cX7_makes 62 = .ok (.invokevirtual 74, 3) := by decide +kernel
theorem dX7_makes_65 : decode cX7_makes 65 = .ok (.iload_n 3, 1) := by decide +kernel
theorem dX7_makes_66 : decode cX7_makes 66 = .ok (.ireturn, 1) := by decide +kernel
theorem dX7_beginsItem_0 : decode cX7_beginsItem 0 = .ok (.iload_n 0, 1) := by decide +kernel
theorem dX7_beginsItem_1 : decode cX7_beginsItem 1 = .ok (.bipush 116, 2) := by decide +kernel
theorem dX7_beginsItem_3 : decode cX7_beginsItem 3 = .ok (.if_icmp .eq 33, 3) := by decide +kernel
theorem dX7_beginsItem_6 : decode cX7_beginsItem 6 = .ok (.iload_n 0, 1) := by decide +kernel
theorem dX7_beginsItem_7 : decode cX7_beginsItem 7 = .ok (.bipush 119, 2) := by decide +kernel
theorem dX7_beginsItem_9 : decode cX7_beginsItem 9 = .ok (.if_icmp .eq 27, 3) := by decide +kernel
theorem dX7_beginsItem_12 : decode cX7_beginsItem 12 = .ok (.iload_n 0, 1) := by decide +kernel
theorem dX7_beginsItem_13 : decode cX7_beginsItem 13 = .ok (.bipush 115, 2) := by decide +kernel
theorem dX7_beginsItem_15 : decode cX7_beginsItem 15 = .ok (.if_icmp .eq 21, 3) := by decide +kernel
theorem dX7_beginsItem_18 : decode cX7_beginsItem 18 = .ok (.iload_n 0, 1) := by decide +kernel
theorem dX7_beginsItem_19 : decode cX7_beginsItem 19 = .ok (.bipush 120, 2) := by decide +kernel
theorem dX7_beginsItem_21 : decode cX7_beginsItem 21 = .ok (.if_icmp .eq 15, 3) := by decide +kernel
theorem dX7_beginsItem_24 : decode cX7_beginsItem 24 = .ok (.iload_n 0, 1) := by decide +kernel
theorem dX7_beginsItem_25 : decode cX7_beginsItem 25 = .ok (.bipush 91, 2) := by decide +kernel
theorem dX7_beginsItem_27 : decode cX7_beginsItem 27 = .ok (.if_icmp .eq 9, 3) := by decide +kernel
theorem dX7_beginsItem_30 : decode cX7_beginsItem 30 = .ok (.iload_n 0, 1) := by decide +kernel
theorem dX7_beginsItem_31 : decode cX7_beginsItem 31 = .ok (.bipush 40, 2) := by decide +kernel
theorem dX7_beginsItem_33 : decode cX7_beginsItem 33 = .ok (.if_icmp .ne 7, 3) := by decide +kernel
theorem dX7_beginsItem_36 : decode cX7_beginsItem 36 = .ok (.iconst 1, 1) := by decide +kernel
theorem dX7_beginsItem_37 : decode cX7_beginsItem 37 = .ok (.goto 4, 3) := by decide +kernel
theorem dX7_beginsItem_40 : decode cX7_beginsItem 40 = .ok (.iconst 0, 1) := by decide +kernel
theorem dX7_beginsItem_41 : decode cX7_beginsItem 41 = .ok (.ireturn, 1) := by decide +kernel
theorem dX7_isTooMuch_0 : decode cX7_isTooMuch 0 = .ok (.aload_n 0, 1) := by decide +kernel
theorem dX7_isTooMuch_1 : decode cX7_isTooMuch 1 = .ok (.iconst 2, 1) := by decide +kernel
theorem dX7_isTooMuch_2 : decode cX7_isTooMuch 2 = .ok (.putfield 78, 3) := by decide +kernel
theorem dX7_isTooMuch_5 : decode cX7_isTooMuch 5 = .ok (.iconst 0, 1) := by decide +kernel
theorem dX7_isTooMuch_6 : decode cX7_isTooMuch 6 = .ok (.ireturn, 1) := by decide +kernel
theorem dX7_readsBody_0 : decode cX7_readsBody 0 = .ok (.aload_n 0, 1) := by decide +kernel
theorem dX7_readsBody_1 : decode cX7_readsBody 1 = .ok (.iconst 0, 1) := by decide +kernel
theorem dX7_readsBody_2 : decode cX7_readsBody 2 = .ok (.iload_n 1, 1) := by decide +kernel
theorem dX7_readsBody_3 : decode cX7_readsBody 3 = .ok (.invokevirtual 81, 3) := by decide +kernel
theorem dX7_readsBody_6 : decode cX7_readsBody 6 = .ok (.istore_n 3, 1) := by decide +kernel
theorem dX7_readsBody_7 : decode cX7_readsBody 7 = .ok (.iload_n 2, 1) := by decide +kernel
theorem dX7_readsBody_8 : decode cX7_readsBody 8 = .ok (.ifCond .lt 14, 3) := by decide +kernel
theorem dX7_readsBody_11 : decode cX7_readsBody 11 = .ok (.aload_n 0, 1) := by decide +kernel
theorem dX7_readsBody_12 : decode cX7_readsBody 12 = .ok (.iload_n 2, 1) := by decide +kernel
theorem dX7_readsBody_13 : decode cX7_readsBody 13 = .ok (.bipush 6, 2) := by decide +kernel
theorem dX7_readsBody_15 : decode cX7_readsBody 15 = .ok (.iload_n 3, 1) := by decide +kernel
theorem dX7_readsBody_16 : decode cX7_readsBody 16 = .ok (.invokevirtual 74, 3) := by decide +kernel
theorem dX7_readsBody_19 : decode cX7_readsBody 19 = .ok (.goto 14, 3) := by decide +kernel
theorem dX7_readsBody_22 : decode cX7_readsBody 22 = .ok (.iload_n 1, 1) := by decide +kernel
theorem dX7_readsBody_23 : decode cX7_readsBody 23 = .ok (.ifCond .lt 10, 3) := by decide +kernel
theorem dX7_readsBody_26 : decode cX7_readsBody 26 = .ok (.aload_n 0, 1) := by decide +kernel
theorem dX7_readsBody_27 : decode cX7_readsBody 27 = .ok (.iload_n 1, 1) := by decide +kernel
theorem dX7_readsBody_28 : decode cX7_readsBody 28 = .ok (.iconst 5, 1) := by decide +kernel
theorem dX7_readsBody_29 : decode cX7_readsBody 29 = .ok (.iload_n 3, 1) := by decide +kernel
theorem dX7_readsBody_30 : decode cX7_readsBody 30 = .ok (.invokevirtual 74, 3) := by decide +kernel
theorem dX7_readsBody_33 : decode cX7_readsBody 33 = .ok (.iconst (-1), 1) := by decide +kernel
theorem dX7_readsBody_34 : decode cX7_readsBody 34 = .ok (.istore 4, 2) := by decide +kernel
theorem dX7_readsBody_36 : decode cX7_readsBody 36 = .ok (.aload_n 0, 1) := by decide +kernel
theorem dX7_readsBody_37 : decode cX7_readsBody 37 = .ok (.getfield 71, 3) := by decide +kernel
theorem dX7_readsBody_40 : decode cX7_readsBody 40 = .ok (.istore 5, 2) := by decide +kernel
theorem dX7_readsBody_42 : decode cX7_readsBody 42 = .ok (.aload_n 0, 1) := by decide +kernel
theorem dX7_readsBody_43 : decode cX7_readsBody 43 = .ok (.iload_n 3, 1) := by decide +kernel
theorem dX7_readsBody_44 : decode cX7_readsBody 44 = .ok (.invokevirtual 85, 3) := by decide +kernel
theorem dX7_readsBody_47 : decode cX7_readsBody 47 = .ok (.ifCond .ne 5, 3) := by decide +kernel
theorem dX7_readsBody_50 : decode cX7_readsBody 50 = .ok (.iconst 0, 1) := by decide +kernel
theorem dX7_readsBody_51 : decode cX7_readsBody 51 = .ok (.ireturn, 1) := by decide +kernel
theorem dX7_readsBody_52 : decode cX7_readsBody 52 = .ok (.iload 4, 2) := by decide +kernel
theorem dX7_readsBody_54 : decode cX7_readsBody 54 = .ok (.ifCond .ge 14, 3) := by decide +kernel
theorem dX7_readsBody_57 : decode cX7_readsBody 57 = .ok (.aload_n 0, 1) := by decide +kernel
theorem dX7_readsBody_58 : decode cX7_readsBody 58 = .ok (.iload_n 3, 1) := by decide +kernel
theorem dX7_readsBody_59 : decode cX7_readsBody 59 = .ok (.iconst 5, 1) := by decide +kernel
theorem dX7_readsBody_60 : decode cX7_readsBody 60 = .ok (.iload 5, 2) := by decide +kernel
theorem dX7_readsBody_62 : decode cX7_readsBody 62 = .ok (.invokevirtual 74, 3) := by decide +kernel
theorem dX7_readsBody_65 : decode cX7_readsBody 65 = .ok (.goto 13, 3) := by decide +kernel
theorem dX7_readsBody_68 : decode cX7_readsBody 68 = .ok (.aload_n 0, 1) := by decide +kernel
theorem dX7_readsBody_69 : decode cX7_readsBody 69 = .ok (.iload 4, 2) := by decide +kernel
theorem dX7_readsBody_71 : decode cX7_readsBody 71 = .ok (.bipush 6, 2) := by decide +kernel
theorem dX7_readsBody_73 : decode cX7_readsBody 73 = .ok (.iload 5, 2) := by decide +kernel
theorem dX7_readsBody_75 : decode cX7_readsBody 75 = .ok (.invokevirtual 74, 3) := by decide +kernel
theorem dX7_readsBody_78 : decode cX7_readsBody 78 = .ok (.iload 5, 2) := by decide +kernel
theorem dX7_readsBody_80 : decode cX7_readsBody 80 = .ok (.istore 4, 2) := by decide +kernel
theorem dX7_readsBody_82 : decode cX7_readsBody 82 = .ok (.aload_n 0, 1) := by decide +kernel
theorem dX7_readsBody_83 : decode cX7_readsBody 83 = .ok (.bipush 59, 2) := by decide +kernel
theorem dX7_readsBody_85 : decode cX7_readsBody 85 = .ok (.invokevirtual 59, 3) := by decide +kernel
theorem dX7_readsBody_88 : decode cX7_readsBody 88 = .ok (.ifCond .ne (-52), 3) := by decide +kernel
theorem dX7_readsBody_91 : decode cX7_readsBody 91 = .ok (.iconst 1, 1) := by decide +kernel
theorem dX7_readsBody_92 : decode cX7_readsBody 92 = .ok (.ireturn, 1) := by decide +kernel
theorem dX7_readsItem_0 : decode cX7_readsItem 0 = .ok (.aload_n 0, 1) := by decide +kernel
theorem dX7_readsItem_1 : decode cX7_readsItem 1 = .ok (.invokevirtual 48, 3) := by decide +kernel
theorem dX7_readsItem_4 : decode cX7_readsItem 4 = .ok (.istore_n 2, 1) := by decide +kernel
theorem dX7_readsItem_5 : decode cX7_readsItem 5 = .ok (.iload_n 2, 1) := by decide +kernel
theorem dX7_readsItem_6 : decode cX7_readsItem 6 = .ok (.invokestatic 88, 3) := by decide +kernel
theorem dX7_readsItem_9 : decode cX7_readsItem 9 = .ok (.ifCond .ne 5, 3) := by decide +kernel
theorem dX7_readsItem_12 : decode cX7_readsItem 12 = .ok (.iconst 0, 1) := by decide +kernel
theorem dX7_readsItem_13 : decode cX7_readsItem 13 = .ok (.ireturn, 1) := by decide +kernel
theorem dX7_readsItem_14 : decode cX7_readsItem 14 = .ok (.aload_n 0, 1) := by decide +kernel
theorem dX7_readsItem_15 : decode cX7_readsItem 15 = .ok (.getfield 91, 3) := by decide +kernel
theorem dX7_readsItem_18 : decode cX7_readsItem 18 = .ok (.bipush 24, 2) := by decide +kernel
theorem dX7_readsItem_20 : decode cX7_readsItem 20 = .ok (.if_icmp .eq 23, 3) := by decide +kernel
theorem dX7_readsItem_23 : decode cX7_readsItem 23 = .ok (.iload_n 2, 1) := by decide +kernel
theorem dX7_readsItem_24 : decode cX7_readsItem 24 = .ok (.bipush 91, 2) := by decide +kernel
theorem dX7_readsItem_26 : decode cX7_readsItem 26 = .ok (.if_icmp .eq 9, 3) := by decide +kernel
theorem dX7_readsItem_29 : decode cX7_readsItem 29 = .ok (.iload_n 2, 1) := by decide +kernel
theorem dX7_readsItem_30 : decode cX7_readsItem 30 = .ok (.bipush 40, 2) := by decide +kernel
theorem dX7_readsItem_32 : decode cX7_readsItem 32 = .ok (.if_icmp .ne 16, 3) := by decide +kernel
theorem dX7_readsItem_35 : decode cX7_readsItem 35 = .ok (.aload_n 0, 1) := by decide +kernel
theorem dX7_readsItem_36 : decode cX7_readsItem 36 = .ok (.getfield 94, 3) := by decide +kernel
theorem dX7_readsItem_39 : decode cX7_readsItem 39 = .ok (.iconst 4, 1) := by decide +kernel
theorem dX7_readsItem_40 : decode cX7_readsItem 40 = .ok (.if_icmp .ne 8, 3) := by decide +kernel
theorem dX7_readsItem_43 : decode cX7_readsItem 43 = .ok (.aload_n 0, 1) := by decide +kernel
theorem dX7_readsItem_44 : decode cX7_readsItem 44 = .ok (.invokevirtual 97, 3) := by decide +kernel
theorem dX7_readsItem_47 : decode cX7_readsItem 47 = .ok (.ireturn, 1) := by decide +kernel
theorem dX7_readsItem_48 : decode cX7_readsItem 48 = .ok (.aload_n 0, 1) := by decide +kernel
theorem dX7_readsItem_49 : decode cX7_readsItem 49 = .ok (.dup, 1) := by decide +kernel
theorem dX7_readsItem_50 : decode cX7_readsItem 50 = .ok (.getfield 91, 3) := by decide +kernel
theorem dX7_readsItem_53 : decode cX7_readsItem 53 = .ok (.iconst 1, 1) := by decide +kernel
theorem dX7_readsItem_54 : decode cX7_readsItem 54 = .ok (.iadd, 1) := by decide +kernel
theorem dX7_readsItem_55 : decode cX7_readsItem 55 = .ok (.putfield 91, 3) := by decide +kernel
theorem dX7_readsItem_58 : decode cX7_readsItem 58 = .ok (.iload_n 2, 1) := by decide +kernel
theorem dX7_readsItem_59 : decode cX7_readsItem 59 = .ok (.lookupswitch 104 #[(91, 93), (115, 71), (116, 49), (119, 60), (120, 82)], 49) := by decide +kernel
theorem dX7_readsItem_108 : decode cX7_readsItem 108 = .ok (.aload_n 0, 1) := by decide +kernel
theorem dX7_readsItem_109 : decode cX7_readsItem 109 = .ok (.aload_n 0, 1) := by decide +kernel
theorem dX7_readsItem_110 : decode cX7_readsItem 110 = .ok (.iconst 1, 1) := by decide +kernel
theorem dX7_readsItem_111 : decode cX7_readsItem 111 = .ok (.iload_n 1, 1) := by decide +kernel
theorem dX7_readsItem_112 : decode cX7_readsItem 112 = .ok (.invokevirtual 81, 3) := by decide +kernel
theorem dX7_readsItem_115 : decode cX7_readsItem 115 = .ok (.invokevirtual 100, 3) := by decide +kernel
theorem dX7_readsItem_118 : decode cX7_readsItem 118 = .ok (.ireturn, 1) := by decide +kernel
theorem dX7_readsItem_119 : decode cX7_readsItem 119 = .ok (.aload_n 0, 1) := by decide +kernel
theorem dX7_readsItem_120 : decode cX7_readsItem 120 = .ok (.aload_n 0, 1) := by decide +kernel
theorem dX7_readsItem_121 : decode cX7_readsItem 121 = .ok (.iconst 2, 1) := by decide +kernel
theorem dX7_readsItem_122 : decode cX7_readsItem 122 = .ok (.iload_n 1, 1) := by decide +kernel
theorem dX7_readsItem_123 : decode cX7_readsItem 123 = .ok (.invokevirtual 81, 3) := by decide +kernel
theorem dX7_readsItem_126 : decode cX7_readsItem 126 = .ok (.invokevirtual 103, 3) := by decide +kernel
theorem dX7_readsItem_129 : decode cX7_readsItem 129 = .ok (.ireturn, 1) := by decide +kernel
theorem dX7_readsItem_130 : decode cX7_readsItem 130 = .ok (.aload_n 0, 1) := by decide +kernel
theorem dX7_readsItem_131 : decode cX7_readsItem 131 = .ok (.aload_n 0, 1) := by decide +kernel
theorem dX7_readsItem_132 : decode cX7_readsItem 132 = .ok (.iconst 3, 1) := by decide +kernel
theorem dX7_readsItem_133 : decode cX7_readsItem 133 = .ok (.iload_n 1, 1) := by decide +kernel
theorem dX7_readsItem_134 : decode cX7_readsItem 134 = .ok (.invokevirtual 81, 3) := by decide +kernel
theorem dX7_readsItem_137 : decode cX7_readsItem 137 = .ok (.invokevirtual 106, 3) := by decide +kernel
theorem dX7_readsItem_140 : decode cX7_readsItem 140 = .ok (.ireturn, 1) := by decide +kernel
theorem dX7_readsItem_141 : decode cX7_readsItem 141 = .ok (.aload_n 0, 1) := by decide +kernel
theorem dX7_readsItem_142 : decode cX7_readsItem 142 = .ok (.aload_n 0, 1) := by decide +kernel
theorem dX7_readsItem_143 : decode cX7_readsItem 143 = .ok (.iconst 4, 1) := by decide +kernel
theorem dX7_readsItem_144 : decode cX7_readsItem 144 = .ok (.iload_n 1, 1) := by decide +kernel
theorem dX7_readsItem_145 : decode cX7_readsItem 145 = .ok (.invokevirtual 81, 3) := by decide +kernel
theorem dX7_readsItem_148 : decode cX7_readsItem 148 = .ok (.invokevirtual 109, 3) := by decide +kernel
theorem dX7_readsItem_151 : decode cX7_readsItem 151 = .ok (.ireturn, 1) := by decide +kernel
theorem dX7_readsItem_152 : decode cX7_readsItem 152 = .ok (.aload_n 0, 1) := by decide +kernel
theorem dX7_readsItem_153 : decode cX7_readsItem 153 = .ok (.aload_n 0, 1) := by decide +kernel
theorem dX7_readsItem_154 : decode cX7_readsItem 154 = .ok (.iconst 5, 1) := by decide +kernel
theorem dX7_readsItem_155 : decode cX7_readsItem 155 = .ok (.iload_n 1, 1) := by decide +kernel
theorem dX7_readsItem_156 : decode cX7_readsItem 156 = .ok (.invokevirtual 81, 3) := by decide +kernel
theorem dX7_readsItem_159 : decode cX7_readsItem 159 = .ok (.invokevirtual 112, 3) := by decide +kernel
theorem dX7_readsItem_162 : decode cX7_readsItem 162 = .ok (.ireturn, 1) := by decide +kernel
theorem dX7_readsItem_163 : decode cX7_readsItem 163 = .ok (.aload_n 0, 1) := by decide +kernel
theorem dX7_readsItem_164 : decode cX7_readsItem 164 = .ok (.aload_n 0, 1) := by decide +kernel
theorem dX7_readsItem_165 : decode cX7_readsItem 165 = .ok (.bipush 6, 2) := by decide +kernel
theorem dX7_readsItem_167 : decode cX7_readsItem 167 = .ok (.iload_n 1, 1) := by decide +kernel
theorem dX7_readsItem_168 : decode cX7_readsItem 168 = .ok (.invokevirtual 81, 3) := by decide +kernel
theorem dX7_readsItem_171 : decode cX7_readsItem 171 = .ok (.invokevirtual 115, 3) := by decide +kernel
theorem dX7_readsItem_174 : decode cX7_readsItem 174 = .ok (.ireturn, 1) := by decide +kernel
theorem dX7_readsTask_0 : decode cX7_readsTask 0 = .ok (.aload_n 0, 1) := by decide +kernel
theorem dX7_readsTask_1 : decode cX7_readsTask 1 = .ok (.dup, 1) := by decide +kernel
theorem dX7_readsTask_2 : decode cX7_readsTask 2 = .ok (.getfield 45, 3) := by decide +kernel
theorem dX7_readsTask_5 : decode cX7_readsTask 5 = .ok (.iconst 1, 1) := by decide +kernel
theorem dX7_readsTask_6 : decode cX7_readsTask 6 = .ok (.iadd, 1) := by decide +kernel
theorem dX7_readsTask_7 : decode cX7_readsTask 7 = .ok (.putfield 45, 3) := by decide +kernel
theorem dX7_readsTask_10 : decode cX7_readsTask 10 = .ok (.aload_n 0, 1) := by decide +kernel
theorem dX7_readsTask_11 : decode cX7_readsTask 11 = .ok (.invokevirtual 118, 3) := by decide +kernel
theorem dX7_readsTask_14 : decode cX7_readsTask 14 = .ok (.ifCond .ne 5, 3) := by decide +kernel
theorem dX7_readsTask_17 : decode cX7_readsTask 17 = .ok (.iconst 0, 1) := by decide +kernel
theorem dX7_readsTask_18 : decode cX7_readsTask 18 = .ok (.ireturn, 1) := by decide +kernel
theorem dX7_readsTask_19 : decode cX7_readsTask 19 = .ok (.aload_n 0, 1) := by decide +kernel
theorem dX7_readsTask_20 : decode cX7_readsTask 20 = .ok (.iload_n 1, 1) := by decide +kernel
theorem dX7_readsTask_21 : decode cX7_readsTask 21 = .ok (.iconst 1, 1) := by decide +kernel
theorem dX7_readsTask_22 : decode cX7_readsTask 22 = .ok (.aload_n 0, 1) := by decide +kernel
theorem dX7_readsTask_23 : decode cX7_readsTask 23 = .ok (.getfield 52, 3) := by decide +kernel
theorem dX7_readsTask_26 : decode cX7_readsTask 26 = .ok (.invokevirtual 74, 3) := by decide +kernel
theorem dX7_readsTask_29 : decode cX7_readsTask 29 = .ok (.aload_n 0, 1) := by decide +kernel
theorem dX7_readsTask_30 : decode cX7_readsTask 30 = .ok (.iload_n 1, 1) := by decide +kernel
theorem dX7_readsTask_31 : decode cX7_readsTask 31 = .ok (.iconst 2, 1) := by decide +kernel
theorem dX7_readsTask_32 : decode cX7_readsTask 32 = .ok (.iconst 0, 1) := by decide +kernel
theorem dX7_readsTask_33 : decode cX7_readsTask 33 = .ok (.invokevirtual 74, 3) := by decide +kernel
theorem dX7_readsTask_36 : decode cX7_readsTask 36 = .ok (.aload_n 0, 1) := by decide +kernel
theorem dX7_readsTask_37 : decode cX7_readsTask 37 = .ok (.iload_n 1, 1) := by decide +kernel
theorem dX7_readsTask_38 : decode cX7_readsTask 38 = .ok (.iconst 3, 1) := by decide +kernel
theorem dX7_readsTask_39 : decode cX7_readsTask 39 = .ok (.iconst 0, 1) := by decide +kernel
theorem dX7_readsTask_40 : decode cX7_readsTask 40 = .ok (.invokevirtual 74, 3) := by decide +kernel
theorem dX7_readsTask_43 : decode cX7_readsTask 43 = .ok (.aload_n 0, 1) := by decide +kernel
theorem dX7_readsTask_44 : decode cX7_readsTask 44 = .ok (.bipush 114, 2) := by decide +kernel
theorem dX7_readsTask_46 : decode cX7_readsTask 46 = .ok (.invokevirtual 59, 3) := by decide +kernel
theorem dX7_readsTask_49 : decode cX7_readsTask 49 = .ok (.ifCond .eq 53, 3) := by decide +kernel
theorem dX7_readsTask_52 : decode cX7_readsTask 52 = .ok (.aload_n 0, 1) := by decide +kernel
theorem dX7_readsTask_53 : decode cX7_readsTask 53 = .ok (.iconst 0, 1) := by decide +kernel
theorem dX7_readsTask_54 : decode cX7_readsTask 54 = .ok (.bipush 9, 2) := by decide +kernel
theorem dX7_readsTask_56 : decode cX7_readsTask 56 = .ok (.invokevirtual 55, 3) := by decide +kernel
theorem dX7_readsTask_59 : decode cX7_readsTask 59 = .ok (.ifCond .ne 5, 3) := by decide +kernel
theorem dX7_readsTask_62 : decode cX7_readsTask 62 = .ok (.iconst 0, 1) := by decide +kernel
theorem dX7_readsTask_63 : decode cX7_readsTask 63 = .ok (.ireturn, 1) := by decide +kernel
theorem dX7_readsTask_64 : decode cX7_readsTask 64 = .ok (.aload_n 0, 1) := by decide +kernel
theorem dX7_readsTask_65 : decode cX7_readsTask 65 = .ok (.iload_n 1, 1) := by decide +kernel
theorem dX7_readsTask_66 : decode cX7_readsTask 66 = .ok (.iconst 2, 1) := by decide +kernel
theorem dX7_readsTask_67 : decode cX7_readsTask 67 = .ok (.aload_n 0, 1) := by decide +kernel
theorem dX7_readsTask_68 : decode cX7_readsTask 68 = .ok (.getfield 52, 3) := by decide +kernel
theorem dX7_readsTask_71 : decode cX7_readsTask 71 = .ok (.invokevirtual 74, 3) := by decide +kernel
theorem dX7_readsTask_74 : decode cX7_readsTask 74 = .ok (.aload_n 0, 1) := by decide +kernel
theorem dX7_readsTask_75 : decode cX7_readsTask 75 = .ok (.bipush 43, 2) := by decide +kernel
theorem dX7_readsTask_77 : decode cX7_readsTask 77 = .ok (.invokevirtual 59, 3) := by decide +kernel
theorem dX7_readsTask_80 : decode cX7_readsTask 80 = .ok (.ifCond .eq 22, 3) := by decide +kernel
theorem dX7_readsTask_83 : decode cX7_readsTask 83 = .ok (.aload_n 0, 1) := by decide +kernel
theorem dX7_readsTask_84 : decode cX7_readsTask 84 = .ok (.invokevirtual 63, 3) := by decide +kernel
theorem dX7_readsTask_87 : decode cX7_readsTask 87 = .ok (.ifCond .ne 5, 3) := by decide +kernel
theorem dX7_readsTask_90 : decode cX7_readsTask 90 = .ok (.iconst 0, 1) := by decide +kernel
theorem dX7_readsTask_91 : decode cX7_readsTask 91 = .ok (.ireturn, 1) := by decide +kernel
theorem dX7_readsTask_92 : decode cX7_readsTask 92 = .ok (.aload_n 0, 1) := by decide +kernel
theorem dX7_readsTask_93 : decode cX7_readsTask 93 = .ok (.iload_n 1, 1) := by decide +kernel
theorem dX7_readsTask_94 : decode cX7_readsTask 94 = .ok (.iconst 3, 1) := by decide +kernel
theorem dX7_readsTask_95 : decode cX7_readsTask 95 = .ok (.aload_n 0, 1) := by decide +kernel
theorem dX7_readsTask_96 : decode cX7_readsTask 96 = .ok (.getfield 52, 3) := by decide +kernel
theorem dX7_readsTask_99 : decode cX7_readsTask 99 = .ok (.invokevirtual 74, 3) := by decide +kernel
theorem dX7_readsTask_102 : decode cX7_readsTask 102 = .ok (.aload_n 0, 1) := by decide +kernel
theorem dX7_readsTask_103 : decode cX7_readsTask 103 = .ok (.bipush 99, 2) := by decide +kernel
theorem dX7_readsTask_105 : decode cX7_readsTask 105 = .ok (.invokevirtual 59, 3) := by decide +kernel
theorem dX7_readsTask_108 : decode cX7_readsTask 108 = .ok (.ifCond .eq 22, 3) := by decide +kernel
theorem dX7_readsTask_111 : decode cX7_readsTask 111 = .ok (.aload_n 0, 1) := by decide +kernel
theorem dX7_readsTask_112 : decode cX7_readsTask 112 = .ok (.invokevirtual 118, 3) := by decide +kernel
theorem dX7_readsTask_115 : decode cX7_readsTask 115 = .ok (.ifCond .ne 5, 3) := by decide +kernel
theorem dX7_readsTask_118 : decode cX7_readsTask 118 = .ok (.iconst 0, 1) := by decide +kernel
theorem dX7_readsTask_119 : decode cX7_readsTask 119 = .ok (.ireturn, 1) := by decide +kernel
theorem dX7_readsTask_120 : decode cX7_readsTask 120 = .ok (.aload_n 0, 1) := by decide +kernel
theorem dX7_readsTask_121 : decode cX7_readsTask 121 = .ok (.iload_n 1, 1) := by decide +kernel
theorem dX7_readsTask_122 : decode cX7_readsTask 122 = .ok (.iconst 4, 1) := by decide +kernel
theorem dX7_readsTask_123 : decode cX7_readsTask 123 = .ok (.aload_n 0, 1) := by decide +kernel
theorem dX7_readsTask_124 : decode cX7_readsTask 124 = .ok (.getfield 52, 3) := by decide +kernel
theorem dX7_readsTask_127 : decode cX7_readsTask 127 = .ok (.invokevirtual 74, 3) := by decide +kernel
theorem dX7_readsTask_130 : decode cX7_readsTask 130 = .ok (.iconst 1, 1) := by decide +kernel
theorem dX7_readsTask_131 : decode cX7_readsTask 131 = .ok (.ireturn, 1) := by decide +kernel
theorem dX7_readsWait_0 : decode cX7_readsWait 0 = .ok (.aload_n 0, 1) := by decide +kernel
theorem dX7_readsWait_1 : decode cX7_readsWait 1 = .ok (.dup, 1) := by decide +kernel
theorem dX7_readsWait_2 : decode cX7_readsWait 2 = .ok (.getfield 45, 3) := by decide +kernel
theorem dX7_readsWait_5 : decode cX7_readsWait 5 = .ok (.iconst 1, 1) := by decide +kernel
theorem dX7_readsWait_6 : decode cX7_readsWait 6 = .ok (.iadd, 1) := by decide +kernel
theorem dX7_readsWait_7 : decode cX7_readsWait 7 = .ok (.putfield 45, 3) := by decide +kernel
theorem dX7_readsWait_10 : decode cX7_readsWait 10 = .ok (.aload_n 0, 1) := by decide +kernel
theorem dX7_readsWait_11 : decode cX7_readsWait 11 = .ok (.invokevirtual 63, 3) := by decide +kernel
theorem dX7_readsWait_14 : decode cX7_readsWait 14 = .ok (.istore_n 2, 1) := by decide +kernel
theorem dX7_readsWait_15 : decode cX7_readsWait 15 = .ok (.aload_n 0, 1) := by decide +kernel
theorem dX7_readsWait_16 : decode cX7_readsWait 16 = .ok (.iload_n 1, 1) := by decide +kernel
theorem dX7_readsWait_17 : decode cX7_readsWait 17 = .ok (.iconst 1, 1) := by decide +kernel
theorem dX7_readsWait_18 : decode cX7_readsWait 18 = .ok (.aload_n 0, 1) := by decide +kernel
theorem dX7_readsWait_19 : decode cX7_readsWait 19 = .ok (.getfield 52, 3) := by decide +kernel
theorem dX7_readsWait_22 : decode cX7_readsWait 22 = .ok (.invokevirtual 74, 3) := by decide +kernel
theorem dX7_readsWait_25 : decode cX7_readsWait 25 = .ok (.iload_n 2, 1) := by decide +kernel
theorem dX7_readsWait_26 : decode cX7_readsWait 26 = .ok (.ireturn, 1) := by decide +kernel
theorem dX7_readsSignal_0 : decode cX7_readsSignal 0 = .ok (.aload_n 0, 1) := by decide +kernel
theorem dX7_readsSignal_1 : decode cX7_readsSignal 1 = .ok (.dup, 1) := by decide +kernel
theorem dX7_readsSignal_2 : decode cX7_readsSignal 2 = .ok (.getfield 45, 3) := by decide +kernel
theorem dX7_readsSignal_5 : decode cX7_readsSignal 5 = .ok (.iconst 1, 1) := by decide +kernel
theorem dX7_readsSignal_6 : decode cX7_readsSignal 6 = .ok (.iadd, 1) := by decide +kernel
theorem dX7_readsSignal_7 : decode cX7_readsSignal 7 = .ok (.putfield 45, 3) := by decide +kernel
theorem dX7_readsSignal_10 : decode cX7_readsSignal 10 = .ok (.aload_n 0, 1) := by decide +kernel
theorem dX7_readsSignal_11 : decode cX7_readsSignal 11 = .ok (.invokevirtual 118, 3) := by decide +kernel
theorem dX7_readsSignal_14 : decode cX7_readsSignal 14 = .ok (.ifCond .ne 5, 3) := by decide +kernel
theorem dX7_readsSignal_17 : decode cX7_readsSignal 17 = .ok (.iconst 0, 1) := by decide +kernel
theorem dX7_readsSignal_18 : decode cX7_readsSignal 18 = .ok (.ireturn, 1) := by decide +kernel
theorem dX7_readsSignal_19 : decode cX7_readsSignal 19 = .ok (.aload_n 0, 1) := by decide +kernel
theorem dX7_readsSignal_20 : decode cX7_readsSignal 20 = .ok (.iload_n 1, 1) := by decide +kernel
theorem dX7_readsSignal_21 : decode cX7_readsSignal 21 = .ok (.iconst 1, 1) := by decide +kernel
theorem dX7_readsSignal_22 : decode cX7_readsSignal 22 = .ok (.aload_n 0, 1) := by decide +kernel
theorem dX7_readsSignal_23 : decode cX7_readsSignal 23 = .ok (.getfield 52, 3) := by decide +kernel
theorem dX7_readsSignal_26 : decode cX7_readsSignal 26 = .ok (.invokevirtual 74, 3) := by decide +kernel
theorem dX7_readsSignal_29 : decode cX7_readsSignal 29 = .ok (.aload_n 0, 1) := by decide +kernel
theorem dX7_readsSignal_30 : decode cX7_readsSignal 30 = .ok (.bipush 44, 2) := by decide +kernel
theorem dX7_readsSignal_32 : decode cX7_readsSignal 32 = .ok (.invokevirtual 59, 3) := by decide +kernel
theorem dX7_readsSignal_35 : decode cX7_readsSignal 35 = .ok (.ifCond .eq 22, 3) := by decide +kernel
theorem dX7_readsSignal_38 : decode cX7_readsSignal 38 = .ok (.aload_n 0, 1) := by decide +kernel
theorem dX7_readsSignal_39 : decode cX7_readsSignal 39 = .ok (.invokevirtual 63, 3) := by decide +kernel
theorem dX7_readsSignal_42 : decode cX7_readsSignal 42 = .ok (.ifCond .ne 5, 3) := by decide +kernel
theorem dX7_readsSignal_45 : decode cX7_readsSignal 45 = .ok (.iconst 0, 1) := by decide +kernel
theorem dX7_readsSignal_46 : decode cX7_readsSignal 46 = .ok (.ireturn, 1) := by decide +kernel
theorem dX7_readsSignal_47 : decode cX7_readsSignal 47 = .ok (.aload_n 0, 1) := by decide +kernel
theorem dX7_readsSignal_48 : decode cX7_readsSignal 48 = .ok (.iload_n 1, 1) := by decide +kernel
theorem dX7_readsSignal_49 : decode cX7_readsSignal 49 = .ok (.iconst 2, 1) := by decide +kernel
theorem dX7_readsSignal_50 : decode cX7_readsSignal 50 = .ok (.aload_n 0, 1) := by decide +kernel
theorem dX7_readsSignal_51 : decode cX7_readsSignal 51 = .ok (.getfield 52, 3) := by decide +kernel
theorem dX7_readsSignal_54 : decode cX7_readsSignal 54 = .ok (.invokevirtual 74, 3) := by decide +kernel
theorem dX7_readsSignal_57 : decode cX7_readsSignal 57 = .ok (.iconst 1, 1) := by decide +kernel
theorem dX7_readsSignal_58 : decode cX7_readsSignal 58 = .ok (.ireturn, 1) := by decide +kernel
theorem dX7_readsSet_0 : decode cX7_readsSet 0 = .ok (.aload_n 0, 1) := by decide +kernel
theorem dX7_readsSet_1 : decode cX7_readsSet 1 = .ok (.dup, 1) := by decide +kernel
theorem dX7_readsSet_2 : decode cX7_readsSet 2 = .ok (.getfield 45, 3) := by decide +kernel
theorem dX7_readsSet_5 : decode cX7_readsSet 5 = .ok (.iconst 1, 1) := by decide +kernel
theorem dX7_readsSet_6 : decode cX7_readsSet 6 = .ok (.iadd, 1) := by decide +kernel
theorem dX7_readsSet_7 : decode cX7_readsSet 7 = .ok (.putfield 45, 3) := by decide +kernel
theorem dX7_readsSet_10 : decode cX7_readsSet 10 = .ok (.aload_n 0, 1) := by decide +kernel
theorem dX7_readsSet_11 : decode cX7_readsSet 11 = .ok (.iconst 0, 1) := by decide +kernel
theorem dX7_readsSet_12 : decode cX7_readsSet 12 = .ok (.iconst 3, 1) := by decide +kernel
theorem dX7_readsSet_13 : decode cX7_readsSet 13 = .ok (.invokevirtual 55, 3) := by decide +kernel
theorem dX7_readsSet_16 : decode cX7_readsSet 16 = .ok (.ifCond .ne 5, 3) := by decide +kernel
theorem dX7_readsSet_19 : decode cX7_readsSet 19 = .ok (.iconst 0, 1) := by decide +kernel
theorem dX7_readsSet_20 : decode cX7_readsSet 20 = .ok (.ireturn, 1) := by decide +kernel
theorem dX7_readsSet_21 : decode cX7_readsSet 21 = .ok (.aload_n 0, 1) := by decide +kernel
theorem dX7_readsSet_22 : decode cX7_readsSet 22 = .ok (.iload_n 1, 1) := by decide +kernel
theorem dX7_readsSet_23 : decode cX7_readsSet 23 = .ok (.iconst 1, 1) := by decide +kernel
theorem dX7_readsSet_24 : decode cX7_readsSet 24 = .ok (.aload_n 0, 1) := by decide +kernel
theorem dX7_readsSet_25 : decode cX7_readsSet 25 = .ok (.getfield 52, 3) := by decide +kernel
theorem dX7_readsSet_28 : decode cX7_readsSet 28 = .ok (.invokevirtual 74, 3) := by decide +kernel
theorem dX7_readsSet_31 : decode cX7_readsSet 31 = .ok (.aload_n 0, 1) := by decide +kernel
theorem dX7_readsSet_32 : decode cX7_readsSet 32 = .ok (.invokevirtual 48, 3) := by decide +kernel
theorem dX7_readsSet_35 : decode cX7_readsSet 35 = .ok (.bipush 61, 2) := by decide +kernel
theorem dX7_readsSet_37 : decode cX7_readsSet 37 = .ok (.if_icmp .eq 14, 3) := by decide +kernel
theorem dX7_readsSet_40 : decode cX7_readsSet 40 = .ok (.aload_n 0, 1) := by decide +kernel
theorem dX7_readsSet_41 : decode cX7_readsSet 41 = .ok (.invokevirtual 48, 3) := by decide +kernel
theorem dX7_readsSet_44 : decode cX7_readsSet 44 = .ok (.bipush 43, 2) := by decide +kernel
theorem dX7_readsSet_46 : decode cX7_readsSet 46 = .ok (.if_icmp .eq 5, 3) := by decide +kernel
theorem dX7_readsSet_49 : decode cX7_readsSet 49 = .ok (.iconst 0, 1) := by decide +kernel
theorem dX7_readsSet_50 : decode cX7_readsSet 50 = .ok (.ireturn, 1) := by decide +kernel
theorem dX7_readsSet_51 : decode cX7_readsSet 51 = .ok (.aload_n 0, 1) := by decide +kernel
theorem dX7_readsSet_52 : decode cX7_readsSet 52 = .ok (.iload_n 1, 1) := by decide +kernel
theorem dX7_readsSet_53 : decode cX7_readsSet 53 = .ok (.iconst 2, 1) := by decide +kernel
theorem dX7_readsSet_54 : decode cX7_readsSet 54 = .ok (.aload_n 0, 1) := by decide +kernel
theorem dX7_readsSet_55 : decode cX7_readsSet 55 = .ok (.invokevirtual 48, 3) := by decide +kernel
theorem dX7_readsSet_58 : decode cX7_readsSet 58 = .ok (.bipush 43, 2) := by decide +kernel
theorem dX7_readsSet_60 : decode cX7_readsSet 60 = .ok (.if_icmp .ne 7, 3) := by decide +kernel
theorem dX7_readsSet_63 : decode cX7_readsSet 63 = .ok (.iconst 1, 1) := by decide +kernel
theorem dX7_readsSet_64 : decode cX7_readsSet 64 = .ok (.goto 4, 3) := by decide +kernel
theorem dX7_readsSet_67 : decode cX7_readsSet 67 = .ok (.iconst 0, 1) := by decide +kernel
theorem dX7_readsSet_68 : decode cX7_readsSet 68 = .ok (.invokevirtual 74, 3) := by decide +kernel
theorem dX7_readsSet_71 : decode cX7_readsSet 71 = .ok (.aload_n 0, 1) := by decide +kernel
theorem dX7_readsSet_72 : decode cX7_readsSet 72 = .ok (.dup, 1) := by decide +kernel
theorem dX7_readsSet_73 : decode cX7_readsSet 73 = .ok (.getfield 45, 3) := by decide +kernel
theorem dX7_readsSet_76 : decode cX7_readsSet 76 = .ok (.iconst 1, 1) := by decide +kernel
theorem dX7_readsSet_77 : decode cX7_readsSet 77 = .ok (.iadd, 1) := by decide +kernel
theorem dX7_readsSet_78 : decode cX7_readsSet 78 = .ok (.putfield 45, 3) := by decide +kernel
theorem dX7_readsSet_81 : decode cX7_readsSet 81 = .ok (.aload_n 0, 1) := by decide +kernel
theorem dX7_readsSet_82 : decode cX7_readsSet 82 = .ok (.invokevirtual 121, 3) := by decide +kernel
theorem dX7_readsSet_85 : decode cX7_readsSet 85 = .ok (.istore_n 2, 1) := by decide +kernel
theorem dX7_readsSet_86 : decode cX7_readsSet 86 = .ok (.aload_n 0, 1) := by decide +kernel
theorem dX7_readsSet_87 : decode cX7_readsSet 87 = .ok (.iload_n 1, 1) := by decide +kernel
theorem dX7_readsSet_88 : decode cX7_readsSet 88 = .ok (.iconst 3, 1) := by decide +kernel
theorem dX7_readsSet_89 : decode cX7_readsSet 89 = .ok (.aload_n 0, 1) := by decide +kernel
theorem dX7_readsSet_90 : decode cX7_readsSet 90 = .ok (.getfield 52, 3) := by decide +kernel
theorem dX7_readsSet_93 : decode cX7_readsSet 93 = .ok (.invokevirtual 74, 3) := by decide +kernel
theorem dX7_readsSet_96 : decode cX7_readsSet 96 = .ok (.iload_n 2, 1) := by decide +kernel
theorem dX7_readsSet_97 : decode cX7_readsSet 97 = .ok (.ireturn, 1) := by decide +kernel
theorem dX7_opens_0 : decode cX7_opens 0 = .ok (.aload_n 0, 1) := by decide +kernel
theorem dX7_opens_1 : decode cX7_opens 1 = .ok (.dup, 1) := by decide +kernel
theorem dX7_opens_2 : decode cX7_opens 2 = .ok (.getfield 94, 3) := by decide +kernel
theorem dX7_opens_5 : decode cX7_opens 5 = .ok (.iconst 1, 1) := by decide +kernel
theorem dX7_opens_6 : decode cX7_opens 6 = .ok (.iadd, 1) := by decide +kernel
theorem dX7_opens_7 : decode cX7_opens 7 = .ok (.putfield 94, 3) := by decide +kernel
theorem dX7_opens_10 : decode cX7_opens 10 = .ok (.aload_n 0, 1) := by decide +kernel
theorem dX7_opens_11 : decode cX7_opens 11 = .ok (.aload_n 0, 1) := by decide +kernel
theorem dX7_opens_12 : decode cX7_opens 12 = .ok (.getfield 124, 3) := by decide +kernel
theorem dX7_opens_15 : decode cX7_opens 15 = .ok (.aload_n 0, 1) := by decide +kernel
theorem dX7_opens_16 : decode cX7_opens 16 = .ok (.getfield 94, 3) := by decide +kernel
theorem dX7_opens_19 : decode cX7_opens 19 = .ok (.invokestatic 127, 3) := by decide +kernel
theorem dX7_opens_22 : decode cX7_opens 22 = .ok (.putfield 124, 3) := by decide +kernel
theorem dX7_opens_25 : decode cX7_opens 25 = .ok (.return_, 1) := by decide +kernel
theorem dX7_readsChoice_0 : decode cX7_readsChoice 0 = .ok (.aload_n 0, 1) := by decide +kernel
theorem dX7_readsChoice_1 : decode cX7_readsChoice 1 = .ok (.dup, 1) := by decide +kernel
theorem dX7_readsChoice_2 : decode cX7_readsChoice 2 = .ok (.getfield 45, 3) := by decide +kernel
theorem dX7_readsChoice_5 : decode cX7_readsChoice 5 = .ok (.iconst 1, 1) := by decide +kernel
theorem dX7_readsChoice_6 : decode cX7_readsChoice 6 = .ok (.iadd, 1) := by decide +kernel
theorem dX7_readsChoice_7 : decode cX7_readsChoice 7 = .ok (.putfield 45, 3) := by decide +kernel
theorem dX7_readsChoice_10 : decode cX7_readsChoice 10 = .ok (.aload_n 0, 1) := by decide +kernel
theorem dX7_readsChoice_11 : decode cX7_readsChoice 11 = .ok (.invokevirtual 132, 3) := by decide +kernel
theorem dX7_readsChoice_14 : decode cX7_readsChoice 14 = .ok (.aload_n 0, 1) := by decide +kernel
theorem dX7_readsChoice_15 : decode cX7_readsChoice 15 = .ok (.bipush 120, 2) := by decide +kernel
theorem dX7_readsChoice_17 : decode cX7_readsChoice 17 = .ok (.invokevirtual 59, 3) := by decide +kernel
theorem dX7_readsChoice_20 : decode cX7_readsChoice 20 = .ok (.ifCond .eq 12, 3) := by decide +kernel
theorem dX7_readsChoice_23 : decode cX7_readsChoice 23 = .ok (.aload_n 0, 1) := by decide +kernel
theorem dX7_readsChoice_24 : decode cX7_readsChoice 24 = .ok (.iconst 0, 1) := by decide +kernel
theorem dX7_readsChoice_25 : decode cX7_readsChoice 25 = .ok (.iconst 3, 1) := by decide +kernel
theorem dX7_readsChoice_26 : decode cX7_readsChoice 26 = .ok (.invokevirtual 55, 3) := by decide +kernel
theorem dX7_readsChoice_29 : decode cX7_readsChoice 29 = .ok (.ifCond .ne 5, 3) := by decide +kernel
theorem dX7_readsChoice_32 : decode cX7_readsChoice 32 = .ok (.iconst 0, 1) := by decide +kernel
theorem dX7_readsChoice_33 : decode cX7_readsChoice 33 = .ok (.ireturn, 1) := by decide +kernel
theorem dX7_readsChoice_34 : decode cX7_readsChoice 34 = .ok (.aload_n 0, 1) := by decide +kernel
theorem dX7_readsChoice_35 : decode cX7_readsChoice 35 = .ok (.iload_n 1, 1) := by decide +kernel
theorem dX7_readsChoice_36 : decode cX7_readsChoice 36 = .ok (.iconst 1, 1) := by decide +kernel
theorem dX7_readsChoice_37 : decode cX7_readsChoice 37 = .ok (.aload_n 0, 1) := by decide +kernel
theorem dX7_readsChoice_38 : decode cX7_readsChoice 38 = .ok (.getfield 52, 3) := by decide +kernel
theorem dX7_readsChoice_41 : decode cX7_readsChoice 41 = .ok (.invokevirtual 74, 3) := by decide +kernel
theorem dX7_readsChoice_44 : decode cX7_readsChoice 44 = .ok (.aload_n 0, 1) := by decide +kernel
theorem dX7_readsChoice_45 : decode cX7_readsChoice 45 = .ok (.bipush 60, 2) := by decide +kernel
theorem dX7_readsChoice_47 : decode cX7_readsChoice 47 = .ok (.invokevirtual 59, 3) := by decide +kernel
theorem dX7_readsChoice_50 : decode cX7_readsChoice 50 = .ok (.ifCond .eq 10, 3) := by decide +kernel
theorem dX7_readsChoice_53 : decode cX7_readsChoice 53 = .ok (.aload_n 0, 1) := by decide +kernel
theorem dX7_readsChoice_54 : decode cX7_readsChoice 54 = .ok (.invokevirtual 121, 3) := by decide +kernel
theorem dX7_readsChoice_57 : decode cX7_readsChoice 57 = .ok (.ifCond .ne 5, 3) := by decide +kernel
theorem dX7_readsChoice_60 : decode cX7_readsChoice 60 = .ok (.iconst 0, 1) := by decide +kernel
theorem dX7_readsChoice_61 : decode cX7_readsChoice 61 = .ok (.ireturn, 1) := by decide +kernel
theorem dX7_readsChoice_62 : decode cX7_readsChoice 62 = .ok (.aload_n 0, 1) := by decide +kernel
theorem dX7_readsChoice_63 : decode cX7_readsChoice 63 = .ok (.iload_n 1, 1) := by decide +kernel
theorem dX7_readsChoice_64 : decode cX7_readsChoice 64 = .ok (.iconst 2, 1) := by decide +kernel
theorem dX7_readsChoice_65 : decode cX7_readsChoice 65 = .ok (.aload_n 0, 1) := by decide +kernel
theorem dX7_readsChoice_66 : decode cX7_readsChoice 66 = .ok (.getfield 52, 3) := by decide +kernel
theorem dX7_readsChoice_69 : decode cX7_readsChoice 69 = .ok (.invokevirtual 74, 3) := by decide +kernel
theorem dX7_readsChoice_72 : decode cX7_readsChoice 72 = .ok (.aload_n 0, 1) := by decide +kernel
theorem dX7_readsChoice_73 : decode cX7_readsChoice 73 = .ok (.bipush 58, 2) := by decide +kernel
theorem dX7_readsChoice_75 : decode cX7_readsChoice 75 = .ok (.invokevirtual 59, 3) := by decide +kernel
theorem dX7_readsChoice_78 : decode cX7_readsChoice 78 = .ok (.ifCond .ne 5, 3) := by decide +kernel
theorem dX7_readsChoice_81 : decode cX7_readsChoice 81 = .ok (.iconst 0, 1) := by decide +kernel
theorem dX7_readsChoice_82 : decode cX7_readsChoice 82 = .ok (.ireturn, 1) := by decide +kernel
theorem dX7_readsChoice_83 : decode cX7_readsChoice 83 = .ok (.aload_n 0, 1) := by decide +kernel
theorem dX7_readsChoice_84 : decode cX7_readsChoice 84 = .ok (.getfield 71, 3) := by decide +kernel
theorem dX7_readsChoice_87 : decode cX7_readsChoice 87 = .ok (.istore_n 2, 1) := by decide +kernel
theorem dX7_readsChoice_88 : decode cX7_readsChoice 88 = .ok (.aload_n 0, 1) := by decide +kernel
theorem dX7_readsChoice_89 : decode cX7_readsChoice 89 = .ok (.iload_n 1, 1) := by decide +kernel
theorem dX7_readsChoice_90 : decode cX7_readsChoice 90 = .ok (.iconst (-1), 1) := by decide +kernel
theorem dX7_readsChoice_91 : decode cX7_readsChoice 91 = .ok (.invokevirtual 135, 3) := by decide +kernel
theorem dX7_readsChoice_94 : decode cX7_readsChoice 94 = .ok (.ifCond .eq 30, 3) := by decide +kernel
theorem dX7_readsChoice_97 : decode cX7_readsChoice 97 = .ok (.aload_n 0, 1) := by decide +kernel
theorem dX7_readsChoice_98 : decode cX7_readsChoice 98 = .ok (.bipush 124, 2) := by decide +kernel
theorem dX7_readsChoice_100 : decode cX7_readsChoice 100 = .ok (.invokevirtual 59, 3) := by decide +kernel
theorem dX7_readsChoice_103 : decode cX7_readsChoice 103 = .ok (.ifCond .eq 21, 3) := by decide +kernel
theorem dX7_readsChoice_106 : decode cX7_readsChoice 106 = .ok (.aload_n 0, 1) := by decide +kernel
theorem dX7_readsChoice_107 : decode cX7_readsChoice 107 = .ok (.iload_n 1, 1) := by decide +kernel
theorem dX7_readsChoice_108 : decode cX7_readsChoice 108 = .ok (.iload_n 2, 1) := by decide +kernel
theorem dX7_readsChoice_109 : decode cX7_readsChoice 109 = .ok (.invokevirtual 135, 3) := by decide +kernel
theorem dX7_readsChoice_112 : decode cX7_readsChoice 112 = .ok (.ifCond .eq 12, 3) := by decide +kernel
theorem dX7_readsChoice_115 : decode cX7_readsChoice 115 = .ok (.aload_n 0, 1) := by decide +kernel
theorem dX7_readsChoice_116 : decode cX7_readsChoice 116 = .ok (.bipush 93, 2) := by decide +kernel
theorem dX7_readsChoice_118 : decode cX7_readsChoice 118 = .ok (.invokevirtual 59, 3) := by decide +kernel
theorem dX7_readsChoice_121 : decode cX7_readsChoice 121 = .ok (.ifCond .ne 5, 3) := by decide +kernel
theorem dX7_readsChoice_124 : decode cX7_readsChoice 124 = .ok (.iconst 0, 1) := by decide +kernel
theorem dX7_readsChoice_125 : decode cX7_readsChoice 125 = .ok (.ireturn, 1) := by decide +kernel
theorem dX7_readsChoice_126 : decode cX7_readsChoice 126 = .ok (.aload_n 0, 1) := by decide +kernel
theorem dX7_readsChoice_127 : decode cX7_readsChoice 127 = .ok (.dup, 1) := by decide +kernel
theorem dX7_readsChoice_128 : decode cX7_readsChoice 128 = .ok (.getfield 94, 3) := by decide +kernel
theorem dX7_readsChoice_131 : decode cX7_readsChoice 131 = .ok (.iconst 1, 1) := by decide +kernel
theorem dX7_readsChoice_132 : decode cX7_readsChoice 132 = .ok (.isub, 1) := by decide +kernel
theorem dX7_readsChoice_133 : decode cX7_readsChoice 133 = .ok (.putfield 94, 3) := by decide +kernel
theorem dX7_readsChoice_136 : decode cX7_readsChoice 136 = .ok (.iconst 1, 1) := by decide +kernel
theorem dX7_readsChoice_137 : decode cX7_readsChoice 137 = .ok (.ireturn, 1) := by decide +kernel
theorem dX7_readsParallel_0 : decode cX7_readsParallel 0 = .ok (.aload_n 0, 1) := by decide +kernel
theorem dX7_readsParallel_1 : decode cX7_readsParallel 1 = .ok (.dup, 1) := by decide +kernel
theorem dX7_readsParallel_2 : decode cX7_readsParallel 2 = .ok (.getfield 45, 3) := by decide +kernel
theorem dX7_readsParallel_5 : decode cX7_readsParallel 5 = .ok (.iconst 1, 1) := by decide +kernel
theorem dX7_readsParallel_6 : decode cX7_readsParallel 6 = .ok (.iadd, 1) := by decide +kernel
theorem dX7_readsParallel_7 : decode cX7_readsParallel 7 = .ok (.putfield 45, 3) := by decide +kernel
theorem dX7_readsParallel_10 : decode cX7_readsParallel 10 = .ok (.aload_n 0, 1) := by decide +kernel
theorem dX7_readsParallel_11 : decode cX7_readsParallel 11 = .ok (.invokevirtual 132, 3) := by decide +kernel
theorem dX7_readsParallel_14 : decode cX7_readsParallel 14 = .ok (.iconst 0, 1) := by decide +kernel
theorem dX7_readsParallel_15 : decode cX7_readsParallel 15 = .ok (.istore_n 2, 1) := by decide +kernel
theorem dX7_readsParallel_16 : decode cX7_readsParallel 16 = .ok (.iconst (-1), 1) := by decide +kernel
theorem dX7_readsParallel_17 : decode cX7_readsParallel 17 = .ok (.istore_n 3, 1) := by decide +kernel
theorem dX7_readsParallel_18 : decode cX7_readsParallel 18 = .ok (.iload_n 2, 1) := by decide +kernel
theorem dX7_readsParallel_19 : decode cX7_readsParallel 19 = .ok (.iconst 4, 1) := by decide +kernel
theorem dX7_readsParallel_20 : decode cX7_readsParallel 20 = .ok (.if_icmp .ne 24, 3) := by decide +kernel
theorem dX7_readsParallel_23 : decode cX7_readsParallel 23 = .ok (.aload_n 0, 1) := by decide +kernel
theorem dX7_readsParallel_24 : decode cX7_readsParallel 24 = .ok (.aload_n 0, 1) := by decide +kernel
theorem dX7_readsParallel_25 : decode cX7_readsParallel 25 = .ok (.invokevirtual 48, 3) := by decide +kernel
theorem dX7_readsParallel_28 : decode cX7_readsParallel 28 = .ok (.invokestatic 88, 3) := by decide +kernel
theorem dX7_readsParallel_31 : decode cX7_readsParallel 31 = .ok (.ifCond .eq 7, 3) := by decide +kernel
theorem dX7_readsParallel_34 : decode cX7_readsParallel 34 = .ok (.iconst 2, 1) := by decide +kernel
theorem dX7_readsParallel_35 : decode cX7_readsParallel 35 = .ok (.goto 4, 3) := by decide +kernel
theorem dX7_readsParallel_38 : decode cX7_readsParallel 38 = .ok (.iconst 1, 1) := by decide +kernel
theorem dX7_readsParallel_39 : decode cX7_readsParallel 39 = .ok (.putfield 78, 3) := by decide +kernel
theorem dX7_readsParallel_42 : decode cX7_readsParallel 42 = .ok (.iconst 0, 1) := by decide +kernel
theorem dX7_readsParallel_43 : decode cX7_readsParallel 43 = .ok (.ireturn, 1) := by decide +kernel
theorem dX7_readsParallel_44 : decode cX7_readsParallel 44 = .ok (.aload_n 0, 1) := by decide +kernel
theorem dX7_readsParallel_45 : decode cX7_readsParallel 45 = .ok (.getfield 71, 3) := by decide +kernel
theorem dX7_readsParallel_48 : decode cX7_readsParallel 48 = .ok (.istore 4, 2) := by decide +kernel
theorem dX7_readsParallel_50 : decode cX7_readsParallel 50 = .ok (.aload_n 0, 1) := by decide +kernel
theorem dX7_readsParallel_51 : decode cX7_readsParallel 51 = .ok (.iload_n 1, 1) := by decide +kernel
theorem dX7_readsParallel_52 : decode cX7_readsParallel 52 = .ok (.iload_n 3, 1) := by decide +kernel
theorem dX7_readsParallel_53 : decode cX7_readsParallel 53 = .ok (.invokevirtual 135, 3) := by decide +kernel
theorem dX7_readsParallel_56 : decode cX7_readsParallel 56 = .ok (.ifCond .ne 5, 3) := by decide +kernel
theorem dX7_readsParallel_59 : decode cX7_readsParallel 59 = .ok (.iconst 0, 1) := by decide +kernel
theorem dX7_readsParallel_60 : decode cX7_readsParallel 60 = .ok (.ireturn, 1) := by decide +kernel
theorem dX7_readsParallel_61 : decode cX7_readsParallel 61 = .ok (.iload 4, 2) := by decide +kernel
theorem dX7_readsParallel_63 : decode cX7_readsParallel 63 = .ok (.istore_n 3, 1) := by decide +kernel
theorem dX7_readsParallel_64 : decode cX7_readsParallel 64 = .ok (.iinc 2 1, 3) := by decide +kernel
theorem dX7_readsParallel_67 : decode cX7_readsParallel 67 = .ok (.aload_n 0, 1) := by decide +kernel
theorem dX7_readsParallel_68 : decode cX7_readsParallel 68 = .ok (.bipush 124, 2) := by decide +kernel
theorem dX7_readsParallel_70 : decode cX7_readsParallel 70 = .ok (.invokevirtual 59, 3) := by decide +kernel
theorem dX7_readsParallel_73 : decode cX7_readsParallel 73 = .ok (.ifCond .ne (-55), 3) := by decide +kernel
theorem dX7_readsParallel_76 : decode cX7_readsParallel 76 = .ok (.aload_n 0, 1) := by decide +kernel
theorem dX7_readsParallel_77 : decode cX7_readsParallel 77 = .ok (.bipush 41, 2) := by decide +kernel
theorem dX7_readsParallel_79 : decode cX7_readsParallel 79 = .ok (.invokevirtual 59, 3) := by decide +kernel
theorem dX7_readsParallel_82 : decode cX7_readsParallel 82 = .ok (.ifCond .ne 5, 3) := by decide +kernel
theorem dX7_readsParallel_85 : decode cX7_readsParallel 85 = .ok (.iconst 0, 1) := by decide +kernel
theorem dX7_readsParallel_86 : decode cX7_readsParallel 86 = .ok (.ireturn, 1) := by decide +kernel
theorem dX7_readsParallel_87 : decode cX7_readsParallel 87 = .ok (.aload_n 0, 1) := by decide +kernel
theorem dX7_readsParallel_88 : decode cX7_readsParallel 88 = .ok (.dup, 1) := by decide +kernel
theorem dX7_readsParallel_89 : decode cX7_readsParallel 89 = .ok (.getfield 94, 3) := by decide +kernel
theorem dX7_readsParallel_92 : decode cX7_readsParallel 92 = .ok (.iconst 1, 1) := by decide +kernel
theorem dX7_readsParallel_93 : decode cX7_readsParallel 93 = .ok (.isub, 1) := by decide +kernel
theorem dX7_readsParallel_94 : decode cX7_readsParallel 94 = .ok (.putfield 94, 3) := by decide +kernel
theorem dX7_readsParallel_97 : decode cX7_readsParallel 97 = .ok (.aload_n 0, 1) := by decide +kernel
theorem dX7_readsParallel_98 : decode cX7_readsParallel 98 = .ok (.iload_n 1, 1) := by decide +kernel
theorem dX7_readsParallel_99 : decode cX7_readsParallel 99 = .ok (.iconst 1, 1) := by decide +kernel
theorem dX7_readsParallel_100 : decode cX7_readsParallel 100 = .ok (.iload_n 2, 1) := by decide +kernel
theorem dX7_readsParallel_101 : decode cX7_readsParallel 101 = .ok (.invokevirtual 74, 3) := by decide +kernel
theorem dX7_readsParallel_104 : decode cX7_readsParallel 104 = .ok (.aload_n 0, 1) := by decide +kernel
theorem dX7_readsParallel_105 : decode cX7_readsParallel 105 = .ok (.bipush 113, 2) := by decide +kernel
theorem dX7_readsParallel_107 : decode cX7_readsParallel 107 = .ok (.invokevirtual 59, 3) := by decide +kernel
theorem dX7_readsParallel_110 : decode cX7_readsParallel 110 = .ok (.ifCond .eq 24, 3) := by decide +kernel
theorem dX7_readsParallel_113 : decode cX7_readsParallel 113 = .ok (.aload_n 0, 1) := by decide +kernel
theorem dX7_readsParallel_114 : decode cX7_readsParallel 114 = .ok (.iconst 1, 1) := by decide +kernel
theorem dX7_readsParallel_115 : decode cX7_readsParallel 115 = .ok (.iload_n 2, 1) := by decide +kernel
theorem dX7_readsParallel_116 : decode cX7_readsParallel 116 = .ok (.invokevirtual 55, 3) := by decide +kernel
theorem dX7_readsParallel_119 : decode cX7_readsParallel 119 = .ok (.ifCond .ne 5, 3) := by decide +kernel
theorem dX7_readsParallel_122 : decode cX7_readsParallel 122 = .ok (.iconst 0, 1) := by decide +kernel
theorem dX7_readsParallel_123 : decode cX7_readsParallel 123 = .ok (.ireturn, 1) := by decide +kernel
theorem dX7_readsParallel_124 : decode cX7_readsParallel 124 = .ok (.aload_n 0, 1) := by decide +kernel
theorem dX7_readsParallel_125 : decode cX7_readsParallel 125 = .ok (.iload_n 1, 1) := by decide +kernel
theorem dX7_readsParallel_126 : decode cX7_readsParallel 126 = .ok (.iconst 1, 1) := by decide +kernel
theorem dX7_readsParallel_127 : decode cX7_readsParallel 127 = .ok (.aload_n 0, 1) := by decide +kernel
theorem dX7_readsParallel_128 : decode cX7_readsParallel 128 = .ok (.getfield 52, 3) := by decide +kernel
theorem dX7_readsParallel_131 : decode cX7_readsParallel 131 = .ok (.invokevirtual 74, 3) := by decide +kernel
theorem dX7_readsParallel_134 : decode cX7_readsParallel 134 = .ok (.aload_n 0, 1) := by decide +kernel
theorem dX7_readsParallel_135 : decode cX7_readsParallel 135 = .ok (.iload_n 1, 1) := by decide +kernel
theorem dX7_readsParallel_136 : decode cX7_readsParallel 136 = .ok (.iconst 2, 1) := by decide +kernel
theorem dX7_readsParallel_137 : decode cX7_readsParallel 137 = .ok (.iload_n 2, 1) := by decide +kernel
theorem dX7_readsParallel_138 : decode cX7_readsParallel 138 = .ok (.invokevirtual 74, 3) := by decide +kernel
theorem dX7_readsParallel_141 : decode cX7_readsParallel 141 = .ok (.iconst 1, 1) := by decide +kernel
theorem dX7_readsParallel_142 : decode cX7_readsParallel 142 = .ok (.ireturn, 1) := by decide +kernel
theorem dX7_define_0 : decode cX7_define 0 = .ok (.iload_n 1, 1) := by decide +kernel
theorem dX7_define_1 : decode cX7_define 1 = .ok (.invokestatic 138, 3) := by decide +kernel
theorem dX7_define_4 : decode cX7_define 4 = .ok (.ifCond .ne 5, 3) := by decide +kernel
theorem dX7_define_7 : decode cX7_define 7 = .ok (.iconst (-1), 1) := by decide +kernel
theorem dX7_define_8 : decode cX7_define 8 = .ok (.ireturn, 1) := by decide +kernel
theorem dX7_define_9 : decode cX7_define 9 = .ok (.aload_n 0, 1) := by decide +kernel
theorem dX7_define_10 : decode cX7_define 10 = .ok (.getfield 22, 3) := by decide +kernel
theorem dX7_define_13 : decode cX7_define 13 = .ok (.bipush 17, 2) := by decide +kernel
theorem dX7_define_15 : decode cX7_define 15 = .ok (.iload_n 1, 1) := by decide +kernel
theorem dX7_define_16 : decode cX7_define 16 = .ok (.iadd, 1) := by decide +kernel
theorem dX7_define_17 : decode cX7_define 17 = .ok (.iaload, 1) := by decide +kernel
theorem dX7_define_18 : decode cX7_define 18 = .ok (.iconst 4, 1) := by decide +kernel
theorem dX7_define_19 : decode cX7_define 19 = .ok (.if_icmp .ne 6, 3) := by decide +kernel
theorem dX7_define_22 : decode cX7_define 22 = .ok (.bipush (-4), 2) := by decide +kernel
theorem dX7_define_24 : decode cX7_define 24 = .ok (.ireturn, 1) := by decide +kernel
theorem dX7_define_25 : decode cX7_define 25 = .ok (.aload_n 0, 1) := by decide +kernel
theorem dX7_define_26 : decode cX7_define 26 = .ok (.iconst 0, 1) := by decide +kernel
theorem dX7_define_27 : decode cX7_define 27 = .ok (.putfield 45, 3) := by decide +kernel
theorem dX7_define_30 : decode cX7_define 30 = .ok (.aload_n 0, 1) := by decide +kernel
theorem dX7_define_31 : decode cX7_define 31 = .ok (.iconst 1, 1) := by decide +kernel
theorem dX7_define_32 : decode cX7_define 32 = .ok (.putfield 78, 3) := by decide +kernel
theorem dX7_define_35 : decode cX7_define 35 = .ok (.aload_n 0, 1) := by decide +kernel
theorem dX7_define_36 : decode cX7_define 36 = .ok (.iconst 0, 1) := by decide +kernel
theorem dX7_define_37 : decode cX7_define 37 = .ok (.putfield 71, 3) := by decide +kernel
theorem dX7_define_40 : decode cX7_define 40 = .ok (.aload_n 0, 1) := by decide +kernel
theorem dX7_define_41 : decode cX7_define 41 = .ok (.iconst 0, 1) := by decide +kernel
theorem dX7_define_42 : decode cX7_define 42 = .ok (.putfield 91, 3) := by decide +kernel
theorem dX7_define_45 : decode cX7_define 45 = .ok (.aload_n 0, 1) := by decide +kernel
theorem dX7_define_46 : decode cX7_define 46 = .ok (.iconst 0, 1) := by decide +kernel
theorem dX7_define_47 : decode cX7_define 47 = .ok (.putfield 94, 3) := by decide +kernel
theorem dX7_define_50 : decode cX7_define 50 = .ok (.aload_n 0, 1) := by decide +kernel
theorem dX7_define_51 : decode cX7_define 51 = .ok (.iconst 0, 1) := by decide +kernel
theorem dX7_define_52 : decode cX7_define 52 = .ok (.putfield 124, 3) := by decide +kernel
theorem dX7_define_55 : decode cX7_define 55 = .ok (.aload_n 0, 1) := by decide +kernel
theorem dX7_define_56 : decode cX7_define 56 = .ok (.iconst (-1), 1) := by decide +kernel
theorem dX7_define_57 : decode cX7_define 57 = .ok (.iconst (-1), 1) := by decide +kernel
theorem dX7_define_58 : decode cX7_define 58 = .ok (.invokevirtual 135, 3) := by decide +kernel
theorem dX7_define_61 : decode cX7_define 61 = .ok (.ifCond .eq 18, 3) := by decide +kernel
theorem dX7_define_64 : decode cX7_define 64 = .ok (.aload_n 0, 1) := by decide +kernel
theorem dX7_define_65 : decode cX7_define 65 = .ok (.getfield 45, 3) := by decide +kernel
theorem dX7_define_68 : decode cX7_define 68 = .ok (.aload_n 0, 1) := by decide +kernel
theorem dX7_define_69 : decode cX7_define 69 = .ok (.getfield 42, 3) := by decide +kernel
theorem dX7_define_72 : decode cX7_define 72 = .ok (.if_icmp .ne 7, 3) := by decide +kernel
theorem dX7_define_75 : decode cX7_define 75 = .ok (.iconst 1, 1) := by decide +kernel
theorem dX7_define_76 : decode cX7_define 76 = .ok (.goto 4, 3) := by decide +kernel
theorem dX7_define_79 : decode cX7_define 79 = .ok (.iconst 0, 1) := by decide +kernel
theorem dX7_define_80 : decode cX7_define 80 = .ok (.istore_n 2, 1) := by decide +kernel
theorem dX7_define_81 : decode cX7_define 81 = .ok (.aload_n 0, 1) := by decide +kernel
theorem dX7_define_82 : decode cX7_define 82 = .ok (.getfield 42, 3) := by decide +kernel
theorem dX7_define_85 : decode cX7_define 85 = .ok (.istore_n 3, 1) := by decide +kernel
theorem dX7_define_86 : decode cX7_define 86 = .ok (.aload_n 0, 1) := by decide +kernel
theorem dX7_define_87 : decode cX7_define 87 = .ok (.iconst 0, 1) := by decide +kernel
theorem dX7_define_88 : decode cX7_define 88 = .ok (.putfield 42, 3) := by decide +kernel
theorem dX7_define_91 : decode cX7_define 91 = .ok (.aload_n 0, 1) := by decide +kernel
theorem dX7_define_92 : decode cX7_define 92 = .ok (.iload_n 2, 1) := by decide +kernel
theorem dX7_define_93 : decode cX7_define 93 = .ok (.ifCond .eq 7, 3) := by decide +kernel
theorem dX7_define_96 : decode cX7_define 96 = .ok (.iconst (-1), 1) := by decide +kernel
theorem dX7_define_97 : decode cX7_define 97 = .ok (.goto 7, 3) := by decide +kernel
theorem dX7_define_100 : decode cX7_define 100 = .ok (.aload_n 0, 1) := by decide +kernel
theorem dX7_define_101 : decode cX7_define 101 = .ok (.getfield 45, 3) := by decide +kernel
theorem dX7_define_104 : decode cX7_define 104 = .ok (.putfield 34, 3) := by decide +kernel
theorem dX7_define_107 : decode cX7_define 107 = .ok (.aload_n 0, 1) := by decide +kernel
theorem dX7_define_108 : decode cX7_define 108 = .ok (.aload_n 0, 1) := by decide +kernel
theorem dX7_define_109 : decode cX7_define 109 = .ok (.getfield 78, 3) := by decide +kernel
theorem dX7_define_112 : decode cX7_define 112 = .ok (.putfield 141, 3) := by decide +kernel
theorem dX7_define_115 : decode cX7_define 115 = .ok (.iload_n 2, 1) := by decide +kernel
theorem dX7_define_116 : decode cX7_define 116 = .ok (.ifCond .ne 11, 3) := by decide +kernel
theorem dX7_define_119 : decode cX7_define 119 = .ok (.bipush (-100), 2) := by decide +kernel
theorem dX7_define_121 : decode cX7_define 121 = .ok (.aload_n 0, 1) := by decide +kernel
theorem dX7_define_122 : decode cX7_define 122 = .ok (.getfield 45, 3) := by decide +kernel
theorem dX7_define_125 : decode cX7_define 125 = .ok (.isub, 1) := by decide +kernel
theorem dX7_define_126 : decode cX7_define 126 = .ok (.ireturn, 1) := by decide +kernel
theorem dX7_define_127 : decode cX7_define 127 = .ok (.aload_n 0, 1) := by decide +kernel
theorem dX7_define_128 : decode cX7_define 128 = .ok (.getfield 22, 3) := by decide +kernel
theorem dX7_define_131 : decode cX7_define 131 = .ok (.bipush 17, 2) := by decide +kernel
theorem dX7_define_133 : decode cX7_define 133 = .ok (.iload_n 1, 1) := by decide +kernel
theorem dX7_define_134 : decode cX7_define 134 = .ok (.iadd, 1) := by decide +kernel
theorem dX7_define_135 : decode cX7_define 135 = .ok (.iaload, 1) := by decide +kernel
theorem dX7_define_136 : decode cX7_define 136 = .ok (.istore 4, 2) := by decide +kernel
theorem dX7_define_138 : decode cX7_define 138 = .ok (.iconst 4, 1) := by decide +kernel
theorem dX7_define_139 : decode cX7_define 139 = .ok (.iload_n 1, 1) := by decide +kernel
theorem dX7_define_140 : decode cX7_define 140 = .ok (.imul, 1) := by decide +kernel
theorem dX7_define_141 : decode cX7_define 141 = .ok (.iload 4, 2) := by decide +kernel
theorem dX7_define_143 : decode cX7_define 143 = .ok (.iadd, 1) := by decide +kernel
theorem dX7_define_144 : decode cX7_define 144 = .ok (.istore 5, 2) := by decide +kernel
theorem dX7_define_146 : decode cX7_define 146 = .ok (.iconst 0, 1) := by decide +kernel
theorem dX7_define_147 : decode cX7_define 147 = .ok (.istore 6, 2) := by decide +kernel
theorem dX7_define_149 : decode cX7_define 149 = .ok (.iload 6, 2) := by decide +kernel
theorem dX7_define_151 : decode cX7_define 151 = .ok (.sipush 576, 3) := by decide +kernel
theorem dX7_define_154 : decode cX7_define 154 = .ok (.if_icmp .ge 39, 3) := by decide +kernel
theorem dX7_define_157 : decode cX7_define 157 = .ok (.aload_n 0, 1) := by decide +kernel
theorem dX7_define_158 : decode cX7_define 158 = .ok (.getfield 9, 3) := by decide +kernel
theorem dX7_define_161 : decode cX7_define 161 = .ok (.iload 5, 2) := by decide +kernel
theorem dX7_define_163 : decode cX7_define 163 = .ok (.iconst 0, 1) := by decide +kernel
theorem dX7_define_164 : decode cX7_define 164 = .ok (.iconst 0, 1) := by decide +kernel
theorem dX7_define_165 : decode cX7_define 165 = .ok (.invokestatic 67, 3) := by decide +kernel
theorem dX7_define_168 : decode cX7_define 168 = .ok (.iload 6, 2) := by decide +kernel
theorem dX7_define_170 : decode cX7_define 170 = .ok (.iadd, 1) := by decide +kernel
theorem dX7_define_171 : decode cX7_define 171 = .ok (.aload_n 0, 1) := by decide +kernel
theorem dX7_define_172 : decode cX7_define 172 = .ok (.getfield 9, 3) := by decide +kernel
theorem dX7_define_175 : decode cX7_define 175 = .ok (.bipush 16, 2) := by decide +kernel
theorem dX7_define_177 : decode cX7_define 177 = .ok (.iconst 0, 1) := by decide +kernel
theorem dX7_define_178 : decode cX7_define 178 = .ok (.iconst 0, 1) := by decide +kernel
theorem dX7_define_179 : decode cX7_define 179 = .ok (.invokestatic 67, 3) := by decide +kernel
theorem dX7_define_182 : decode cX7_define 182 = .ok (.iload 6, 2) := by decide +kernel
theorem dX7_define_184 : decode cX7_define 184 = .ok (.iadd, 1) := by decide +kernel
theorem dX7_define_185 : decode cX7_define 185 = .ok (.iaload, 1) := by decide +kernel
theorem dX7_define_186 : decode cX7_define 186 = .ok (.iastore, 1) := by decide +kernel
theorem dX7_define_187 : decode cX7_define 187 = .ok (.iinc 6 1, 3) := by decide +kernel
theorem dX7_define_190 : decode cX7_define 190 = .ok (.goto (-41), 3) := by decide +kernel
theorem dX7_define_193 : decode cX7_define 193 = .ok (.aload_n 0, 1) := by decide +kernel
theorem dX7_define_194 : decode cX7_define 194 = .ok (.getfield 16, 3) := by decide +kernel
theorem dX7_define_197 : decode cX7_define 197 = .ok (.iconst 4, 1) := by decide +kernel
theorem dX7_define_198 : decode cX7_define 198 = .ok (.iload 5, 2) := by decide +kernel
theorem dX7_define_200 : decode cX7_define 200 = .ok (.imul, 1) := by decide +kernel
theorem dX7_define_201 : decode cX7_define 201 = .ok (.aload_n 0, 1) := by decide +kernel
theorem dX7_define_202 : decode cX7_define 202 = .ok (.getfield 71, 3) := by decide +kernel
theorem dX7_define_205 : decode cX7_define 205 = .ok (.iastore, 1) := by decide +kernel
theorem dX7_define_206 : decode cX7_define 206 = .ok (.aload_n 0, 1) := by decide +kernel
theorem dX7_define_207 : decode cX7_define 207 = .ok (.getfield 16, 3) := by decide +kernel
theorem dX7_define_210 : decode cX7_define 210 = .ok (.iconst 4, 1) := by decide +kernel
theorem dX7_define_211 : decode cX7_define 211 = .ok (.iload 5, 2) := by decide +kernel
theorem dX7_define_213 : decode cX7_define 213 = .ok (.imul, 1) := by decide +kernel
theorem dX7_define_214 : decode cX7_define 214 = .ok (.iconst 1, 1) := by decide +kernel
theorem dX7_define_215 : decode cX7_define 215 = .ok (.iadd, 1) := by decide +kernel
theorem dX7_define_216 : decode cX7_define 216 = .ok (.aload_n 0, 1) := by decide +kernel
theorem dX7_define_217 : decode cX7_define 217 = .ok (.getfield 91, 3) := by decide +kernel
theorem dX7_define_220 : decode cX7_define 220 = .ok (.iastore, 1) := by decide +kernel
theorem dX7_define_221 : decode cX7_define 221 = .ok (.aload_n 0, 1) := by decide +kernel
theorem dX7_define_222 : decode cX7_define 222 = .ok (.getfield 16, 3) := by decide +kernel
theorem dX7_define_225 : decode cX7_define 225 = .ok (.iconst 4, 1) := by decide +kernel
theorem dX7_define_226 : decode cX7_define 226 = .ok (.iload 5, 2) := by decide +kernel
theorem dX7_define_228 : decode cX7_define 228 = .ok (.imul, 1) := by decide +kernel
theorem dX7_define_229 : decode cX7_define 229 = .ok (.iconst 2, 1) := by decide +kernel
theorem dX7_define_230 : decode cX7_define 230 = .ok (.iadd, 1) := by decide +kernel
theorem dX7_define_231 : decode cX7_define 231 = .ok (.aload_n 0, 1) := by decide +kernel
theorem dX7_define_232 : decode cX7_define 232 = .ok (.getfield 124, 3) := by decide +kernel
theorem dX7_define_235 : decode cX7_define 235 = .ok (.iastore, 1) := by decide +kernel
theorem dX7_define_236 : decode cX7_define 236 = .ok (.aload_n 0, 1) := by decide +kernel
theorem dX7_define_237 : decode cX7_define 237 = .ok (.getfield 16, 3) := by decide +kernel
theorem dX7_define_240 : decode cX7_define 240 = .ok (.iconst 4, 1) := by decide +kernel
theorem dX7_define_241 : decode cX7_define 241 = .ok (.iload 5, 2) := by decide +kernel
theorem dX7_define_243 : decode cX7_define 243 = .ok (.imul, 1) := by decide +kernel
theorem dX7_define_244 : decode cX7_define 244 = .ok (.iconst 3, 1) := by decide +kernel
theorem dX7_define_245 : decode cX7_define 245 = .ok (.iadd, 1) := by decide +kernel
theorem dX7_define_246 : decode cX7_define 246 = .ok (.iload_n 3, 1) := by decide +kernel
theorem dX7_define_247 : decode cX7_define 247 = .ok (.iastore, 1) := by decide +kernel
theorem dX7_define_248 : decode cX7_define 248 = .ok (.aload_n 0, 1) := by decide +kernel
theorem dX7_define_249 : decode cX7_define 249 = .ok (.getfield 22, 3) := by decide +kernel
theorem dX7_define_252 : decode cX7_define 252 = .ok (.bipush 17, 2) := by decide +kernel
theorem dX7_define_254 : decode cX7_define 254 = .ok (.iload_n 1, 1) := by decide +kernel
theorem dX7_define_255 : decode cX7_define 255 = .ok (.iadd, 1) := by decide +kernel
theorem dX7_define_256 : decode cX7_define 256 = .ok (.dup2, 1) := by decide +kernel
theorem dX7_define_257 : decode cX7_define 257 = .ok (.iaload, 1) := by decide +kernel
theorem dX7_define_258 : decode cX7_define 258 = .ok (.iconst 1, 1) := by decide +kernel
theorem dX7_define_259 : decode cX7_define 259 = .ok (.iadd, 1) := by decide +kernel
theorem dX7_define_260 : decode cX7_define 260 = .ok (.iastore, 1) := by decide +kernel
theorem dX7_define_261 : decode cX7_define 261 = .ok (.iload 4, 2) := by decide +kernel
theorem dX7_define_263 : decode cX7_define 263 = .ok (.ireturn, 1) := by decide +kernel
theorem dX7_wrong_0 : decode cX7_wrong 0 = .ok (.iload_n 1, 1) := by decide +kernel
theorem dX7_wrong_1 : decode cX7_wrong 1 = .ok (.iconst 0, 1) := by decide +kernel
theorem dX7_wrong_2 : decode cX7_wrong 2 = .ok (.iconst 1, 1) := by decide +kernel
theorem dX7_wrong_3 : decode cX7_wrong 3 = .ok (.invokestatic 38, 3) := by decide +kernel
theorem dX7_wrong_6 : decode cX7_wrong 6 = .ok (.ifCond .ne 7, 3) := by decide +kernel
theorem dX7_wrong_9 : decode cX7_wrong 9 = .ok (.iconst (-1), 1) := by decide +kernel
theorem dX7_wrong_10 : decode cX7_wrong 10 = .ok (.goto 30, 3) := by decide +kernel
theorem dX7_wrong_13 : decode cX7_wrong 13 = .ok (.aload_n 0, 1) := by decide +kernel
theorem dX7_wrong_14 : decode cX7_wrong 14 = .ok (.getfield 34, 3) := by decide +kernel
theorem dX7_wrong_17 : decode cX7_wrong 17 = .ok (.ifCond .ge 8, 3) := by decide +kernel
theorem dX7_wrong_20 : decode cX7_wrong 20 = .ok (.bipush (-5), 2) := by decide +kernel
theorem dX7_wrong_22 : decode cX7_wrong 22 = .ok (.goto 18, 3) := by decide +kernel
theorem dX7_wrong_25 : decode cX7_wrong 25 = .ok (.iload_n 1, 1) := by decide +kernel
theorem dX7_wrong_26 : decode cX7_wrong 26 = .ok (.ifCond .ne 10, 3) := by decide +kernel
theorem dX7_wrong_29 : decode cX7_wrong 29 = .ok (.aload_n 0, 1) := by decide +kernel
theorem dX7_wrong_30 : decode cX7_wrong 30 = .ok (.getfield 34, 3) := by decide +kernel
theorem dX7_wrong_33 : decode cX7_wrong 33 = .ok (.goto 7, 3) := by decide +kernel
theorem dX7_wrong_36 : decode cX7_wrong 36 = .ok (.aload_n 0, 1) := by decide +kernel
theorem dX7_wrong_37 : decode cX7_wrong 37 = .ok (.getfield 141, 3) := by decide +kernel
theorem dX7_wrong_40 : decode cX7_wrong 40 = .ok (.ireturn, 1) := by decide +kernel
theorem dX7_kind_0 : decode cX7_kind 0 = .ok (.aload_n 0, 1) := by decide +kernel
theorem dX7_kind_1 : decode cX7_kind 1 = .ok (.getfield 9, 3) := by decide +kernel
theorem dX7_kind_4 : decode cX7_kind 4 = .ok (.iload_n 1, 1) := by decide +kernel
theorem dX7_kind_5 : decode cX7_kind 5 = .ok (.iload_n 2, 1) := by decide +kernel
theorem dX7_kind_6 : decode cX7_kind 6 = .ok (.iconst 0, 1) := by decide +kernel
theorem dX7_kind_7 : decode cX7_kind 7 = .ok (.invokestatic 67, 3) := by decide +kernel
theorem dX7_kind_10 : decode cX7_kind 10 = .ok (.iaload, 1) := by decide +kernel
theorem dX7_kind_11 : decode cX7_kind 11 = .ok (.ireturn, 1) := by decide +kernel
theorem dX7_child_0 : decode cX7_child 0 = .ok (.aload_n 0, 1) := by decide +kernel
theorem dX7_child_1 : decode cX7_child 1 = .ok (.getfield 9, 3) := by decide +kernel
theorem dX7_child_4 : decode cX7_child 4 = .ok (.iload_n 1, 1) := by decide +kernel
theorem dX7_child_5 : decode cX7_child 5 = .ok (.iload_n 2, 1) := by decide +kernel
theorem dX7_child_6 : decode cX7_child 6 = .ok (.iconst 5, 1) := by decide +kernel
theorem dX7_child_7 : decode cX7_child 7 = .ok (.invokestatic 67, 3) := by decide +kernel
theorem dX7_child_10 : decode cX7_child 10 = .ok (.iaload, 1) := by decide +kernel
theorem dX7_child_11 : decode cX7_child 11 = .ok (.ireturn, 1) := by decide +kernel
theorem dX7_next_0 : decode cX7_next 0 = .ok (.aload_n 0, 1) := by decide +kernel
theorem dX7_next_1 : decode cX7_next 1 = .ok (.getfield 9, 3) := by decide +kernel
theorem dX7_next_4 : decode cX7_next 4 = .ok (.iload_n 1, 1) := by decide +kernel
theorem dX7_next_5 : decode cX7_next 5 = .ok (.iload_n 2, 1) := by decide +kernel
theorem dX7_next_6 : decode cX7_next 6 = .ok (.bipush 6, 2) := by decide +kernel
theorem dX7_next_8 : decode cX7_next 8 = .ok (.invokestatic 67, 3) := by decide +kernel
theorem dX7_next_11 : decode cX7_next 11 = .ok (.iaload, 1) := by decide +kernel
theorem dX7_next_12 : decode cX7_next 12 = .ok (.ireturn, 1) := by decide +kernel
theorem dX7_tasksIn_0 : decode cX7_tasksIn 0 = .ok (.iconst 0, 1) := by decide +kernel
theorem dX7_tasksIn_1 : decode cX7_tasksIn 1 = .ok (.istore_n 2, 1) := by decide +kernel
theorem dX7_tasksIn_2 : decode cX7_tasksIn 2 = .ok (.iconst 0, 1) := by decide +kernel
theorem dX7_tasksIn_3 : decode cX7_tasksIn 3 = .ok (.istore_n 3, 1) := by decide +kernel
theorem dX7_tasksIn_4 : decode cX7_tasksIn 4 = .ok (.iload_n 3, 1) := by decide +kernel
theorem dX7_tasksIn_5 : decode cX7_tasksIn 5 = .ok (.aload_n 0, 1) := by decide +kernel
theorem dX7_tasksIn_6 : decode cX7_tasksIn 6 = .ok (.getfield 16, 3) := by decide +kernel
theorem dX7_tasksIn_9 : decode cX7_tasksIn 9 = .ok (.iconst 4, 1) := by decide +kernel
theorem dX7_tasksIn_10 : decode cX7_tasksIn 10 = .ok (.iload_n 1, 1) := by decide +kernel
theorem dX7_tasksIn_11 : decode cX7_tasksIn 11 = .ok (.imul, 1) := by decide +kernel
theorem dX7_tasksIn_12 : decode cX7_tasksIn 12 = .ok (.iaload, 1) := by decide +kernel
theorem dX7_tasksIn_13 : decode cX7_tasksIn 13 = .ok (.if_icmp .ge 27, 3) := by decide +kernel
theorem dX7_tasksIn_16 : decode cX7_tasksIn 16 = .ok (.iload_n 2, 1) := by decide +kernel
theorem dX7_tasksIn_17 : decode cX7_tasksIn 17 = .ok (.aload_n 0, 1) := by decide +kernel
theorem dX7_tasksIn_18 : decode cX7_tasksIn 18 = .ok (.iload_n 1, 1) := by decide +kernel
theorem dX7_tasksIn_19 : decode cX7_tasksIn 19 = .ok (.iload_n 3, 1) := by decide +kernel
theorem dX7_tasksIn_20 : decode cX7_tasksIn 20 = .ok (.invokevirtual 144, 3) := by decide +kernel
theorem dX7_tasksIn_23 : decode cX7_tasksIn 23 = .ok (.iconst 1, 1) := by decide +kernel
theorem dX7_tasksIn_24 : decode cX7_tasksIn 24 = .ok (.if_icmp .ne 7, 3) := by decide +kernel
theorem dX7_tasksIn_27 : decode cX7_tasksIn 27 = .ok (.iconst 1, 1) := by decide +kernel
theorem dX7_tasksIn_28 : decode cX7_tasksIn 28 = .ok (.goto 4, 3) := by decide +kernel
theorem dX7_tasksIn_31 : decode cX7_tasksIn 31 = .ok (.iconst 0, 1) := by decide +kernel
theorem dX7_tasksIn_32 : decode cX7_tasksIn 32 = .ok (.iadd, 1) := by decide +kernel
theorem dX7_tasksIn_33 : decode cX7_tasksIn 33 = .ok (.istore_n 2, 1) := by decide +kernel
theorem dX7_tasksIn_34 : decode cX7_tasksIn 34 = .ok (.iinc 3 1, 3) := by decide +kernel
theorem dX7_tasksIn_37 : decode cX7_tasksIn 37 = .ok (.goto (-33), 3) := by decide +kernel
theorem dX7_tasksIn_40 : decode cX7_tasksIn 40 = .ok (.iload_n 2, 1) := by decide +kernel
theorem dX7_tasksIn_41 : decode cX7_tasksIn 41 = .ok (.ireturn, 1) := by decide +kernel
theorem dX7_width_0 : decode cX7_width 0 = .ok (.aload_n 0, 1) := by decide +kernel
theorem dX7_width_1 : decode cX7_width 1 = .ok (.iload_n 1, 1) := by decide +kernel
theorem dX7_width_2 : decode cX7_width 2 = .ok (.iload_n 2, 1) := by decide +kernel
theorem dX7_width_3 : decode cX7_width 3 = .ok (.invokevirtual 144, 3) := by decide +kernel
theorem dX7_width_6 : decode cX7_width 6 = .ok (.istore_n 3, 1) := by decide +kernel
theorem dX7_width_7 : decode cX7_width 7 = .ok (.iload_n 3, 1) := by decide +kernel
theorem dX7_width_8 : decode cX7_width 8 = .ok (.ifCond .eq 16, 3) := by decide +kernel
theorem dX7_width_11 : decode cX7_width 11 = .ok (.iload_n 3, 1) := by decide +kernel
theorem dX7_width_12 : decode cX7_width 12 = .ok (.iconst 5, 1) := by decide +kernel
theorem dX7_width_13 : decode cX7_width 13 = .ok (.if_icmp .eq 11, 3) := by decide +kernel
theorem dX7_width_16 : decode cX7_width 16 = .ok (.iload_n 3, 1) := by decide +kernel
theorem dX7_width_17 : decode cX7_width 17 = .ok (.bipush 6, 2) := by decide +kernel
theorem dX7_width_19 : decode cX7_width 19 = .ok (.if_icmp .eq 5, 3) := by decide +kernel
theorem dX7_width_22 : decode cX7_width 22 = .ok (.iconst 1, 1) := by decide +kernel
theorem dX7_width_23 : decode cX7_width 23 = .ok (.ireturn, 1) := by decide +kernel
theorem dX7_width_24 : decode cX7_width 24 = .ok (.iconst 0, 1) := by decide +kernel
theorem dX7_width_25 : decode cX7_width 25 = .ok (.istore 4, 2) := by decide +kernel
theorem dX7_width_27 : decode cX7_width 27 = .ok (.iconst 0, 1) := by decide +kernel
theorem dX7_width_28 : decode cX7_width 28 = .ok (.istore 5, 2) := by decide +kernel
theorem dX7_width_30 : decode cX7_width 30 = .ok (.aload_n 0, 1) := by decide +kernel
theorem dX7_width_31 : decode cX7_width 31 = .ok (.iload_n 1, 1) := by decide +kernel
theorem dX7_width_32 : decode cX7_width 32 = .ok (.iload_n 2, 1) := by decide +kernel
theorem dX7_width_33 : decode cX7_width 33 = .ok (.invokevirtual 147, 3) := by decide +kernel
theorem dX7_width_36 : decode cX7_width 36 = .ok (.istore 6, 2) := by decide +kernel
theorem dX7_width_38 : decode cX7_width 38 = .ok (.iload 6, 2) := by decide +kernel
theorem dX7_width_40 : decode cX7_width 40 = .ok (.ifCond .lt 40, 3) := by decide +kernel
theorem dX7_width_43 : decode cX7_width 43 = .ok (.aload_n 0, 1) := by decide +kernel
theorem dX7_width_44 : decode cX7_width 44 = .ok (.iload_n 1, 1) := by decide +kernel
theorem dX7_width_45 : decode cX7_width 45 = .ok (.iload 6, 2) := by decide +kernel
theorem dX7_width_47 : decode cX7_width 47 = .ok (.invokevirtual 150, 3) := by decide +kernel
theorem dX7_width_50 : decode cX7_width 50 = .ok (.istore 7, 2) := by decide +kernel
theorem dX7_width_52 : decode cX7_width 52 = .ok (.iload 4, 2) := by decide +kernel
theorem dX7_width_54 : decode cX7_width 54 = .ok (.iload 7, 2) := by decide +kernel
theorem dX7_width_56 : decode cX7_width 56 = .ok (.invokestatic 127, 3) := by decide +kernel
theorem dX7_width_59 : decode cX7_width 59 = .ok (.istore 4, 2) := by decide +kernel
theorem dX7_width_61 : decode cX7_width 61 = .ok (.iload 5, 2) := by decide +kernel
theorem dX7_width_63 : decode cX7_width 63 = .ok (.iload 7, 2) := by decide +kernel
theorem dX7_width_65 : decode cX7_width 65 = .ok (.iadd, 1) := by decide +kernel
theorem dX7_width_66 : decode cX7_width 66 = .ok (.istore 5, 2) := by decide +kernel
theorem dX7_width_68 : decode cX7_width 68 = .ok (.aload_n 0, 1) := by decide +kernel
theorem dX7_width_69 : decode cX7_width 69 = .ok (.iload_n 1, 1) := by decide +kernel
theorem dX7_width_70 : decode cX7_width 70 = .ok (.iload 6, 2) := by decide +kernel
theorem dX7_width_72 : decode cX7_width 72 = .ok (.invokevirtual 153, 3) := by decide +kernel
theorem dX7_width_75 : decode cX7_width 75 = .ok (.istore 6, 2) := by decide +kernel
theorem dX7_width_77 : decode cX7_width 77 = .ok (.goto (-39), 3) := by decide +kernel
theorem dX7_width_80 : decode cX7_width 80 = .ok (.iload_n 3, 1) := by decide +kernel
theorem dX7_width_81 : decode cX7_width 81 = .ok (.bipush 6, 2) := by decide +kernel
theorem dX7_width_83 : decode cX7_width 83 = .ok (.if_icmp .ne 8, 3) := by decide +kernel
theorem dX7_width_86 : decode cX7_width 86 = .ok (.iload 5, 2) := by decide +kernel
theorem dX7_width_88 : decode cX7_width 88 = .ok (.goto 5, 3) := by decide +kernel
theorem dX7_width_91 : decode cX7_width 91 = .ok (.iload 4, 2) := by decide +kernel
theorem dX7_width_93 : decode cX7_width 93 = .ok (.ireturn, 1) := by decide +kernel
theorem dX7_version_0 : decode cX7_version 0 = .ok (.iload_n 1, 1) := by decide +kernel
theorem dX7_version_1 : decode cX7_version 1 = .ok (.invokestatic 138, 3) := by decide +kernel
theorem dX7_version_4 : decode cX7_version 4 = .ok (.ifCond .eq 12, 3) := by decide +kernel
theorem dX7_version_7 : decode cX7_version 7 = .ok (.iload_n 3, 1) := by decide +kernel
theorem dX7_version_8 : decode cX7_version 8 = .ok (.iconst 0, 1) := by decide +kernel
theorem dX7_version_9 : decode cX7_version 9 = .ok (.iconst 4, 1) := by decide +kernel
theorem dX7_version_10 : decode cX7_version 10 = .ok (.invokestatic 38, 3) := by decide +kernel
theorem dX7_version_13 : decode cX7_version 13 = .ok (.ifCond .ne 5, 3) := by decide +kernel
theorem dX7_version_16 : decode cX7_version 16 = .ok (.iconst (-1), 1) := by decide +kernel
theorem dX7_version_17 : decode cX7_version 17 = .ok (.ireturn, 1) := by decide +kernel
theorem dX7_version_18 : decode cX7_version 18 = .ok (.iload_n 2, 1) := by decide +kernel
theorem dX7_version_19 : decode cX7_version 19 = .ok (.iconst (-1), 1) := by decide +kernel
theorem dX7_version_20 : decode cX7_version 20 = .ok (.if_icmp .ne 17, 3) := by decide +kernel
theorem dX7_version_23 : decode cX7_version 23 = .ok (.aload_n 0, 1) := by decide +kernel
theorem dX7_version_24 : decode cX7_version 24 = .ok (.getfield 22, 3) := by decide +kernel
theorem dX7_version_27 : decode cX7_version 27 = .ok (.bipush 17, 2) := by decide +kernel
theorem dX7_version_29 : decode cX7_version 29 = .ok (.iload_n 1, 1) := by decide +kernel
theorem dX7_version_30 : decode cX7_version 30 = .ok (.iadd, 1) := by decide +kernel
theorem dX7_version_31 : decode cX7_version 31 = .ok (.iaload, 1) := by decide +kernel
theorem dX7_version_32 : decode cX7_version 32 = .ok (.iconst 1, 1) := by decide +kernel
theorem dX7_version_33 : decode cX7_version 33 = .ok (.isub, 1) := by decide +kernel
theorem dX7_version_34 : decode cX7_version 34 = .ok (.goto 4, 3) := by decide +kernel
theorem dX7_version_37 : decode cX7_version 37 = .ok (.iload_n 2, 1) := by decide +kernel
theorem dX7_version_38 : decode cX7_version 38 = .ok (.istore 4, 2) := by decide +kernel
theorem dX7_version_40 : decode cX7_version 40 = .ok (.iload 4, 2) := by decide +kernel
theorem dX7_version_42 : decode cX7_version 42 = .ok (.iconst 0, 1) := by decide +kernel
theorem dX7_version_43 : decode cX7_version 43 = .ok (.aload_n 0, 1) := by decide +kernel
theorem dX7_version_44 : decode cX7_version 44 = .ok (.getfield 22, 3) := by decide +kernel
theorem dX7_version_47 : decode cX7_version 47 = .ok (.bipush 17, 2) := by decide +kernel
theorem dX7_version_49 : decode cX7_version 49 = .ok (.iload_n 1, 1) := by decide +kernel
theorem dX7_version_50 : decode cX7_version 50 = .ok (.iadd, 1) := by decide +kernel
theorem dX7_version_51 : decode cX7_version 51 = .ok (.iaload, 1) := by decide +kernel
theorem dX7_version_52 : decode cX7_version 52 = .ok (.iconst 1, 1) := by decide +kernel
theorem dX7_version_53 : decode cX7_version 53 = .ok (.isub, 1) := by decide +kernel
theorem dX7_version_54 : decode cX7_version 54 = .ok (.invokestatic 38, 3) := by decide +kernel
theorem dX7_version_57 : decode cX7_version 57 = .ok (.ifCond .ne 5, 3) := by decide +kernel
theorem dX7_version_60 : decode cX7_version 60 = .ok (.iconst (-1), 1) := by decide +kernel
theorem dX7_version_61 : decode cX7_version 61 = .ok (.ireturn, 1) := by decide +kernel
theorem dX7_version_62 : decode cX7_version 62 = .ok (.iconst 4, 1) := by decide +kernel
theorem dX7_version_63 : decode cX7_version 63 = .ok (.iload_n 1, 1) := by decide +kernel
theorem dX7_version_64 : decode cX7_version 64 = .ok (.imul, 1) := by decide +kernel
theorem dX7_version_65 : decode cX7_version 65 = .ok (.iload 4, 2) := by decide +kernel
theorem dX7_version_67 : decode cX7_version 67 = .ok (.iadd, 1) := by decide +kernel
theorem dX7_version_68 : decode cX7_version 68 = .ok (.istore 5, 2) := by decide +kernel
theorem dX7_version_70 : decode cX7_version 70 = .ok (.iload_n 3, 1) := by decide +kernel
theorem dX7_version_71 : decode cX7_version 71 = .ok (.ifCond .ne 17, 3) := by decide +kernel
theorem dX7_version_74 : decode cX7_version 74 = .ok (.aload_n 0, 1) := by decide +kernel
theorem dX7_version_75 : decode cX7_version 75 = .ok (.getfield 16, 3) := by decide +kernel
theorem dX7_version_78 : decode cX7_version 78 = .ok (.iconst 4, 1) := by decide +kernel
theorem dX7_version_79 : decode cX7_version 79 = .ok (.iload 5, 2) := by decide +kernel
theorem dX7_version_81 : decode cX7_version 81 = .ok (.imul, 1) := by decide +kernel
theorem dX7_version_82 : decode cX7_version 82 = .ok (.iconst 1, 1) := by decide +kernel
theorem dX7_version_83 : decode cX7_version 83 = .ok (.iadd, 1) := by decide +kernel
theorem dX7_version_84 : decode cX7_version 84 = .ok (.iaload, 1) := by decide +kernel
theorem dX7_version_85 : decode cX7_version 85 = .ok (.goto 62, 3) := by decide +kernel
theorem dX7_version_88 : decode cX7_version 88 = .ok (.iload_n 3, 1) := by decide +kernel
theorem dX7_version_89 : decode cX7_version 89 = .ok (.iconst 1, 1) := by decide +kernel
theorem dX7_version_90 : decode cX7_version 90 = .ok (.if_icmp .ne 12, 3) := by decide +kernel
theorem dX7_version_93 : decode cX7_version 93 = .ok (.aload_n 0, 1) := by decide +kernel
theorem dX7_version_94 : decode cX7_version 94 = .ok (.iload 5, 2) := by decide +kernel
theorem dX7_version_96 : decode cX7_version 96 = .ok (.invokevirtual 156, 3) := by decide +kernel
theorem dX7_version_99 : decode cX7_version 99 = .ok (.goto 48, 3) := by decide +kernel
theorem dX7_version_102 : decode cX7_version 102 = .ok (.iload_n 3, 1) := by decide +kernel
theorem dX7_version_103 : decode cX7_version 103 = .ok (.iconst 2, 1) := by decide +kernel
theorem dX7_version_104 : decode cX7_version 104 = .ok (.if_icmp .ne 17, 3) := by decide +kernel
theorem dX7_version_107 : decode cX7_version 107 = .ok (.aload_n 0, 1) := by decide +kernel
theorem dX7_version_108 : decode cX7_version 108 = .ok (.getfield 16, 3) := by decide +kernel
theorem dX7_version_111 : decode cX7_version 111 = .ok (.iconst 4, 1) := by decide +kernel
theorem dX7_version_112 : decode cX7_version 112 = .ok (.iload 5, 2) := by decide +kernel
theorem dX7_version_114 : decode cX7_version 114 = .ok (.imul, 1) := by decide +kernel
theorem dX7_version_115 : decode cX7_version 115 = .ok (.iconst 2, 1) := by decide +kernel
theorem dX7_version_116 : decode cX7_version 116 = .ok (.iadd, 1) := by decide +kernel
theorem dX7_version_117 : decode cX7_version 117 = .ok (.iaload, 1) := by decide +kernel
theorem dX7_version_118 : decode cX7_version 118 = .ok (.goto 29, 3) := by decide +kernel
theorem dX7_version_121 : decode cX7_version 121 = .ok (.iload_n 3, 1) := by decide +kernel
theorem dX7_version_122 : decode cX7_version 122 = .ok (.iconst 3, 1) := by decide +kernel
theorem dX7_version_123 : decode cX7_version 123 = .ok (.if_icmp .ne 17, 3) := by decide +kernel
theorem dX7_version_126 : decode cX7_version 126 = .ok (.aload_n 0, 1) := by decide +kernel
theorem dX7_version_127 : decode cX7_version 127 = .ok (.getfield 16, 3) := by decide +kernel
theorem dX7_version_130 : decode cX7_version 130 = .ok (.iconst 4, 1) := by decide +kernel
theorem dX7_version_131 : decode cX7_version 131 = .ok (.iload 5, 2) := by decide +kernel
theorem dX7_version_133 : decode cX7_version 133 = .ok (.imul, 1) := by decide +kernel
theorem dX7_version_134 : decode cX7_version 134 = .ok (.iconst 3, 1) := by decide +kernel
theorem dX7_version_135 : decode cX7_version 135 = .ok (.iadd, 1) := by decide +kernel
theorem dX7_version_136 : decode cX7_version 136 = .ok (.iaload, 1) := by decide +kernel
theorem dX7_version_137 : decode cX7_version 137 = .ok (.goto 10, 3) := by decide +kernel
theorem dX7_version_140 : decode cX7_version 140 = .ok (.aload_n 0, 1) := by decide +kernel
theorem dX7_version_141 : decode cX7_version 141 = .ok (.iload 5, 2) := by decide +kernel
theorem dX7_version_143 : decode cX7_version 143 = .ok (.iconst 0, 1) := by decide +kernel
theorem dX7_version_144 : decode cX7_version 144 = .ok (.invokevirtual 150, 3) := by decide +kernel
theorem dX7_version_147 : decode cX7_version 147 = .ok (.ireturn, 1) := by decide +kernel
theorem dX7_duration_0 : decode cX7_duration 0 = .ok (.iload_n 1, 1) := by decide +kernel
theorem dX7_duration_1 : decode cX7_duration 1 = .ok (.invokestatic 160, 3) := by decide +kernel
theorem dX7_duration_4 : decode cX7_duration 4 = .ok (.ifCond .ne 5, 3) := by decide +kernel
theorem dX7_duration_7 : decode cX7_duration 7 = .ok (.iconst (-1), 1) := by decide +kernel
theorem dX7_duration_8 : decode cX7_duration 8 = .ok (.ireturn, 1) := by decide +kernel
theorem dX7_duration_9 : decode cX7_duration 9 = .ok (.iload_n 2, 1) := by decide +kernel
theorem dX7_duration_10 : decode cX7_duration 10 = .ok (.iconst 0, 1) := by decide +kernel
theorem dX7_duration_11 : decode cX7_duration 11 = .ok (.bipush 99, 2) := by decide +kernel
theorem dX7_duration_13 : decode cX7_duration 13 = .ok (.invokestatic 38, 3) := by decide +kernel
theorem dX7_duration_16 : decode cX7_duration 16 = .ok (.ifCond .ne 6, 3) := by decide +kernel
theorem dX7_duration_19 : decode cX7_duration 19 = .ok (.bipush (-2), 2) := by decide +kernel
theorem dX7_duration_21 : decode cX7_duration 21 = .ok (.ireturn, 1) := by decide +kernel
theorem dX7_duration_22 : decode cX7_duration 22 = .ok (.aload_n 0, 1) := by decide +kernel
theorem dX7_duration_23 : decode cX7_duration 23 = .ok (.getfield 22, 3) := by decide +kernel
theorem dX7_duration_26 : decode cX7_duration 26 = .ok (.iconst 1, 1) := by decide +kernel
theorem dX7_duration_27 : decode cX7_duration 27 = .ok (.iload_n 1, 1) := by decide +kernel
theorem dX7_duration_28 : decode cX7_duration 28 = .ok (.iadd, 1) := by decide +kernel
theorem dX7_duration_29 : decode cX7_duration 29 = .ok (.iaload, 1) := by decide +kernel
theorem dX7_duration_30 : decode cX7_duration 30 = .ok (.istore_n 3, 1) := by decide +kernel
theorem dX7_duration_31 : decode cX7_duration 31 = .ok (.aload_n 0, 1) := by decide +kernel
theorem dX7_duration_32 : decode cX7_duration 32 = .ok (.getfield 22, 3) := by decide +kernel
theorem dX7_duration_35 : decode cX7_duration 35 = .ok (.iconst 1, 1) := by decide +kernel
theorem dX7_duration_36 : decode cX7_duration 36 = .ok (.iload_n 1, 1) := by decide +kernel
theorem dX7_duration_37 : decode cX7_duration 37 = .ok (.iadd, 1) := by decide +kernel
theorem dX7_duration_38 : decode cX7_duration 38 = .ok (.iload_n 2, 1) := by decide +kernel
theorem dX7_duration_39 : decode cX7_duration 39 = .ok (.iastore, 1) := by decide +kernel
theorem dX7_duration_40 : decode cX7_duration 40 = .ok (.iload_n 3, 1) := by decide +kernel
theorem dX7_duration_41 : decode cX7_duration 41 = .ok (.ireturn, 1) := by decide +kernel
theorem dX7_failures_0 : decode cX7_failures 0 = .ok (.iload_n 1, 1) := by decide +kernel
theorem dX7_failures_1 : decode cX7_failures 1 = .ok (.invokestatic 160, 3) := by decide +kernel
theorem dX7_failures_4 : decode cX7_failures 4 = .ok (.ifCond .ne 5, 3) := by decide +kernel
theorem dX7_failures_7 : decode cX7_failures 7 = .ok (.iconst (-1), 1) := by decide +kernel
theorem dX7_failures_8 : decode cX7_failures 8 = .ok (.ireturn, 1) := by decide +kernel
theorem dX7_failures_9 : decode cX7_failures 9 = .ok (.iload_n 2, 1) := by decide +kernel
theorem dX7_failures_10 : decode cX7_failures 10 = .ok (.iconst 0, 1) := by decide +kernel
theorem dX7_failures_11 : decode cX7_failures 11 = .ok (.bipush 99, 2) := by decide +kernel
theorem dX7_failures_13 : decode cX7_failures 13 = .ok (.invokestatic 38, 3) := by decide +kernel
theorem dX7_failures_16 : decode cX7_failures 16 = .ok (.ifCond .ne 6, 3) := by decide +kernel
theorem dX7_failures_19 : decode cX7_failures 19 = .ok (.bipush (-2), 2) := by decide +kernel
theorem dX7_failures_21 : decode cX7_failures 21 = .ok (.ireturn, 1) := by decide +kernel
theorem dX7_failures_22 : decode cX7_failures 22 = .ok (.aload_n 0, 1) := by decide +kernel
theorem dX7_failures_23 : decode cX7_failures 23 = .ok (.getfield 22, 3) := by decide +kernel
theorem dX7_failures_26 : decode cX7_failures 26 = .ok (.bipush 9, 2) := by decide +kernel
theorem dX7_failures_28 : decode cX7_failures 28 = .ok (.iload_n 1, 1) := by decide +kernel
theorem dX7_failures_29 : decode cX7_failures 29 = .ok (.iadd, 1) := by decide +kernel
theorem dX7_failures_30 : decode cX7_failures 30 = .ok (.iaload, 1) := by decide +kernel
theorem dX7_failures_31 : decode cX7_failures 31 = .ok (.istore_n 3, 1) := by decide +kernel
theorem dX7_failures_32 : decode cX7_failures 32 = .ok (.aload_n 0, 1) := by decide +kernel
theorem dX7_failures_33 : decode cX7_failures 33 = .ok (.getfield 22, 3) := by decide +kernel
theorem dX7_failures_36 : decode cX7_failures 36 = .ok (.bipush 9, 2) := by decide +kernel
theorem dX7_failures_38 : decode cX7_failures 38 = .ok (.iload_n 1, 1) := by decide +kernel
theorem dX7_failures_39 : decode cX7_failures 39 = .ok (.iadd, 1) := by decide +kernel
theorem dX7_failures_40 : decode cX7_failures 40 = .ok (.iload_n 2, 1) := by decide +kernel
theorem dX7_failures_41 : decode cX7_failures 41 = .ok (.iastore, 1) := by decide +kernel
theorem dX7_failures_42 : decode cX7_failures 42 = .ok (.iload_n 3, 1) := by decide +kernel
theorem dX7_failures_43 : decode cX7_failures 43 = .ok (.ireturn, 1) := by decide +kernel
theorem dX7_fails_0 : decode cX7_fails 0 = .ok (.aload_n 0, 1) := by decide +kernel
theorem dX7_fails_1 : decode cX7_fails 1 = .ok (.getfield 22, 3) := by decide +kernel
theorem dX7_fails_4 : decode cX7_fails 4 = .ok (.bipush 9, 2) := by decide +kernel
theorem dX7_fails_6 : decode cX7_fails 6 = .ok (.iload_n 1, 1) := by decide +kernel
theorem dX7_fails_7 : decode cX7_fails 7 = .ok (.iadd, 1) := by decide +kernel
theorem dX7_fails_8 : decode cX7_fails 8 = .ok (.iaload, 1) := by decide +kernel
theorem dX7_fails_9 : decode cX7_fails 9 = .ok (.ifCond .ne 5, 3) := by decide +kernel
theorem dX7_fails_12 : decode cX7_fails 12 = .ok (.iconst 0, 1) := by decide +kernel
theorem dX7_fails_13 : decode cX7_fails 13 = .ok (.ireturn, 1) := by decide +kernel
theorem dX7_fails_14 : decode cX7_fails 14 = .ok (.aload_n 0, 1) := by decide +kernel
theorem dX7_fails_15 : decode cX7_fails 15 = .ok (.getfield 22, 3) := by decide +kernel
theorem dX7_fails_18 : decode cX7_fails 18 = .ok (.bipush 9, 2) := by decide +kernel
theorem dX7_fails_20 : decode cX7_fails 20 = .ok (.iload_n 1, 1) := by decide +kernel
theorem dX7_fails_21 : decode cX7_fails 21 = .ok (.iadd, 1) := by decide +kernel
theorem dX7_fails_22 : decode cX7_fails 22 = .ok (.dup2, 1) := by decide +kernel
theorem dX7_fails_23 : decode cX7_fails 23 = .ok (.iaload, 1) := by decide +kernel
theorem dX7_fails_24 : decode cX7_fails 24 = .ok (.iconst 1, 1) := by decide +kernel
theorem dX7_fails_25 : decode cX7_fails 25 = .ok (.isub, 1) := by decide +kernel
theorem dX7_fails_26 : decode cX7_fails 26 = .ok (.iastore, 1) := by decide +kernel
theorem dX7_fails_27 : decode cX7_fails 27 = .ok (.iconst 1, 1) := by decide +kernel
theorem dX7_fails_28 : decode cX7_fails 28 = .ok (.ireturn, 1) := by decide +kernel
theorem dX7_of_0 : decode cX7_of 0 = .ok (.bipush 21, 2) := by decide +kernel
theorem dX7_of_2 : decode cX7_of 2 = .ok (.sipush 1262, 3) := by decide +kernel
theorem dX7_of_5 : decode cX7_of 5 = .ok (.iload_n 0, 1) := by decide +kernel
theorem dX7_of_6 : decode cX7_of 6 = .ok (.imul, 1) := by decide +kernel
theorem dX7_of_7 : decode cX7_of 7 = .ok (.iadd, 1) := by decide +kernel
theorem dX7_of_8 : decode cX7_of 8 = .ok (.iload_n 1, 1) := by decide +kernel
theorem dX7_of_9 : decode cX7_of 9 = .ok (.iadd, 1) := by decide +kernel
theorem dX7_of_10 : decode cX7_of 10 = .ok (.ireturn, 1) := by decide +kernel
theorem dX7_at_0 : decode cX7_at 0 = .ok (.iload_n 0, 1) := by decide +kernel
theorem dX7_at_1 : decode cX7_at 1 = .ok (.sipush 622, 3) := by decide +kernel
theorem dX7_at_4 : decode cX7_at 4 = .ok (.bipush 10, 2) := by decide +kernel
theorem dX7_at_6 : decode cX7_at 6 = .ok (.iload_n 1, 1) := by decide +kernel
theorem dX7_at_7 : decode cX7_at 7 = .ok (.imul, 1) := by decide +kernel
theorem dX7_at_8 : decode cX7_at 8 = .ok (.iadd, 1) := by decide +kernel
theorem dX7_at_9 : decode cX7_at 9 = .ok (.iload_n 2, 1) := by decide +kernel
theorem dX7_at_10 : decode cX7_at 10 = .ok (.iadd, 1) := by decide +kernel
theorem dX7_at_11 : decode cX7_at 11 = .ok (.invokestatic 163, 3) := by decide +kernel
theorem dX7_at_14 : decode cX7_at 14 = .ok (.ireturn, 1) := by decide +kernel
theorem dX7_versionOf_0 : decode cX7_versionOf 0 = .ok (.iconst 4, 1) := by decide +kernel
theorem dX7_versionOf_1 : decode cX7_versionOf 1 = .ok (.aload_n 0, 1) := by decide +kernel
theorem dX7_versionOf_2 : decode cX7_versionOf 2 = .ok (.getfield 22, 3) := by decide +kernel
theorem dX7_versionOf_5 : decode cX7_versionOf 5 = .ok (.iload_n 1, 1) := by decide +kernel
theorem dX7_versionOf_6 : decode cX7_versionOf 6 = .ok (.iconst 2, 1) := by decide +kernel
theorem dX7_versionOf_7 : decode cX7_versionOf 7 = .ok (.invokestatic 163, 3) := by decide +kernel
theorem dX7_versionOf_10 : decode cX7_versionOf 10 = .ok (.iaload, 1) := by decide +kernel
theorem dX7_versionOf_11 : decode cX7_versionOf 11 = .ok (.imul, 1) := by decide +kernel
theorem dX7_versionOf_12 : decode cX7_versionOf 12 = .ok (.aload_n 0, 1) := by decide +kernel
theorem dX7_versionOf_13 : decode cX7_versionOf 13 = .ok (.getfield 22, 3) := by decide +kernel
theorem dX7_versionOf_16 : decode cX7_versionOf 16 = .ok (.iload_n 1, 1) := by decide +kernel
theorem dX7_versionOf_17 : decode cX7_versionOf 17 = .ok (.iconst 3, 1) := by decide +kernel
theorem dX7_versionOf_18 : decode cX7_versionOf 18 = .ok (.invokestatic 163, 3) := by decide +kernel
theorem dX7_versionOf_21 : decode cX7_versionOf 21 = .ok (.iaload, 1) := by decide +kernel
theorem dX7_versionOf_22 : decode cX7_versionOf 22 = .ok (.iadd, 1) := by decide +kernel
theorem dX7_versionOf_23 : decode cX7_versionOf 23 = .ok (.ireturn, 1) := by decide +kernel
theorem dX7_nodePart_0 : decode cX7_nodePart 0 = .ok (.aload_n 0, 1) := by decide +kernel
theorem dX7_nodePart_1 : decode cX7_nodePart 1 = .ok (.getfield 9, 3) := by decide +kernel
theorem dX7_nodePart_4 : decode cX7_nodePart 4 = .ok (.aload_n 0, 1) := by decide +kernel
theorem dX7_nodePart_5 : decode cX7_nodePart 5 = .ok (.iload_n 1, 1) := by decide +kernel
theorem dX7_nodePart_6 : decode cX7_nodePart 6 = .ok (.invokevirtual 166, 3) := by decide +kernel
theorem dX7_nodePart_9 : decode cX7_nodePart 9 = .ok (.iload_n 2, 1) := by decide +kernel
theorem dX7_nodePart_10 : decode cX7_nodePart 10 = .ok (.iload_n 3, 1) := by decide +kernel
theorem dX7_nodePart_11 : decode cX7_nodePart 11 = .ok (.invokestatic 67, 3) := by decide +kernel
theorem dX7_nodePart_14 : decode cX7_nodePart 14 = .ok (.iaload, 1) := by decide +kernel
theorem dX7_nodePart_15 : decode cX7_nodePart 15 = .ok (.ireturn, 1) := by decide +kernel
theorem dX7_isInstance_0 : decode cX7_isInstance 0 = .ok (.iload_n 1, 1) := by decide +kernel
theorem dX7_isInstance_1 : decode cX7_isInstance 1 = .ok (.iconst 0, 1) := by decide +kernel
theorem dX7_isInstance_2 : decode cX7_isInstance 2 = .ok (.iconst 5, 1) := by decide +kernel
theorem dX7_isInstance_3 : decode cX7_isInstance 3 = .ok (.invokestatic 38, 3) := by decide +kernel
theorem dX7_isInstance_6 : decode cX7_isInstance 6 = .ok (.ifCond .eq 21, 3) := by decide +kernel
theorem dX7_isInstance_9 : decode cX7_isInstance 9 = .ok (.aload_n 0, 1) := by decide +kernel
theorem dX7_isInstance_10 : decode cX7_isInstance 10 = .ok (.getfield 22, 3) := by decide +kernel
theorem dX7_isInstance_13 : decode cX7_isInstance 13 = .ok (.iload_n 1, 1) := by decide +kernel
theorem dX7_isInstance_14 : decode cX7_isInstance 14 = .ok (.iconst 0, 1) := by decide +kernel
theorem dX7_isInstance_15 : decode cX7_isInstance 15 = .ok (.invokestatic 163, 3) := by decide +kernel
theorem dX7_isInstance_18 : decode cX7_isInstance 18 = .ok (.iaload, 1) := by decide +kernel
theorem dX7_isInstance_19 : decode cX7_isInstance 19 = .ok (.iconst 1, 1) := by decide +kernel
theorem dX7_isInstance_20 : decode cX7_isInstance 20 = .ok (.if_icmp .ne 7, 3) := by decide +kernel
theorem dX7_isInstance_23 : decode cX7_isInstance 23 = .ok (.iconst 1, 1) := by decide +kernel
theorem dX7_isInstance_24 : decode cX7_isInstance 24 = .ok (.goto 4, 3) := by decide +kernel
theorem dX7_isInstance_27 : decode cX7_isInstance 27 = .ok (.iconst 0, 1) := by decide +kernel
theorem dX7_isInstance_28 : decode cX7_isInstance 28 = .ok (.ireturn, 1) := by decide +kernel
theorem dX7_notes_0 : decode cX7_notes 0 = .ok (.aload_n 0, 1) := by decide +kernel
theorem dX7_notes_1 : decode cX7_notes 1 = .ok (.getfield 22, 3) := by decide +kernel
theorem dX7_notes_4 : decode cX7_notes 4 = .ok (.iload_n 1, 1) := by decide +kernel
theorem dX7_notes_5 : decode cX7_notes 5 = .ok (.bipush 9, 2) := by decide +kernel
theorem dX7_notes_7 : decode cX7_notes 7 = .ok (.invokestatic 163, 3) := by decide +kernel
theorem dX7_notes_10 : decode cX7_notes 10 = .ok (.iaload, 1) := by decide +kernel
theorem dX7_notes_11 : decode cX7_notes 11 = .ok (.istore 4, 2) := by decide +kernel
theorem dX7_notes_13 : decode cX7_notes 13 = .ok (.iload 4, 2) := by decide +kernel
theorem dX7_notes_15 : decode cX7_notes 15 = .ok (.sipush 200, 3) := by decide +kernel
theorem dX7_notes_18 : decode cX7_notes 18 = .ok (.if_icmp .ge 63, 3) := by decide +kernel
theorem dX7_notes_21 : decode cX7_notes 21 = .ok (.aload_n 0, 1) := by decide +kernel
theorem dX7_notes_22 : decode cX7_notes 22 = .ok (.getfield 22, 3) := by decide +kernel
theorem dX7_notes_25 : decode cX7_notes 25 = .ok (.iload_n 1, 1) := by decide +kernel
theorem dX7_notes_26 : decode cX7_notes 26 = .ok (.bipush 22, 2) := by decide +kernel
theorem dX7_notes_28 : decode cX7_notes 28 = .ok (.iconst 3, 1) := by decide +kernel
theorem dX7_notes_29 : decode cX7_notes 29 = .ok (.iload 4, 2) := by decide +kernel
theorem dX7_notes_31 : decode cX7_notes 31 = .ok (.imul, 1) := by decide +kernel
theorem dX7_notes_32 : decode cX7_notes 32 = .ok (.iadd, 1) := by decide +kernel
theorem dX7_notes_33 : decode cX7_notes 33 = .ok (.invokestatic 163, 3) := by decide +kernel
theorem dX7_notes_36 : decode cX7_notes 36 = .ok (.aload_n 0, 1) := by decide +kernel
theorem dX7_notes_37 : decode cX7_notes 37 = .ok (.getfield 22, 3) := by decide +kernel
theorem dX7_notes_40 : decode cX7_notes 40 = .ok (.iconst 0, 1) := by decide +kernel
theorem dX7_notes_41 : decode cX7_notes 41 = .ok (.iaload, 1) := by decide +kernel
theorem dX7_notes_42 : decode cX7_notes 42 = .ok (.iastore, 1) := by decide +kernel
theorem dX7_notes_43 : decode cX7_notes 43 = .ok (.aload_n 0, 1) := by decide +kernel
theorem dX7_notes_44 : decode cX7_notes 44 = .ok (.getfield 22, 3) := by decide +kernel
theorem dX7_notes_47 : decode cX7_notes 47 = .ok (.iload_n 1, 1) := by decide +kernel
theorem dX7_notes_48 : decode cX7_notes 48 = .ok (.bipush 22, 2) := by decide +kernel
theorem dX7_notes_50 : decode cX7_notes 50 = .ok (.iconst 3, 1) := by decide +kernel
theorem dX7_notes_51 : decode cX7_notes 51 = .ok (.iload 4, 2) := by decide +kernel
theorem dX7_notes_53 : decode cX7_notes 53 = .ok (.imul, 1) := by decide +kernel
theorem dX7_notes_54 : decode cX7_notes 54 = .ok (.iadd, 1) := by decide +kernel
theorem dX7_notes_55 : decode cX7_notes 55 = .ok (.iconst 1, 1) := by decide +kernel
theorem dX7_notes_56 : decode cX7_notes 56 = .ok (.iadd, 1) := by decide +kernel
theorem dX7_notes_57 : decode cX7_notes 57 = .ok (.invokestatic 163, 3) := by decide +kernel
theorem dX7_notes_60 : decode cX7_notes 60 = .ok (.iload_n 2, 1) := by decide +kernel
theorem dX7_notes_61 : decode cX7_notes 61 = .ok (.iastore, 1) := by decide +kernel
theorem dX7_notes_62 : decode cX7_notes 62 = .ok (.aload_n 0, 1) := by decide +kernel
theorem dX7_notes_63 : decode cX7_notes 63 = .ok (.getfield 22, 3) := by decide +kernel
theorem dX7_notes_66 : decode cX7_notes 66 = .ok (.iload_n 1, 1) := by decide +kernel
theorem dX7_notes_67 : decode cX7_notes 67 = .ok (.bipush 22, 2) := by decide +kernel
theorem dX7_notes_69 : decode cX7_notes 69 = .ok (.iconst 3, 1) := by decide +kernel
theorem dX7_notes_70 : decode cX7_notes 70 = .ok (.iload 4, 2) := by decide +kernel
theorem dX7_notes_72 : decode cX7_notes 72 = .ok (.imul, 1) := by decide +kernel
theorem dX7_notes_73 : decode cX7_notes 73 = .ok (.iadd, 1) := by decide +kernel
theorem dX7_notes_74 : decode cX7_notes 74 = .ok (.iconst 2, 1) := by decide +kernel
theorem dX7_notes_75 : decode cX7_notes 75 = .ok (.iadd, 1) := by decide +kernel
theorem dX7_notes_76 : decode cX7_notes 76 = .ok (.invokestatic 163, 3) := by decide +kernel
theorem dX7_notes_79 : decode cX7_notes 79 = .ok (.iload_n 3, 1) := by decide +kernel
theorem dX7_notes_80 : decode cX7_notes 80 = .ok (.iastore, 1) := by decide +kernel
theorem dX7_notes_81 : decode cX7_notes 81 = .ok (.aload_n 0, 1) := by decide +kernel
theorem dX7_notes_82 : decode cX7_notes 82 = .ok (.getfield 22, 3) := by decide +kernel
theorem dX7_notes_85 : decode cX7_notes 85 = .ok (.iload_n 1, 1) := by decide +kernel
theorem dX7_notes_86 : decode cX7_notes 86 = .ok (.bipush 9, 2) := by decide +kernel
theorem dX7_notes_88 : decode cX7_notes 88 = .ok (.invokestatic 163, 3) := by decide +kernel
theorem dX7_notes_91 : decode cX7_notes 91 = .ok (.dup2, 1) := by decide +kernel
theorem dX7_notes_92 : decode cX7_notes 92 = .ok (.iaload, 1) := by decide +kernel
theorem dX7_notes_93 : decode cX7_notes 93 = .ok (.iconst 1, 1) := by decide +kernel
theorem dX7_notes_94 : decode cX7_notes 94 = .ok (.iadd, 1) := by decide +kernel
theorem dX7_notes_95 : decode cX7_notes 95 = .ok (.iastore, 1) := by decide +kernel
theorem dX7_notes_96 : decode cX7_notes 96 = .ok (.return_, 1) := by decide +kernel
theorem dX7_comesTo_0 : decode cX7_comesTo 0 = .ok (.aload_n 0, 1) := by decide +kernel
theorem dX7_comesTo_1 : decode cX7_comesTo 1 = .ok (.getfield 22, 3) := by decide +kernel
theorem dX7_comesTo_4 : decode cX7_comesTo 4 = .ok (.iload_n 1, 1) := by decide +kernel
theorem dX7_comesTo_5 : decode cX7_comesTo 5 = .ok (.iload_n 2, 1) := by decide +kernel
theorem dX7_comesTo_6 : decode cX7_comesTo 6 = .ok (.iconst 0, 1) := by decide +kernel
theorem dX7_comesTo_7 : decode cX7_comesTo 7 = .ok (.invokestatic 169, 3) := by decide +kernel
theorem dX7_comesTo_10 : decode cX7_comesTo 10 = .ok (.iload_n 3, 1) := by decide +kernel
theorem dX7_comesTo_11 : decode cX7_comesTo 11 = .ok (.iastore, 1) := by decide +kernel
theorem dX7_comesTo_12 : decode cX7_comesTo 12 = .ok (.iload_n 3, 1) := by decide +kernel
theorem dX7_comesTo_13 : decode cX7_comesTo 13 = .ok (.ireturn, 1) := by decide +kernel
theorem dX7_tries_0 : decode cX7_tries 0 = .ok (.aload_n 0, 1) := by decide +kernel
theorem dX7_tries_1 : decode cX7_tries 1 = .ok (.iload_n 1, 1) := by decide +kernel
theorem dX7_tries_2 : decode cX7_tries 2 = .ok (.iload_n 2, 1) := by decide +kernel
theorem dX7_tries_3 : decode cX7_tries 3 = .ok (.iconst 1, 1) := by decide +kernel
theorem dX7_tries_4 : decode cX7_tries 4 = .ok (.invokevirtual 171, 3) := by decide +kernel
theorem dX7_tries_7 : decode cX7_tries 7 = .ok (.istore_n 3, 1) := by decide +kernel
theorem dX7_tries_8 : decode cX7_tries 8 = .ok (.aload_n 0, 1) := by decide +kernel
theorem dX7_tries_9 : decode cX7_tries 9 = .ok (.iload_n 1, 1) := by decide +kernel
theorem dX7_tries_10 : decode cX7_tries 10 = .ok (.iconst 0, 1) := by decide +kernel
theorem dX7_tries_11 : decode cX7_tries 11 = .ok (.iload_n 3, 1) := by decide +kernel
theorem dX7_tries_12 : decode cX7_tries 12 = .ok (.invokevirtual 174, 3) := by decide +kernel
theorem dX7_tries_15 : decode cX7_tries 15 = .ok (.aload_n 0, 1) := by decide +kernel
theorem dX7_tries_16 : decode cX7_tries 16 = .ok (.getfield 22, 3) := by decide +kernel
theorem dX7_tries_19 : decode cX7_tries 19 = .ok (.iload_n 1, 1) := by decide +kernel
theorem dX7_tries_20 : decode cX7_tries 20 = .ok (.iload_n 2, 1) := by decide +kernel
theorem dX7_tries_21 : decode cX7_tries 21 = .ok (.iconst 2, 1) := by decide +kernel
theorem dX7_tries_22 : decode cX7_tries 22 = .ok (.invokestatic 169, 3) := by decide +kernel
theorem dX7_tries_25 : decode cX7_tries 25 = .ok (.dup2, 1) := by decide +kernel
theorem dX7_tries_26 : decode cX7_tries 26 = .ok (.iaload, 1) := by decide +kernel
theorem dX7_tries_27 : decode cX7_tries 27 = .ok (.iconst 1, 1) := by decide +kernel
theorem dX7_tries_28 : decode cX7_tries 28 = .ok (.iadd, 1) := by decide +kernel
theorem dX7_tries_29 : decode cX7_tries 29 = .ok (.iastore, 1) := by decide +kernel
theorem dX7_tries_30 : decode cX7_tries 30 = .ok (.aload_n 0, 1) := by decide +kernel
theorem dX7_tries_31 : decode cX7_tries 31 = .ok (.getfield 22, 3) := by decide +kernel
theorem dX7_tries_34 : decode cX7_tries 34 = .ok (.iload_n 1, 1) := by decide +kernel
theorem dX7_tries_35 : decode cX7_tries 35 = .ok (.iload_n 2, 1) := by decide +kernel
theorem dX7_tries_36 : decode cX7_tries 36 = .ok (.iconst 3, 1) := by decide +kernel
theorem dX7_tries_37 : decode cX7_tries 37 = .ok (.invokestatic 169, 3) := by decide +kernel
theorem dX7_tries_40 : decode cX7_tries 40 = .ok (.aload_n 0, 1) := by decide +kernel
theorem dX7_tries_41 : decode cX7_tries 41 = .ok (.getfield 22, 3) := by decide +kernel
theorem dX7_tries_44 : decode cX7_tries 44 = .ok (.iconst 0, 1) := by decide +kernel
theorem dX7_tries_45 : decode cX7_tries 45 = .ok (.iaload, 1) := by decide +kernel
theorem dX7_tries_46 : decode cX7_tries 46 = .ok (.aload_n 0, 1) := by decide +kernel
theorem dX7_tries_47 : decode cX7_tries 47 = .ok (.getfield 22, 3) := by decide +kernel
theorem dX7_tries_50 : decode cX7_tries 50 = .ok (.iconst 1, 1) := by decide +kernel
theorem dX7_tries_51 : decode cX7_tries 51 = .ok (.iload_n 3, 1) := by decide +kernel
theorem dX7_tries_52 : decode cX7_tries 52 = .ok (.iadd, 1) := by decide +kernel
theorem dX7_tries_53 : decode cX7_tries 53 = .ok (.iaload, 1) := by decide +kernel
theorem dX7_tries_54 : decode cX7_tries 54 = .ok (.iadd, 1) := by decide +kernel
theorem dX7_tries_55 : decode cX7_tries 55 = .ok (.iastore, 1) := by decide +kernel
theorem dX7_tries_56 : decode cX7_tries 56 = .ok (.return_, 1) := by decide +kernel
theorem dX7_looksAtTask_0 : decode cX7_looksAtTask 0 = .ok (.aload_n 0, 1) := by decide +kernel
theorem dX7_looksAtTask_1 : decode cX7_looksAtTask 1 = .ok (.iload_n 1, 1) := by decide +kernel
theorem dX7_looksAtTask_2 : decode cX7_looksAtTask 2 = .ok (.iload_n 2, 1) := by decide +kernel
theorem dX7_looksAtTask_3 : decode cX7_looksAtTask 3 = .ok (.iconst 1, 1) := by decide +kernel
theorem dX7_looksAtTask_4 : decode cX7_looksAtTask 4 = .ok (.invokevirtual 171, 3) := by decide +kernel
theorem dX7_looksAtTask_7 : decode cX7_looksAtTask 7 = .ok (.istore_n 3, 1) := by decide +kernel
theorem dX7_looksAtTask_8 : decode cX7_looksAtTask 8 = .ok (.aload_n 0, 1) := by decide +kernel
theorem dX7_looksAtTask_9 : decode cX7_looksAtTask 9 = .ok (.getfield 22, 3) := by decide +kernel
theorem dX7_looksAtTask_12 : decode cX7_looksAtTask 12 = .ok (.iload_n 1, 1) := by decide +kernel
theorem dX7_looksAtTask_13 : decode cX7_looksAtTask 13 = .ok (.iload_n 2, 1) := by decide +kernel
theorem dX7_looksAtTask_14 : decode cX7_looksAtTask 14 = .ok (.iconst 3, 1) := by decide +kernel
theorem dX7_looksAtTask_15 : decode cX7_looksAtTask 15 = .ok (.invokestatic 169, 3) := by decide +kernel
theorem dX7_looksAtTask_18 : decode cX7_looksAtTask 18 = .ok (.iaload, 1) := by decide +kernel
theorem dX7_looksAtTask_19 : decode cX7_looksAtTask 19 = .ok (.istore 4, 2) := by decide +kernel
theorem dX7_looksAtTask_21 : decode cX7_looksAtTask 21 = .ok (.iload 4, 2) := by decide +kernel
theorem dX7_looksAtTask_23 : decode cX7_looksAtTask 23 = .ok (.ifCond .ge 34, 3) := by decide +kernel
theorem dX7_looksAtTask_26 : decode cX7_looksAtTask 26 = .ok (.aload_n 0, 1) := by decide +kernel
theorem dX7_looksAtTask_27 : decode cX7_looksAtTask 27 = .ok (.getfield 22, 3) := by decide +kernel
theorem dX7_looksAtTask_30 : decode cX7_looksAtTask 30 = .ok (.iload_n 1, 1) := by decide +kernel
theorem dX7_looksAtTask_31 : decode cX7_looksAtTask 31 = .ok (.iload_n 2, 1) := by decide +kernel
theorem dX7_looksAtTask_32 : decode cX7_looksAtTask 32 = .ok (.iconst 4, 1) := by decide +kernel
theorem dX7_looksAtTask_33 : decode cX7_looksAtTask 33 = .ok (.invokestatic 169, 3) := by decide +kernel
theorem dX7_looksAtTask_36 : decode cX7_looksAtTask 36 = .ok (.iaload, 1) := by decide +kernel
theorem dX7_looksAtTask_37 : decode cX7_looksAtTask 37 = .ok (.aload_n 0, 1) := by decide +kernel
theorem dX7_looksAtTask_38 : decode cX7_looksAtTask 38 = .ok (.getfield 22, 3) := by decide +kernel
theorem dX7_looksAtTask_41 : decode cX7_looksAtTask 41 = .ok (.iconst 0, 1) := by decide +kernel
theorem dX7_looksAtTask_42 : decode cX7_looksAtTask 42 = .ok (.iaload, 1) := by decide +kernel
theorem dX7_looksAtTask_43 : decode cX7_looksAtTask 43 = .ok (.if_icmp .le 5, 3) := by decide +kernel
theorem dX7_looksAtTask_46 : decode cX7_looksAtTask 46 = .ok (.iconst 1, 1) := by decide +kernel
theorem dX7_looksAtTask_47 : decode cX7_looksAtTask 47 = .ok (.ireturn, 1) := by decide +kernel
theorem dX7_looksAtTask_48 : decode cX7_looksAtTask 48 = .ok (.aload_n 0, 1) := by decide +kernel
theorem dX7_looksAtTask_49 : decode cX7_looksAtTask 49 = .ok (.iload_n 1, 1) := by decide +kernel
theorem dX7_looksAtTask_50 : decode cX7_looksAtTask 50 = .ok (.iload_n 2, 1) := by decide +kernel
theorem dX7_looksAtTask_51 : decode cX7_looksAtTask 51 = .ok (.invokevirtual 177, 3) := by decide +kernel
theorem dX7_looksAtTask_54 : decode cX7_looksAtTask 54 = .ok (.goto (-46), 3) := by decide +kernel
theorem dX7_looksAtTask_57 : decode cX7_looksAtTask 57 = .ok (.iload 4, 2) := by decide +kernel
theorem dX7_looksAtTask_59 : decode cX7_looksAtTask 59 = .ok (.aload_n 0, 1) := by decide +kernel
theorem dX7_looksAtTask_60 : decode cX7_looksAtTask 60 = .ok (.getfield 22, 3) := by decide +kernel
theorem dX7_looksAtTask_63 : decode cX7_looksAtTask 63 = .ok (.iconst 0, 1) := by decide +kernel
theorem dX7_looksAtTask_64 : decode cX7_looksAtTask 64 = .ok (.iaload, 1) := by decide +kernel
theorem dX7_looksAtTask_65 : decode cX7_looksAtTask 65 = .ok (.if_icmp .le 5, 3) := by decide +kernel
theorem dX7_looksAtTask_68 : decode cX7_looksAtTask 68 = .ok (.iconst 1, 1) := by decide +kernel
theorem dX7_looksAtTask_69 : decode cX7_looksAtTask 69 = .ok (.ireturn, 1) := by decide +kernel
theorem dX7_looksAtTask_70 : decode cX7_looksAtTask 70 = .ok (.aload_n 0, 1) := by decide +kernel
theorem dX7_looksAtTask_71 : decode cX7_looksAtTask 71 = .ok (.iload_n 3, 1) := by decide +kernel
theorem dX7_looksAtTask_72 : decode cX7_looksAtTask 72 = .ok (.invokevirtual 181, 3) := by decide +kernel
theorem dX7_looksAtTask_75 : decode cX7_looksAtTask 75 = .ok (.ifCond .ne 55, 3) := by decide +kernel
theorem dX7_looksAtTask_78 : decode cX7_looksAtTask 78 = .ok (.aload_n 0, 1) := by decide +kernel
theorem dX7_looksAtTask_79 : decode cX7_looksAtTask 79 = .ok (.iload_n 1, 1) := by decide +kernel
theorem dX7_looksAtTask_80 : decode cX7_looksAtTask 80 = .ok (.iconst 2, 1) := by decide +kernel
theorem dX7_looksAtTask_81 : decode cX7_looksAtTask 81 = .ok (.iload_n 3, 1) := by decide +kernel
theorem dX7_looksAtTask_82 : decode cX7_looksAtTask 82 = .ok (.invokevirtual 174, 3) := by decide +kernel
theorem dX7_looksAtTask_85 : decode cX7_looksAtTask 85 = .ok (.aload_n 0, 1) := by decide +kernel
theorem dX7_looksAtTask_86 : decode cX7_looksAtTask 86 = .ok (.getfield 22, 3) := by decide +kernel
theorem dX7_looksAtTask_89 : decode cX7_looksAtTask 89 = .ok (.iload_n 1, 1) := by decide +kernel
theorem dX7_looksAtTask_90 : decode cX7_looksAtTask 90 = .ok (.bipush 6, 2) := by decide +kernel
theorem dX7_looksAtTask_92 : decode cX7_looksAtTask 92 = .ok (.invokestatic 163, 3) := by decide +kernel
theorem dX7_looksAtTask_95 : decode cX7_looksAtTask 95 = .ok (.dup2, 1) := by decide +kernel
theorem dX7_looksAtTask_96 : decode cX7_looksAtTask 96 = .ok (.iaload, 1) := by decide +kernel
theorem dX7_looksAtTask_97 : decode cX7_looksAtTask 97 = .ok (.iconst 1, 1) := by decide +kernel
theorem dX7_looksAtTask_98 : decode cX7_looksAtTask 98 = .ok (.iadd, 1) := by decide +kernel
theorem dX7_looksAtTask_99 : decode cX7_looksAtTask 99 = .ok (.iastore, 1) := by decide +kernel
theorem dX7_looksAtTask_100 : decode cX7_looksAtTask 100 = .ok (.aload_n 0, 1) := by decide +kernel
theorem dX7_looksAtTask_101 : decode cX7_looksAtTask 101 = .ok (.getfield 22, 3) := by decide +kernel
theorem dX7_looksAtTask_104 : decode cX7_looksAtTask 104 = .ok (.iload_n 1, 1) := by decide +kernel
theorem dX7_looksAtTask_105 : decode cX7_looksAtTask 105 = .ok (.iload_n 2, 1) := by decide +kernel
theorem dX7_looksAtTask_106 : decode cX7_looksAtTask 106 = .ok (.iconst 5, 1) := by decide +kernel
theorem dX7_looksAtTask_107 : decode cX7_looksAtTask 107 = .ok (.invokestatic 169, 3) := by decide +kernel
theorem dX7_looksAtTask_110 : decode cX7_looksAtTask 110 = .ok (.aload_n 0, 1) := by decide +kernel
theorem dX7_looksAtTask_111 : decode cX7_looksAtTask 111 = .ok (.getfield 22, 3) := by decide +kernel
theorem dX7_looksAtTask_114 : decode cX7_looksAtTask 114 = .ok (.iload_n 1, 1) := by decide +kernel
theorem dX7_looksAtTask_115 : decode cX7_looksAtTask 115 = .ok (.bipush 6, 2) := by decide +kernel
theorem dX7_looksAtTask_117 : decode cX7_looksAtTask 117 = .ok (.invokestatic 163, 3) := by decide +kernel
theorem dX7_looksAtTask_120 : decode cX7_looksAtTask 120 = .ok (.iaload, 1) := by decide +kernel
theorem dX7_looksAtTask_121 : decode cX7_looksAtTask 121 = .ok (.iastore, 1) := by decide +kernel
theorem dX7_looksAtTask_122 : decode cX7_looksAtTask 122 = .ok (.aload_n 0, 1) := by decide +kernel
theorem dX7_looksAtTask_123 : decode cX7_looksAtTask 123 = .ok (.iload_n 1, 1) := by decide +kernel
theorem dX7_looksAtTask_124 : decode cX7_looksAtTask 124 = .ok (.iload_n 2, 1) := by decide +kernel
theorem dX7_looksAtTask_125 : decode cX7_looksAtTask 125 = .ok (.iconst 2, 1) := by decide +kernel
theorem dX7_looksAtTask_126 : decode cX7_looksAtTask 126 = .ok (.invokevirtual 184, 3) := by decide +kernel
theorem dX7_looksAtTask_129 : decode cX7_looksAtTask 129 = .ok (.ireturn, 1) := by decide +kernel
theorem dX7_looksAtTask_130 : decode cX7_looksAtTask 130 = .ok (.aload_n 0, 1) := by decide +kernel
theorem dX7_looksAtTask_131 : decode cX7_looksAtTask 131 = .ok (.iload_n 1, 1) := by decide +kernel
theorem dX7_looksAtTask_132 : decode cX7_looksAtTask 132 = .ok (.iconst 1, 1) := by decide +kernel
theorem dX7_looksAtTask_133 : decode cX7_looksAtTask 133 = .ok (.iload_n 3, 1) := by decide +kernel
theorem dX7_looksAtTask_134 : decode cX7_looksAtTask 134 = .ok (.invokevirtual 174, 3) := by decide +kernel
theorem dX7_looksAtTask_137 : decode cX7_looksAtTask 137 = .ok (.aload_n 0, 1) := by decide +kernel
theorem dX7_looksAtTask_138 : decode cX7_looksAtTask 138 = .ok (.getfield 22, 3) := by decide +kernel
theorem dX7_looksAtTask_141 : decode cX7_looksAtTask 141 = .ok (.iload_n 1, 1) := by decide +kernel
theorem dX7_looksAtTask_142 : decode cX7_looksAtTask 142 = .ok (.iload_n 2, 1) := by decide +kernel
theorem dX7_looksAtTask_143 : decode cX7_looksAtTask 143 = .ok (.iconst 2, 1) := by decide +kernel
theorem dX7_looksAtTask_144 : decode cX7_looksAtTask 144 = .ok (.invokestatic 169, 3) := by decide +kernel
theorem dX7_looksAtTask_147 : decode cX7_looksAtTask 147 = .ok (.iaload, 1) := by decide +kernel
theorem dX7_looksAtTask_148 : decode cX7_looksAtTask 148 = .ok (.istore 5, 2) := by decide +kernel
theorem dX7_looksAtTask_150 : decode cX7_looksAtTask 150 = .ok (.iload 5, 2) := by decide +kernel
theorem dX7_looksAtTask_152 : decode cX7_looksAtTask 152 = .ok (.aload_n 0, 1) := by decide +kernel
theorem dX7_looksAtTask_153 : decode cX7_looksAtTask 153 = .ok (.iload_n 1, 1) := by decide +kernel
theorem dX7_looksAtTask_154 : decode cX7_looksAtTask 154 = .ok (.iload_n 2, 1) := by decide +kernel
theorem dX7_looksAtTask_155 : decode cX7_looksAtTask 155 = .ok (.iconst 2, 1) := by decide +kernel
theorem dX7_looksAtTask_156 : decode cX7_looksAtTask 156 = .ok (.invokevirtual 171, 3) := by decide +kernel
theorem dX7_looksAtTask_159 : decode cX7_looksAtTask 159 = .ok (.if_icmp .le 11, 3) := by decide +kernel
theorem dX7_looksAtTask_162 : decode cX7_looksAtTask 162 = .ok (.aload_n 0, 1) := by decide +kernel
theorem dX7_looksAtTask_163 : decode cX7_looksAtTask 163 = .ok (.iload_n 1, 1) := by decide +kernel
theorem dX7_looksAtTask_164 : decode cX7_looksAtTask 164 = .ok (.iload_n 2, 1) := by decide +kernel
theorem dX7_looksAtTask_165 : decode cX7_looksAtTask 165 = .ok (.iconst 3, 1) := by decide +kernel
theorem dX7_looksAtTask_166 : decode cX7_looksAtTask 166 = .ok (.invokevirtual 184, 3) := by decide +kernel
theorem dX7_looksAtTask_169 : decode cX7_looksAtTask 169 = .ok (.ireturn, 1) := by decide +kernel
theorem dX7_looksAtTask_170 : decode cX7_looksAtTask 170 = .ok (.aload_n 0, 1) := by decide +kernel
theorem dX7_looksAtTask_171 : decode cX7_looksAtTask 171 = .ok (.getfield 22, 3) := by decide +kernel
theorem dX7_looksAtTask_174 : decode cX7_looksAtTask 174 = .ok (.iload_n 1, 1) := by decide +kernel
theorem dX7_looksAtTask_175 : decode cX7_looksAtTask 175 = .ok (.iload_n 2, 1) := by decide +kernel
theorem dX7_looksAtTask_176 : decode cX7_looksAtTask 176 = .ok (.iconst 4, 1) := by decide +kernel
theorem dX7_looksAtTask_177 : decode cX7_looksAtTask 177 = .ok (.invokestatic 169, 3) := by decide +kernel
theorem dX7_looksAtTask_180 : decode cX7_looksAtTask 180 = .ok (.iload 4, 2) := by decide +kernel
theorem dX7_looksAtTask_182 : decode cX7_looksAtTask 182 = .ok (.aload_n 0, 1) := by decide +kernel
theorem dX7_looksAtTask_183 : decode cX7_looksAtTask 183 = .ok (.iload_n 1, 1) := by decide +kernel
theorem dX7_looksAtTask_184 : decode cX7_looksAtTask 184 = .ok (.iload_n 2, 1) := by decide +kernel
theorem dX7_looksAtTask_185 : decode cX7_looksAtTask 185 = .ok (.iconst 3, 1) := by decide +kernel
theorem dX7_looksAtTask_186 : decode cX7_looksAtTask 186 = .ok (.invokevirtual 171, 3) := by decide +kernel
theorem dX7_looksAtTask_189 : decode cX7_looksAtTask 189 = .ok (.iconst 1, 1) := by decide +kernel
theorem dX7_looksAtTask_190 : decode cX7_looksAtTask 190 = .ok (.iload 5, 2) := by decide +kernel
theorem dX7_looksAtTask_192 : decode cX7_looksAtTask 192 = .ok (.iconst 1, 1) := by decide +kernel
theorem dX7_looksAtTask_193 : decode cX7_looksAtTask 193 = .ok (.isub, 1) := by decide +kernel
theorem dX7_looksAtTask_194 : decode cX7_looksAtTask 194 = .ok (.ishl, 1) := by decide +kernel
theorem dX7_looksAtTask_195 : decode cX7_looksAtTask 195 = .ok (.imul, 1) := by decide +kernel
theorem dX7_looksAtTask_196 : decode cX7_looksAtTask 196 = .ok (.iadd, 1) := by decide +kernel
theorem dX7_looksAtTask_197 : decode cX7_looksAtTask 197 = .ok (.iastore, 1) := by decide +kernel
theorem dX7_looksAtTask_198 : decode cX7_looksAtTask 198 = .ok (.aload_n 0, 1) := by decide +kernel
theorem dX7_looksAtTask_199 : decode cX7_looksAtTask 199 = .ok (.getfield 22, 3) := by decide +kernel
theorem dX7_looksAtTask_202 : decode cX7_looksAtTask 202 = .ok (.iload_n 1, 1) := by decide +kernel
theorem dX7_looksAtTask_203 : decode cX7_looksAtTask 203 = .ok (.iload_n 2, 1) := by decide +kernel
theorem dX7_looksAtTask_204 : decode cX7_looksAtTask 204 = .ok (.iconst 3, 1) := by decide +kernel
theorem dX7_looksAtTask_205 : decode cX7_looksAtTask 205 = .ok (.invokestatic 169, 3) := by decide +kernel
theorem dX7_looksAtTask_208 : decode cX7_looksAtTask 208 = .ok (.iconst (-1), 1) := by decide +kernel
theorem dX7_looksAtTask_209 : decode cX7_looksAtTask 209 = .ok (.iastore, 1) := by decide +kernel
theorem dX7_looksAtTask_210 : decode cX7_looksAtTask 210 = .ok (.goto (-202), 3) := by decide +kernel
theorem dX7_looksAtSignal_0 : decode cX7_looksAtSignal 0 = .ok (.aload_n 0, 1) := by decide +kernel
theorem dX7_looksAtSignal_1 : decode cX7_looksAtSignal 1 = .ok (.iload_n 1, 1) := by decide +kernel
theorem dX7_looksAtSignal_2 : decode cX7_looksAtSignal 2 = .ok (.iload_n 2, 1) := by decide +kernel
theorem dX7_looksAtSignal_3 : decode cX7_looksAtSignal 3 = .ok (.iconst 1, 1) := by decide +kernel
theorem dX7_looksAtSignal_4 : decode cX7_looksAtSignal 4 = .ok (.invokevirtual 171, 3) := by decide +kernel
theorem dX7_looksAtSignal_7 : decode cX7_looksAtSignal 7 = .ok (.istore_n 3, 1) := by decide +kernel
theorem dX7_looksAtSignal_8 : decode cX7_looksAtSignal 8 = .ok (.aload_n 0, 1) := by decide +kernel
theorem dX7_looksAtSignal_9 : decode cX7_looksAtSignal 9 = .ok (.iload_n 1, 1) := by decide +kernel
theorem dX7_looksAtSignal_10 : decode cX7_looksAtSignal 10 = .ok (.iload_n 2, 1) := by decide +kernel
theorem dX7_looksAtSignal_11 : decode cX7_looksAtSignal 11 = .ok (.iconst 2, 1) := by decide +kernel
theorem dX7_looksAtSignal_12 : decode cX7_looksAtSignal 12 = .ok (.invokevirtual 171, 3) := by decide +kernel
theorem dX7_looksAtSignal_15 : decode cX7_looksAtSignal 15 = .ok (.istore 4, 2) := by decide +kernel
theorem dX7_looksAtSignal_17 : decode cX7_looksAtSignal 17 = .ok (.aload_n 0, 1) := by decide +kernel
theorem dX7_looksAtSignal_18 : decode cX7_looksAtSignal 18 = .ok (.getfield 22, 3) := by decide +kernel
theorem dX7_looksAtSignal_21 : decode cX7_looksAtSignal 21 = .ok (.iload_n 1, 1) := by decide +kernel
theorem dX7_looksAtSignal_22 : decode cX7_looksAtSignal 22 = .ok (.bipush 14, 2) := by decide +kernel
theorem dX7_looksAtSignal_24 : decode cX7_looksAtSignal 24 = .ok (.iload_n 3, 1) := by decide +kernel
theorem dX7_looksAtSignal_25 : decode cX7_looksAtSignal 25 = .ok (.iadd, 1) := by decide +kernel
theorem dX7_looksAtSignal_26 : decode cX7_looksAtSignal 26 = .ok (.invokestatic 163, 3) := by decide +kernel
theorem dX7_looksAtSignal_29 : decode cX7_looksAtSignal 29 = .ok (.iaload, 1) := by decide +kernel
theorem dX7_looksAtSignal_30 : decode cX7_looksAtSignal 30 = .ok (.ifCond .le 35, 3) := by decide +kernel
theorem dX7_looksAtSignal_33 : decode cX7_looksAtSignal 33 = .ok (.aload_n 0, 1) := by decide +kernel
theorem dX7_looksAtSignal_34 : decode cX7_looksAtSignal 34 = .ok (.getfield 22, 3) := by decide +kernel
theorem dX7_looksAtSignal_37 : decode cX7_looksAtSignal 37 = .ok (.iload_n 1, 1) := by decide +kernel
theorem dX7_looksAtSignal_38 : decode cX7_looksAtSignal 38 = .ok (.bipush 14, 2) := by decide +kernel
theorem dX7_looksAtSignal_40 : decode cX7_looksAtSignal 40 = .ok (.iload_n 3, 1) := by decide +kernel
theorem dX7_looksAtSignal_41 : decode cX7_looksAtSignal 41 = .ok (.iadd, 1) := by decide +kernel
theorem dX7_looksAtSignal_42 : decode cX7_looksAtSignal 42 = .ok (.invokestatic 163, 3) := by decide +kernel
theorem dX7_looksAtSignal_45 : decode cX7_looksAtSignal 45 = .ok (.dup2, 1) := by decide +kernel
theorem dX7_looksAtSignal_46 : decode cX7_looksAtSignal 46 = .ok (.iaload, 1) := by decide +kernel
theorem dX7_looksAtSignal_47 : decode cX7_looksAtSignal 47 = .ok (.iconst 1, 1) := by decide +kernel
theorem dX7_looksAtSignal_48 : decode cX7_looksAtSignal 48 = .ok (.isub, 1) := by decide +kernel
theorem dX7_looksAtSignal_49 : decode cX7_looksAtSignal 49 = .ok (.iastore, 1) := by decide +kernel
theorem dX7_looksAtSignal_50 : decode cX7_looksAtSignal 50 = .ok (.aload_n 0, 1) := by decide +kernel
theorem dX7_looksAtSignal_51 : decode cX7_looksAtSignal 51 = .ok (.iload_n 1, 1) := by decide +kernel
theorem dX7_looksAtSignal_52 : decode cX7_looksAtSignal 52 = .ok (.iconst 3, 1) := by decide +kernel
theorem dX7_looksAtSignal_53 : decode cX7_looksAtSignal 53 = .ok (.iload_n 3, 1) := by decide +kernel
theorem dX7_looksAtSignal_54 : decode cX7_looksAtSignal 54 = .ok (.invokevirtual 174, 3) := by decide +kernel
theorem dX7_looksAtSignal_57 : decode cX7_looksAtSignal 57 = .ok (.aload_n 0, 1) := by decide +kernel
theorem dX7_looksAtSignal_58 : decode cX7_looksAtSignal 58 = .ok (.iload_n 1, 1) := by decide +kernel
theorem dX7_looksAtSignal_59 : decode cX7_looksAtSignal 59 = .ok (.iload_n 2, 1) := by decide +kernel
theorem dX7_looksAtSignal_60 : decode cX7_looksAtSignal 60 = .ok (.iconst 2, 1) := by decide +kernel
theorem dX7_looksAtSignal_61 : decode cX7_looksAtSignal 61 = .ok (.invokevirtual 184, 3) := by decide +kernel
theorem dX7_looksAtSignal_64 : decode cX7_looksAtSignal 64 = .ok (.ireturn, 1) := by decide +kernel
theorem dX7_looksAtSignal_65 : decode cX7_looksAtSignal 65 = .ok (.iload 4, 2) := by decide +kernel
theorem dX7_looksAtSignal_67 : decode cX7_looksAtSignal 67 = .ok (.ifCond .lt 41, 3) := by decide +kernel
theorem dX7_looksAtSignal_70 : decode cX7_looksAtSignal 70 = .ok (.aload_n 0, 1) := by decide +kernel
theorem dX7_looksAtSignal_71 : decode cX7_looksAtSignal 71 = .ok (.getfield 22, 3) := by decide +kernel
theorem dX7_looksAtSignal_74 : decode cX7_looksAtSignal 74 = .ok (.iconst 0, 1) := by decide +kernel
theorem dX7_looksAtSignal_75 : decode cX7_looksAtSignal 75 = .ok (.iaload, 1) := by decide +kernel
theorem dX7_looksAtSignal_76 : decode cX7_looksAtSignal 76 = .ok (.aload_n 0, 1) := by decide +kernel
theorem dX7_looksAtSignal_77 : decode cX7_looksAtSignal 77 = .ok (.getfield 22, 3) := by decide +kernel
theorem dX7_looksAtSignal_80 : decode cX7_looksAtSignal 80 = .ok (.iload_n 1, 1) := by decide +kernel
theorem dX7_looksAtSignal_81 : decode cX7_looksAtSignal 81 = .ok (.iload_n 2, 1) := by decide +kernel
theorem dX7_looksAtSignal_82 : decode cX7_looksAtSignal 82 = .ok (.iconst 1, 1) := by decide +kernel
theorem dX7_looksAtSignal_83 : decode cX7_looksAtSignal 83 = .ok (.invokestatic 169, 3) := by decide +kernel
theorem dX7_looksAtSignal_86 : decode cX7_looksAtSignal 86 = .ok (.iaload, 1) := by decide +kernel
theorem dX7_looksAtSignal_87 : decode cX7_looksAtSignal 87 = .ok (.iload 4, 2) := by decide +kernel
theorem dX7_looksAtSignal_89 : decode cX7_looksAtSignal 89 = .ok (.iadd, 1) := by decide +kernel
theorem dX7_looksAtSignal_90 : decode cX7_looksAtSignal 90 = .ok (.if_icmp .lt 18, 3) := by decide +kernel
theorem dX7_looksAtSignal_93 : decode cX7_looksAtSignal 93 = .ok (.aload_n 0, 1) := by decide +kernel
theorem dX7_looksAtSignal_94 : decode cX7_looksAtSignal 94 = .ok (.iload_n 1, 1) := by decide +kernel
theorem dX7_looksAtSignal_95 : decode cX7_looksAtSignal 95 = .ok (.iconst 4, 1) := by decide +kernel
theorem dX7_looksAtSignal_96 : decode cX7_looksAtSignal 96 = .ok (.iload_n 3, 1) := by decide +kernel
theorem dX7_looksAtSignal_97 : decode cX7_looksAtSignal 97 = .ok (.invokevirtual 174, 3) := by decide +kernel
theorem dX7_looksAtSignal_100 : decode cX7_looksAtSignal 100 = .ok (.aload_n 0, 1) := by decide +kernel
theorem dX7_looksAtSignal_101 : decode cX7_looksAtSignal 101 = .ok (.iload_n 1, 1) := by decide +kernel
theorem dX7_looksAtSignal_102 : decode cX7_looksAtSignal 102 = .ok (.iload_n 2, 1) := by decide +kernel
theorem dX7_looksAtSignal_103 : decode cX7_looksAtSignal 103 = .ok (.iconst 3, 1) := by decide +kernel
theorem dX7_looksAtSignal_104 : decode cX7_looksAtSignal 104 = .ok (.invokevirtual 184, 3) := by decide +kernel
theorem dX7_looksAtSignal_107 : decode cX7_looksAtSignal 107 = .ok (.ireturn, 1) := by decide +kernel
theorem dX7_looksAtSignal_108 : decode cX7_looksAtSignal 108 = .ok (.iconst 1, 1) := by decide +kernel
theorem dX7_looksAtSignal_109 : decode cX7_looksAtSignal 109 = .ok (.ireturn, 1) := by decide +kernel
theorem dX7_sets_0 : decode cX7_sets 0 = .ok (.aload_n 0, 1) := by decide +kernel
theorem dX7_sets_1 : decode cX7_sets 1 = .ok (.iload_n 1, 1) := by decide +kernel
theorem dX7_sets_2 : decode cX7_sets 2 = .ok (.iload_n 2, 1) := by decide +kernel
theorem dX7_sets_3 : decode cX7_sets 3 = .ok (.iconst 1, 1) := by decide +kernel
theorem dX7_sets_4 : decode cX7_sets 4 = .ok (.invokevirtual 171, 3) := by decide +kernel
theorem dX7_sets_7 : decode cX7_sets 7 = .ok (.istore_n 3, 1) := by decide +kernel
theorem dX7_sets_8 : decode cX7_sets 8 = .ok (.aload_n 0, 1) := by decide +kernel
theorem dX7_sets_9 : decode cX7_sets 9 = .ok (.iload_n 1, 1) := by decide +kernel
theorem dX7_sets_10 : decode cX7_sets 10 = .ok (.iload_n 2, 1) := by decide +kernel
theorem dX7_sets_11 : decode cX7_sets 11 = .ok (.iconst 3, 1) := by decide +kernel
theorem dX7_sets_12 : decode cX7_sets 12 = .ok (.invokevirtual 171, 3) := by decide +kernel
theorem dX7_sets_15 : decode cX7_sets 15 = .ok (.istore 4, 2) := by decide +kernel
theorem dX7_sets_17 : decode cX7_sets 17 = .ok (.iload_n 1, 1) := by decide +kernel
theorem dX7_sets_18 : decode cX7_sets 18 = .ok (.bipush 10, 2) := by decide +kernel
theorem dX7_sets_20 : decode cX7_sets 20 = .ok (.iload_n 3, 1) := by decide +kernel
theorem dX7_sets_21 : decode cX7_sets 21 = .ok (.iadd, 1) := by decide +kernel
theorem dX7_sets_22 : decode cX7_sets 22 = .ok (.invokestatic 163, 3) := by decide +kernel
theorem dX7_sets_25 : decode cX7_sets 25 = .ok (.istore 5, 2) := by decide +kernel
theorem dX7_sets_27 : decode cX7_sets 27 = .ok (.aload_n 0, 1) := by decide +kernel
theorem dX7_sets_28 : decode cX7_sets 28 = .ok (.getfield 22, 3) := by decide +kernel
theorem dX7_sets_31 : decode cX7_sets 31 = .ok (.iload 5, 2) := by decide +kernel
theorem dX7_sets_33 : decode cX7_sets 33 = .ok (.aload_n 0, 1) := by decide +kernel
theorem dX7_sets_34 : decode cX7_sets 34 = .ok (.iload_n 1, 1) := by decide +kernel
theorem dX7_sets_35 : decode cX7_sets 35 = .ok (.iload_n 2, 1) := by decide +kernel
theorem dX7_sets_36 : decode cX7_sets 36 = .ok (.iconst 2, 1) := by decide +kernel
theorem dX7_sets_37 : decode cX7_sets 37 = .ok (.invokevirtual 171, 3) := by decide +kernel
theorem dX7_sets_40 : decode cX7_sets 40 = .ok (.iconst 1, 1) := by decide +kernel
theorem dX7_sets_41 : decode cX7_sets 41 = .ok (.if_icmp .ne 16, 3) := by decide +kernel
theorem dX7_sets_44 : decode cX7_sets 44 = .ok (.aload_n 0, 1) := by decide +kernel
theorem dX7_sets_45 : decode cX7_sets 45 = .ok (.getfield 22, 3) := by decide +kernel
theorem dX7_sets_48 : decode cX7_sets 48 = .ok (.iload 5, 2) := by decide +kernel
theorem dX7_sets_50 : decode cX7_sets 50 = .ok (.iaload, 1) := by decide +kernel
theorem dX7_sets_51 : decode cX7_sets 51 = .ok (.iload 4, 2) := by decide +kernel
theorem dX7_sets_53 : decode cX7_sets 53 = .ok (.iadd, 1) := by decide +kernel
theorem dX7_sets_54 : decode cX7_sets 54 = .ok (.goto 5, 3) := by decide +kernel
theorem dX7_sets_57 : decode cX7_sets 57 = .ok (.iload 4, 2) := by decide +kernel
theorem dX7_sets_59 : decode cX7_sets 59 = .ok (.iastore, 1) := by decide +kernel
theorem dX7_sets_60 : decode cX7_sets 60 = .ok (.aload_n 0, 1) := by decide +kernel
theorem dX7_sets_61 : decode cX7_sets 61 = .ok (.iload_n 1, 1) := by decide +kernel
theorem dX7_sets_62 : decode cX7_sets 62 = .ok (.bipush 8, 2) := by decide +kernel
theorem dX7_sets_64 : decode cX7_sets 64 = .ok (.iload_n 3, 1) := by decide +kernel
theorem dX7_sets_65 : decode cX7_sets 65 = .ok (.invokevirtual 174, 3) := by decide +kernel
theorem dX7_sets_68 : decode cX7_sets 68 = .ok (.aload_n 0, 1) := by decide +kernel
theorem dX7_sets_69 : decode cX7_sets 69 = .ok (.iload_n 1, 1) := by decide +kernel
theorem dX7_sets_70 : decode cX7_sets 70 = .ok (.iload_n 2, 1) := by decide +kernel
theorem dX7_sets_71 : decode cX7_sets 71 = .ok (.iconst 2, 1) := by decide +kernel
theorem dX7_sets_72 : decode cX7_sets 72 = .ok (.invokevirtual 184, 3) := by decide +kernel
theorem dX7_sets_75 : decode cX7_sets 75 = .ok (.ireturn, 1) := by decide +kernel
theorem dX7_looks_0 : decode cX7_looks 0 = .ok (.aload_n 0, 1) := by decide +kernel
theorem dX7_looks_1 : decode cX7_looks 1 = .ok (.iload_n 1, 1) := by decide +kernel
theorem dX7_looks_2 : decode cX7_looks 2 = .ok (.iload_n 2, 1) := by decide +kernel
theorem dX7_looks_3 : decode cX7_looks 3 = .ok (.iconst 0, 1) := by decide +kernel
theorem dX7_looks_4 : decode cX7_looks 4 = .ok (.invokevirtual 171, 3) := by decide +kernel
theorem dX7_looks_7 : decode cX7_looks 7 = .ok (.tableswitch 117 1 5 #[33, 40, 80, 87, 94], 33) := by decide +kernel
theorem dX7_looks_40 : decode cX7_looks 40 = .ok (.aload_n 0, 1) := by decide +kernel
theorem dX7_looks_41 : decode cX7_looks 41 = .ok (.iload_n 1, 1) := by decide +kernel
theorem dX7_looks_42 : decode cX7_looks 42 = .ok (.iload_n 2, 1) := by decide +kernel
theorem dX7_looks_43 : decode cX7_looks 43 = .ok (.invokevirtual 187, 3) := by decide +kernel
theorem dX7_looks_46 : decode cX7_looks 46 = .ok (.ireturn, 1) := by decide +kernel
theorem dX7_looks_47 : decode cX7_looks 47 = .ok (.aload_n 0, 1) := by decide +kernel
theorem dX7_looks_48 : decode cX7_looks 48 = .ok (.getfield 22, 3) := by decide +kernel
theorem dX7_looks_51 : decode cX7_looks 51 = .ok (.iconst 0, 1) := by decide +kernel
theorem dX7_looks_52 : decode cX7_looks 52 = .ok (.iaload, 1) := by decide +kernel
theorem dX7_looks_53 : decode cX7_looks 53 = .ok (.aload_n 0, 1) := by decide +kernel
theorem dX7_looks_54 : decode cX7_looks 54 = .ok (.getfield 22, 3) := by decide +kernel
theorem dX7_looks_57 : decode cX7_looks 57 = .ok (.iload_n 1, 1) := by decide +kernel
theorem dX7_looks_58 : decode cX7_looks 58 = .ok (.iload_n 2, 1) := by decide +kernel
theorem dX7_looks_59 : decode cX7_looks 59 = .ok (.iconst 1, 1) := by decide +kernel
theorem dX7_looks_60 : decode cX7_looks 60 = .ok (.invokestatic 169, 3) := by decide +kernel
theorem dX7_looks_63 : decode cX7_looks 63 = .ok (.iaload, 1) := by decide +kernel
theorem dX7_looks_64 : decode cX7_looks 64 = .ok (.aload_n 0, 1) := by decide +kernel
theorem dX7_looks_65 : decode cX7_looks 65 = .ok (.iload_n 1, 1) := by decide +kernel
theorem dX7_looks_66 : decode cX7_looks 66 = .ok (.iload_n 2, 1) := by decide +kernel
theorem dX7_looks_67 : decode cX7_looks 67 = .ok (.iconst 1, 1) := by decide +kernel
theorem dX7_looks_68 : decode cX7_looks 68 = .ok (.invokevirtual 171, 3) := by decide +kernel
theorem dX7_looks_71 : decode cX7_looks 71 = .ok (.iadd, 1) := by decide +kernel
theorem dX7_looks_72 : decode cX7_looks 72 = .ok (.if_icmp .lt 13, 3) := by decide +kernel
theorem dX7_looks_75 : decode cX7_looks 75 = .ok (.aload_n 0, 1) := by decide +kernel
theorem dX7_looks_76 : decode cX7_looks 76 = .ok (.iload_n 1, 1) := by decide +kernel
theorem dX7_looks_77 : decode cX7_looks 77 = .ok (.iload_n 2, 1) := by decide +kernel
theorem dX7_looks_78 : decode cX7_looks 78 = .ok (.iconst 2, 1) := by decide +kernel
theorem dX7_looks_79 : decode cX7_looks 79 = .ok (.invokevirtual 184, 3) := by decide +kernel
theorem dX7_looks_82 : decode cX7_looks 82 = .ok (.goto 4, 3) := by decide +kernel
theorem dX7_looks_85 : decode cX7_looks 85 = .ok (.iconst 1, 1) := by decide +kernel
theorem dX7_looks_86 : decode cX7_looks 86 = .ok (.ireturn, 1) := by decide +kernel
theorem dX7_looks_87 : decode cX7_looks 87 = .ok (.aload_n 0, 1) := by decide +kernel
theorem dX7_looks_88 : decode cX7_looks 88 = .ok (.iload_n 1, 1) := by decide +kernel
theorem dX7_looks_89 : decode cX7_looks 89 = .ok (.iload_n 2, 1) := by decide +kernel
theorem dX7_looks_90 : decode cX7_looks 90 = .ok (.invokevirtual 190, 3) := by decide +kernel
theorem dX7_looks_93 : decode cX7_looks 93 = .ok (.ireturn, 1) := by decide +kernel
theorem dX7_looks_94 : decode cX7_looks 94 = .ok (.aload_n 0, 1) := by decide +kernel
theorem dX7_looks_95 : decode cX7_looks 95 = .ok (.iload_n 1, 1) := by decide +kernel
theorem dX7_looks_96 : decode cX7_looks 96 = .ok (.iload_n 2, 1) := by decide +kernel
theorem dX7_looks_97 : decode cX7_looks 97 = .ok (.invokevirtual 193, 3) := by decide +kernel
theorem dX7_looks_100 : decode cX7_looks 100 = .ok (.ireturn, 1) := by decide +kernel
theorem dX7_looks_101 : decode cX7_looks 101 = .ok (.aload_n 0, 1) := by decide +kernel
theorem dX7_looks_102 : decode cX7_looks 102 = .ok (.iload_n 1, 1) := by decide +kernel
theorem dX7_looks_103 : decode cX7_looks 103 = .ok (.iload_n 2, 1) := by decide +kernel
theorem dX7_looks_104 : decode cX7_looks 104 = .ok (.aload_n 0, 1) := by decide +kernel
theorem dX7_looks_105 : decode cX7_looks 105 = .ok (.iload_n 1, 1) := by decide +kernel
theorem dX7_looks_106 : decode cX7_looks 106 = .ok (.aload_n 0, 1) := by decide +kernel
theorem dX7_looks_107 : decode cX7_looks 107 = .ok (.getfield 22, 3) := by decide +kernel
theorem dX7_looks_110 : decode cX7_looks 110 = .ok (.iload_n 1, 1) := by decide +kernel
theorem dX7_looks_111 : decode cX7_looks 111 = .ok (.iload_n 2, 1) := by decide +kernel
theorem dX7_looks_112 : decode cX7_looks 112 = .ok (.iconst 2, 1) := by decide +kernel
theorem dX7_looks_113 : decode cX7_looks 113 = .ok (.invokestatic 169, 3) := by decide +kernel
theorem dX7_looks_116 : decode cX7_looks 116 = .ok (.iaload, 1) := by decide +kernel
theorem dX7_looks_117 : decode cX7_looks 117 = .ok (.invokevirtual 196, 3) := by decide +kernel
theorem dX7_looks_120 : decode cX7_looks 120 = .ok (.invokevirtual 184, 3) := by decide +kernel
theorem dX7_looks_123 : decode cX7_looks 123 = .ok (.ireturn, 1) := by decide +kernel
theorem dX7_looks_124 : decode cX7_looks 124 = .ok (.aload_n 0, 1) := by decide +kernel
theorem dX7_looks_125 : decode cX7_looks 125 = .ok (.iload_n 1, 1) := by decide +kernel
theorem dX7_looks_126 : decode cX7_looks 126 = .ok (.iload_n 2, 1) := by decide +kernel
theorem dX7_looks_127 : decode cX7_looks 127 = .ok (.invokevirtual 199, 3) := by decide +kernel
theorem dX7_looks_130 : decode cX7_looks 130 = .ok (.ireturn, 1) := by decide +kernel
theorem dX7_begins_0 : decode cX7_begins 0 = .ok (.aload_n 0, 1) := by decide +kernel
theorem dX7_begins_1 : decode cX7_begins 1 = .ok (.getfield 22, 3) := by decide +kernel
theorem dX7_begins_4 : decode cX7_begins 4 = .ok (.iload_n 1, 1) := by decide +kernel
theorem dX7_begins_5 : decode cX7_begins 5 = .ok (.iload_n 2, 1) := by decide +kernel
theorem dX7_begins_6 : decode cX7_begins 6 = .ok (.iconst 0, 1) := by decide +kernel
theorem dX7_begins_7 : decode cX7_begins 7 = .ok (.invokestatic 169, 3) := by decide +kernel
theorem dX7_begins_10 : decode cX7_begins 10 = .ok (.iconst 1, 1) := by decide +kernel
theorem dX7_begins_11 : decode cX7_begins 11 = .ok (.iastore, 1) := by decide +kernel
theorem dX7_begins_12 : decode cX7_begins 12 = .ok (.aload_n 0, 1) := by decide +kernel
theorem dX7_begins_13 : decode cX7_begins 13 = .ok (.getfield 22, 3) := by decide +kernel
theorem dX7_begins_16 : decode cX7_begins 16 = .ok (.iload_n 1, 1) := by decide +kernel
theorem dX7_begins_17 : decode cX7_begins 17 = .ok (.iload_n 2, 1) := by decide +kernel
theorem dX7_begins_18 : decode cX7_begins 18 = .ok (.iconst 1, 1) := by decide +kernel
theorem dX7_begins_19 : decode cX7_begins 19 = .ok (.invokestatic 169, 3) := by decide +kernel
theorem dX7_begins_22 : decode cX7_begins 22 = .ok (.aload_n 0, 1) := by decide +kernel
theorem dX7_begins_23 : decode cX7_begins 23 = .ok (.getfield 22, 3) := by decide +kernel
theorem dX7_begins_26 : decode cX7_begins 26 = .ok (.iconst 0, 1) := by decide +kernel
theorem dX7_begins_27 : decode cX7_begins 27 = .ok (.iaload, 1) := by decide +kernel
theorem dX7_begins_28 : decode cX7_begins 28 = .ok (.iastore, 1) := by decide +kernel
theorem dX7_begins_29 : decode cX7_begins 29 = .ok (.aload_n 0, 1) := by decide +kernel
theorem dX7_begins_30 : decode cX7_begins 30 = .ok (.iload_n 1, 1) := by decide +kernel
theorem dX7_begins_31 : decode cX7_begins 31 = .ok (.iload_n 2, 1) := by decide +kernel
theorem dX7_begins_32 : decode cX7_begins 32 = .ok (.iconst 0, 1) := by decide +kernel
theorem dX7_begins_33 : decode cX7_begins 33 = .ok (.invokevirtual 171, 3) := by decide +kernel
theorem dX7_begins_36 : decode cX7_begins 36 = .ok (.istore_n 3, 1) := by decide +kernel
theorem dX7_begins_37 : decode cX7_begins 37 = .ok (.iload_n 3, 1) := by decide +kernel
theorem dX7_begins_38 : decode cX7_begins 38 = .ok (.iconst 1, 1) := by decide +kernel
theorem dX7_begins_39 : decode cX7_begins 39 = .ok (.if_icmp .ne 9, 3) := by decide +kernel
theorem dX7_begins_42 : decode cX7_begins 42 = .ok (.aload_n 0, 1) := by decide +kernel
theorem dX7_begins_43 : decode cX7_begins 43 = .ok (.iload_n 1, 1) := by decide +kernel
theorem dX7_begins_44 : decode cX7_begins 44 = .ok (.iload_n 2, 1) := by decide +kernel
theorem dX7_begins_45 : decode cX7_begins 45 = .ok (.invokevirtual 177, 3) := by decide +kernel
theorem dX7_begins_48 : decode cX7_begins 48 = .ok (.iload_n 3, 1) := by decide +kernel
theorem dX7_begins_49 : decode cX7_begins 49 = .ok (.iconst 5, 1) := by decide +kernel
theorem dX7_begins_50 : decode cX7_begins 50 = .ok (.if_icmp .ne 78, 3) := by decide +kernel
theorem dX7_begins_53 : decode cX7_begins 53 = .ok (.aload_n 0, 1) := by decide +kernel
theorem dX7_begins_54 : decode cX7_begins 54 = .ok (.iload_n 1, 1) := by decide +kernel
theorem dX7_begins_55 : decode cX7_begins 55 = .ok (.iload_n 2, 1) := by decide +kernel
theorem dX7_begins_56 : decode cX7_begins 56 = .ok (.iconst 5, 1) := by decide +kernel
theorem dX7_begins_57 : decode cX7_begins 57 = .ok (.invokevirtual 171, 3) := by decide +kernel
theorem dX7_begins_60 : decode cX7_begins 60 = .ok (.istore 4, 2) := by decide +kernel
theorem dX7_begins_62 : decode cX7_begins 62 = .ok (.aload_n 0, 1) := by decide +kernel
theorem dX7_begins_63 : decode cX7_begins 63 = .ok (.getfield 22, 3) := by decide +kernel
theorem dX7_begins_66 : decode cX7_begins 66 = .ok (.iload_n 1, 1) := by decide +kernel
theorem dX7_begins_67 : decode cX7_begins 67 = .ok (.bipush 10, 2) := by decide +kernel
theorem dX7_begins_69 : decode cX7_begins 69 = .ok (.aload_n 0, 1) := by decide +kernel
theorem dX7_begins_70 : decode cX7_begins 70 = .ok (.iload_n 1, 1) := by decide +kernel
theorem dX7_begins_71 : decode cX7_begins 71 = .ok (.iload_n 2, 1) := by decide +kernel
theorem dX7_begins_72 : decode cX7_begins 72 = .ok (.iconst 1, 1) := by decide +kernel
theorem dX7_begins_73 : decode cX7_begins 73 = .ok (.invokevirtual 171, 3) := by decide +kernel
theorem dX7_begins_76 : decode cX7_begins 76 = .ok (.iadd, 1) := by decide +kernel
theorem dX7_begins_77 : decode cX7_begins 77 = .ok (.invokestatic 163, 3) := by decide +kernel
theorem dX7_begins_80 : decode cX7_begins 80 = .ok (.iaload, 1) := by decide +kernel
theorem dX7_begins_81 : decode cX7_begins 81 = .ok (.aload_n 0, 1) := by decide +kernel
theorem dX7_begins_82 : decode cX7_begins 82 = .ok (.iload_n 1, 1) := by decide +kernel
theorem dX7_begins_83 : decode cX7_begins 83 = .ok (.iload_n 2, 1) := by decide +kernel
theorem dX7_begins_84 : decode cX7_begins 84 = .ok (.iconst 2, 1) := by decide +kernel
theorem dX7_begins_85 : decode cX7_begins 85 = .ok (.invokevirtual 171, 3) := by decide +kernel
theorem dX7_begins_88 : decode cX7_begins 88 = .ok (.if_icmp .ge 7, 3) := by decide +kernel
theorem dX7_begins_91 : decode cX7_begins 91 = .ok (.iconst 1, 1) := by decide +kernel
theorem dX7_begins_92 : decode cX7_begins 92 = .ok (.goto 4, 3) := by decide +kernel
theorem dX7_begins_95 : decode cX7_begins 95 = .ok (.iconst 0, 1) := by decide +kernel
theorem dX7_begins_96 : decode cX7_begins 96 = .ok (.istore 5, 2) := by decide +kernel
theorem dX7_begins_98 : decode cX7_begins 98 = .ok (.aload_n 0, 1) := by decide +kernel
theorem dX7_begins_99 : decode cX7_begins 99 = .ok (.getfield 22, 3) := by decide +kernel
theorem dX7_begins_102 : decode cX7_begins 102 = .ok (.iload_n 1, 1) := by decide +kernel
theorem dX7_begins_103 : decode cX7_begins 103 = .ok (.iload_n 2, 1) := by decide +kernel
theorem dX7_begins_104 : decode cX7_begins 104 = .ok (.iconst 2, 1) := by decide +kernel
theorem dX7_begins_105 : decode cX7_begins 105 = .ok (.invokestatic 169, 3) := by decide +kernel
theorem dX7_begins_108 : decode cX7_begins 108 = .ok (.iload 5, 2) := by decide +kernel
theorem dX7_begins_110 : decode cX7_begins 110 = .ok (.ifCond .eq 8, 3) := by decide +kernel
theorem dX7_begins_113 : decode cX7_begins 113 = .ok (.iload 4, 2) := by decide +kernel
theorem dX7_begins_115 : decode cX7_begins 115 = .ok (.goto 12, 3) := by decide +kernel
theorem dX7_begins_118 : decode cX7_begins 118 = .ok (.aload_n 0, 1) := by decide +kernel
theorem dX7_begins_119 : decode cX7_begins 119 = .ok (.iload_n 1, 1) := by decide +kernel
theorem dX7_begins_120 : decode cX7_begins 120 = .ok (.iload 4, 2) := by decide +kernel
theorem dX7_begins_122 : decode cX7_begins 122 = .ok (.bipush 6, 2) := by decide +kernel
theorem dX7_begins_124 : decode cX7_begins 124 = .ok (.invokevirtual 171, 3) := by decide +kernel
theorem dX7_begins_127 : decode cX7_begins 127 = .ok (.iastore, 1) := by decide +kernel
theorem dX7_begins_128 : decode cX7_begins 128 = .ok (.iload_n 3, 1) := by decide +kernel
theorem dX7_begins_129 : decode cX7_begins 129 = .ok (.bipush 6, 2) := by decide +kernel
theorem dX7_begins_131 : decode cX7_begins 131 = .ok (.if_icmp .ne 40, 3) := by decide +kernel
theorem dX7_begins_134 : decode cX7_begins 134 = .ok (.aload_n 0, 1) := by decide +kernel
theorem dX7_begins_135 : decode cX7_begins 135 = .ok (.iload_n 1, 1) := by decide +kernel
theorem dX7_begins_136 : decode cX7_begins 136 = .ok (.iload_n 2, 1) := by decide +kernel
theorem dX7_begins_137 : decode cX7_begins 137 = .ok (.iconst 5, 1) := by decide +kernel
theorem dX7_begins_138 : decode cX7_begins 138 = .ok (.invokevirtual 171, 3) := by decide +kernel
theorem dX7_begins_141 : decode cX7_begins 141 = .ok (.istore 4, 2) := by decide +kernel
theorem dX7_begins_143 : decode cX7_begins 143 = .ok (.iload 4, 2) := by decide +kernel
theorem dX7_begins_145 : decode cX7_begins 145 = .ok (.ifCond .lt 26, 3) := by decide +kernel
theorem dX7_begins_148 : decode cX7_begins 148 = .ok (.aload_n 0, 1) := by decide +kernel
theorem dX7_begins_149 : decode cX7_begins 149 = .ok (.iload_n 1, 1) := by decide +kernel
theorem dX7_begins_150 : decode cX7_begins 150 = .ok (.iload 4, 2) := by decide +kernel
theorem dX7_begins_152 : decode cX7_begins 152 = .ok (.invokevirtual 196, 3) := by decide +kernel
theorem dX7_begins_155 : decode cX7_begins 155 = .ok (.istore 5, 2) := by decide +kernel
theorem dX7_begins_157 : decode cX7_begins 157 = .ok (.aload_n 0, 1) := by decide +kernel
theorem dX7_begins_158 : decode cX7_begins 158 = .ok (.iload_n 1, 1) := by decide +kernel
theorem dX7_begins_159 : decode cX7_begins 159 = .ok (.iload 4, 2) := by decide +kernel
theorem dX7_begins_161 : decode cX7_begins 161 = .ok (.bipush 6, 2) := by decide +kernel
theorem dX7_begins_163 : decode cX7_begins 163 = .ok (.invokevirtual 171, 3) := by decide +kernel
theorem dX7_begins_166 : decode cX7_begins 166 = .ok (.istore 4, 2) := by decide +kernel
theorem dX7_begins_168 : decode cX7_begins 168 = .ok (.goto (-25), 3) := by decide +kernel
theorem dX7_begins_171 : decode cX7_begins 171 = .ok (.aload_n 0, 1) := by decide +kernel
theorem dX7_begins_172 : decode cX7_begins 172 = .ok (.iload_n 1, 1) := by decide +kernel
theorem dX7_begins_173 : decode cX7_begins 173 = .ok (.iload_n 2, 1) := by decide +kernel
theorem dX7_begins_174 : decode cX7_begins 174 = .ok (.invokevirtual 202, 3) := by decide +kernel
theorem dX7_begins_177 : decode cX7_begins 177 = .ok (.ireturn, 1) := by decide +kernel
theorem dX7_looksAtBody_0 : decode cX7_looksAtBody 0 = .ok (.aload_n 0, 1) := by decide +kernel
theorem dX7_looksAtBody_1 : decode cX7_looksAtBody 1 = .ok (.getfield 22, 3) := by decide +kernel
theorem dX7_looksAtBody_4 : decode cX7_looksAtBody 4 = .ok (.iload_n 1, 1) := by decide +kernel
theorem dX7_looksAtBody_5 : decode cX7_looksAtBody 5 = .ok (.iload_n 2, 1) := by decide +kernel
theorem dX7_looksAtBody_6 : decode cX7_looksAtBody 6 = .ok (.iconst 0, 1) := by decide +kernel
theorem dX7_looksAtBody_7 : decode cX7_looksAtBody 7 = .ok (.invokestatic 169, 3) := by decide +kernel
theorem dX7_looksAtBody_10 : decode cX7_looksAtBody 10 = .ok (.iconst 1, 1) := by decide +kernel
theorem dX7_looksAtBody_11 : decode cX7_looksAtBody 11 = .ok (.iastore, 1) := by decide +kernel
theorem dX7_looksAtBody_12 : decode cX7_looksAtBody 12 = .ok (.aload_n 0, 1) := by decide +kernel
theorem dX7_looksAtBody_13 : decode cX7_looksAtBody 13 = .ok (.iload_n 1, 1) := by decide +kernel
theorem dX7_looksAtBody_14 : decode cX7_looksAtBody 14 = .ok (.iload_n 2, 1) := by decide +kernel
theorem dX7_looksAtBody_15 : decode cX7_looksAtBody 15 = .ok (.iconst 5, 1) := by decide +kernel
theorem dX7_looksAtBody_16 : decode cX7_looksAtBody 16 = .ok (.invokevirtual 171, 3) := by decide +kernel
theorem dX7_looksAtBody_19 : decode cX7_looksAtBody 19 = .ok (.istore_n 3, 1) := by decide +kernel
theorem dX7_looksAtBody_20 : decode cX7_looksAtBody 20 = .ok (.iload_n 3, 1) := by decide +kernel
theorem dX7_looksAtBody_21 : decode cX7_looksAtBody 21 = .ok (.ifCond .lt 86, 3) := by decide +kernel
theorem dX7_looksAtBody_24 : decode cX7_looksAtBody 24 = .ok (.aload_n 0, 1) := by decide +kernel
theorem dX7_looksAtBody_25 : decode cX7_looksAtBody 25 = .ok (.getfield 22, 3) := by decide +kernel
theorem dX7_looksAtBody_28 : decode cX7_looksAtBody 28 = .ok (.iload_n 1, 1) := by decide +kernel
theorem dX7_looksAtBody_29 : decode cX7_looksAtBody 29 = .ok (.iload_n 3, 1) := by decide +kernel
theorem dX7_looksAtBody_30 : decode cX7_looksAtBody 30 = .ok (.iconst 0, 1) := by decide +kernel
theorem dX7_looksAtBody_31 : decode cX7_looksAtBody 31 = .ok (.invokestatic 169, 3) := by decide +kernel
theorem dX7_looksAtBody_34 : decode cX7_looksAtBody 34 = .ok (.iaload, 1) := by decide +kernel
theorem dX7_looksAtBody_35 : decode cX7_looksAtBody 35 = .ok (.istore 4, 2) := by decide +kernel
theorem dX7_looksAtBody_37 : decode cX7_looksAtBody 37 = .ok (.iload 4, 2) := by decide +kernel
theorem dX7_looksAtBody_39 : decode cX7_looksAtBody 39 = .ok (.ifCond .ne 14, 3) := by decide +kernel
theorem dX7_looksAtBody_42 : decode cX7_looksAtBody 42 = .ok (.aload_n 0, 1) := by decide +kernel
theorem dX7_looksAtBody_43 : decode cX7_looksAtBody 43 = .ok (.iload_n 1, 1) := by decide +kernel
theorem dX7_looksAtBody_44 : decode cX7_looksAtBody 44 = .ok (.iload_n 3, 1) := by decide +kernel
theorem dX7_looksAtBody_45 : decode cX7_looksAtBody 45 = .ok (.invokevirtual 205, 3) := by decide +kernel
theorem dX7_looksAtBody_48 : decode cX7_looksAtBody 48 = .ok (.istore 4, 2) := by decide +kernel
theorem dX7_looksAtBody_50 : decode cX7_looksAtBody 50 = .ok (.goto 23, 3) := by decide +kernel
theorem dX7_looksAtBody_53 : decode cX7_looksAtBody 53 = .ok (.iload 4, 2) := by decide +kernel
theorem dX7_looksAtBody_55 : decode cX7_looksAtBody 55 = .ok (.iconst 1, 1) := by decide +kernel
theorem dX7_looksAtBody_56 : decode cX7_looksAtBody 56 = .ok (.if_icmp .eq 9, 3) := by decide +kernel
theorem dX7_looksAtBody_59 : decode cX7_looksAtBody 59 = .ok (.iload 4, 2) := by decide +kernel
theorem dX7_looksAtBody_61 : decode cX7_looksAtBody 61 = .ok (.iconst 5, 1) := by decide +kernel
theorem dX7_looksAtBody_62 : decode cX7_looksAtBody 62 = .ok (.if_icmp .ne 11, 3) := by decide +kernel
theorem dX7_looksAtBody_65 : decode cX7_looksAtBody 65 = .ok (.aload_n 0, 1) := by decide +kernel
theorem dX7_looksAtBody_66 : decode cX7_looksAtBody 66 = .ok (.iload_n 1, 1) := by decide +kernel
theorem dX7_looksAtBody_67 : decode cX7_looksAtBody 67 = .ok (.iload_n 3, 1) := by decide +kernel
theorem dX7_looksAtBody_68 : decode cX7_looksAtBody 68 = .ok (.invokevirtual 202, 3) := by decide +kernel
theorem dX7_looksAtBody_71 : decode cX7_looksAtBody 71 = .ok (.istore 4, 2) := by decide +kernel
theorem dX7_looksAtBody_73 : decode cX7_looksAtBody 73 = .ok (.iload 4, 2) := by decide +kernel
theorem dX7_looksAtBody_75 : decode cX7_looksAtBody 75 = .ok (.iconst 3, 1) := by decide +kernel
theorem dX7_looksAtBody_76 : decode cX7_looksAtBody 76 = .ok (.if_icmp .ne 11, 3) := by decide +kernel
theorem dX7_looksAtBody_79 : decode cX7_looksAtBody 79 = .ok (.aload_n 0, 1) := by decide +kernel
theorem dX7_looksAtBody_80 : decode cX7_looksAtBody 80 = .ok (.iload_n 1, 1) := by decide +kernel
theorem dX7_looksAtBody_81 : decode cX7_looksAtBody 81 = .ok (.iload_n 2, 1) := by decide +kernel
theorem dX7_looksAtBody_82 : decode cX7_looksAtBody 82 = .ok (.iconst 3, 1) := by decide +kernel
theorem dX7_looksAtBody_83 : decode cX7_looksAtBody 83 = .ok (.invokevirtual 184, 3) := by decide +kernel
theorem dX7_looksAtBody_86 : decode cX7_looksAtBody 86 = .ok (.ireturn, 1) := by decide +kernel
theorem dX7_looksAtBody_87 : decode cX7_looksAtBody 87 = .ok (.iload 4, 2) := by decide +kernel
theorem dX7_looksAtBody_89 : decode cX7_looksAtBody 89 = .ok (.iconst 2, 1) := by decide +kernel
theorem dX7_looksAtBody_90 : decode cX7_looksAtBody 90 = .ok (.if_icmp .eq 5, 3) := by decide +kernel
theorem dX7_looksAtBody_93 : decode cX7_looksAtBody 93 = .ok (.iconst 1, 1) := by decide +kernel
theorem dX7_looksAtBody_94 : decode cX7_looksAtBody 94 = .ok (.ireturn, 1) := by decide +kernel
theorem dX7_looksAtBody_95 : decode cX7_looksAtBody 95 = .ok (.aload_n 0, 1) := by decide +kernel
theorem dX7_looksAtBody_96 : decode cX7_looksAtBody 96 = .ok (.iload_n 1, 1) := by decide +kernel
theorem dX7_looksAtBody_97 : decode cX7_looksAtBody 97 = .ok (.iload_n 3, 1) := by decide +kernel
theorem dX7_looksAtBody_98 : decode cX7_looksAtBody 98 = .ok (.bipush 6, 2) := by decide +kernel
theorem dX7_looksAtBody_100 : decode cX7_looksAtBody 100 = .ok (.invokevirtual 171, 3) := by decide +kernel
theorem dX7_looksAtBody_103 : decode cX7_looksAtBody 103 = .ok (.istore_n 3, 1) := by decide +kernel
theorem dX7_looksAtBody_104 : decode cX7_looksAtBody 104 = .ok (.goto (-84), 3) := by decide +kernel
theorem dX7_looksAtBody_107 : decode cX7_looksAtBody 107 = .ok (.aload_n 0, 1) := by decide +kernel
theorem dX7_looksAtBody_108 : decode cX7_looksAtBody 108 = .ok (.iload_n 1, 1) := by decide +kernel
theorem dX7_looksAtBody_109 : decode cX7_looksAtBody 109 = .ok (.iload_n 2, 1) := by decide +kernel
theorem dX7_looksAtBody_110 : decode cX7_looksAtBody 110 = .ok (.iconst 2, 1) := by decide +kernel
theorem dX7_looksAtBody_111 : decode cX7_looksAtBody 111 = .ok (.invokevirtual 184, 3) := by decide +kernel
theorem dX7_looksAtBody_114 : decode cX7_looksAtBody 114 = .ok (.ireturn, 1) := by decide +kernel
theorem dX7_bodiesIn_0 : decode cX7_bodiesIn 0 = .ok (.iconst 0, 1) := by decide +kernel
theorem dX7_bodiesIn_1 : decode cX7_bodiesIn 1 = .ok (.istore 4, 2) := by decide +kernel
theorem dX7_bodiesIn_3 : decode cX7_bodiesIn 3 = .ok (.aload_n 0, 1) := by decide +kernel
theorem dX7_bodiesIn_4 : decode cX7_bodiesIn 4 = .ok (.iload_n 1, 1) := by decide +kernel
theorem dX7_bodiesIn_5 : decode cX7_bodiesIn 5 = .ok (.iload_n 2, 1) := by decide +kernel
theorem dX7_bodiesIn_6 : decode cX7_bodiesIn 6 = .ok (.iconst 5, 1) := by decide +kernel
theorem dX7_bodiesIn_7 : decode cX7_bodiesIn 7 = .ok (.invokevirtual 171, 3) := by decide +kernel
theorem dX7_bodiesIn_10 : decode cX7_bodiesIn 10 = .ok (.istore 5, 2) := by decide +kernel
theorem dX7_bodiesIn_12 : decode cX7_bodiesIn 12 = .ok (.iload 5, 2) := by decide +kernel
theorem dX7_bodiesIn_14 : decode cX7_bodiesIn 14 = .ok (.ifCond .lt 43, 3) := by decide +kernel
theorem dX7_bodiesIn_17 : decode cX7_bodiesIn 17 = .ok (.iload 4, 2) := by decide +kernel
theorem dX7_bodiesIn_19 : decode cX7_bodiesIn 19 = .ok (.aload_n 0, 1) := by decide +kernel
theorem dX7_bodiesIn_20 : decode cX7_bodiesIn 20 = .ok (.getfield 22, 3) := by decide +kernel
theorem dX7_bodiesIn_23 : decode cX7_bodiesIn 23 = .ok (.iload_n 1, 1) := by decide +kernel
theorem dX7_bodiesIn_24 : decode cX7_bodiesIn 24 = .ok (.iload 5, 2) := by decide +kernel
theorem dX7_bodiesIn_26 : decode cX7_bodiesIn 26 = .ok (.iconst 0, 1) := by decide +kernel
theorem dX7_bodiesIn_27 : decode cX7_bodiesIn 27 = .ok (.invokestatic 169, 3) := by decide +kernel
theorem dX7_bodiesIn_30 : decode cX7_bodiesIn 30 = .ok (.iaload, 1) := by decide +kernel
theorem dX7_bodiesIn_31 : decode cX7_bodiesIn 31 = .ok (.iload_n 3, 1) := by decide +kernel
theorem dX7_bodiesIn_32 : decode cX7_bodiesIn 32 = .ok (.if_icmp .ne 7, 3) := by decide +kernel
theorem dX7_bodiesIn_35 : decode cX7_bodiesIn 35 = .ok (.iconst 1, 1) := by decide +kernel
theorem dX7_bodiesIn_36 : decode cX7_bodiesIn 36 = .ok (.goto 4, 3) := by decide +kernel
theorem dX7_bodiesIn_39 : decode cX7_bodiesIn 39 = .ok (.iconst 0, 1) := by decide +kernel
theorem dX7_bodiesIn_40 : decode cX7_bodiesIn 40 = .ok (.iadd, 1) := by decide +kernel
theorem dX7_bodiesIn_41 : decode cX7_bodiesIn 41 = .ok (.istore 4, 2) := by decide +kernel
theorem dX7_bodiesIn_43 : decode cX7_bodiesIn 43 = .ok (.aload_n 0, 1) := by decide +kernel
theorem dX7_bodiesIn_44 : decode cX7_bodiesIn 44 = .ok (.iload_n 1, 1) := by decide +kernel
theorem dX7_bodiesIn_45 : decode cX7_bodiesIn 45 = .ok (.iload 5, 2) := by decide +kernel
theorem dX7_bodiesIn_47 : decode cX7_bodiesIn 47 = .ok (.bipush 6, 2) := by decide +kernel
theorem dX7_bodiesIn_49 : decode cX7_bodiesIn 49 = .ok (.invokevirtual 171, 3) := by decide +kernel
theorem dX7_bodiesIn_52 : decode cX7_bodiesIn 52 = .ok (.istore 5, 2) := by decide +kernel
theorem dX7_bodiesIn_54 : decode cX7_bodiesIn 54 = .ok (.goto (-42), 3) := by decide +kernel
theorem dX7_bodiesIn_57 : decode cX7_bodiesIn 57 = .ok (.iload 4, 2) := by decide +kernel
theorem dX7_bodiesIn_59 : decode cX7_bodiesIn 59 = .ok (.ireturn, 1) := by decide +kernel
theorem dX7_cancels_0 : decode cX7_cancels 0 = .ok (.aload_n 0, 1) := by decide +kernel
theorem dX7_cancels_1 : decode cX7_cancels 1 = .ok (.getfield 22, 3) := by decide +kernel
theorem dX7_cancels_4 : decode cX7_cancels 4 = .ok (.iload_n 1, 1) := by decide +kernel
theorem dX7_cancels_5 : decode cX7_cancels 5 = .ok (.iload_n 2, 1) := by decide +kernel
theorem dX7_cancels_6 : decode cX7_cancels 6 = .ok (.iconst 0, 1) := by decide +kernel
theorem dX7_cancels_7 : decode cX7_cancels 7 = .ok (.invokestatic 169, 3) := by decide +kernel
theorem dX7_cancels_10 : decode cX7_cancels 10 = .ok (.iconst 4, 1) := by decide +kernel
theorem dX7_cancels_11 : decode cX7_cancels 11 = .ok (.iastore, 1) := by decide +kernel
theorem dX7_cancels_12 : decode cX7_cancels 12 = .ok (.aload_n 0, 1) := by decide +kernel
theorem dX7_cancels_13 : decode cX7_cancels 13 = .ok (.getfield 22, 3) := by decide +kernel
theorem dX7_cancels_16 : decode cX7_cancels 16 = .ok (.iload_n 1, 1) := by decide +kernel
theorem dX7_cancels_17 : decode cX7_cancels 17 = .ok (.iload_n 2, 1) := by decide +kernel
theorem dX7_cancels_18 : decode cX7_cancels 18 = .ok (.bipush 7, 2) := by decide +kernel
theorem dX7_cancels_20 : decode cX7_cancels 20 = .ok (.invokestatic 169, 3) := by decide +kernel
theorem dX7_cancels_23 : decode cX7_cancels 23 = .ok (.iconst (-1), 1) := by decide +kernel
theorem dX7_cancels_24 : decode cX7_cancels 24 = .ok (.iastore, 1) := by decide +kernel
theorem dX7_cancels_25 : decode cX7_cancels 25 = .ok (.aload_n 0, 1) := by decide +kernel
theorem dX7_cancels_26 : decode cX7_cancels 26 = .ok (.iload_n 1, 1) := by decide +kernel
theorem dX7_cancels_27 : decode cX7_cancels 27 = .ok (.iload_n 2, 1) := by decide +kernel
theorem dX7_cancels_28 : decode cX7_cancels 28 = .ok (.iconst 5, 1) := by decide +kernel
theorem dX7_cancels_29 : decode cX7_cancels 29 = .ok (.invokevirtual 171, 3) := by decide +kernel
theorem dX7_cancels_32 : decode cX7_cancels 32 = .ok (.istore_n 3, 1) := by decide +kernel
theorem dX7_cancels_33 : decode cX7_cancels 33 = .ok (.iload_n 3, 1) := by decide +kernel
theorem dX7_cancels_34 : decode cX7_cancels 34 = .ok (.ifCond .lt 46, 3) := by decide +kernel
theorem dX7_cancels_37 : decode cX7_cancels 37 = .ok (.aload_n 0, 1) := by decide +kernel
theorem dX7_cancels_38 : decode cX7_cancels 38 = .ok (.getfield 22, 3) := by decide +kernel
theorem dX7_cancels_41 : decode cX7_cancels 41 = .ok (.iload_n 1, 1) := by decide +kernel
theorem dX7_cancels_42 : decode cX7_cancels 42 = .ok (.iload_n 3, 1) := by decide +kernel
theorem dX7_cancels_43 : decode cX7_cancels 43 = .ok (.iconst 0, 1) := by decide +kernel
theorem dX7_cancels_44 : decode cX7_cancels 44 = .ok (.invokestatic 169, 3) := by decide +kernel
theorem dX7_cancels_47 : decode cX7_cancels 47 = .ok (.iaload, 1) := by decide +kernel
theorem dX7_cancels_48 : decode cX7_cancels 48 = .ok (.istore 4, 2) := by decide +kernel
theorem dX7_cancels_50 : decode cX7_cancels 50 = .ok (.iload 4, 2) := by decide +kernel
theorem dX7_cancels_52 : decode cX7_cancels 52 = .ok (.iconst 1, 1) := by decide +kernel
theorem dX7_cancels_53 : decode cX7_cancels 53 = .ok (.if_icmp .eq 9, 3) := by decide +kernel
theorem dX7_cancels_56 : decode cX7_cancels 56 = .ok (.iload 4, 2) := by decide +kernel
theorem dX7_cancels_58 : decode cX7_cancels 58 = .ok (.iconst 5, 1) := by decide +kernel
theorem dX7_cancels_59 : decode cX7_cancels 59 = .ok (.if_icmp .ne 9, 3) := by decide +kernel
theorem dX7_cancels_62 : decode cX7_cancels 62 = .ok (.aload_n 0, 1) := by decide +kernel
theorem dX7_cancels_63 : decode cX7_cancels 63 = .ok (.iload_n 1, 1) := by decide +kernel
theorem dX7_cancels_64 : decode cX7_cancels 64 = .ok (.iload_n 3, 1) := by decide +kernel
theorem dX7_cancels_65 : decode cX7_cancels 65 = .ok (.invokevirtual 208, 3) := by decide +kernel
theorem dX7_cancels_68 : decode cX7_cancels 68 = .ok (.aload_n 0, 1) := by decide +kernel
theorem dX7_cancels_69 : decode cX7_cancels 69 = .ok (.iload_n 1, 1) := by decide +kernel
theorem dX7_cancels_70 : decode cX7_cancels 70 = .ok (.iload_n 3, 1) := by decide +kernel
theorem dX7_cancels_71 : decode cX7_cancels 71 = .ok (.bipush 6, 2) := by decide +kernel
theorem dX7_cancels_73 : decode cX7_cancels 73 = .ok (.invokevirtual 171, 3) := by decide +kernel
theorem dX7_cancels_76 : decode cX7_cancels 76 = .ok (.istore_n 3, 1) := by decide +kernel
theorem dX7_cancels_77 : decode cX7_cancels 77 = .ok (.goto (-44), 3) := by decide +kernel
theorem dX7_cancels_80 : decode cX7_cancels 80 = .ok (.return_, 1) := by decide +kernel
theorem dX7_cancelsBodies_0 : decode cX7_cancelsBodies 0 = .ok (.iconst 0, 1) := by decide +kernel
theorem dX7_cancelsBodies_1 : decode cX7_cancelsBodies 1 = .ok (.istore_n 3, 1) := by decide +kernel
theorem dX7_cancelsBodies_2 : decode cX7_cancelsBodies 2 = .ok (.aload_n 0, 1) := by decide +kernel
theorem dX7_cancelsBodies_3 : decode cX7_cancelsBodies 3 = .ok (.iload_n 1, 1) := by decide +kernel
theorem dX7_cancelsBodies_4 : decode cX7_cancelsBodies 4 = .ok (.iload_n 2, 1) := by decide +kernel
theorem dX7_cancelsBodies_5 : decode cX7_cancelsBodies 5 = .ok (.iconst 5, 1) := by decide +kernel
theorem dX7_cancelsBodies_6 : decode cX7_cancelsBodies 6 = .ok (.invokevirtual 171, 3) := by decide +kernel
theorem dX7_cancelsBodies_9 : decode cX7_cancelsBodies 9 = .ok (.istore 4, 2) := by decide +kernel
theorem dX7_cancelsBodies_11 : decode cX7_cancelsBodies 11 = .ok (.iload 4, 2) := by decide +kernel
theorem dX7_cancelsBodies_13 : decode cX7_cancelsBodies 13 = .ok (.ifCond .lt 51, 3) := by decide +kernel
theorem dX7_cancelsBodies_16 : decode cX7_cancelsBodies 16 = .ok (.aload_n 0, 1) := by decide +kernel
theorem dX7_cancelsBodies_17 : decode cX7_cancelsBodies 17 = .ok (.getfield 22, 3) := by decide +kernel
theorem dX7_cancelsBodies_20 : decode cX7_cancelsBodies 20 = .ok (.iload_n 1, 1) := by decide +kernel
theorem dX7_cancelsBodies_21 : decode cX7_cancelsBodies 21 = .ok (.iload 4, 2) := by decide +kernel
theorem dX7_cancelsBodies_23 : decode cX7_cancelsBodies 23 = .ok (.iconst 0, 1) := by decide +kernel
theorem dX7_cancelsBodies_24 : decode cX7_cancelsBodies 24 = .ok (.invokestatic 169, 3) := by decide +kernel
theorem dX7_cancelsBodies_27 : decode cX7_cancelsBodies 27 = .ok (.iaload, 1) := by decide +kernel
theorem dX7_cancelsBodies_28 : decode cX7_cancelsBodies 28 = .ok (.iconst 1, 1) := by decide +kernel
theorem dX7_cancelsBodies_29 : decode cX7_cancelsBodies 29 = .ok (.if_icmp .ne 18, 3) := by decide +kernel
theorem dX7_cancelsBodies_32 : decode cX7_cancelsBodies 32 = .ok (.aload_n 0, 1) := by decide +kernel
theorem dX7_cancelsBodies_33 : decode cX7_cancelsBodies 33 = .ok (.iload_n 1, 1) := by decide +kernel
theorem dX7_cancelsBodies_34 : decode cX7_cancelsBodies 34 = .ok (.iload 4, 2) := by decide +kernel
theorem dX7_cancelsBodies_36 : decode cX7_cancelsBodies 36 = .ok (.invokevirtual 208, 3) := by decide +kernel
theorem dX7_cancelsBodies_39 : decode cX7_cancelsBodies 39 = .ok (.aload_n 0, 1) := by decide +kernel
theorem dX7_cancelsBodies_40 : decode cX7_cancelsBodies 40 = .ok (.iload_n 1, 1) := by decide +kernel
theorem dX7_cancelsBodies_41 : decode cX7_cancelsBodies 41 = .ok (.bipush 10, 2) := by decide +kernel
theorem dX7_cancelsBodies_43 : decode cX7_cancelsBodies 43 = .ok (.iload_n 3, 1) := by decide +kernel
theorem dX7_cancelsBodies_44 : decode cX7_cancelsBodies 44 = .ok (.invokevirtual 174, 3) := by decide +kernel
theorem dX7_cancelsBodies_47 : decode cX7_cancelsBodies 47 = .ok (.iinc 3 1, 3) := by decide +kernel
theorem dX7_cancelsBodies_50 : decode cX7_cancelsBodies 50 = .ok (.aload_n 0, 1) := by decide +kernel
theorem dX7_cancelsBodies_51 : decode cX7_cancelsBodies 51 = .ok (.iload_n 1, 1) := by decide +kernel
theorem dX7_cancelsBodies_52 : decode cX7_cancelsBodies 52 = .ok (.iload 4, 2) := by decide +kernel
theorem dX7_cancelsBodies_54 : decode cX7_cancelsBodies 54 = .ok (.bipush 6, 2) := by decide +kernel
theorem dX7_cancelsBodies_56 : decode cX7_cancelsBodies 56 = .ok (.invokevirtual 171, 3) := by decide +kernel
theorem dX7_cancelsBodies_59 : decode cX7_cancelsBodies 59 = .ok (.istore 4, 2) := by decide +kernel
theorem dX7_cancelsBodies_61 : decode cX7_cancelsBodies 61 = .ok (.goto (-50), 3) := by decide +kernel
theorem dX7_cancelsBodies_64 : decode cX7_cancelsBodies 64 = .ok (.return_, 1) := by decide +kernel
theorem dX7_looksAtParallel_0 : decode cX7_looksAtParallel 0 = .ok (.aload_n 0, 1) := by decide +kernel
theorem dX7_looksAtParallel_1 : decode cX7_looksAtParallel 1 = .ok (.getfield 22, 3) := by decide +kernel
theorem dX7_looksAtParallel_4 : decode cX7_looksAtParallel 4 = .ok (.iload_n 1, 1) := by decide +kernel
theorem dX7_looksAtParallel_5 : decode cX7_looksAtParallel 5 = .ok (.iload_n 2, 1) := by decide +kernel
theorem dX7_looksAtParallel_6 : decode cX7_looksAtParallel 6 = .ok (.iconst 0, 1) := by decide +kernel
theorem dX7_looksAtParallel_7 : decode cX7_looksAtParallel 7 = .ok (.invokestatic 169, 3) := by decide +kernel
theorem dX7_looksAtParallel_10 : decode cX7_looksAtParallel 10 = .ok (.iaload, 1) := by decide +kernel
theorem dX7_looksAtParallel_11 : decode cX7_looksAtParallel 11 = .ok (.iconst 5, 1) := by decide +kernel
theorem dX7_looksAtParallel_12 : decode cX7_looksAtParallel 12 = .ok (.if_icmp .eq 138, 3) := by decide +kernel
theorem dX7_looksAtParallel_15 : decode cX7_looksAtParallel 15 = .ok (.aload_n 0, 1) := by decide +kernel
theorem dX7_looksAtParallel_16 : decode cX7_looksAtParallel 16 = .ok (.iload_n 1, 1) := by decide +kernel
theorem dX7_looksAtParallel_17 : decode cX7_looksAtParallel 17 = .ok (.iload_n 2, 1) := by decide +kernel
theorem dX7_looksAtParallel_18 : decode cX7_looksAtParallel 18 = .ok (.iconst 5, 1) := by decide +kernel
theorem dX7_looksAtParallel_19 : decode cX7_looksAtParallel 19 = .ok (.invokevirtual 171, 3) := by decide +kernel
theorem dX7_looksAtParallel_22 : decode cX7_looksAtParallel 22 = .ok (.istore_n 3, 1) := by decide +kernel
theorem dX7_looksAtParallel_23 : decode cX7_looksAtParallel 23 = .ok (.iload_n 3, 1) := by decide +kernel
theorem dX7_looksAtParallel_24 : decode cX7_looksAtParallel 24 = .ok (.ifCond .lt 42, 3) := by decide +kernel
theorem dX7_looksAtParallel_27 : decode cX7_looksAtParallel 27 = .ok (.aload_n 0, 1) := by decide +kernel
theorem dX7_looksAtParallel_28 : decode cX7_looksAtParallel 28 = .ok (.getfield 22, 3) := by decide +kernel
theorem dX7_looksAtParallel_31 : decode cX7_looksAtParallel 31 = .ok (.iload_n 1, 1) := by decide +kernel
theorem dX7_looksAtParallel_32 : decode cX7_looksAtParallel 32 = .ok (.iload_n 3, 1) := by decide +kernel
theorem dX7_looksAtParallel_33 : decode cX7_looksAtParallel 33 = .ok (.iconst 0, 1) := by decide +kernel
theorem dX7_looksAtParallel_34 : decode cX7_looksAtParallel 34 = .ok (.invokestatic 169, 3) := by decide +kernel
theorem dX7_looksAtParallel_37 : decode cX7_looksAtParallel 37 = .ok (.iaload, 1) := by decide +kernel
theorem dX7_looksAtParallel_38 : decode cX7_looksAtParallel 38 = .ok (.iconst 1, 1) := by decide +kernel
theorem dX7_looksAtParallel_39 : decode cX7_looksAtParallel 39 = .ok (.if_icmp .ne 12, 3) := by decide +kernel
theorem dX7_looksAtParallel_42 : decode cX7_looksAtParallel 42 = .ok (.aload_n 0, 1) := by decide +kernel
theorem dX7_looksAtParallel_43 : decode cX7_looksAtParallel 43 = .ok (.iload_n 1, 1) := by decide +kernel
theorem dX7_looksAtParallel_44 : decode cX7_looksAtParallel 44 = .ok (.iload_n 3, 1) := by decide +kernel
theorem dX7_looksAtParallel_45 : decode cX7_looksAtParallel 45 = .ok (.invokevirtual 196, 3) := by decide +kernel
theorem dX7_looksAtParallel_48 : decode cX7_looksAtParallel 48 = .ok (.goto 4, 3) := by decide +kernel
theorem dX7_looksAtParallel_51 : decode cX7_looksAtParallel 51 = .ok (.iconst 0, 1) := by decide +kernel
theorem dX7_looksAtParallel_52 : decode cX7_looksAtParallel 52 = .ok (.istore 4, 2) := by decide +kernel
theorem dX7_looksAtParallel_54 : decode cX7_looksAtParallel 54 = .ok (.aload_n 0, 1) := by decide +kernel
theorem dX7_looksAtParallel_55 : decode cX7_looksAtParallel 55 = .ok (.iload_n 1, 1) := by decide +kernel
theorem dX7_looksAtParallel_56 : decode cX7_looksAtParallel 56 = .ok (.iload_n 3, 1) := by decide +kernel
theorem dX7_looksAtParallel_57 : decode cX7_looksAtParallel 57 = .ok (.bipush 6, 2) := by decide +kernel
theorem dX7_looksAtParallel_59 : decode cX7_looksAtParallel 59 = .ok (.invokevirtual 171, 3) := by decide +kernel
theorem dX7_looksAtParallel_62 : decode cX7_looksAtParallel 62 = .ok (.istore_n 3, 1) := by decide +kernel
theorem dX7_looksAtParallel_63 : decode cX7_looksAtParallel 63 = .ok (.goto (-40), 3) := by decide +kernel
theorem dX7_looksAtParallel_66 : decode cX7_looksAtParallel 66 = .ok (.aload_n 0, 1) := by decide +kernel
theorem dX7_looksAtParallel_67 : decode cX7_looksAtParallel 67 = .ok (.iload_n 1, 1) := by decide +kernel
theorem dX7_looksAtParallel_68 : decode cX7_looksAtParallel 68 = .ok (.iload_n 2, 1) := by decide +kernel
theorem dX7_looksAtParallel_69 : decode cX7_looksAtParallel 69 = .ok (.iconst 1, 1) := by decide +kernel
theorem dX7_looksAtParallel_70 : decode cX7_looksAtParallel 70 = .ok (.invokevirtual 171, 3) := by decide +kernel
theorem dX7_looksAtParallel_73 : decode cX7_looksAtParallel 73 = .ok (.istore_n 3, 1) := by decide +kernel
theorem dX7_looksAtParallel_74 : decode cX7_looksAtParallel 74 = .ok (.aload_n 0, 1) := by decide +kernel
theorem dX7_looksAtParallel_75 : decode cX7_looksAtParallel 75 = .ok (.iload_n 1, 1) := by decide +kernel
theorem dX7_looksAtParallel_76 : decode cX7_looksAtParallel 76 = .ok (.iload_n 2, 1) := by decide +kernel
theorem dX7_looksAtParallel_77 : decode cX7_looksAtParallel 77 = .ok (.iconst 2, 1) := by decide +kernel
theorem dX7_looksAtParallel_78 : decode cX7_looksAtParallel 78 = .ok (.invokevirtual 211, 3) := by decide +kernel
theorem dX7_looksAtParallel_81 : decode cX7_looksAtParallel 81 = .ok (.istore 4, 2) := by decide +kernel
theorem dX7_looksAtParallel_83 : decode cX7_looksAtParallel 83 = .ok (.iload 4, 2) := by decide +kernel
theorem dX7_looksAtParallel_85 : decode cX7_looksAtParallel 85 = .ok (.aload_n 0, 1) := by decide +kernel
theorem dX7_looksAtParallel_86 : decode cX7_looksAtParallel 86 = .ok (.iload_n 1, 1) := by decide +kernel
theorem dX7_looksAtParallel_87 : decode cX7_looksAtParallel 87 = .ok (.iload_n 2, 1) := by decide +kernel
theorem dX7_looksAtParallel_88 : decode cX7_looksAtParallel 88 = .ok (.iconst 1, 1) := by decide +kernel
theorem dX7_looksAtParallel_89 : decode cX7_looksAtParallel 89 = .ok (.invokevirtual 211, 3) := by decide +kernel
theorem dX7_looksAtParallel_92 : decode cX7_looksAtParallel 92 = .ok (.iadd, 1) := by decide +kernel
theorem dX7_looksAtParallel_93 : decode cX7_looksAtParallel 93 = .ok (.iload_n 3, 1) := by decide +kernel
theorem dX7_looksAtParallel_94 : decode cX7_looksAtParallel 94 = .ok (.if_icmp .ge 17, 3) := by decide +kernel
theorem dX7_looksAtParallel_97 : decode cX7_looksAtParallel 97 = .ok (.aload_n 0, 1) := by decide +kernel
theorem dX7_looksAtParallel_98 : decode cX7_looksAtParallel 98 = .ok (.iload_n 1, 1) := by decide +kernel
theorem dX7_looksAtParallel_99 : decode cX7_looksAtParallel 99 = .ok (.iload_n 2, 1) := by decide +kernel
theorem dX7_looksAtParallel_100 : decode cX7_looksAtParallel 100 = .ok (.invokevirtual 214, 3) := by decide +kernel
theorem dX7_looksAtParallel_103 : decode cX7_looksAtParallel 103 = .ok (.aload_n 0, 1) := by decide +kernel
theorem dX7_looksAtParallel_104 : decode cX7_looksAtParallel 104 = .ok (.iload_n 1, 1) := by decide +kernel
theorem dX7_looksAtParallel_105 : decode cX7_looksAtParallel 105 = .ok (.iload_n 2, 1) := by decide +kernel
theorem dX7_looksAtParallel_106 : decode cX7_looksAtParallel 106 = .ok (.iconst 3, 1) := by decide +kernel
theorem dX7_looksAtParallel_107 : decode cX7_looksAtParallel 107 = .ok (.invokevirtual 184, 3) := by decide +kernel
theorem dX7_looksAtParallel_110 : decode cX7_looksAtParallel 110 = .ok (.ireturn, 1) := by decide +kernel
theorem dX7_looksAtParallel_111 : decode cX7_looksAtParallel 111 = .ok (.iload 4, 2) := by decide +kernel
theorem dX7_looksAtParallel_113 : decode cX7_looksAtParallel 113 = .ok (.iload_n 3, 1) := by decide +kernel
theorem dX7_looksAtParallel_114 : decode cX7_looksAtParallel 114 = .ok (.if_icmp .ge 5, 3) := by decide +kernel
theorem dX7_looksAtParallel_117 : decode cX7_looksAtParallel 117 = .ok (.iconst 1, 1) := by decide +kernel
theorem dX7_looksAtParallel_118 : decode cX7_looksAtParallel 118 = .ok (.ireturn, 1) := by decide +kernel
theorem dX7_looksAtParallel_119 : decode cX7_looksAtParallel 119 = .ok (.aload_n 0, 1) := by decide +kernel
theorem dX7_looksAtParallel_120 : decode cX7_looksAtParallel 120 = .ok (.iload_n 1, 1) := by decide +kernel
theorem dX7_looksAtParallel_121 : decode cX7_looksAtParallel 121 = .ok (.iload_n 2, 1) := by decide +kernel
theorem dX7_looksAtParallel_122 : decode cX7_looksAtParallel 122 = .ok (.invokevirtual 214, 3) := by decide +kernel
theorem dX7_looksAtParallel_125 : decode cX7_looksAtParallel 125 = .ok (.aload_n 0, 1) := by decide +kernel
theorem dX7_looksAtParallel_126 : decode cX7_looksAtParallel 126 = .ok (.getfield 22, 3) := by decide +kernel
theorem dX7_looksAtParallel_129 : decode cX7_looksAtParallel 129 = .ok (.iload_n 1, 1) := by decide +kernel
theorem dX7_looksAtParallel_130 : decode cX7_looksAtParallel 130 = .ok (.iload_n 2, 1) := by decide +kernel
theorem dX7_looksAtParallel_131 : decode cX7_looksAtParallel 131 = .ok (.iconst 0, 1) := by decide +kernel
theorem dX7_looksAtParallel_132 : decode cX7_looksAtParallel 132 = .ok (.invokestatic 169, 3) := by decide +kernel
theorem dX7_looksAtParallel_135 : decode cX7_looksAtParallel 135 = .ok (.iconst 5, 1) := by decide +kernel
theorem dX7_looksAtParallel_136 : decode cX7_looksAtParallel 136 = .ok (.iastore, 1) := by decide +kernel
theorem dX7_looksAtParallel_137 : decode cX7_looksAtParallel 137 = .ok (.aload_n 0, 1) := by decide +kernel
theorem dX7_looksAtParallel_138 : decode cX7_looksAtParallel 138 = .ok (.getfield 22, 3) := by decide +kernel
theorem dX7_looksAtParallel_141 : decode cX7_looksAtParallel 141 = .ok (.iload_n 1, 1) := by decide +kernel
theorem dX7_looksAtParallel_142 : decode cX7_looksAtParallel 142 = .ok (.iload_n 2, 1) := by decide +kernel
theorem dX7_looksAtParallel_143 : decode cX7_looksAtParallel 143 = .ok (.bipush 7, 2) := by decide +kernel
theorem dX7_looksAtParallel_145 : decode cX7_looksAtParallel 145 = .ok (.invokestatic 169, 3) := by decide +kernel
theorem dX7_looksAtParallel_148 : decode cX7_looksAtParallel 148 = .ok (.iconst (-1), 1) := by decide +kernel
theorem dX7_looksAtParallel_149 : decode cX7_looksAtParallel 149 = .ok (.iastore, 1) := by decide +kernel
theorem dX7_looksAtParallel_150 : decode cX7_looksAtParallel 150 = .ok (.aload_n 0, 1) := by decide +kernel
theorem dX7_looksAtParallel_151 : decode cX7_looksAtParallel 151 = .ok (.iload_n 1, 1) := by decide +kernel
theorem dX7_looksAtParallel_152 : decode cX7_looksAtParallel 152 = .ok (.iload_n 2, 1) := by decide +kernel
theorem dX7_looksAtParallel_153 : decode cX7_looksAtParallel 153 = .ok (.invokevirtual 217, 3) := by decide +kernel
theorem dX7_looksAtParallel_156 : decode cX7_looksAtParallel 156 = .ok (.ifCond .ne 5, 3) := by decide +kernel
theorem dX7_looksAtParallel_159 : decode cX7_looksAtParallel 159 = .ok (.iconst 5, 1) := by decide +kernel
theorem dX7_looksAtParallel_160 : decode cX7_looksAtParallel 160 = .ok (.ireturn, 1) := by decide +kernel
theorem dX7_looksAtParallel_161 : decode cX7_looksAtParallel 161 = .ok (.aload_n 0, 1) := by decide +kernel
theorem dX7_looksAtParallel_162 : decode cX7_looksAtParallel 162 = .ok (.iload_n 1, 1) := by decide +kernel
theorem dX7_looksAtParallel_163 : decode cX7_looksAtParallel 163 = .ok (.bipush 9, 2) := by decide +kernel
theorem dX7_looksAtParallel_165 : decode cX7_looksAtParallel 165 = .ok (.aload_n 0, 1) := by decide +kernel
theorem dX7_looksAtParallel_166 : decode cX7_looksAtParallel 166 = .ok (.iload_n 1, 1) := by decide +kernel
theorem dX7_looksAtParallel_167 : decode cX7_looksAtParallel 167 = .ok (.iload_n 2, 1) := by decide +kernel
theorem dX7_looksAtParallel_168 : decode cX7_looksAtParallel 168 = .ok (.iconst 2, 1) := by decide +kernel
theorem dX7_looksAtParallel_169 : decode cX7_looksAtParallel 169 = .ok (.invokevirtual 211, 3) := by decide +kernel
theorem dX7_looksAtParallel_172 : decode cX7_looksAtParallel 172 = .ok (.invokevirtual 174, 3) := by decide +kernel
theorem dX7_looksAtParallel_175 : decode cX7_looksAtParallel 175 = .ok (.aload_n 0, 1) := by decide +kernel
theorem dX7_looksAtParallel_176 : decode cX7_looksAtParallel 176 = .ok (.iload_n 1, 1) := by decide +kernel
theorem dX7_looksAtParallel_177 : decode cX7_looksAtParallel 177 = .ok (.iload_n 2, 1) := by decide +kernel
theorem dX7_looksAtParallel_178 : decode cX7_looksAtParallel 178 = .ok (.iconst 2, 1) := by decide +kernel
theorem dX7_looksAtParallel_179 : decode cX7_looksAtParallel 179 = .ok (.invokevirtual 184, 3) := by decide +kernel
theorem dX7_looksAtParallel_182 : decode cX7_looksAtParallel 182 = .ok (.ireturn, 1) := by decide +kernel
theorem dX7_isFor_0 : decode cX7_isFor 0 = .ok (.iload_n 3, 1) := by decide +kernel
theorem dX7_isFor_1 : decode cX7_isFor 1 = .ok (.ifCond .ne 5, 3) := by decide +kernel
theorem dX7_isFor_4 : decode cX7_isFor 4 = .ok (.iconst 1, 1) := by decide +kernel
theorem dX7_isFor_5 : decode cX7_isFor 5 = .ok (.ireturn, 1) := by decide +kernel
theorem dX7_isFor_6 : decode cX7_isFor 6 = .ok (.iload_n 2, 1) := by decide +kernel
theorem dX7_isFor_7 : decode cX7_isFor 7 = .ok (.istore 4, 2) := by decide +kernel
theorem dX7_isFor_9 : decode cX7_isFor 9 = .ok (.iload 4, 2) := by decide +kernel
theorem dX7_isFor_11 : decode cX7_isFor 11 = .ok (.ifCond .lt 30, 3) := by decide +kernel
theorem dX7_isFor_14 : decode cX7_isFor 14 = .ok (.aload_n 0, 1) := by decide +kernel
theorem dX7_isFor_15 : decode cX7_isFor 15 = .ok (.iload_n 1, 1) := by decide +kernel
theorem dX7_isFor_16 : decode cX7_isFor 16 = .ok (.iload 4, 2) := by decide +kernel
theorem dX7_isFor_18 : decode cX7_isFor 18 = .ok (.bipush 8, 2) := by decide +kernel
theorem dX7_isFor_20 : decode cX7_isFor 20 = .ok (.invokevirtual 171, 3) := by decide +kernel
theorem dX7_isFor_23 : decode cX7_isFor 23 = .ok (.iload_n 3, 1) := by decide +kernel
theorem dX7_isFor_24 : decode cX7_isFor 24 = .ok (.if_icmp .eq 17, 3) := by decide +kernel
theorem dX7_isFor_27 : decode cX7_isFor 27 = .ok (.aload_n 0, 1) := by decide +kernel
theorem dX7_isFor_28 : decode cX7_isFor 28 = .ok (.iload_n 1, 1) := by decide +kernel
theorem dX7_isFor_29 : decode cX7_isFor 29 = .ok (.iload 4, 2) := by decide +kernel
theorem dX7_isFor_31 : decode cX7_isFor 31 = .ok (.bipush 8, 2) := by decide +kernel
theorem dX7_isFor_33 : decode cX7_isFor 33 = .ok (.invokevirtual 171, 3) := by decide +kernel
theorem dX7_isFor_36 : decode cX7_isFor 36 = .ok (.istore 4, 2) := by decide +kernel
theorem dX7_isFor_38 : decode cX7_isFor 38 = .ok (.goto (-29), 3) := by decide +kernel
theorem dX7_isFor_41 : decode cX7_isFor 41 = .ok (.iload 4, 2) := by decide +kernel
theorem dX7_isFor_43 : decode cX7_isFor 43 = .ok (.ifCond .ge 7, 3) := by decide +kernel
theorem dX7_isFor_46 : decode cX7_isFor 46 = .ok (.iconst 2, 1) := by decide +kernel
theorem dX7_isFor_47 : decode cX7_isFor 47 = .ok (.goto 15, 3) := by decide +kernel
theorem dX7_isFor_50 : decode cX7_isFor 50 = .ok (.aload_n 0, 1) := by decide +kernel
theorem dX7_isFor_51 : decode cX7_isFor 51 = .ok (.getfield 22, 3) := by decide +kernel
theorem dX7_isFor_54 : decode cX7_isFor 54 = .ok (.iload_n 1, 1) := by decide +kernel
theorem dX7_isFor_55 : decode cX7_isFor 55 = .ok (.iload 4, 2) := by decide +kernel
theorem dX7_isFor_57 : decode cX7_isFor 57 = .ok (.iconst 0, 1) := by decide +kernel
theorem dX7_isFor_58 : decode cX7_isFor 58 = .ok (.invokestatic 169, 3) := by decide +kernel
theorem dX7_isFor_61 : decode cX7_isFor 61 = .ok (.iaload, 1) := by decide +kernel
theorem dX7_isFor_62 : decode cX7_isFor 62 = .ok (.istore 5, 2) := by decide +kernel
theorem dX7_isFor_64 : decode cX7_isFor 64 = .ok (.iload 5, 2) := by decide +kernel
theorem dX7_isFor_66 : decode cX7_isFor 66 = .ok (.iconst 3, 1) := by decide +kernel
theorem dX7_isFor_67 : decode cX7_isFor 67 = .ok (.if_icmp .eq 9, 3) := by decide +kernel
theorem dX7_isFor_70 : decode cX7_isFor 70 = .ok (.iload 5, 2) := by decide +kernel
theorem dX7_isFor_72 : decode cX7_isFor 72 = .ok (.iconst 4, 1) := by decide +kernel
theorem dX7_isFor_73 : decode cX7_isFor 73 = .ok (.if_icmp .ne 7, 3) := by decide +kernel
theorem dX7_isFor_76 : decode cX7_isFor 76 = .ok (.iconst 1, 1) := by decide +kernel
theorem dX7_isFor_77 : decode cX7_isFor 77 = .ok (.goto 4, 3) := by decide +kernel
theorem dX7_isFor_80 : decode cX7_isFor 80 = .ok (.iconst 0, 1) := by decide +kernel
theorem dX7_isFor_81 : decode cX7_isFor 81 = .ok (.ireturn, 1) := by decide +kernel
theorem dX7_nextToCompensate_0 : decode cX7_nextToCompensate 0 = .ok (.iconst (-1), 1) := by decide +kernel
theorem dX7_nextToCompensate_1 : decode cX7_nextToCompensate 1 = .ok (.istore_n 3, 1) := by decide +kernel
theorem dX7_nextToCompensate_2 : decode cX7_nextToCompensate 2 = .ok (.iconst 0, 1) := by decide +kernel
theorem dX7_nextToCompensate_3 : decode cX7_nextToCompensate 3 = .ok (.istore 4, 2) := by decide +kernel
theorem dX7_nextToCompensate_5 : decode cX7_nextToCompensate 5 = .ok (.iconst 0, 1) := by decide +kernel
theorem dX7_nextToCompensate_6 : decode cX7_nextToCompensate 6 = .ok (.istore 5, 2) := by decide +kernel
theorem dX7_nextToCompensate_8 : decode cX7_nextToCompensate 8 = .ok (.iload 5, 2) := by decide +kernel
theorem dX7_nextToCompensate_10 : decode cX7_nextToCompensate 10 = .ok (.aload_n 0, 1) := by decide +kernel
theorem dX7_nextToCompensate_11 : decode cX7_nextToCompensate 11 = .ok (.getfield 16, 3) := by decide +kernel
theorem dX7_nextToCompensate_14 : decode cX7_nextToCompensate 14 = .ok (.iconst 4, 1) := by decide +kernel
theorem dX7_nextToCompensate_15 : decode cX7_nextToCompensate 15 = .ok (.aload_n 0, 1) := by decide +kernel
theorem dX7_nextToCompensate_16 : decode cX7_nextToCompensate 16 = .ok (.iload_n 1, 1) := by decide +kernel
theorem dX7_nextToCompensate_17 : decode cX7_nextToCompensate 17 = .ok (.invokevirtual 166, 3) := by decide +kernel
theorem dX7_nextToCompensate_20 : decode cX7_nextToCompensate 20 = .ok (.imul, 1) := by decide +kernel
theorem dX7_nextToCompensate_21 : decode cX7_nextToCompensate 21 = .ok (.iaload, 1) := by decide +kernel
theorem dX7_nextToCompensate_22 : decode cX7_nextToCompensate 22 = .ok (.if_icmp .ge 121, 3) := by decide +kernel
theorem dX7_nextToCompensate_25 : decode cX7_nextToCompensate 25 = .ok (.aload_n 0, 1) := by decide +kernel
theorem dX7_nextToCompensate_26 : decode cX7_nextToCompensate 26 = .ok (.iload_n 1, 1) := by decide +kernel
theorem dX7_nextToCompensate_27 : decode cX7_nextToCompensate 27 = .ok (.iload 5, 2) := by decide +kernel
theorem dX7_nextToCompensate_29 : decode cX7_nextToCompensate 29 = .ok (.iconst 0, 1) := by decide +kernel
theorem dX7_nextToCompensate_30 : decode cX7_nextToCompensate 30 = .ok (.invokevirtual 171, 3) := by decide +kernel
theorem dX7_nextToCompensate_33 : decode cX7_nextToCompensate 33 = .ok (.iconst 1, 1) := by decide +kernel
theorem dX7_nextToCompensate_34 : decode cX7_nextToCompensate 34 = .ok (.if_icmp .ne 50, 3) := by decide +kernel
theorem dX7_nextToCompensate_37 : decode cX7_nextToCompensate 37 = .ok (.aload_n 0, 1) := by decide +kernel
theorem dX7_nextToCompensate_38 : decode cX7_nextToCompensate 38 = .ok (.getfield 22, 3) := by decide +kernel
theorem dX7_nextToCompensate_41 : decode cX7_nextToCompensate 41 = .ok (.iload_n 1, 1) := by decide +kernel
theorem dX7_nextToCompensate_42 : decode cX7_nextToCompensate 42 = .ok (.iload 5, 2) := by decide +kernel
theorem dX7_nextToCompensate_44 : decode cX7_nextToCompensate 44 = .ok (.iconst 0, 1) := by decide +kernel
theorem dX7_nextToCompensate_45 : decode cX7_nextToCompensate 45 = .ok (.invokestatic 169, 3) := by decide +kernel
theorem dX7_nextToCompensate_48 : decode cX7_nextToCompensate 48 = .ok (.iaload, 1) := by decide +kernel
theorem dX7_nextToCompensate_49 : decode cX7_nextToCompensate 49 = .ok (.iconst 2, 1) := by decide +kernel
theorem dX7_nextToCompensate_50 : decode cX7_nextToCompensate 50 = .ok (.if_icmp .ne 34, 3) := by decide +kernel
theorem dX7_nextToCompensate_53 : decode cX7_nextToCompensate 53 = .ok (.aload_n 0, 1) := by decide +kernel
theorem dX7_nextToCompensate_54 : decode cX7_nextToCompensate 54 = .ok (.iload_n 1, 1) := by decide +kernel
theorem dX7_nextToCompensate_55 : decode cX7_nextToCompensate 55 = .ok (.iload 5, 2) := by decide +kernel
theorem dX7_nextToCompensate_57 : decode cX7_nextToCompensate 57 = .ok (.iconst 4, 1) := by decide +kernel
theorem dX7_nextToCompensate_58 : decode cX7_nextToCompensate 58 = .ok (.invokevirtual 171, 3) := by decide +kernel
theorem dX7_nextToCompensate_61 : decode cX7_nextToCompensate 61 = .ok (.ifCond .lt 23, 3) := by decide +kernel
theorem dX7_nextToCompensate_64 : decode cX7_nextToCompensate 64 = .ok (.aload_n 0, 1) := by decide +kernel
theorem dX7_nextToCompensate_65 : decode cX7_nextToCompensate 65 = .ok (.getfield 22, 3) := by decide +kernel
theorem dX7_nextToCompensate_68 : decode cX7_nextToCompensate 68 = .ok (.iload_n 1, 1) := by decide +kernel
theorem dX7_nextToCompensate_69 : decode cX7_nextToCompensate 69 = .ok (.iload 5, 2) := by decide +kernel
theorem dX7_nextToCompensate_71 : decode cX7_nextToCompensate 71 = .ok (.bipush 6, 2) := by decide +kernel
theorem dX7_nextToCompensate_73 : decode cX7_nextToCompensate 73 = .ok (.invokestatic 169, 3) := by decide +kernel
theorem dX7_nextToCompensate_76 : decode cX7_nextToCompensate 76 = .ok (.iaload, 1) := by decide +kernel
theorem dX7_nextToCompensate_77 : decode cX7_nextToCompensate 77 = .ok (.ifCond .ne 7, 3) := by decide +kernel
theorem dX7_nextToCompensate_80 : decode cX7_nextToCompensate 80 = .ok (.iconst 1, 1) := by decide +kernel
theorem dX7_nextToCompensate_81 : decode cX7_nextToCompensate 81 = .ok (.goto 4, 3) := by decide +kernel
theorem dX7_nextToCompensate_84 : decode cX7_nextToCompensate 84 = .ok (.iconst 0, 1) := by decide +kernel
theorem dX7_nextToCompensate_85 : decode cX7_nextToCompensate 85 = .ok (.istore 6, 2) := by decide +kernel
theorem dX7_nextToCompensate_87 : decode cX7_nextToCompensate 87 = .ok (.iload 6, 2) := by decide +kernel
theorem dX7_nextToCompensate_89 : decode cX7_nextToCompensate 89 = .ok (.ifCond .eq 48, 3) := by decide +kernel
theorem dX7_nextToCompensate_92 : decode cX7_nextToCompensate 92 = .ok (.aload_n 0, 1) := by decide +kernel
theorem dX7_nextToCompensate_93 : decode cX7_nextToCompensate 93 = .ok (.getfield 22, 3) := by decide +kernel
theorem dX7_nextToCompensate_96 : decode cX7_nextToCompensate 96 = .ok (.iload_n 1, 1) := by decide +kernel
theorem dX7_nextToCompensate_97 : decode cX7_nextToCompensate 97 = .ok (.iload 5, 2) := by decide +kernel
theorem dX7_nextToCompensate_99 : decode cX7_nextToCompensate 99 = .ok (.iconst 5, 1) := by decide +kernel
theorem dX7_nextToCompensate_100 : decode cX7_nextToCompensate 100 = .ok (.invokestatic 169, 3) := by decide +kernel
theorem dX7_nextToCompensate_103 : decode cX7_nextToCompensate 103 = .ok (.iaload, 1) := by decide +kernel
theorem dX7_nextToCompensate_104 : decode cX7_nextToCompensate 104 = .ok (.iload 4, 2) := by decide +kernel
theorem dX7_nextToCompensate_106 : decode cX7_nextToCompensate 106 = .ok (.if_icmp .le 31, 3) := by decide +kernel
theorem dX7_nextToCompensate_109 : decode cX7_nextToCompensate 109 = .ok (.aload_n 0, 1) := by decide +kernel
theorem dX7_nextToCompensate_110 : decode cX7_nextToCompensate 110 = .ok (.iload_n 1, 1) := by decide +kernel
theorem dX7_nextToCompensate_111 : decode cX7_nextToCompensate 111 = .ok (.iload 5, 2) := by decide +kernel
theorem dX7_nextToCompensate_113 : decode cX7_nextToCompensate 113 = .ok (.iload_n 2, 1) := by decide +kernel
theorem dX7_nextToCompensate_114 : decode cX7_nextToCompensate 114 = .ok (.invokevirtual 220, 3) := by decide +kernel
theorem dX7_nextToCompensate_117 : decode cX7_nextToCompensate 117 = .ok (.ifCond .eq 20, 3) := by decide +kernel
theorem dX7_nextToCompensate_120 : decode cX7_nextToCompensate 120 = .ok (.iload 5, 2) := by decide +kernel
theorem dX7_nextToCompensate_122 : decode cX7_nextToCompensate 122 = .ok (.istore_n 3, 1) := by decide +kernel
theorem dX7_nextToCompensate_123 : decode cX7_nextToCompensate 123 = .ok (.aload_n 0, 1) := by decide +kernel
theorem dX7_nextToCompensate_124 : decode cX7_nextToCompensate 124 = .ok (.getfield 22, 3) := by decide +kernel
theorem dX7_nextToCompensate_127 : decode cX7_nextToCompensate 127 = .ok (.iload_n 1, 1) := by decide +kernel
theorem dX7_nextToCompensate_128 : decode cX7_nextToCompensate 128 = .ok (.iload 5, 2) := by decide +kernel
theorem dX7_nextToCompensate_130 : decode cX7_nextToCompensate 130 = .ok (.iconst 5, 1) := by decide +kernel
theorem dX7_nextToCompensate_131 : decode cX7_nextToCompensate 131 = .ok (.invokestatic 169, 3) := by decide +kernel
theorem dX7_nextToCompensate_134 : decode cX7_nextToCompensate 134 = .ok (.iaload, 1) := by decide +kernel
theorem dX7_nextToCompensate_135 : decode cX7_nextToCompensate 135 = .ok (.istore 4, 2) := by decide +kernel
theorem dX7_nextToCompensate_137 : decode cX7_nextToCompensate 137 = .ok (.iinc 5 1, 3) := by decide +kernel
theorem dX7_nextToCompensate_140 : decode cX7_nextToCompensate 140 = .ok (.goto (-132), 3) := by decide +kernel
theorem dX7_nextToCompensate_143 : decode cX7_nextToCompensate 143 = .ok (.iload_n 3, 1) := by decide +kernel
theorem dX7_nextToCompensate_144 : decode cX7_nextToCompensate 144 = .ok (.ireturn, 1) := by decide +kernel
theorem dX7_triesToCompensate_0 : decode cX7_triesToCompensate 0 = .ok (.aload_n 0, 1) := by decide +kernel
theorem dX7_triesToCompensate_1 : decode cX7_triesToCompensate 1 = .ok (.iload_n 1, 1) := by decide +kernel
theorem dX7_triesToCompensate_2 : decode cX7_triesToCompensate 2 = .ok (.aload_n 0, 1) := by decide +kernel
theorem dX7_triesToCompensate_3 : decode cX7_triesToCompensate 3 = .ok (.getfield 22, 3) := by decide +kernel
theorem dX7_triesToCompensate_6 : decode cX7_triesToCompensate 6 = .ok (.iload_n 1, 1) := by decide +kernel
theorem dX7_triesToCompensate_7 : decode cX7_triesToCompensate 7 = .ok (.iload_n 2, 1) := by decide +kernel
theorem dX7_triesToCompensate_8 : decode cX7_triesToCompensate 8 = .ok (.bipush 7, 2) := by decide +kernel
theorem dX7_triesToCompensate_10 : decode cX7_triesToCompensate 10 = .ok (.invokestatic 169, 3) := by decide +kernel
theorem dX7_triesToCompensate_13 : decode cX7_triesToCompensate 13 = .ok (.iaload, 1) := by decide +kernel
theorem dX7_triesToCompensate_14 : decode cX7_triesToCompensate 14 = .ok (.iconst 4, 1) := by decide +kernel
theorem dX7_triesToCompensate_15 : decode cX7_triesToCompensate 15 = .ok (.invokevirtual 171, 3) := by decide +kernel
theorem dX7_triesToCompensate_18 : decode cX7_triesToCompensate 18 = .ok (.istore_n 3, 1) := by decide +kernel
theorem dX7_triesToCompensate_19 : decode cX7_triesToCompensate 19 = .ok (.aload_n 0, 1) := by decide +kernel
theorem dX7_triesToCompensate_20 : decode cX7_triesToCompensate 20 = .ok (.iload_n 1, 1) := by decide +kernel
theorem dX7_triesToCompensate_21 : decode cX7_triesToCompensate 21 = .ok (.iconst 5, 1) := by decide +kernel
theorem dX7_triesToCompensate_22 : decode cX7_triesToCompensate 22 = .ok (.iload_n 3, 1) := by decide +kernel
theorem dX7_triesToCompensate_23 : decode cX7_triesToCompensate 23 = .ok (.invokevirtual 174, 3) := by decide +kernel
theorem dX7_triesToCompensate_26 : decode cX7_triesToCompensate 26 = .ok (.aload_n 0, 1) := by decide +kernel
theorem dX7_triesToCompensate_27 : decode cX7_triesToCompensate 27 = .ok (.getfield 22, 3) := by decide +kernel
theorem dX7_triesToCompensate_30 : decode cX7_triesToCompensate 30 = .ok (.iload_n 1, 1) := by decide +kernel
theorem dX7_triesToCompensate_31 : decode cX7_triesToCompensate 31 = .ok (.iload_n 2, 1) := by decide +kernel
theorem dX7_triesToCompensate_32 : decode cX7_triesToCompensate 32 = .ok (.bipush 9, 2) := by decide +kernel
theorem dX7_triesToCompensate_34 : decode cX7_triesToCompensate 34 = .ok (.invokestatic 169, 3) := by decide +kernel
theorem dX7_triesToCompensate_37 : decode cX7_triesToCompensate 37 = .ok (.aload_n 0, 1) := by decide +kernel
theorem dX7_triesToCompensate_38 : decode cX7_triesToCompensate 38 = .ok (.getfield 22, 3) := by decide +kernel
theorem dX7_triesToCompensate_41 : decode cX7_triesToCompensate 41 = .ok (.iconst 0, 1) := by decide +kernel
theorem dX7_triesToCompensate_42 : decode cX7_triesToCompensate 42 = .ok (.iaload, 1) := by decide +kernel
theorem dX7_triesToCompensate_43 : decode cX7_triesToCompensate 43 = .ok (.aload_n 0, 1) := by decide +kernel
theorem dX7_triesToCompensate_44 : decode cX7_triesToCompensate 44 = .ok (.getfield 22, 3) := by decide +kernel
theorem dX7_triesToCompensate_47 : decode cX7_triesToCompensate 47 = .ok (.iconst 1, 1) := by decide +kernel
theorem dX7_triesToCompensate_48 : decode cX7_triesToCompensate 48 = .ok (.iload_n 3, 1) := by decide +kernel
theorem dX7_triesToCompensate_49 : decode cX7_triesToCompensate 49 = .ok (.iadd, 1) := by decide +kernel
theorem dX7_triesToCompensate_50 : decode cX7_triesToCompensate 50 = .ok (.iaload, 1) := by decide +kernel
theorem dX7_triesToCompensate_51 : decode cX7_triesToCompensate 51 = .ok (.iadd, 1) := by decide +kernel
theorem dX7_triesToCompensate_52 : decode cX7_triesToCompensate 52 = .ok (.iastore, 1) := by decide +kernel
theorem dX7_triesToCompensate_53 : decode cX7_triesToCompensate 53 = .ok (.return_, 1) := by decide +kernel
theorem dX7_handles_0 : decode cX7_handles 0 = .ok (.aload_n 0, 1) := by decide +kernel
theorem dX7_handles_1 : decode cX7_handles 1 = .ok (.getfield 22, 3) := by decide +kernel
theorem dX7_handles_4 : decode cX7_handles 4 = .ok (.iload_n 1, 1) := by decide +kernel
theorem dX7_handles_5 : decode cX7_handles 5 = .ok (.iload_n 2, 1) := by decide +kernel
theorem dX7_handles_6 : decode cX7_handles 6 = .ok (.bipush 7, 2) := by decide +kernel
theorem dX7_handles_8 : decode cX7_handles 8 = .ok (.invokestatic 169, 3) := by decide +kernel
theorem dX7_handles_11 : decode cX7_handles 11 = .ok (.iaload, 1) := by decide +kernel
theorem dX7_handles_12 : decode cX7_handles 12 = .ok (.istore 5, 2) := by decide +kernel
theorem dX7_handles_14 : decode cX7_handles 14 = .ok (.aload_n 0, 1) := by decide +kernel
theorem dX7_handles_15 : decode cX7_handles 15 = .ok (.iload_n 1, 1) := by decide +kernel
theorem dX7_handles_16 : decode cX7_handles 16 = .ok (.iload_n 3, 1) := by decide +kernel
theorem dX7_handles_17 : decode cX7_handles 17 = .ok (.aload_n 0, 1) := by decide +kernel
theorem dX7_handles_18 : decode cX7_handles 18 = .ok (.iload_n 1, 1) := by decide +kernel
theorem dX7_handles_19 : decode cX7_handles 19 = .ok (.iload 5, 2) := by decide +kernel
theorem dX7_handles_21 : decode cX7_handles 21 = .ok (.iconst 1, 1) := by decide +kernel
theorem dX7_handles_22 : decode cX7_handles 22 = .ok (.invokevirtual 171, 3) := by decide +kernel
theorem dX7_handles_25 : decode cX7_handles 25 = .ok (.invokevirtual 174, 3) := by decide +kernel
theorem dX7_handles_28 : decode cX7_handles 28 = .ok (.aload_n 0, 1) := by decide +kernel
theorem dX7_handles_29 : decode cX7_handles 29 = .ok (.getfield 22, 3) := by decide +kernel
theorem dX7_handles_32 : decode cX7_handles 32 = .ok (.iload_n 1, 1) := by decide +kernel
theorem dX7_handles_33 : decode cX7_handles 33 = .ok (.iload 5, 2) := by decide +kernel
theorem dX7_handles_35 : decode cX7_handles 35 = .ok (.bipush 6, 2) := by decide +kernel
theorem dX7_handles_37 : decode cX7_handles 37 = .ok (.invokestatic 169, 3) := by decide +kernel
theorem dX7_handles_40 : decode cX7_handles 40 = .ok (.iload_n 3, 1) := by decide +kernel
theorem dX7_handles_41 : decode cX7_handles 41 = .ok (.iastore, 1) := by decide +kernel
theorem dX7_handles_42 : decode cX7_handles 42 = .ok (.aload_n 0, 1) := by decide +kernel
theorem dX7_handles_43 : decode cX7_handles 43 = .ok (.getfield 22, 3) := by decide +kernel
theorem dX7_handles_46 : decode cX7_handles 46 = .ok (.iload_n 1, 1) := by decide +kernel
theorem dX7_handles_47 : decode cX7_handles 47 = .ok (.iload 4, 2) := by decide +kernel
theorem dX7_handles_49 : decode cX7_handles 49 = .ok (.invokestatic 163, 3) := by decide +kernel
theorem dX7_handles_52 : decode cX7_handles 52 = .ok (.dup2, 1) := by decide +kernel
theorem dX7_handles_53 : decode cX7_handles 53 = .ok (.iaload, 1) := by decide +kernel
theorem dX7_handles_54 : decode cX7_handles 54 = .ok (.iconst 1, 1) := by decide +kernel
theorem dX7_handles_55 : decode cX7_handles 55 = .ok (.iadd, 1) := by decide +kernel
theorem dX7_handles_56 : decode cX7_handles 56 = .ok (.iastore, 1) := by decide +kernel
theorem dX7_handles_57 : decode cX7_handles 57 = .ok (.aload_n 0, 1) := by decide +kernel
theorem dX7_handles_58 : decode cX7_handles 58 = .ok (.getfield 22, 3) := by decide +kernel
theorem dX7_handles_61 : decode cX7_handles 61 = .ok (.iload_n 1, 1) := by decide +kernel
theorem dX7_handles_62 : decode cX7_handles 62 = .ok (.iload_n 2, 1) := by decide +kernel
theorem dX7_handles_63 : decode cX7_handles 63 = .ok (.bipush 7, 2) := by decide +kernel
theorem dX7_handles_65 : decode cX7_handles 65 = .ok (.invokestatic 169, 3) := by decide +kernel
theorem dX7_handles_68 : decode cX7_handles 68 = .ok (.iconst (-1), 1) := by decide +kernel
theorem dX7_handles_69 : decode cX7_handles 69 = .ok (.iastore, 1) := by decide +kernel
theorem dX7_handles_70 : decode cX7_handles 70 = .ok (.return_, 1) := by decide +kernel
theorem dX7_compensates_0 : decode cX7_compensates 0 = .ok (.aload_n 0, 1) := by decide +kernel
theorem dX7_compensates_1 : decode cX7_compensates 1 = .ok (.getfield 22, 3) := by decide +kernel
theorem dX7_compensates_4 : decode cX7_compensates 4 = .ok (.iload_n 1, 1) := by decide +kernel
theorem dX7_compensates_5 : decode cX7_compensates 5 = .ok (.iload_n 2, 1) := by decide +kernel
theorem dX7_compensates_6 : decode cX7_compensates 6 = .ok (.bipush 7, 2) := by decide +kernel
theorem dX7_compensates_8 : decode cX7_compensates 8 = .ok (.invokestatic 169, 3) := by decide +kernel
theorem dX7_compensates_11 : decode cX7_compensates 11 = .ok (.iaload, 1) := by decide +kernel
theorem dX7_compensates_12 : decode cX7_compensates 12 = .ok (.ifCond .ge 48, 3) := by decide +kernel
theorem dX7_compensates_15 : decode cX7_compensates 15 = .ok (.aload_n 0, 1) := by decide +kernel
theorem dX7_compensates_16 : decode cX7_compensates 16 = .ok (.iload_n 1, 1) := by decide +kernel
theorem dX7_compensates_17 : decode cX7_compensates 17 = .ok (.iload_n 2, 1) := by decide +kernel
theorem dX7_compensates_18 : decode cX7_compensates 18 = .ok (.invokevirtual 223, 3) := by decide +kernel
theorem dX7_compensates_21 : decode cX7_compensates 21 = .ok (.istore_n 3, 1) := by decide +kernel
theorem dX7_compensates_22 : decode cX7_compensates 22 = .ok (.iload_n 3, 1) := by decide +kernel
theorem dX7_compensates_23 : decode cX7_compensates 23 = .ok (.ifCond .ge 5, 3) := by decide +kernel
theorem dX7_compensates_26 : decode cX7_compensates 26 = .ok (.iconst 1, 1) := by decide +kernel
theorem dX7_compensates_27 : decode cX7_compensates 27 = .ok (.ireturn, 1) := by decide +kernel
theorem dX7_compensates_28 : decode cX7_compensates 28 = .ok (.aload_n 0, 1) := by decide +kernel
theorem dX7_compensates_29 : decode cX7_compensates 29 = .ok (.getfield 22, 3) := by decide +kernel
theorem dX7_compensates_32 : decode cX7_compensates 32 = .ok (.iload_n 1, 1) := by decide +kernel
theorem dX7_compensates_33 : decode cX7_compensates 33 = .ok (.iload_n 2, 1) := by decide +kernel
theorem dX7_compensates_34 : decode cX7_compensates 34 = .ok (.bipush 7, 2) := by decide +kernel
theorem dX7_compensates_36 : decode cX7_compensates 36 = .ok (.invokestatic 169, 3) := by decide +kernel
theorem dX7_compensates_39 : decode cX7_compensates 39 = .ok (.iload_n 3, 1) := by decide +kernel
theorem dX7_compensates_40 : decode cX7_compensates 40 = .ok (.iastore, 1) := by decide +kernel
theorem dX7_compensates_41 : decode cX7_compensates 41 = .ok (.aload_n 0, 1) := by decide +kernel
theorem dX7_compensates_42 : decode cX7_compensates 42 = .ok (.getfield 22, 3) := by decide +kernel
theorem dX7_compensates_45 : decode cX7_compensates 45 = .ok (.iload_n 1, 1) := by decide +kernel
theorem dX7_compensates_46 : decode cX7_compensates 46 = .ok (.iload_n 2, 1) := by decide +kernel
theorem dX7_compensates_47 : decode cX7_compensates 47 = .ok (.bipush 8, 2) := by decide +kernel
theorem dX7_compensates_49 : decode cX7_compensates 49 = .ok (.invokestatic 169, 3) := by decide +kernel
theorem dX7_compensates_52 : decode cX7_compensates 52 = .ok (.iconst 0, 1) := by decide +kernel
theorem dX7_compensates_53 : decode cX7_compensates 53 = .ok (.iastore, 1) := by decide +kernel
theorem dX7_compensates_54 : decode cX7_compensates 54 = .ok (.aload_n 0, 1) := by decide +kernel
theorem dX7_compensates_55 : decode cX7_compensates 55 = .ok (.iload_n 1, 1) := by decide +kernel
theorem dX7_compensates_56 : decode cX7_compensates 56 = .ok (.iload_n 2, 1) := by decide +kernel
theorem dX7_compensates_57 : decode cX7_compensates 57 = .ok (.invokevirtual 226, 3) := by decide +kernel
theorem dX7_compensates_60 : decode cX7_compensates 60 = .ok (.aload_n 0, 1) := by decide +kernel
theorem dX7_compensates_61 : decode cX7_compensates 61 = .ok (.getfield 22, 3) := by decide +kernel
theorem dX7_compensates_64 : decode cX7_compensates 64 = .ok (.iload_n 1, 1) := by decide +kernel
theorem dX7_compensates_65 : decode cX7_compensates 65 = .ok (.iload_n 2, 1) := by decide +kernel
theorem dX7_compensates_66 : decode cX7_compensates 66 = .ok (.bipush 9, 2) := by decide +kernel
theorem dX7_compensates_68 : decode cX7_compensates 68 = .ok (.invokestatic 169, 3) := by decide +kernel
theorem dX7_compensates_71 : decode cX7_compensates 71 = .ok (.iaload, 1) := by decide +kernel
theorem dX7_compensates_72 : decode cX7_compensates 72 = .ok (.aload_n 0, 1) := by decide +kernel
theorem dX7_compensates_73 : decode cX7_compensates 73 = .ok (.getfield 22, 3) := by decide +kernel
theorem dX7_compensates_76 : decode cX7_compensates 76 = .ok (.iconst 0, 1) := by decide +kernel
theorem dX7_compensates_77 : decode cX7_compensates 77 = .ok (.iaload, 1) := by decide +kernel
theorem dX7_compensates_78 : decode cX7_compensates 78 = .ok (.if_icmp .le 5, 3) := by decide +kernel
theorem dX7_compensates_81 : decode cX7_compensates 81 = .ok (.iconst 0, 1) := by decide +kernel
theorem dX7_compensates_82 : decode cX7_compensates 82 = .ok (.ireturn, 1) := by decide +kernel
theorem dX7_compensates_83 : decode cX7_compensates 83 = .ok (.aload_n 0, 1) := by decide +kernel
theorem dX7_compensates_84 : decode cX7_compensates 84 = .ok (.aload_n 0, 1) := by decide +kernel
theorem dX7_compensates_85 : decode cX7_compensates 85 = .ok (.iload_n 1, 1) := by decide +kernel
theorem dX7_compensates_86 : decode cX7_compensates 86 = .ok (.aload_n 0, 1) := by decide +kernel
theorem dX7_compensates_87 : decode cX7_compensates 87 = .ok (.getfield 22, 3) := by decide +kernel
theorem dX7_compensates_90 : decode cX7_compensates 90 = .ok (.iload_n 1, 1) := by decide +kernel
theorem dX7_compensates_91 : decode cX7_compensates 91 = .ok (.iload_n 2, 1) := by decide +kernel
theorem dX7_compensates_92 : decode cX7_compensates 92 = .ok (.bipush 7, 2) := by decide +kernel
theorem dX7_compensates_94 : decode cX7_compensates 94 = .ok (.invokestatic 169, 3) := by decide +kernel
theorem dX7_compensates_97 : decode cX7_compensates 97 = .ok (.iaload, 1) := by decide +kernel
theorem dX7_compensates_98 : decode cX7_compensates 98 = .ok (.iconst 4, 1) := by decide +kernel
theorem dX7_compensates_99 : decode cX7_compensates 99 = .ok (.invokevirtual 171, 3) := by decide +kernel
theorem dX7_compensates_102 : decode cX7_compensates 102 = .ok (.invokevirtual 181, 3) := by decide +kernel
theorem dX7_compensates_105 : decode cX7_compensates 105 = .ok (.ifCond .ne 16, 3) := by decide +kernel
theorem dX7_compensates_108 : decode cX7_compensates 108 = .ok (.aload_n 0, 1) := by decide +kernel
theorem dX7_compensates_109 : decode cX7_compensates 109 = .ok (.iload_n 1, 1) := by decide +kernel
theorem dX7_compensates_110 : decode cX7_compensates 110 = .ok (.iload_n 2, 1) := by decide +kernel
theorem dX7_compensates_111 : decode cX7_compensates 111 = .ok (.bipush 6, 2) := by decide +kernel
theorem dX7_compensates_113 : decode cX7_compensates 113 = .ok (.bipush 7, 2) := by decide +kernel
theorem dX7_compensates_115 : decode cX7_compensates 115 = .ok (.invokevirtual 229, 3) := by decide +kernel
theorem dX7_compensates_118 : decode cX7_compensates 118 = .ok (.goto (-118), 3) := by decide +kernel
theorem dX7_compensates_121 : decode cX7_compensates 121 = .ok (.aload_n 0, 1) := by decide +kernel
theorem dX7_compensates_122 : decode cX7_compensates 122 = .ok (.getfield 22, 3) := by decide +kernel
theorem dX7_compensates_125 : decode cX7_compensates 125 = .ok (.iload_n 1, 1) := by decide +kernel
theorem dX7_compensates_126 : decode cX7_compensates 126 = .ok (.iload_n 2, 1) := by decide +kernel
theorem dX7_compensates_127 : decode cX7_compensates 127 = .ok (.bipush 8, 2) := by decide +kernel
theorem dX7_compensates_129 : decode cX7_compensates 129 = .ok (.invokestatic 169, 3) := by decide +kernel
theorem dX7_compensates_132 : decode cX7_compensates 132 = .ok (.dup2, 1) := by decide +kernel
theorem dX7_compensates_133 : decode cX7_compensates 133 = .ok (.iaload, 1) := by decide +kernel
theorem dX7_compensates_134 : decode cX7_compensates 134 = .ok (.iconst 1, 1) := by decide +kernel
theorem dX7_compensates_135 : decode cX7_compensates 135 = .ok (.iadd, 1) := by decide +kernel
theorem dX7_compensates_136 : decode cX7_compensates 136 = .ok (.iastore, 1) := by decide +kernel
theorem dX7_compensates_137 : decode cX7_compensates 137 = .ok (.aload_n 0, 1) := by decide +kernel
theorem dX7_compensates_138 : decode cX7_compensates 138 = .ok (.getfield 22, 3) := by decide +kernel
theorem dX7_compensates_141 : decode cX7_compensates 141 = .ok (.iload_n 1, 1) := by decide +kernel
theorem dX7_compensates_142 : decode cX7_compensates 142 = .ok (.iload_n 2, 1) := by decide +kernel
theorem dX7_compensates_143 : decode cX7_compensates 143 = .ok (.bipush 8, 2) := by decide +kernel
theorem dX7_compensates_145 : decode cX7_compensates 145 = .ok (.invokestatic 169, 3) := by decide +kernel
theorem dX7_compensates_148 : decode cX7_compensates 148 = .ok (.iaload, 1) := by decide +kernel
theorem dX7_compensates_149 : decode cX7_compensates 149 = .ok (.iconst 3, 1) := by decide +kernel
theorem dX7_compensates_150 : decode cX7_compensates 150 = .ok (.if_icmp .ne 16, 3) := by decide +kernel
theorem dX7_compensates_153 : decode cX7_compensates 153 = .ok (.aload_n 0, 1) := by decide +kernel
theorem dX7_compensates_154 : decode cX7_compensates 154 = .ok (.iload_n 1, 1) := by decide +kernel
theorem dX7_compensates_155 : decode cX7_compensates 155 = .ok (.iload_n 2, 1) := by decide +kernel
theorem dX7_compensates_156 : decode cX7_compensates 156 = .ok (.bipush 7, 2) := by decide +kernel
theorem dX7_compensates_158 : decode cX7_compensates 158 = .ok (.bipush 8, 2) := by decide +kernel
theorem dX7_compensates_160 : decode cX7_compensates 160 = .ok (.invokevirtual 229, 3) := by decide +kernel
theorem dX7_compensates_163 : decode cX7_compensates 163 = .ok (.goto (-163), 3) := by decide +kernel
theorem dX7_compensates_166 : decode cX7_compensates 166 = .ok (.aload_n 0, 1) := by decide +kernel
theorem dX7_compensates_167 : decode cX7_compensates 167 = .ok (.iload_n 1, 1) := by decide +kernel
theorem dX7_compensates_168 : decode cX7_compensates 168 = .ok (.iload_n 2, 1) := by decide +kernel
theorem dX7_compensates_169 : decode cX7_compensates 169 = .ok (.invokevirtual 226, 3) := by decide +kernel
theorem dX7_compensates_172 : decode cX7_compensates 172 = .ok (.goto (-172), 3) := by decide +kernel
theorem dX7_becomes_0 : decode cX7_becomes 0 = .ok (.aload_n 0, 1) := by decide +kernel
theorem dX7_becomes_1 : decode cX7_becomes 1 = .ok (.getfield 22, 3) := by decide +kernel
theorem dX7_becomes_4 : decode cX7_becomes 4 = .ok (.iload_n 1, 1) := by decide +kernel
theorem dX7_becomes_5 : decode cX7_becomes 5 = .ok (.iconst 1, 1) := by decide +kernel
theorem dX7_becomes_6 : decode cX7_becomes 6 = .ok (.invokestatic 163, 3) := by decide +kernel
theorem dX7_becomes_9 : decode cX7_becomes 9 = .ok (.iload_n 2, 1) := by decide +kernel
theorem dX7_becomes_10 : decode cX7_becomes 10 = .ok (.iastore, 1) := by decide +kernel
theorem dX7_becomes_11 : decode cX7_becomes 11 = .ok (.aload_n 0, 1) := by decide +kernel
theorem dX7_becomes_12 : decode cX7_becomes 12 = .ok (.iload_n 1, 1) := by decide +kernel
theorem dX7_becomes_13 : decode cX7_becomes 13 = .ok (.bipush 11, 2) := by decide +kernel
theorem dX7_becomes_15 : decode cX7_becomes 15 = .ok (.iload_n 2, 1) := by decide +kernel
theorem dX7_becomes_16 : decode cX7_becomes 16 = .ok (.invokevirtual 174, 3) := by decide +kernel
theorem dX7_becomes_19 : decode cX7_becomes 19 = .ok (.iload_n 2, 1) := by decide +kernel
theorem dX7_becomes_20 : decode cX7_becomes 20 = .ok (.iconst 2, 1) := by decide +kernel
theorem dX7_becomes_21 : decode cX7_becomes 21 = .ok (.if_icmp .eq 19, 3) := by decide +kernel
theorem dX7_becomes_24 : decode cX7_becomes 24 = .ok (.aload_n 0, 1) := by decide +kernel
theorem dX7_becomes_25 : decode cX7_becomes 25 = .ok (.getfield 22, 3) := by decide +kernel
theorem dX7_becomes_28 : decode cX7_becomes 28 = .ok (.iload_n 1, 1) := by decide +kernel
theorem dX7_becomes_29 : decode cX7_becomes 29 = .ok (.iconst 5, 1) := by decide +kernel
theorem dX7_becomes_30 : decode cX7_becomes 30 = .ok (.invokestatic 163, 3) := by decide +kernel
theorem dX7_becomes_33 : decode cX7_becomes 33 = .ok (.aload_n 0, 1) := by decide +kernel
theorem dX7_becomes_34 : decode cX7_becomes 34 = .ok (.getfield 22, 3) := by decide +kernel
theorem dX7_becomes_37 : decode cX7_becomes 37 = .ok (.iconst 0, 1) := by decide +kernel
theorem dX7_becomes_38 : decode cX7_becomes 38 = .ok (.iaload, 1) := by decide +kernel
theorem dX7_becomes_39 : decode cX7_becomes 39 = .ok (.iastore, 1) := by decide +kernel
theorem dX7_becomes_40 : decode cX7_becomes 40 = .ok (.return_, 1) := by decide +kernel
theorem dX7_looksAt_0 : decode cX7_looksAt 0 = .ok (.aload_n 0, 1) := by decide +kernel
theorem dX7_looksAt_1 : decode cX7_looksAt 1 = .ok (.getfield 22, 3) := by decide +kernel
theorem dX7_looksAt_4 : decode cX7_looksAt 4 = .ok (.iload_n 1, 1) := by decide +kernel
theorem dX7_looksAt_5 : decode cX7_looksAt 5 = .ok (.iconst 1, 1) := by decide +kernel
theorem dX7_looksAt_6 : decode cX7_looksAt 6 = .ok (.invokestatic 163, 3) := by decide +kernel
theorem dX7_looksAt_9 : decode cX7_looksAt 9 = .ok (.iaload, 1) := by decide +kernel
theorem dX7_looksAt_10 : decode cX7_looksAt 10 = .ok (.ifCond .ne 48, 3) := by decide +kernel
theorem dX7_looksAt_13 : decode cX7_looksAt 13 = .ok (.aload_n 0, 1) := by decide +kernel
theorem dX7_looksAt_14 : decode cX7_looksAt 14 = .ok (.iload_n 1, 1) := by decide +kernel
theorem dX7_looksAt_15 : decode cX7_looksAt 15 = .ok (.iconst 0, 1) := by decide +kernel
theorem dX7_looksAt_16 : decode cX7_looksAt 16 = .ok (.invokevirtual 196, 3) := by decide +kernel
theorem dX7_looksAt_19 : decode cX7_looksAt 19 = .ok (.istore_n 2, 1) := by decide +kernel
theorem dX7_looksAt_20 : decode cX7_looksAt 20 = .ok (.iload_n 2, 1) := by decide +kernel
theorem dX7_looksAt_21 : decode cX7_looksAt 21 = .ok (.iconst 2, 1) := by decide +kernel
theorem dX7_looksAt_22 : decode cX7_looksAt 22 = .ok (.if_icmp .ne 12, 3) := by decide +kernel
theorem dX7_looksAt_25 : decode cX7_looksAt 25 = .ok (.aload_n 0, 1) := by decide +kernel
theorem dX7_looksAt_26 : decode cX7_looksAt 26 = .ok (.iload_n 1, 1) := by decide +kernel
theorem dX7_looksAt_27 : decode cX7_looksAt 27 = .ok (.iconst 1, 1) := by decide +kernel
theorem dX7_looksAt_28 : decode cX7_looksAt 28 = .ok (.invokevirtual 233, 3) := by decide +kernel
theorem dX7_looksAt_31 : decode cX7_looksAt 31 = .ok (.goto 27, 3) := by decide +kernel
theorem dX7_looksAt_34 : decode cX7_looksAt 34 = .ok (.iload_n 2, 1) := by decide +kernel
theorem dX7_looksAt_35 : decode cX7_looksAt 35 = .ok (.iconst 3, 1) := by decide +kernel
theorem dX7_looksAt_36 : decode cX7_looksAt 36 = .ok (.if_icmp .ne 22, 3) := by decide +kernel
theorem dX7_looksAt_39 : decode cX7_looksAt 39 = .ok (.aload_n 0, 1) := by decide +kernel
theorem dX7_looksAt_40 : decode cX7_looksAt 40 = .ok (.getfield 22, 3) := by decide +kernel
theorem dX7_looksAt_43 : decode cX7_looksAt 43 = .ok (.iload_n 1, 1) := by decide +kernel
theorem dX7_looksAt_44 : decode cX7_looksAt 44 = .ok (.iconst 0, 1) := by decide +kernel
theorem dX7_looksAt_45 : decode cX7_looksAt 45 = .ok (.bipush 7, 2) := by decide +kernel
theorem dX7_looksAt_47 : decode cX7_looksAt 47 = .ok (.invokestatic 169, 3) := by decide +kernel
theorem dX7_looksAt_50 : decode cX7_looksAt 50 = .ok (.iconst (-1), 1) := by decide +kernel
theorem dX7_looksAt_51 : decode cX7_looksAt 51 = .ok (.iastore, 1) := by decide +kernel
theorem dX7_looksAt_52 : decode cX7_looksAt 52 = .ok (.aload_n 0, 1) := by decide +kernel
theorem dX7_looksAt_53 : decode cX7_looksAt 53 = .ok (.iload_n 1, 1) := by decide +kernel
theorem dX7_looksAt_54 : decode cX7_looksAt 54 = .ok (.iconst 2, 1) := by decide +kernel
theorem dX7_looksAt_55 : decode cX7_looksAt 55 = .ok (.invokevirtual 233, 3) := by decide +kernel
theorem dX7_looksAt_58 : decode cX7_looksAt 58 = .ok (.aload_n 0, 1) := by decide +kernel
theorem dX7_looksAt_59 : decode cX7_looksAt 59 = .ok (.getfield 22, 3) := by decide +kernel
theorem dX7_looksAt_62 : decode cX7_looksAt 62 = .ok (.iload_n 1, 1) := by decide +kernel
theorem dX7_looksAt_63 : decode cX7_looksAt 63 = .ok (.iconst 1, 1) := by decide +kernel
theorem dX7_looksAt_64 : decode cX7_looksAt 64 = .ok (.invokestatic 163, 3) := by decide +kernel
theorem dX7_looksAt_67 : decode cX7_looksAt 67 = .ok (.iaload, 1) := by decide +kernel
theorem dX7_looksAt_68 : decode cX7_looksAt 68 = .ok (.iconst 2, 1) := by decide +kernel
theorem dX7_looksAt_69 : decode cX7_looksAt 69 = .ok (.if_icmp .ne 36, 3) := by decide +kernel
theorem dX7_looksAt_72 : decode cX7_looksAt 72 = .ok (.aload_n 0, 1) := by decide +kernel
theorem dX7_looksAt_73 : decode cX7_looksAt 73 = .ok (.iload_n 1, 1) := by decide +kernel
theorem dX7_looksAt_74 : decode cX7_looksAt 74 = .ok (.iconst 0, 1) := by decide +kernel
theorem dX7_looksAt_75 : decode cX7_looksAt 75 = .ok (.invokevirtual 217, 3) := by decide +kernel
theorem dX7_looksAt_78 : decode cX7_looksAt 78 = .ok (.ifCond .eq 27, 3) := by decide +kernel
theorem dX7_looksAt_81 : decode cX7_looksAt 81 = .ok (.aload_n 0, 1) := by decide +kernel
theorem dX7_looksAt_82 : decode cX7_looksAt 82 = .ok (.iload_n 1, 1) := by decide +kernel
theorem dX7_looksAt_83 : decode cX7_looksAt 83 = .ok (.aload_n 0, 1) := by decide +kernel
theorem dX7_looksAt_84 : decode cX7_looksAt 84 = .ok (.getfield 22, 3) := by decide +kernel
theorem dX7_looksAt_87 : decode cX7_looksAt 87 = .ok (.iload_n 1, 1) := by decide +kernel
theorem dX7_looksAt_88 : decode cX7_looksAt 88 = .ok (.bipush 8, 2) := by decide +kernel
theorem dX7_looksAt_90 : decode cX7_looksAt 90 = .ok (.invokestatic 163, 3) := by decide +kernel
theorem dX7_looksAt_93 : decode cX7_looksAt 93 = .ok (.iaload, 1) := by decide +kernel
theorem dX7_looksAt_94 : decode cX7_looksAt 94 = .ok (.ifCond .le 7, 3) := by decide +kernel
theorem dX7_looksAt_97 : decode cX7_looksAt 97 = .ok (.iconst 4, 1) := by decide +kernel
theorem dX7_looksAt_98 : decode cX7_looksAt 98 = .ok (.goto 4, 3) := by decide +kernel
theorem dX7_looksAt_101 : decode cX7_looksAt 101 = .ok (.iconst 3, 1) := by decide +kernel
theorem dX7_looksAt_102 : decode cX7_looksAt 102 = .ok (.invokevirtual 233, 3) := by decide +kernel
theorem dX7_looksAt_105 : decode cX7_looksAt 105 = .ok (.return_, 1) := by decide +kernel
theorem dX7_instances_0 : decode cX7_instances 0 = .ok (.iconst 0, 1) := by decide +kernel
theorem dX7_instances_1 : decode cX7_instances 1 = .ok (.istore_n 1, 1) := by decide +kernel
theorem dX7_instances_2 : decode cX7_instances 2 = .ok (.iconst 0, 1) := by decide +kernel
theorem dX7_instances_3 : decode cX7_instances 3 = .ok (.istore_n 2, 1) := by decide +kernel
theorem dX7_instances_4 : decode cX7_instances 4 = .ok (.iload_n 2, 1) := by decide +kernel
theorem dX7_instances_5 : decode cX7_instances 5 = .ok (.bipush 6, 2) := by decide +kernel
theorem dX7_instances_7 : decode cX7_instances 7 = .ok (.if_icmp .ge 22, 3) := by decide +kernel
theorem dX7_instances_10 : decode cX7_instances 10 = .ok (.iload_n 1, 1) := by decide +kernel
theorem dX7_instances_11 : decode cX7_instances 11 = .ok (.aload_n 0, 1) := by decide +kernel
theorem dX7_instances_12 : decode cX7_instances 12 = .ok (.getfield 22, 3) := by decide +kernel
theorem dX7_instances_15 : decode cX7_instances 15 = .ok (.iload_n 2, 1) := by decide +kernel
theorem dX7_instances_16 : decode cX7_instances 16 = .ok (.iconst 0, 1) := by decide +kernel
theorem dX7_instances_17 : decode cX7_instances 17 = .ok (.invokestatic 163, 3) := by decide +kernel
theorem dX7_instances_20 : decode cX7_instances 20 = .ok (.iaload, 1) := by decide +kernel
theorem dX7_instances_21 : decode cX7_instances 21 = .ok (.iadd, 1) := by decide +kernel
theorem dX7_instances_22 : decode cX7_instances 22 = .ok (.istore_n 1, 1) := by decide +kernel
theorem dX7_instances_23 : decode cX7_instances 23 = .ok (.iinc 2 1, 3) := by decide +kernel
theorem dX7_instances_26 : decode cX7_instances 26 = .ok (.goto (-22), 3) := by decide +kernel
theorem dX7_instances_29 : decode cX7_instances 29 = .ok (.iload_n 1, 1) := by decide +kernel
theorem dX7_instances_30 : decode cX7_instances 30 = .ok (.ireturn, 1) := by decide +kernel
theorem dX7_start_0 : decode cX7_start 0 = .ok (.iload_n 1, 1) := by decide +kernel
theorem dX7_start_1 : decode cX7_start 1 = .ok (.invokestatic 138, 3) := by decide +kernel
theorem dX7_start_4 : decode cX7_start 4 = .ok (.ifCond .ne 5, 3) := by decide +kernel
theorem dX7_start_7 : decode cX7_start 7 = .ok (.iconst (-1), 1) := by decide +kernel
theorem dX7_start_8 : decode cX7_start 8 = .ok (.ireturn, 1) := by decide +kernel
theorem dX7_start_9 : decode cX7_start 9 = .ok (.aload_n 0, 1) := by decide +kernel
theorem dX7_start_10 : decode cX7_start 10 = .ok (.getfield 22, 3) := by decide +kernel
theorem dX7_start_13 : decode cX7_start 13 = .ok (.bipush 17, 2) := by decide +kernel
theorem dX7_start_15 : decode cX7_start 15 = .ok (.iload_n 1, 1) := by decide +kernel
theorem dX7_start_16 : decode cX7_start 16 = .ok (.iadd, 1) := by decide +kernel
theorem dX7_start_17 : decode cX7_start 17 = .ok (.iaload, 1) := by decide +kernel
theorem dX7_start_18 : decode cX7_start 18 = .ok (.ifCond .ne 6, 3) := by decide +kernel
theorem dX7_start_21 : decode cX7_start 21 = .ok (.bipush (-3), 2) := by decide +kernel
theorem dX7_start_23 : decode cX7_start 23 = .ok (.ireturn, 1) := by decide +kernel
theorem dX7_start_24 : decode cX7_start 24 = .ok (.aload_n 0, 1) := by decide +kernel
theorem dX7_start_25 : decode cX7_start 25 = .ok (.invokevirtual 236, 3) := by decide +kernel
theorem dX7_start_28 : decode cX7_start 28 = .ok (.bipush 6, 2) := by decide +kernel
theorem dX7_start_30 : decode cX7_start 30 = .ok (.if_icmp .ne 6, 3) := by decide +kernel
theorem dX7_start_33 : decode cX7_start 33 = .ok (.bipush (-4), 2) := by decide +kernel
theorem dX7_start_35 : decode cX7_start 35 = .ok (.ireturn, 1) := by decide +kernel
theorem dX7_start_36 : decode cX7_start 36 = .ok (.iconst 0, 1) := by decide +kernel
theorem dX7_start_37 : decode cX7_start 37 = .ok (.istore_n 2, 1) := by decide +kernel
theorem dX7_start_38 : decode cX7_start 38 = .ok (.aload_n 0, 1) := by decide +kernel
theorem dX7_start_39 : decode cX7_start 39 = .ok (.getfield 22, 3) := by decide +kernel
theorem dX7_start_42 : decode cX7_start 42 = .ok (.iload_n 2, 1) := by decide +kernel
theorem dX7_start_43 : decode cX7_start 43 = .ok (.iconst 0, 1) := by decide +kernel
theorem dX7_start_44 : decode cX7_start 44 = .ok (.invokestatic 163, 3) := by decide +kernel
theorem dX7_start_47 : decode cX7_start 47 = .ok (.iaload, 1) := by decide +kernel
theorem dX7_start_48 : decode cX7_start 48 = .ok (.iconst 1, 1) := by decide +kernel
theorem dX7_start_49 : decode cX7_start 49 = .ok (.if_icmp .ne 9, 3) := by decide +kernel
theorem dX7_start_52 : decode cX7_start 52 = .ok (.iinc 2 1, 3) := by decide +kernel
theorem dX7_start_55 : decode cX7_start 55 = .ok (.goto (-17), 3) := by decide +kernel
theorem dX7_start_58 : decode cX7_start 58 = .ok (.iconst 0, 1) := by decide +kernel
theorem dX7_start_59 : decode cX7_start 59 = .ok (.istore_n 3, 1) := by decide +kernel
theorem dX7_start_60 : decode cX7_start 60 = .ok (.iload_n 3, 1) := by decide +kernel
theorem dX7_start_61 : decode cX7_start 61 = .ok (.sipush 1262, 3) := by decide +kernel
theorem dX7_start_64 : decode cX7_start 64 = .ok (.if_icmp .ge 20, 3) := by decide +kernel
theorem dX7_start_67 : decode cX7_start 67 = .ok (.aload_n 0, 1) := by decide +kernel
theorem dX7_start_68 : decode cX7_start 68 = .ok (.getfield 22, 3) := by decide +kernel
theorem dX7_start_71 : decode cX7_start 71 = .ok (.iload_n 2, 1) := by decide +kernel
theorem dX7_start_72 : decode cX7_start 72 = .ok (.iload_n 3, 1) := by decide +kernel
theorem dX7_start_73 : decode cX7_start 73 = .ok (.invokestatic 163, 3) := by decide +kernel
theorem dX7_start_76 : decode cX7_start 76 = .ok (.iconst 0, 1) := by decide +kernel
theorem dX7_start_77 : decode cX7_start 77 = .ok (.iastore, 1) := by decide +kernel
theorem dX7_start_78 : decode cX7_start 78 = .ok (.iinc 3 1, 3) := by decide +kernel
theorem dX7_start_81 : decode cX7_start 81 = .ok (.goto (-21), 3) := by decide +kernel
theorem dX7_start_84 : decode cX7_start 84 = .ok (.aload_n 0, 1) := by decide +kernel
theorem dX7_start_85 : decode cX7_start 85 = .ok (.getfield 22, 3) := by decide +kernel
theorem dX7_start_88 : decode cX7_start 88 = .ok (.iload_n 2, 1) := by decide +kernel
theorem dX7_start_89 : decode cX7_start 89 = .ok (.iconst 0, 1) := by decide +kernel
theorem dX7_start_90 : decode cX7_start 90 = .ok (.invokestatic 163, 3) := by decide +kernel
theorem dX7_start_93 : decode cX7_start 93 = .ok (.iconst 1, 1) := by decide +kernel
theorem dX7_start_94 : decode cX7_start 94 = .ok (.iastore, 1) := by decide +kernel
theorem dX7_start_95 : decode cX7_start 95 = .ok (.aload_n 0, 1) := by decide +kernel
theorem dX7_start_96 : decode cX7_start 96 = .ok (.getfield 22, 3) := by decide +kernel
theorem dX7_start_99 : decode cX7_start 99 = .ok (.iload_n 2, 1) := by decide +kernel
theorem dX7_start_100 : decode cX7_start 100 = .ok (.iconst 2, 1) := by decide +kernel
theorem dX7_start_101 : decode cX7_start 101 = .ok (.invokestatic 163, 3) := by decide +kernel
theorem dX7_start_104 : decode cX7_start 104 = .ok (.iload_n 1, 1) := by decide +kernel
theorem dX7_start_105 : decode cX7_start 105 = .ok (.iastore, 1) := by decide +kernel
theorem dX7_start_106 : decode cX7_start 106 = .ok (.aload_n 0, 1) := by decide +kernel
theorem dX7_start_107 : decode cX7_start 107 = .ok (.getfield 22, 3) := by decide +kernel
theorem dX7_start_110 : decode cX7_start 110 = .ok (.iload_n 2, 1) := by decide +kernel
theorem dX7_start_111 : decode cX7_start 111 = .ok (.iconst 3, 1) := by decide +kernel
theorem dX7_start_112 : decode cX7_start 112 = .ok (.invokestatic 163, 3) := by decide +kernel
theorem dX7_start_115 : decode cX7_start 115 = .ok (.aload_n 0, 1) := by decide +kernel
theorem dX7_start_116 : decode cX7_start 116 = .ok (.getfield 22, 3) := by decide +kernel
theorem dX7_start_119 : decode cX7_start 119 = .ok (.bipush 17, 2) := by decide +kernel
theorem dX7_start_121 : decode cX7_start 121 = .ok (.iload_n 1, 1) := by decide +kernel
theorem dX7_start_122 : decode cX7_start 122 = .ok (.iadd, 1) := by decide +kernel
theorem dX7_start_123 : decode cX7_start 123 = .ok (.iaload, 1) := by decide +kernel
theorem dX7_start_124 : decode cX7_start 124 = .ok (.iconst 1, 1) := by decide +kernel
theorem dX7_start_125 : decode cX7_start 125 = .ok (.isub, 1) := by decide +kernel
theorem dX7_start_126 : decode cX7_start 126 = .ok (.iastore, 1) := by decide +kernel
theorem dX7_start_127 : decode cX7_start 127 = .ok (.aload_n 0, 1) := by decide +kernel
theorem dX7_start_128 : decode cX7_start 128 = .ok (.getfield 22, 3) := by decide +kernel
theorem dX7_start_131 : decode cX7_start 131 = .ok (.iload_n 2, 1) := by decide +kernel
theorem dX7_start_132 : decode cX7_start 132 = .ok (.iconst 4, 1) := by decide +kernel
theorem dX7_start_133 : decode cX7_start 133 = .ok (.invokestatic 163, 3) := by decide +kernel
theorem dX7_start_136 : decode cX7_start 136 = .ok (.aload_n 0, 1) := by decide +kernel
theorem dX7_start_137 : decode cX7_start 137 = .ok (.getfield 22, 3) := by decide +kernel
theorem dX7_start_140 : decode cX7_start 140 = .ok (.iconst 0, 1) := by decide +kernel
theorem dX7_start_141 : decode cX7_start 141 = .ok (.iaload, 1) := by decide +kernel
theorem dX7_start_142 : decode cX7_start 142 = .ok (.iastore, 1) := by decide +kernel
theorem dX7_start_143 : decode cX7_start 143 = .ok (.aload_n 0, 1) := by decide +kernel
theorem dX7_start_144 : decode cX7_start 144 = .ok (.getfield 22, 3) := by decide +kernel
theorem dX7_start_147 : decode cX7_start 147 = .ok (.iload_n 2, 1) := by decide +kernel
theorem dX7_start_148 : decode cX7_start 148 = .ok (.iconst 5, 1) := by decide +kernel
theorem dX7_start_149 : decode cX7_start 149 = .ok (.invokestatic 163, 3) := by decide +kernel
theorem dX7_start_152 : decode cX7_start 152 = .ok (.bipush (-5), 2) := by decide +kernel
theorem dX7_start_154 : decode cX7_start 154 = .ok (.iastore, 1) := by decide +kernel
theorem dX7_start_155 : decode cX7_start 155 = .ok (.iconst 0, 1) := by decide +kernel
theorem dX7_start_156 : decode cX7_start 156 = .ok (.istore_n 3, 1) := by decide +kernel
theorem dX7_start_157 : decode cX7_start 157 = .ok (.iload_n 3, 1) := by decide +kernel
theorem dX7_start_158 : decode cX7_start 158 = .ok (.bipush 64, 2) := by decide +kernel
theorem dX7_start_160 : decode cX7_start 160 = .ok (.if_icmp .ge 22, 3) := by decide +kernel
theorem dX7_start_163 : decode cX7_start 163 = .ok (.aload_n 0, 1) := by decide +kernel
theorem dX7_start_164 : decode cX7_start 164 = .ok (.getfield 22, 3) := by decide +kernel
theorem dX7_start_167 : decode cX7_start 167 = .ok (.iload_n 2, 1) := by decide +kernel
theorem dX7_start_168 : decode cX7_start 168 = .ok (.iload_n 3, 1) := by decide +kernel
theorem dX7_start_169 : decode cX7_start 169 = .ok (.bipush 7, 2) := by decide +kernel
theorem dX7_start_171 : decode cX7_start 171 = .ok (.invokestatic 169, 3) := by decide +kernel
theorem dX7_start_174 : decode cX7_start 174 = .ok (.iconst (-1), 1) := by decide +kernel
theorem dX7_start_175 : decode cX7_start 175 = .ok (.iastore, 1) := by decide +kernel
theorem dX7_start_176 : decode cX7_start 176 = .ok (.iinc 3 1, 3) := by decide +kernel
theorem dX7_start_179 : decode cX7_start 179 = .ok (.goto (-22), 3) := by decide +kernel
theorem dX7_start_182 : decode cX7_start 182 = .ok (.aload_n 0, 1) := by decide +kernel
theorem dX7_start_183 : decode cX7_start 183 = .ok (.iload_n 2, 1) := by decide +kernel
theorem dX7_start_184 : decode cX7_start 184 = .ok (.invokevirtual 239, 3) := by decide +kernel
theorem dX7_start_187 : decode cX7_start 187 = .ok (.iload_n 2, 1) := by decide +kernel
theorem dX7_start_188 : decode cX7_start 188 = .ok (.ireturn, 1) := by decide +kernel
theorem dX7_signal_0 : decode cX7_signal 0 = .ok (.aload_n 0, 1) := by decide +kernel
theorem dX7_signal_1 : decode cX7_signal 1 = .ok (.iload_n 1, 1) := by decide +kernel
theorem dX7_signal_2 : decode cX7_signal 2 = .ok (.invokevirtual 243, 3) := by decide +kernel
theorem dX7_signal_5 : decode cX7_signal 5 = .ok (.ifCond .eq 10, 3) := by decide +kernel
theorem dX7_signal_8 : decode cX7_signal 8 = .ok (.iload_n 2, 1) := by decide +kernel
theorem dX7_signal_9 : decode cX7_signal 9 = .ok (.invokestatic 160, 3) := by decide +kernel
theorem dX7_signal_12 : decode cX7_signal 12 = .ok (.ifCond .ne 5, 3) := by decide +kernel
theorem dX7_signal_15 : decode cX7_signal 15 = .ok (.iconst (-1), 1) := by decide +kernel
theorem dX7_signal_16 : decode cX7_signal 16 = .ok (.ireturn, 1) := by decide +kernel
theorem dX7_signal_17 : decode cX7_signal 17 = .ok (.aload_n 0, 1) := by decide +kernel
theorem dX7_signal_18 : decode cX7_signal 18 = .ok (.getfield 22, 3) := by decide +kernel
theorem dX7_signal_21 : decode cX7_signal 21 = .ok (.iload_n 1, 1) := by decide +kernel
theorem dX7_signal_22 : decode cX7_signal 22 = .ok (.iconst 1, 1) := by decide +kernel
theorem dX7_signal_23 : decode cX7_signal 23 = .ok (.invokestatic 163, 3) := by decide +kernel
theorem dX7_signal_26 : decode cX7_signal 26 = .ok (.iaload, 1) := by decide +kernel
theorem dX7_signal_27 : decode cX7_signal 27 = .ok (.ifCond .eq 6, 3) := by decide +kernel
theorem dX7_signal_30 : decode cX7_signal 30 = .ok (.bipush (-3), 2) := by decide +kernel
theorem dX7_signal_32 : decode cX7_signal 32 = .ok (.ireturn, 1) := by decide +kernel
theorem dX7_signal_33 : decode cX7_signal 33 = .ok (.aload_n 0, 1) := by decide +kernel
theorem dX7_signal_34 : decode cX7_signal 34 = .ok (.getfield 22, 3) := by decide +kernel
theorem dX7_signal_37 : decode cX7_signal 37 = .ok (.iload_n 1, 1) := by decide +kernel
theorem dX7_signal_38 : decode cX7_signal 38 = .ok (.bipush 14, 2) := by decide +kernel
theorem dX7_signal_40 : decode cX7_signal 40 = .ok (.iload_n 2, 1) := by decide +kernel
theorem dX7_signal_41 : decode cX7_signal 41 = .ok (.iadd, 1) := by decide +kernel
theorem dX7_signal_42 : decode cX7_signal 42 = .ok (.invokestatic 163, 3) := by decide +kernel
theorem dX7_signal_45 : decode cX7_signal 45 = .ok (.iaload, 1) := by decide +kernel
theorem dX7_signal_46 : decode cX7_signal 46 = .ok (.bipush 9, 2) := by decide +kernel
theorem dX7_signal_48 : decode cX7_signal 48 = .ok (.if_icmp .ne 6, 3) := by decide +kernel
theorem dX7_signal_51 : decode cX7_signal 51 = .ok (.bipush (-4), 2) := by decide +kernel
theorem dX7_signal_53 : decode cX7_signal 53 = .ok (.ireturn, 1) := by decide +kernel
theorem dX7_signal_54 : decode cX7_signal 54 = .ok (.aload_n 0, 1) := by decide +kernel
theorem dX7_signal_55 : decode cX7_signal 55 = .ok (.getfield 22, 3) := by decide +kernel
theorem dX7_signal_58 : decode cX7_signal 58 = .ok (.iload_n 1, 1) := by decide +kernel
theorem dX7_signal_59 : decode cX7_signal 59 = .ok (.bipush 14, 2) := by decide +kernel
theorem dX7_signal_61 : decode cX7_signal 61 = .ok (.iload_n 2, 1) := by decide +kernel
theorem dX7_signal_62 : decode cX7_signal 62 = .ok (.iadd, 1) := by decide +kernel
theorem dX7_signal_63 : decode cX7_signal 63 = .ok (.invokestatic 163, 3) := by decide +kernel
theorem dX7_signal_66 : decode cX7_signal 66 = .ok (.dup2, 1) := by decide +kernel
theorem dX7_signal_67 : decode cX7_signal 67 = .ok (.iaload, 1) := by decide +kernel
theorem dX7_signal_68 : decode cX7_signal 68 = .ok (.iconst 1, 1) := by decide +kernel
theorem dX7_signal_69 : decode cX7_signal 69 = .ok (.iadd, 1) := by decide +kernel
theorem dX7_signal_70 : decode cX7_signal 70 = .ok (.iastore, 1) := by decide +kernel
theorem dX7_signal_71 : decode cX7_signal 71 = .ok (.aload_n 0, 1) := by decide +kernel
theorem dX7_signal_72 : decode cX7_signal 72 = .ok (.getfield 22, 3) := by decide +kernel
theorem dX7_signal_75 : decode cX7_signal 75 = .ok (.iload_n 1, 1) := by decide +kernel
theorem dX7_signal_76 : decode cX7_signal 76 = .ok (.bipush 14, 2) := by decide +kernel
theorem dX7_signal_78 : decode cX7_signal 78 = .ok (.iload_n 2, 1) := by decide +kernel
theorem dX7_signal_79 : decode cX7_signal 79 = .ok (.iadd, 1) := by decide +kernel
theorem dX7_signal_80 : decode cX7_signal 80 = .ok (.invokestatic 163, 3) := by decide +kernel
theorem dX7_signal_83 : decode cX7_signal 83 = .ok (.iaload, 1) := by decide +kernel
theorem dX7_signal_84 : decode cX7_signal 84 = .ok (.ireturn, 1) := by decide +kernel
theorem dX7_abort_0 : decode cX7_abort 0 = .ok (.aload_n 0, 1) := by decide +kernel
theorem dX7_abort_1 : decode cX7_abort 1 = .ok (.iload_n 1, 1) := by decide +kernel
theorem dX7_abort_2 : decode cX7_abort 2 = .ok (.invokevirtual 243, 3) := by decide +kernel
theorem dX7_abort_5 : decode cX7_abort 5 = .ok (.ifCond .ne 5, 3) := by decide +kernel
theorem dX7_abort_8 : decode cX7_abort 8 = .ok (.iconst (-1), 1) := by decide +kernel
theorem dX7_abort_9 : decode cX7_abort 9 = .ok (.ireturn, 1) := by decide +kernel
theorem dX7_abort_10 : decode cX7_abort 10 = .ok (.aload_n 0, 1) := by decide +kernel
theorem dX7_abort_11 : decode cX7_abort 11 = .ok (.getfield 22, 3) := by decide +kernel
theorem dX7_abort_14 : decode cX7_abort 14 = .ok (.iload_n 1, 1) := by decide +kernel
theorem dX7_abort_15 : decode cX7_abort 15 = .ok (.iconst 1, 1) := by decide +kernel
theorem dX7_abort_16 : decode cX7_abort 16 = .ok (.invokestatic 163, 3) := by decide +kernel
theorem dX7_abort_19 : decode cX7_abort 19 = .ok (.iaload, 1) := by decide +kernel
theorem dX7_abort_20 : decode cX7_abort 20 = .ok (.ifCond .eq 6, 3) := by decide +kernel
theorem dX7_abort_23 : decode cX7_abort 23 = .ok (.bipush (-3), 2) := by decide +kernel
theorem dX7_abort_25 : decode cX7_abort 25 = .ok (.ireturn, 1) := by decide +kernel
theorem dX7_abort_26 : decode cX7_abort 26 = .ok (.aload_n 0, 1) := by decide +kernel
theorem dX7_abort_27 : decode cX7_abort 27 = .ok (.iload_n 1, 1) := by decide +kernel
theorem dX7_abort_28 : decode cX7_abort 28 = .ok (.iconst 0, 1) := by decide +kernel
theorem dX7_abort_29 : decode cX7_abort 29 = .ok (.invokevirtual 208, 3) := by decide +kernel
theorem dX7_abort_32 : decode cX7_abort 32 = .ok (.aload_n 0, 1) := by decide +kernel
theorem dX7_abort_33 : decode cX7_abort 33 = .ok (.iload_n 1, 1) := by decide +kernel
theorem dX7_abort_34 : decode cX7_abort 34 = .ok (.iconst 2, 1) := by decide +kernel
theorem dX7_abort_35 : decode cX7_abort 35 = .ok (.invokevirtual 233, 3) := by decide +kernel
theorem dX7_abort_38 : decode cX7_abort 38 = .ok (.aload_n 0, 1) := by decide +kernel
theorem dX7_abort_39 : decode cX7_abort 39 = .ok (.iload_n 1, 1) := by decide +kernel
theorem dX7_abort_40 : decode cX7_abort 40 = .ok (.invokevirtual 239, 3) := by decide +kernel
theorem dX7_abort_43 : decode cX7_abort 43 = .ok (.aload_n 0, 1) := by decide +kernel
theorem dX7_abort_44 : decode cX7_abort 44 = .ok (.getfield 22, 3) := by decide +kernel
theorem dX7_abort_47 : decode cX7_abort 47 = .ok (.iload_n 1, 1) := by decide +kernel
theorem dX7_abort_48 : decode cX7_abort 48 = .ok (.iconst 1, 1) := by decide +kernel
theorem dX7_abort_49 : decode cX7_abort 49 = .ok (.invokestatic 163, 3) := by decide +kernel
theorem dX7_abort_52 : decode cX7_abort 52 = .ok (.iaload, 1) := by decide +kernel
theorem dX7_abort_53 : decode cX7_abort 53 = .ok (.ireturn, 1) := by decide +kernel
theorem dX7_remove_0 : decode cX7_remove 0 = .ok (.aload_n 0, 1) := by decide +kernel
theorem dX7_remove_1 : decode cX7_remove 1 = .ok (.iload_n 1, 1) := by decide +kernel
theorem dX7_remove_2 : decode cX7_remove 2 = .ok (.invokevirtual 243, 3) := by decide +kernel
theorem dX7_remove_5 : decode cX7_remove 5 = .ok (.ifCond .ne 5, 3) := by decide +kernel
theorem dX7_remove_8 : decode cX7_remove 8 = .ok (.iconst (-1), 1) := by decide +kernel
theorem dX7_remove_9 : decode cX7_remove 9 = .ok (.ireturn, 1) := by decide +kernel
theorem dX7_remove_10 : decode cX7_remove 10 = .ok (.aload_n 0, 1) := by decide +kernel
theorem dX7_remove_11 : decode cX7_remove 11 = .ok (.getfield 22, 3) := by decide +kernel
theorem dX7_remove_14 : decode cX7_remove 14 = .ok (.iload_n 1, 1) := by decide +kernel
theorem dX7_remove_15 : decode cX7_remove 15 = .ok (.iconst 1, 1) := by decide +kernel
theorem dX7_remove_16 : decode cX7_remove 16 = .ok (.invokestatic 163, 3) := by decide +kernel
theorem dX7_remove_19 : decode cX7_remove 19 = .ok (.iaload, 1) := by decide +kernel
theorem dX7_remove_20 : decode cX7_remove 20 = .ok (.istore_n 2, 1) := by decide +kernel
theorem dX7_remove_21 : decode cX7_remove 21 = .ok (.iload_n 2, 1) := by decide +kernel
theorem dX7_remove_22 : decode cX7_remove 22 = .ok (.ifCond .eq 8, 3) := by decide +kernel
theorem dX7_remove_25 : decode cX7_remove 25 = .ok (.iload_n 2, 1) := by decide +kernel
theorem dX7_remove_26 : decode cX7_remove 26 = .ok (.iconst 2, 1) := by decide +kernel
theorem dX7_remove_27 : decode cX7_remove 27 = .ok (.if_icmp .ne 6, 3) := by decide +kernel
theorem dX7_remove_30 : decode cX7_remove 30 = .ok (.bipush (-3), 2) := by decide +kernel
theorem dX7_remove_32 : decode cX7_remove 32 = .ok (.ireturn, 1) := by decide +kernel
theorem dX7_remove_33 : decode cX7_remove 33 = .ok (.aload_n 0, 1) := by decide +kernel
theorem dX7_remove_34 : decode cX7_remove 34 = .ok (.getfield 22, 3) := by decide +kernel
theorem dX7_remove_37 : decode cX7_remove 37 = .ok (.iload_n 1, 1) := by decide +kernel
theorem dX7_remove_38 : decode cX7_remove 38 = .ok (.iconst 0, 1) := by decide +kernel
theorem dX7_remove_39 : decode cX7_remove 39 = .ok (.invokestatic 163, 3) := by decide +kernel
theorem dX7_remove_42 : decode cX7_remove 42 = .ok (.iconst 0, 1) := by decide +kernel
theorem dX7_remove_43 : decode cX7_remove 43 = .ok (.iastore, 1) := by decide +kernel
theorem dX7_remove_44 : decode cX7_remove 44 = .ok (.iload_n 2, 1) := by decide +kernel
theorem dX7_remove_45 : decode cX7_remove 45 = .ok (.ireturn, 1) := by decide +kernel
theorem dX7_passes_0 : decode cX7_passes 0 = .ok (.aload_n 0, 1) := by decide +kernel
theorem dX7_passes_1 : decode cX7_passes 1 = .ok (.getfield 22, 3) := by decide +kernel
theorem dX7_passes_4 : decode cX7_passes 4 = .ok (.iconst 0, 1) := by decide +kernel
theorem dX7_passes_5 : decode cX7_passes 5 = .ok (.dup2, 1) := by decide +kernel
theorem dX7_passes_6 : decode cX7_passes 6 = .ok (.iaload, 1) := by decide +kernel
theorem dX7_passes_7 : decode cX7_passes 7 = .ok (.iconst 1, 1) := by decide +kernel
theorem dX7_passes_8 : decode cX7_passes 8 = .ok (.iadd, 1) := by decide +kernel
theorem dX7_passes_9 : decode cX7_passes 9 = .ok (.iastore, 1) := by decide +kernel
theorem dX7_passes_10 : decode cX7_passes 10 = .ok (.iconst 0, 1) := by decide +kernel
theorem dX7_passes_11 : decode cX7_passes 11 = .ok (.istore_n 1, 1) := by decide +kernel
theorem dX7_passes_12 : decode cX7_passes 12 = .ok (.iload_n 1, 1) := by decide +kernel
theorem dX7_passes_13 : decode cX7_passes 13 = .ok (.bipush 6, 2) := by decide +kernel
theorem dX7_passes_15 : decode cX7_passes 15 = .ok (.if_icmp .ge 28, 3) := by decide +kernel
theorem dX7_passes_18 : decode cX7_passes 18 = .ok (.aload_n 0, 1) := by decide +kernel
theorem dX7_passes_19 : decode cX7_passes 19 = .ok (.getfield 22, 3) := by decide +kernel
theorem dX7_passes_22 : decode cX7_passes 22 = .ok (.iload_n 1, 1) := by decide +kernel
theorem dX7_passes_23 : decode cX7_passes 23 = .ok (.iconst 0, 1) := by decide +kernel
theorem dX7_passes_24 : decode cX7_passes 24 = .ok (.invokestatic 163, 3) := by decide +kernel
theorem dX7_passes_27 : decode cX7_passes 27 = .ok (.iaload, 1) := by decide +kernel
theorem dX7_passes_28 : decode cX7_passes 28 = .ok (.iconst 1, 1) := by decide +kernel
theorem dX7_passes_29 : decode cX7_passes 29 = .ok (.if_icmp .ne 8, 3) := by decide +kernel
theorem dX7_passes_32 : decode cX7_passes 32 = .ok (.aload_n 0, 1) := by decide +kernel
theorem dX7_passes_33 : decode cX7_passes 33 = .ok (.iload_n 1, 1) := by decide +kernel
theorem dX7_passes_34 : decode cX7_passes 34 = .ok (.invokevirtual 239, 3) := by decide +kernel
theorem dX7_passes_37 : decode cX7_passes 37 = .ok (.iinc 1 1, 3) := by decide +kernel
theorem dX7_passes_40 : decode cX7_passes 40 = .ok (.goto (-28), 3) := by decide +kernel
theorem dX7_passes_43 : decode cX7_passes 43 = .ok (.return_, 1) := by decide +kernel
theorem dX7_pass_0 : decode cX7_pass 0 = .ok (.iload_n 1, 1) := by decide +kernel
theorem dX7_pass_1 : decode cX7_pass 1 = .ok (.iconst 1, 1) := by decide +kernel
theorem dX7_pass_2 : decode cX7_pass 2 = .ok (.sipush 200, 3) := by decide +kernel
theorem dX7_pass_5 : decode cX7_pass 5 = .ok (.invokestatic 38, 3) := by decide +kernel
theorem dX7_pass_8 : decode cX7_pass 8 = .ok (.ifCond .ne 6, 3) := by decide +kernel
theorem dX7_pass_11 : decode cX7_pass 11 = .ok (.bipush (-2), 2) := by decide +kernel
theorem dX7_pass_13 : decode cX7_pass 13 = .ok (.ireturn, 1) := by decide +kernel
theorem dX7_pass_14 : decode cX7_pass 14 = .ok (.aload_n 0, 1) := by decide +kernel
theorem dX7_pass_15 : decode cX7_pass 15 = .ok (.getfield 22, 3) := by decide +kernel
theorem dX7_pass_18 : decode cX7_pass 18 = .ok (.iconst 0, 1) := by decide +kernel
theorem dX7_pass_19 : decode cX7_pass 19 = .ok (.iaload, 1) := by decide +kernel
theorem dX7_pass_20 : decode cX7_pass 20 = .ok (.iload_n 1, 1) := by decide +kernel
theorem dX7_pass_21 : decode cX7_pass 21 = .ok (.iadd, 1) := by decide +kernel
theorem dX7_pass_22 : decode cX7_pass 22 = .ok (.ldc 246, 2) := by decide +kernel
theorem dX7_pass_24 : decode cX7_pass 24 = .ok (.if_icmp .le 6, 3) := by decide +kernel
theorem dX7_pass_27 : decode cX7_pass 27 = .ok (.bipush (-4), 2) := by decide +kernel
theorem dX7_pass_29 : decode cX7_pass 29 = .ok (.ireturn, 1) := by decide +kernel
theorem dX7_pass_30 : decode cX7_pass 30 = .ok (.iconst 0, 1) := by decide +kernel
theorem dX7_pass_31 : decode cX7_pass 31 = .ok (.istore_n 2, 1) := by decide +kernel
theorem dX7_pass_32 : decode cX7_pass 32 = .ok (.iload_n 2, 1) := by decide +kernel
theorem dX7_pass_33 : decode cX7_pass 33 = .ok (.iload_n 1, 1) := by decide +kernel
theorem dX7_pass_34 : decode cX7_pass 34 = .ok (.if_icmp .ge 13, 3) := by decide +kernel
theorem dX7_pass_37 : decode cX7_pass 37 = .ok (.aload_n 0, 1) := by decide +kernel
theorem dX7_pass_38 : decode cX7_pass 38 = .ok (.invokevirtual 247, 3) := by decide +kernel
theorem dX7_pass_41 : decode cX7_pass 41 = .ok (.iinc 2 1, 3) := by decide +kernel
theorem dX7_pass_44 : decode cX7_pass 44 = .ok (.goto (-12), 3) := by decide +kernel
theorem dX7_pass_47 : decode cX7_pass 47 = .ok (.aload_n 0, 1) := by decide +kernel
theorem dX7_pass_48 : decode cX7_pass 48 = .ok (.getfield 22, 3) := by decide +kernel
theorem dX7_pass_51 : decode cX7_pass 51 = .ok (.iconst 0, 1) := by decide +kernel
theorem dX7_pass_52 : decode cX7_pass 52 = .ok (.iaload, 1) := by decide +kernel
theorem dX7_pass_53 : decode cX7_pass 53 = .ok (.ireturn, 1) := by decide +kernel
theorem dX7_instance_0 : decode cX7_instance 0 = .ok (.aload_n 0, 1) := by decide +kernel
theorem dX7_instance_1 : decode cX7_instance 1 = .ok (.iload_n 1, 1) := by decide +kernel
theorem dX7_instance_2 : decode cX7_instance 2 = .ok (.invokevirtual 243, 3) := by decide +kernel
theorem dX7_instance_5 : decode cX7_instance 5 = .ok (.ifCond .ne 5, 3) := by decide +kernel
theorem dX7_instance_8 : decode cX7_instance 8 = .ok (.iconst (-1), 1) := by decide +kernel
theorem dX7_instance_9 : decode cX7_instance 9 = .ok (.ireturn, 1) := by decide +kernel
theorem dX7_instance_10 : decode cX7_instance 10 = .ok (.iload_n 2, 1) := by decide +kernel
theorem dX7_instance_11 : decode cX7_instance 11 = .ok (.bipush 10, 2) := by decide +kernel
theorem dX7_instance_13 : decode cX7_instance 13 = .ok (.bipush 13, 2) := by decide +kernel
theorem dX7_instance_15 : decode cX7_instance 15 = .ok (.invokestatic 38, 3) := by decide +kernel
theorem dX7_instance_18 : decode cX7_instance 18 = .ok (.ifCond .eq 20, 3) := by decide +kernel
theorem dX7_instance_21 : decode cX7_instance 21 = .ok (.aload_n 0, 1) := by decide +kernel
theorem dX7_instance_22 : decode cX7_instance 22 = .ok (.getfield 22, 3) := by decide +kernel
theorem dX7_instance_25 : decode cX7_instance 25 = .ok (.iload_n 1, 1) := by decide +kernel
theorem dX7_instance_26 : decode cX7_instance 26 = .ok (.bipush 10, 2) := by decide +kernel
theorem dX7_instance_28 : decode cX7_instance 28 = .ok (.iload_n 2, 1) := by decide +kernel
theorem dX7_instance_29 : decode cX7_instance 29 = .ok (.iadd, 1) := by decide +kernel
theorem dX7_instance_30 : decode cX7_instance 30 = .ok (.bipush 10, 2) := by decide +kernel
theorem dX7_instance_32 : decode cX7_instance 32 = .ok (.isub, 1) := by decide +kernel
theorem dX7_instance_33 : decode cX7_instance 33 = .ok (.invokestatic 163, 3) := by decide +kernel
theorem dX7_instance_36 : decode cX7_instance 36 = .ok (.iaload, 1) := by decide +kernel
theorem dX7_instance_37 : decode cX7_instance 37 = .ok (.ireturn, 1) := by decide +kernel
theorem dX7_instance_38 : decode cX7_instance 38 = .ok (.iload_n 2, 1) := by decide +kernel
theorem dX7_instance_39 : decode cX7_instance 39 = .ok (.bipush 20, 2) := by decide +kernel
theorem dX7_instance_41 : decode cX7_instance 41 = .ok (.bipush 27, 2) := by decide +kernel
theorem dX7_instance_43 : decode cX7_instance 43 = .ok (.invokestatic 38, 3) := by decide +kernel
theorem dX7_instance_46 : decode cX7_instance 46 = .ok (.ifCond .eq 20, 3) := by decide +kernel
theorem dX7_instance_49 : decode cX7_instance 49 = .ok (.aload_n 0, 1) := by decide +kernel
theorem dX7_instance_50 : decode cX7_instance 50 = .ok (.getfield 22, 3) := by decide +kernel
theorem dX7_instance_53 : decode cX7_instance 53 = .ok (.iload_n 1, 1) := by decide +kernel
theorem dX7_instance_54 : decode cX7_instance 54 = .ok (.bipush 14, 2) := by decide +kernel
theorem dX7_instance_56 : decode cX7_instance 56 = .ok (.iload_n 2, 1) := by decide +kernel
theorem dX7_instance_57 : decode cX7_instance 57 = .ok (.iadd, 1) := by decide +kernel
theorem dX7_instance_58 : decode cX7_instance 58 = .ok (.bipush 20, 2) := by decide +kernel
theorem dX7_instance_60 : decode cX7_instance 60 = .ok (.isub, 1) := by decide +kernel
theorem dX7_instance_61 : decode cX7_instance 61 = .ok (.invokestatic 163, 3) := by decide +kernel
theorem dX7_instance_64 : decode cX7_instance 64 = .ok (.iaload, 1) := by decide +kernel
theorem dX7_instance_65 : decode cX7_instance 65 = .ok (.ireturn, 1) := by decide +kernel
theorem dX7_instance_66 : decode cX7_instance 66 = .ok (.iload_n 2, 1) := by decide +kernel
theorem dX7_instance_67 : decode cX7_instance 67 = .ok (.iconst 0, 1) := by decide +kernel
theorem dX7_instance_68 : decode cX7_instance 68 = .ok (.bipush 8, 2) := by decide +kernel
theorem dX7_instance_70 : decode cX7_instance 70 = .ok (.invokestatic 38, 3) := by decide +kernel
theorem dX7_instance_73 : decode cX7_instance 73 = .ok (.ifCond .eq 18, 3) := by decide +kernel
theorem dX7_instance_76 : decode cX7_instance 76 = .ok (.aload_n 0, 1) := by decide +kernel
theorem dX7_instance_77 : decode cX7_instance 77 = .ok (.getfield 22, 3) := by decide +kernel
theorem dX7_instance_80 : decode cX7_instance 80 = .ok (.iload_n 1, 1) := by decide +kernel
theorem dX7_instance_81 : decode cX7_instance 81 = .ok (.iconst 1, 1) := by decide +kernel
theorem dX7_instance_82 : decode cX7_instance 82 = .ok (.iload_n 2, 1) := by decide +kernel
theorem dX7_instance_83 : decode cX7_instance 83 = .ok (.iadd, 1) := by decide +kernel
theorem dX7_instance_84 : decode cX7_instance 84 = .ok (.invokestatic 163, 3) := by decide +kernel
theorem dX7_instance_87 : decode cX7_instance 87 = .ok (.iaload, 1) := by decide +kernel
theorem dX7_instance_88 : decode cX7_instance 88 = .ok (.goto 4, 3) := by decide +kernel
theorem dX7_instance_91 : decode cX7_instance 91 = .ok (.iconst (-1), 1) := by decide +kernel
theorem dX7_instance_92 : decode cX7_instance 92 = .ok (.ireturn, 1) := by decide +kernel
theorem dX7_keptEntries_0 : decode cX7_keptEntries 0 = .ok (.sipush 200, 3) := by decide +kernel
theorem dX7_keptEntries_3 : decode cX7_keptEntries 3 = .ok (.aload_n 0, 1) := by decide +kernel
theorem dX7_keptEntries_4 : decode cX7_keptEntries 4 = .ok (.getfield 22, 3) := by decide +kernel
theorem dX7_keptEntries_7 : decode cX7_keptEntries 7 = .ok (.iload_n 1, 1) := by decide +kernel
theorem dX7_keptEntries_8 : decode cX7_keptEntries 8 = .ok (.bipush 9, 2) := by decide +kernel
theorem dX7_keptEntries_10 : decode cX7_keptEntries 10 = .ok (.invokestatic 163, 3) := by decide +kernel
theorem dX7_keptEntries_13 : decode cX7_keptEntries 13 = .ok (.iaload, 1) := by decide +kernel
theorem dX7_keptEntries_14 : decode cX7_keptEntries 14 = .ok (.invokestatic 250, 3) := by decide +kernel
theorem dX7_keptEntries_17 : decode cX7_keptEntries 17 = .ok (.ireturn, 1) := by decide +kernel
theorem dX7_entry_0 : decode cX7_entry 0 = .ok (.aload_n 0, 1) := by decide +kernel
theorem dX7_entry_1 : decode cX7_entry 1 = .ok (.iload_n 1, 1) := by decide +kernel
theorem dX7_entry_2 : decode cX7_entry 2 = .ok (.invokevirtual 243, 3) := by decide +kernel
theorem dX7_entry_5 : decode cX7_entry 5 = .ok (.ifCond .eq 47, 3) := by decide +kernel
theorem dX7_entry_8 : decode cX7_entry 8 = .ok (.iload_n 2, 1) := by decide +kernel
theorem dX7_entry_9 : decode cX7_entry 9 = .ok (.iconst 0, 1) := by decide +kernel
theorem dX7_entry_10 : decode cX7_entry 10 = .ok (.aload_n 0, 1) := by decide +kernel
theorem dX7_entry_11 : decode cX7_entry 11 = .ok (.iload_n 1, 1) := by decide +kernel
theorem dX7_entry_12 : decode cX7_entry 12 = .ok (.invokevirtual 253, 3) := by decide +kernel
theorem dX7_entry_15 : decode cX7_entry 15 = .ok (.iconst 1, 1) := by decide +kernel
theorem dX7_entry_16 : decode cX7_entry 16 = .ok (.isub, 1) := by decide +kernel
theorem dX7_entry_17 : decode cX7_entry 17 = .ok (.invokestatic 38, 3) := by decide +kernel
theorem dX7_entry_20 : decode cX7_entry 20 = .ok (.ifCond .eq 32, 3) := by decide +kernel
theorem dX7_entry_23 : decode cX7_entry 23 = .ok (.iload_n 3, 1) := by decide +kernel
theorem dX7_entry_24 : decode cX7_entry 24 = .ok (.iconst 0, 1) := by decide +kernel
theorem dX7_entry_25 : decode cX7_entry 25 = .ok (.iconst 2, 1) := by decide +kernel
theorem dX7_entry_26 : decode cX7_entry 26 = .ok (.invokestatic 38, 3) := by decide +kernel
theorem dX7_entry_29 : decode cX7_entry 29 = .ok (.ifCond .eq 23, 3) := by decide +kernel
theorem dX7_entry_32 : decode cX7_entry 32 = .ok (.aload_n 0, 1) := by decide +kernel
theorem dX7_entry_33 : decode cX7_entry 33 = .ok (.getfield 22, 3) := by decide +kernel
theorem dX7_entry_36 : decode cX7_entry 36 = .ok (.iload_n 1, 1) := by decide +kernel
theorem dX7_entry_37 : decode cX7_entry 37 = .ok (.bipush 22, 2) := by decide +kernel
theorem dX7_entry_39 : decode cX7_entry 39 = .ok (.iconst 3, 1) := by decide +kernel
theorem dX7_entry_40 : decode cX7_entry 40 = .ok (.iload_n 2, 1) := by decide +kernel
theorem dX7_entry_41 : decode cX7_entry 41 = .ok (.imul, 1) := by decide +kernel
theorem dX7_entry_42 : decode cX7_entry 42 = .ok (.iadd, 1) := by decide +kernel
theorem dX7_entry_43 : decode cX7_entry 43 = .ok (.iload_n 3, 1) := by decide +kernel
theorem dX7_entry_44 : decode cX7_entry 44 = .ok (.iadd, 1) := by decide +kernel
theorem dX7_entry_45 : decode cX7_entry 45 = .ok (.invokestatic 163, 3) := by decide +kernel
theorem dX7_entry_48 : decode cX7_entry 48 = .ok (.iaload, 1) := by decide +kernel
theorem dX7_entry_49 : decode cX7_entry 49 = .ok (.goto 4, 3) := by decide +kernel
theorem dX7_entry_52 : decode cX7_entry 52 = .ok (.iconst (-1), 1) := by decide +kernel
theorem dX7_entry_53 : decode cX7_entry 53 = .ok (.ireturn, 1) := by decide +kernel
theorem dX7_runs_0 : decode cX7_runs 0 = .ok (.aload_n 0, 1) := by decide +kernel
theorem dX7_runs_1 : decode cX7_runs 1 = .ok (.iload_n 1, 1) := by decide +kernel
theorem dX7_runs_2 : decode cX7_runs 2 = .ok (.iload_n 2, 1) := by decide +kernel
theorem dX7_runs_3 : decode cX7_runs 3 = .ok (.iconst 0, 1) := by decide +kernel
theorem dX7_runs_4 : decode cX7_runs 4 = .ok (.invokevirtual 171, 3) := by decide +kernel
theorem dX7_runs_7 : decode cX7_runs 7 = .ok (.iconst 1, 1) := by decide +kernel
theorem dX7_runs_8 : decode cX7_runs 8 = .ok (.iconst 3, 1) := by decide +kernel
theorem dX7_runs_9 : decode cX7_runs 9 = .ok (.invokestatic 38, 3) := by decide +kernel
theorem dX7_runs_12 : decode cX7_runs 12 = .ok (.ifCond .eq 22, 3) := by decide +kernel
theorem dX7_runs_15 : decode cX7_runs 15 = .ok (.aload_n 0, 1) := by decide +kernel
theorem dX7_runs_16 : decode cX7_runs 16 = .ok (.getfield 22, 3) := by decide +kernel
theorem dX7_runs_19 : decode cX7_runs 19 = .ok (.iload_n 1, 1) := by decide +kernel
theorem dX7_runs_20 : decode cX7_runs 20 = .ok (.iload_n 2, 1) := by decide +kernel
theorem dX7_runs_21 : decode cX7_runs 21 = .ok (.iconst 0, 1) := by decide +kernel
theorem dX7_runs_22 : decode cX7_runs 22 = .ok (.invokestatic 169, 3) := by decide +kernel
theorem dX7_runs_25 : decode cX7_runs 25 = .ok (.iaload, 1) := by decide +kernel
theorem dX7_runs_26 : decode cX7_runs 26 = .ok (.iconst 1, 1) := by decide +kernel
theorem dX7_runs_27 : decode cX7_runs 27 = .ok (.if_icmp .ne 7, 3) := by decide +kernel
theorem dX7_runs_30 : decode cX7_runs 30 = .ok (.iconst 1, 1) := by decide +kernel
theorem dX7_runs_31 : decode cX7_runs 31 = .ok (.goto 4, 3) := by decide +kernel
theorem dX7_runs_34 : decode cX7_runs 34 = .ok (.iconst 0, 1) := by decide +kernel
theorem dX7_runs_35 : decode cX7_runs 35 = .ok (.ireturn, 1) := by decide +kernel
theorem dX7_running_0 : decode cX7_running 0 = .ok (.aload_n 0, 1) := by decide +kernel
theorem dX7_running_1 : decode cX7_running 1 = .ok (.iload_n 1, 1) := by decide +kernel
theorem dX7_running_2 : decode cX7_running 2 = .ok (.invokevirtual 243, 3) := by decide +kernel
theorem dX7_running_5 : decode cX7_running 5 = .ok (.ifCond .ne 5, 3) := by decide +kernel
theorem dX7_running_8 : decode cX7_running 8 = .ok (.iconst (-1), 1) := by decide +kernel
theorem dX7_running_9 : decode cX7_running 9 = .ok (.ireturn, 1) := by decide +kernel
theorem dX7_running_10 : decode cX7_running 10 = .ok (.iconst 0, 1) := by decide +kernel
theorem dX7_running_11 : decode cX7_running 11 = .ok (.istore_n 3, 1) := by decide +kernel
theorem dX7_running_12 : decode cX7_running 12 = .ok (.iconst 0, 1) := by decide +kernel
theorem dX7_running_13 : decode cX7_running 13 = .ok (.istore 4, 2) := by decide +kernel
theorem dX7_running_15 : decode cX7_running 15 = .ok (.iload 4, 2) := by decide +kernel
theorem dX7_running_17 : decode cX7_running 17 = .ok (.aload_n 0, 1) := by decide +kernel
theorem dX7_running_18 : decode cX7_running 18 = .ok (.getfield 16, 3) := by decide +kernel
theorem dX7_running_21 : decode cX7_running 21 = .ok (.iconst 4, 1) := by decide +kernel
theorem dX7_running_22 : decode cX7_running 22 = .ok (.aload_n 0, 1) := by decide +kernel
theorem dX7_running_23 : decode cX7_running 23 = .ok (.iload_n 1, 1) := by decide +kernel
theorem dX7_running_24 : decode cX7_running 24 = .ok (.invokevirtual 166, 3) := by decide +kernel
theorem dX7_running_27 : decode cX7_running 27 = .ok (.imul, 1) := by decide +kernel
theorem dX7_running_28 : decode cX7_running 28 = .ok (.iaload, 1) := by decide +kernel
theorem dX7_running_29 : decode cX7_running 29 = .ok (.if_icmp .ge 37, 3) := by decide +kernel
theorem dX7_running_32 : decode cX7_running 32 = .ok (.aload_n 0, 1) := by decide +kernel
theorem dX7_running_33 : decode cX7_running 33 = .ok (.iload_n 1, 1) := by decide +kernel
theorem dX7_running_34 : decode cX7_running 34 = .ok (.iload 4, 2) := by decide +kernel
theorem dX7_running_36 : decode cX7_running 36 = .ok (.invokevirtual 256, 3) := by decide +kernel
theorem dX7_running_39 : decode cX7_running 39 = .ok (.ifCond .eq 21, 3) := by decide +kernel
theorem dX7_running_42 : decode cX7_running 42 = .ok (.iload_n 3, 1) := by decide +kernel
theorem dX7_running_43 : decode cX7_running 43 = .ok (.iload_n 2, 1) := by decide +kernel
theorem dX7_running_44 : decode cX7_running 44 = .ok (.if_icmp .ne 13, 3) := by decide +kernel
theorem dX7_running_47 : decode cX7_running 47 = .ok (.aload_n 0, 1) := by decide +kernel
theorem dX7_running_48 : decode cX7_running 48 = .ok (.iload_n 1, 1) := by decide +kernel
theorem dX7_running_49 : decode cX7_running 49 = .ok (.iload 4, 2) := by decide +kernel
theorem dX7_running_51 : decode cX7_running 51 = .ok (.bipush 7, 2) := by decide +kernel
theorem dX7_running_53 : decode cX7_running 53 = .ok (.invokevirtual 171, 3) := by decide +kernel
theorem dX7_running_56 : decode cX7_running 56 = .ok (.ireturn, 1) := by decide +kernel
theorem dX7_running_57 : decode cX7_running 57 = .ok (.iinc 3 1, 3) := by decide +kernel
theorem dX7_running_60 : decode cX7_running 60 = .ok (.iinc 4 1, 3) := by decide +kernel
theorem dX7_running_63 : decode cX7_running 63 = .ok (.goto (-48), 3) := by decide +kernel
theorem dX7_running_66 : decode cX7_running 66 = .ok (.iload_n 2, 1) := by decide +kernel
theorem dX7_running_67 : decode cX7_running 67 = .ok (.iconst (-1), 1) := by decide +kernel
theorem dX7_running_68 : decode cX7_running 68 = .ok (.if_icmp .ne 7, 3) := by decide +kernel
theorem dX7_running_71 : decode cX7_running 71 = .ok (.iload_n 3, 1) := by decide +kernel
theorem dX7_running_72 : decode cX7_running 72 = .ok (.goto 4, 3) := by decide +kernel
theorem dX7_running_75 : decode cX7_running 75 = .ok (.iconst (-1), 1) := by decide +kernel
theorem dX7_running_76 : decode cX7_running 76 = .ok (.ireturn, 1) := by decide +kernel
theorem dX7_dueAt_0 : decode cX7_dueAt 0 = .ok (.aload_n 0, 1) := by decide +kernel
theorem dX7_dueAt_1 : decode cX7_dueAt 1 = .ok (.getfield 22, 3) := by decide +kernel
theorem dX7_dueAt_4 : decode cX7_dueAt 4 = .ok (.iload_n 1, 1) := by decide +kernel
theorem dX7_dueAt_5 : decode cX7_dueAt 5 = .ok (.iload_n 2, 1) := by decide +kernel
theorem dX7_dueAt_6 : decode cX7_dueAt 6 = .ok (.iconst 1, 1) := by decide +kernel
theorem dX7_dueAt_7 : decode cX7_dueAt 7 = .ok (.invokestatic 169, 3) := by decide +kernel
theorem dX7_dueAt_10 : decode cX7_dueAt 10 = .ok (.iaload, 1) := by decide +kernel
theorem dX7_dueAt_11 : decode cX7_dueAt 11 = .ok (.istore_n 3, 1) := by decide +kernel
theorem dX7_dueAt_12 : decode cX7_dueAt 12 = .ok (.aload_n 0, 1) := by decide +kernel
theorem dX7_dueAt_13 : decode cX7_dueAt 13 = .ok (.getfield 22, 3) := by decide +kernel
theorem dX7_dueAt_16 : decode cX7_dueAt 16 = .ok (.iload_n 1, 1) := by decide +kernel
theorem dX7_dueAt_17 : decode cX7_dueAt 17 = .ok (.iload_n 2, 1) := by decide +kernel
theorem dX7_dueAt_18 : decode cX7_dueAt 18 = .ok (.bipush 7, 2) := by decide +kernel
theorem dX7_dueAt_20 : decode cX7_dueAt 20 = .ok (.invokestatic 169, 3) := by decide +kernel
theorem dX7_dueAt_23 : decode cX7_dueAt 23 = .ok (.iaload, 1) := by decide +kernel
theorem dX7_dueAt_24 : decode cX7_dueAt 24 = .ok (.ifCond .lt 16, 3) := by decide +kernel
theorem dX7_dueAt_27 : decode cX7_dueAt 27 = .ok (.aload_n 0, 1) := by decide +kernel
theorem dX7_dueAt_28 : decode cX7_dueAt 28 = .ok (.getfield 22, 3) := by decide +kernel
theorem dX7_dueAt_31 : decode cX7_dueAt 31 = .ok (.iload_n 1, 1) := by decide +kernel
theorem dX7_dueAt_32 : decode cX7_dueAt 32 = .ok (.iload_n 2, 1) := by decide +kernel
theorem dX7_dueAt_33 : decode cX7_dueAt 33 = .ok (.bipush 9, 2) := by decide +kernel
theorem dX7_dueAt_35 : decode cX7_dueAt 35 = .ok (.invokestatic 169, 3) := by decide +kernel
theorem dX7_dueAt_38 : decode cX7_dueAt 38 = .ok (.iaload, 1) := by decide +kernel
theorem dX7_dueAt_39 : decode cX7_dueAt 39 = .ok (.ireturn, 1) := by decide +kernel
theorem dX7_dueAt_40 : decode cX7_dueAt 40 = .ok (.aload_n 0, 1) := by decide +kernel
theorem dX7_dueAt_41 : decode cX7_dueAt 41 = .ok (.iload_n 1, 1) := by decide +kernel
theorem dX7_dueAt_42 : decode cX7_dueAt 42 = .ok (.iload_n 2, 1) := by decide +kernel
theorem dX7_dueAt_43 : decode cX7_dueAt 43 = .ok (.invokevirtual 256, 3) := by decide +kernel
theorem dX7_dueAt_46 : decode cX7_dueAt 46 = .ok (.ifCond .ne 5, 3) := by decide +kernel
theorem dX7_dueAt_49 : decode cX7_dueAt 49 = .ok (.iconst (-1), 1) := by decide +kernel
theorem dX7_dueAt_50 : decode cX7_dueAt 50 = .ok (.ireturn, 1) := by decide +kernel
theorem dX7_dueAt_51 : decode cX7_dueAt 51 = .ok (.aload_n 0, 1) := by decide +kernel
theorem dX7_dueAt_52 : decode cX7_dueAt 52 = .ok (.iload_n 1, 1) := by decide +kernel
theorem dX7_dueAt_53 : decode cX7_dueAt 53 = .ok (.iload_n 2, 1) := by decide +kernel
theorem dX7_dueAt_54 : decode cX7_dueAt 54 = .ok (.iconst 0, 1) := by decide +kernel
theorem dX7_dueAt_55 : decode cX7_dueAt 55 = .ok (.invokevirtual 171, 3) := by decide +kernel
theorem dX7_dueAt_58 : decode cX7_dueAt 58 = .ok (.lookupswitch 76 #[(1, 26), (2, 66)], 26) := by decide +kernel
theorem dX7_dueAt_84 : decode cX7_dueAt 84 = .ok (.aload_n 0, 1) := by decide +kernel
theorem dX7_dueAt_85 : decode cX7_dueAt 85 = .ok (.getfield 22, 3) := by decide +kernel
theorem dX7_dueAt_88 : decode cX7_dueAt 88 = .ok (.iload_n 1, 1) := by decide +kernel
theorem dX7_dueAt_89 : decode cX7_dueAt 89 = .ok (.iload_n 2, 1) := by decide +kernel
theorem dX7_dueAt_90 : decode cX7_dueAt 90 = .ok (.iconst 3, 1) := by decide +kernel
theorem dX7_dueAt_91 : decode cX7_dueAt 91 = .ok (.invokestatic 169, 3) := by decide +kernel
theorem dX7_dueAt_94 : decode cX7_dueAt 94 = .ok (.iaload, 1) := by decide +kernel
theorem dX7_dueAt_95 : decode cX7_dueAt 95 = .ok (.ifCond .lt 17, 3) := by decide +kernel
theorem dX7_dueAt_98 : decode cX7_dueAt 98 = .ok (.aload_n 0, 1) := by decide +kernel
theorem dX7_dueAt_99 : decode cX7_dueAt 99 = .ok (.getfield 22, 3) := by decide +kernel
theorem dX7_dueAt_102 : decode cX7_dueAt 102 = .ok (.iload_n 1, 1) := by decide +kernel
theorem dX7_dueAt_103 : decode cX7_dueAt 103 = .ok (.iload_n 2, 1) := by decide +kernel
theorem dX7_dueAt_104 : decode cX7_dueAt 104 = .ok (.iconst 3, 1) := by decide +kernel
theorem dX7_dueAt_105 : decode cX7_dueAt 105 = .ok (.invokestatic 169, 3) := by decide +kernel
theorem dX7_dueAt_108 : decode cX7_dueAt 108 = .ok (.iaload, 1) := by decide +kernel
theorem dX7_dueAt_109 : decode cX7_dueAt 109 = .ok (.goto 14, 3) := by decide +kernel
theorem dX7_dueAt_112 : decode cX7_dueAt 112 = .ok (.aload_n 0, 1) := by decide +kernel
theorem dX7_dueAt_113 : decode cX7_dueAt 113 = .ok (.getfield 22, 3) := by decide +kernel
theorem dX7_dueAt_116 : decode cX7_dueAt 116 = .ok (.iload_n 1, 1) := by decide +kernel
theorem dX7_dueAt_117 : decode cX7_dueAt 117 = .ok (.iload_n 2, 1) := by decide +kernel
theorem dX7_dueAt_118 : decode cX7_dueAt 118 = .ok (.iconst 4, 1) := by decide +kernel
theorem dX7_dueAt_119 : decode cX7_dueAt 119 = .ok (.invokestatic 169, 3) := by decide +kernel
theorem dX7_dueAt_122 : decode cX7_dueAt 122 = .ok (.iaload, 1) := by decide +kernel
theorem dX7_dueAt_123 : decode cX7_dueAt 123 = .ok (.ireturn, 1) := by decide +kernel
theorem dX7_dueAt_124 : decode cX7_dueAt 124 = .ok (.iload_n 3, 1) := by decide +kernel
theorem dX7_dueAt_125 : decode cX7_dueAt 125 = .ok (.aload_n 0, 1) := by decide +kernel
theorem dX7_dueAt_126 : decode cX7_dueAt 126 = .ok (.iload_n 1, 1) := by decide +kernel
theorem dX7_dueAt_127 : decode cX7_dueAt 127 = .ok (.iload_n 2, 1) := by decide +kernel
theorem dX7_dueAt_128 : decode cX7_dueAt 128 = .ok (.iconst 1, 1) := by decide +kernel
theorem dX7_dueAt_129 : decode cX7_dueAt 129 = .ok (.invokevirtual 171, 3) := by decide +kernel
theorem dX7_dueAt_132 : decode cX7_dueAt 132 = .ok (.iadd, 1) := by decide +kernel
theorem dX7_dueAt_133 : decode cX7_dueAt 133 = .ok (.ireturn, 1) := by decide +kernel
theorem dX7_dueAt_134 : decode cX7_dueAt 134 = .ok (.aload_n 0, 1) := by decide +kernel
theorem dX7_dueAt_135 : decode cX7_dueAt 135 = .ok (.iload_n 1, 1) := by decide +kernel
theorem dX7_dueAt_136 : decode cX7_dueAt 136 = .ok (.iload_n 2, 1) := by decide +kernel
theorem dX7_dueAt_137 : decode cX7_dueAt 137 = .ok (.iconst 2, 1) := by decide +kernel
theorem dX7_dueAt_138 : decode cX7_dueAt 138 = .ok (.invokevirtual 171, 3) := by decide +kernel
theorem dX7_dueAt_141 : decode cX7_dueAt 141 = .ok (.ifCond .ge 7, 3) := by decide +kernel
theorem dX7_dueAt_144 : decode cX7_dueAt 144 = .ok (.iconst (-1), 1) := by decide +kernel
theorem dX7_dueAt_145 : decode cX7_dueAt 145 = .ok (.goto 12, 3) := by decide +kernel
theorem dX7_dueAt_148 : decode cX7_dueAt 148 = .ok (.iload_n 3, 1) := by decide +kernel
theorem dX7_dueAt_149 : decode cX7_dueAt 149 = .ok (.aload_n 0, 1) := by decide +kernel
theorem dX7_dueAt_150 : decode cX7_dueAt 150 = .ok (.iload_n 1, 1) := by decide +kernel
theorem dX7_dueAt_151 : decode cX7_dueAt 151 = .ok (.iload_n 2, 1) := by decide +kernel
theorem dX7_dueAt_152 : decode cX7_dueAt 152 = .ok (.iconst 2, 1) := by decide +kernel
theorem dX7_dueAt_153 : decode cX7_dueAt 153 = .ok (.invokevirtual 171, 3) := by decide +kernel
theorem dX7_dueAt_156 : decode cX7_dueAt 156 = .ok (.iadd, 1) := by decide +kernel
theorem dX7_dueAt_157 : decode cX7_dueAt 157 = .ok (.ireturn, 1) := by decide +kernel
theorem dX7_due_0 : decode cX7_due 0 = .ok (.aload_n 0, 1) := by decide +kernel
theorem dX7_due_1 : decode cX7_due 1 = .ok (.iload_n 1, 1) := by decide +kernel
theorem dX7_due_2 : decode cX7_due 2 = .ok (.invokevirtual 243, 3) := by decide +kernel
theorem dX7_due_5 : decode cX7_due 5 = .ok (.ifCond .ne 5, 3) := by decide +kernel
theorem dX7_due_8 : decode cX7_due 8 = .ok (.iconst (-1), 1) := by decide +kernel
theorem dX7_due_9 : decode cX7_due 9 = .ok (.ireturn, 1) := by decide +kernel
theorem dX7_due_10 : decode cX7_due 10 = .ok (.bipush (-5), 2) := by decide +kernel
theorem dX7_due_12 : decode cX7_due 12 = .ok (.istore_n 2, 1) := by decide +kernel
theorem dX7_due_13 : decode cX7_due 13 = .ok (.iconst 0, 1) := by decide +kernel
theorem dX7_due_14 : decode cX7_due 14 = .ok (.istore_n 3, 1) := by decide +kernel
theorem dX7_due_15 : decode cX7_due 15 = .ok (.iload_n 3, 1) := by decide +kernel
theorem dX7_due_16 : decode cX7_due 16 = .ok (.aload_n 0, 1) := by decide +kernel
theorem dX7_due_17 : decode cX7_due 17 = .ok (.getfield 16, 3) := by decide +kernel
theorem dX7_due_20 : decode cX7_due 20 = .ok (.iconst 4, 1) := by decide +kernel
theorem dX7_due_21 : decode cX7_due 21 = .ok (.aload_n 0, 1) := by decide +kernel
theorem dX7_due_22 : decode cX7_due 22 = .ok (.iload_n 1, 1) := by decide +kernel
theorem dX7_due_23 : decode cX7_due 23 = .ok (.invokevirtual 166, 3) := by decide +kernel
theorem dX7_due_26 : decode cX7_due 26 = .ok (.imul, 1) := by decide +kernel
theorem dX7_due_27 : decode cX7_due 27 = .ok (.iaload, 1) := by decide +kernel
theorem dX7_due_28 : decode cX7_due 28 = .ok (.if_icmp .ge 41, 3) := by decide +kernel
theorem dX7_due_31 : decode cX7_due 31 = .ok (.aload_n 0, 1) := by decide +kernel
theorem dX7_due_32 : decode cX7_due 32 = .ok (.iload_n 1, 1) := by decide +kernel
theorem dX7_due_33 : decode cX7_due 33 = .ok (.iload_n 3, 1) := by decide +kernel
theorem dX7_due_34 : decode cX7_due 34 = .ok (.invokevirtual 259, 3) := by decide +kernel
theorem dX7_due_37 : decode cX7_due 37 = .ok (.istore 4, 2) := by decide +kernel
theorem dX7_due_39 : decode cX7_due 39 = .ok (.iload 4, 2) := by decide +kernel
theorem dX7_due_41 : decode cX7_due 41 = .ok (.aload_n 0, 1) := by decide +kernel
theorem dX7_due_42 : decode cX7_due 42 = .ok (.getfield 22, 3) := by decide +kernel
theorem dX7_due_45 : decode cX7_due 45 = .ok (.iconst 0, 1) := by decide +kernel
theorem dX7_due_46 : decode cX7_due 46 = .ok (.iaload, 1) := by decide +kernel
theorem dX7_due_47 : decode cX7_due 47 = .ok (.if_icmp .le 16, 3) := by decide +kernel
theorem dX7_due_50 : decode cX7_due 50 = .ok (.iload_n 2, 1) := by decide +kernel
theorem dX7_due_51 : decode cX7_due 51 = .ok (.ifCond .lt 9, 3) := by decide +kernel
theorem dX7_due_54 : decode cX7_due 54 = .ok (.iload 4, 2) := by decide +kernel
theorem dX7_due_56 : decode cX7_due 56 = .ok (.iload_n 2, 1) := by decide +kernel
theorem dX7_due_57 : decode cX7_due 57 = .ok (.if_icmp .ge 6, 3) := by decide +kernel
theorem dX7_due_60 : decode cX7_due 60 = .ok (.iload 4, 2) := by decide +kernel
theorem dX7_due_62 : decode cX7_due 62 = .ok (.istore_n 2, 1) := by decide +kernel
theorem dX7_due_63 : decode cX7_due 63 = .ok (.iinc 3 1, 3) := by decide +kernel
theorem dX7_due_66 : decode cX7_due 66 = .ok (.goto (-51), 3) := by decide +kernel
theorem dX7_due_69 : decode cX7_due 69 = .ok (.iload_n 2, 1) := by decide +kernel
theorem dX7_due_70 : decode cX7_due 70 = .ok (.ireturn, 1) := by decide +kernel
theorem dX7_copies_0 : decode cX7_copies 0 = .ok (.iconst 0, 1) := by decide +kernel
theorem dX7_copies_1 : decode cX7_copies 1 = .ok (.istore_n 3, 1) := by decide +kernel
theorem dX7_copies_2 : decode cX7_copies 2 = .ok (.iload_n 3, 1) := by decide +kernel
theorem dX7_copies_3 : decode cX7_copies 3 = .ok (.iload_n 2, 1) := by decide +kernel
theorem dX7_copies_4 : decode cX7_copies 4 = .ok (.if_icmp .ge 15, 3) := by decide +kernel
theorem dX7_copies_7 : decode cX7_copies 7 = .ok (.aload_n 1, 1) := by decide +kernel
theorem dX7_copies_8 : decode cX7_copies 8 = .ok (.iload_n 3, 1) := by decide +kernel
theorem dX7_copies_9 : decode cX7_copies 9 = .ok (.aload_n 0, 1) := by decide +kernel
theorem dX7_copies_10 : decode cX7_copies 10 = .ok (.iload_n 3, 1) := by decide +kernel
theorem dX7_copies_11 : decode cX7_copies 11 = .ok (.iaload, 1) := by decide +kernel
theorem dX7_copies_12 : decode cX7_copies 12 = .ok (.iastore, 1) := by decide +kernel
theorem dX7_copies_13 : decode cX7_copies 13 = .ok (.iinc 3 1, 3) := by decide +kernel
theorem dX7_copies_16 : decode cX7_copies 16 = .ok (.goto (-14), 3) := by decide +kernel
theorem dX7_copies_19 : decode cX7_copies 19 = .ok (.return_, 1) := by decide +kernel
theorem dX7_ahead_0 : decode cX7_ahead 0 = .ok (.aload_n 0, 1) := by decide +kernel
theorem dX7_ahead_1 : decode cX7_ahead 1 = .ok (.iload_n 1, 1) := by decide +kernel
theorem dX7_ahead_2 : decode cX7_ahead 2 = .ok (.invokevirtual 243, 3) := by decide +kernel
theorem dX7_ahead_5 : decode cX7_ahead 5 = .ok (.ifCond .ne 5, 3) := by decide +kernel
theorem dX7_ahead_8 : decode cX7_ahead 8 = .ok (.iconst (-1), 1) := by decide +kernel
theorem dX7_ahead_9 : decode cX7_ahead 9 = .ok (.ireturn, 1) := by decide +kernel
theorem dX7_ahead_10 : decode cX7_ahead 10 = .ok (.iload_n 2, 1) := by decide +kernel
theorem dX7_ahead_11 : decode cX7_ahead 11 = .ok (.iconst 1, 1) := by decide +kernel
theorem dX7_ahead_12 : decode cX7_ahead 12 = .ok (.sipush 200, 3) := by decide +kernel
theorem dX7_ahead_15 : decode cX7_ahead 15 = .ok (.invokestatic 38, 3) := by decide +kernel
theorem dX7_ahead_18 : decode cX7_ahead 18 = .ok (.ifCond .ne 6, 3) := by decide +kernel
theorem dX7_ahead_21 : decode cX7_ahead 21 = .ok (.bipush (-2), 2) := by decide +kernel
theorem dX7_ahead_23 : decode cX7_ahead 23 = .ok (.ireturn, 1) := by decide +kernel
theorem dX7_ahead_24 : decode cX7_ahead 24 = .ok (.aload_n 0, 1) := by decide +kernel
theorem dX7_ahead_25 : decode cX7_ahead 25 = .ok (.getfield 22, 3) := by decide +kernel
theorem dX7_ahead_28 : decode cX7_ahead 28 = .ok (.aload_n 0, 1) := by decide +kernel
theorem dX7_ahead_29 : decode cX7_ahead 29 = .ok (.getfield 28, 3) := by decide +kernel
theorem dX7_ahead_32 : decode cX7_ahead 32 = .ok (.sipush 7593, 3) := by decide +kernel
theorem dX7_ahead_35 : decode cX7_ahead 35 = .ok (.invokestatic 262, 3) := by decide +kernel
theorem dX7_ahead_38 : decode cX7_ahead 38 = .ok (.iconst 0, 1) := by decide +kernel
theorem dX7_ahead_39 : decode cX7_ahead 39 = .ok (.istore_n 3, 1) := by decide +kernel
theorem dX7_ahead_40 : decode cX7_ahead 40 = .ok (.iload_n 3, 1) := by decide +kernel
theorem dX7_ahead_41 : decode cX7_ahead 41 = .ok (.iload_n 2, 1) := by decide +kernel
theorem dX7_ahead_42 : decode cX7_ahead 42 = .ok (.if_icmp .ge 13, 3) := by decide +kernel
theorem dX7_ahead_45 : decode cX7_ahead 45 = .ok (.aload_n 0, 1) := by decide +kernel
theorem dX7_ahead_46 : decode cX7_ahead 46 = .ok (.invokevirtual 247, 3) := by decide +kernel
theorem dX7_ahead_49 : decode cX7_ahead 49 = .ok (.iinc 3 1, 3) := by decide +kernel
theorem dX7_ahead_52 : decode cX7_ahead 52 = .ok (.goto (-12), 3) := by decide +kernel
theorem dX7_ahead_55 : decode cX7_ahead 55 = .ok (.aload_n 0, 1) := by decide +kernel
theorem dX7_ahead_56 : decode cX7_ahead 56 = .ok (.getfield 22, 3) := by decide +kernel
theorem dX7_ahead_59 : decode cX7_ahead 59 = .ok (.iload_n 1, 1) := by decide +kernel
theorem dX7_ahead_60 : decode cX7_ahead 60 = .ok (.iconst 1, 1) := by decide +kernel
theorem dX7_ahead_61 : decode cX7_ahead 61 = .ok (.invokestatic 163, 3) := by decide +kernel
theorem dX7_ahead_64 : decode cX7_ahead 64 = .ok (.iaload, 1) := by decide +kernel
theorem dX7_ahead_65 : decode cX7_ahead 65 = .ok (.istore_n 3, 1) := by decide +kernel
theorem dX7_ahead_66 : decode cX7_ahead 66 = .ok (.aload_n 0, 1) := by decide +kernel
theorem dX7_ahead_67 : decode cX7_ahead 67 = .ok (.getfield 28, 3) := by decide +kernel
theorem dX7_ahead_70 : decode cX7_ahead 70 = .ok (.aload_n 0, 1) := by decide +kernel
theorem dX7_ahead_71 : decode cX7_ahead 71 = .ok (.getfield 22, 3) := by decide +kernel
theorem dX7_ahead_74 : decode cX7_ahead 74 = .ok (.sipush 7593, 3) := by decide +kernel
theorem dX7_ahead_77 : decode cX7_ahead 77 = .ok (.invokestatic 262, 3) := by decide +kernel
theorem dX7_ahead_80 : decode cX7_ahead 80 = .ok (.iload_n 3, 1) := by decide +kernel
theorem dX7_ahead_81 : decode cX7_ahead 81 = .ok (.ireturn, 1) := by decide +kernel
theorem dX7_entriesOf_0 : decode cX7_entriesOf 0 = .ok (.iconst 0, 1) := by decide +kernel
theorem dX7_entriesOf_1 : decode cX7_entriesOf 1 = .ok (.istore_n 3, 1) := by decide +kernel
theorem dX7_entriesOf_2 : decode cX7_entriesOf 2 = .ok (.iconst 0, 1) := by decide +kernel
theorem dX7_entriesOf_3 : decode cX7_entriesOf 3 = .ok (.istore 4, 2) := by decide +kernel
theorem dX7_entriesOf_5 : decode cX7_entriesOf 5 = .ok (.iload 4, 2) := by decide +kernel
theorem dX7_entriesOf_7 : decode cX7_entriesOf 7 = .ok (.aload_n 0, 1) := by decide +kernel
theorem dX7_entriesOf_8 : decode cX7_entriesOf 8 = .ok (.iload_n 1, 1) := by decide +kernel
theorem dX7_entriesOf_9 : decode cX7_entriesOf 9 = .ok (.invokevirtual 253, 3) := by decide +kernel
theorem dX7_entriesOf_12 : decode cX7_entriesOf 12 = .ok (.if_icmp .ge 39, 3) := by decide +kernel
theorem dX7_entriesOf_15 : decode cX7_entriesOf 15 = .ok (.iload_n 3, 1) := by decide +kernel
theorem dX7_entriesOf_16 : decode cX7_entriesOf 16 = .ok (.aload_n 0, 1) := by decide +kernel
theorem dX7_entriesOf_17 : decode cX7_entriesOf 17 = .ok (.getfield 22, 3) := by decide +kernel
theorem dX7_entriesOf_20 : decode cX7_entriesOf 20 = .ok (.iload_n 1, 1) := by decide +kernel
theorem dX7_entriesOf_21 : decode cX7_entriesOf 21 = .ok (.bipush 22, 2) := by decide +kernel
theorem dX7_entriesOf_23 : decode cX7_entriesOf 23 = .ok (.iconst 3, 1) := by decide +kernel
theorem dX7_entriesOf_24 : decode cX7_entriesOf 24 = .ok (.iload 4, 2) := by decide +kernel
theorem dX7_entriesOf_26 : decode cX7_entriesOf 26 = .ok (.imul, 1) := by decide +kernel
theorem dX7_entriesOf_27 : decode cX7_entriesOf 27 = .ok (.iadd, 1) := by decide +kernel
theorem dX7_entriesOf_28 : decode cX7_entriesOf 28 = .ok (.iconst 1, 1) := by decide +kernel
theorem dX7_entriesOf_29 : decode cX7_entriesOf 29 = .ok (.iadd, 1) := by decide +kernel
theorem dX7_entriesOf_30 : decode cX7_entriesOf 30 = .ok (.invokestatic 163, 3) := by decide +kernel
theorem dX7_entriesOf_33 : decode cX7_entriesOf 33 = .ok (.iaload, 1) := by decide +kernel
theorem dX7_entriesOf_34 : decode cX7_entriesOf 34 = .ok (.iload_n 2, 1) := by decide +kernel
theorem dX7_entriesOf_35 : decode cX7_entriesOf 35 = .ok (.if_icmp .ne 7, 3) := by decide +kernel
theorem dX7_entriesOf_38 : decode cX7_entriesOf 38 = .ok (.iconst 1, 1) := by decide +kernel
theorem dX7_entriesOf_39 : decode cX7_entriesOf 39 = .ok (.goto 4, 3) := by decide +kernel
theorem dX7_entriesOf_42 : decode cX7_entriesOf 42 = .ok (.iconst 0, 1) := by decide +kernel
theorem dX7_entriesOf_43 : decode cX7_entriesOf 43 = .ok (.iadd, 1) := by decide +kernel
theorem dX7_entriesOf_44 : decode cX7_entriesOf 44 = .ok (.istore_n 3, 1) := by decide +kernel
theorem dX7_entriesOf_45 : decode cX7_entriesOf 45 = .ok (.iinc 4 1, 3) := by decide +kernel
theorem dX7_entriesOf_48 : decode cX7_entriesOf 48 = .ok (.goto (-43), 3) := by decide +kernel
theorem dX7_entriesOf_51 : decode cX7_entriesOf 51 = .ok (.iload_n 3, 1) := by decide +kernel
theorem dX7_entriesOf_52 : decode cX7_entriesOf 52 = .ok (.ireturn, 1) := by decide +kernel
theorem dX7_replayed_0 : decode cX7_replayed 0 = .ok (.aload_n 0, 1) := by decide +kernel
theorem dX7_replayed_1 : decode cX7_replayed 1 = .ok (.iload_n 1, 1) := by decide +kernel
theorem dX7_replayed_2 : decode cX7_replayed 2 = .ok (.invokevirtual 243, 3) := by decide +kernel
theorem dX7_replayed_5 : decode cX7_replayed 5 = .ok (.ifCond .eq 12, 3) := by decide +kernel
theorem dX7_replayed_8 : decode cX7_replayed 8 = .ok (.iload_n 2, 1) := by decide +kernel
theorem dX7_replayed_9 : decode cX7_replayed 9 = .ok (.iconst 0, 1) := by decide +kernel
theorem dX7_replayed_10 : decode cX7_replayed 10 = .ok (.iconst 5, 1) := by decide +kernel
theorem dX7_replayed_11 : decode cX7_replayed 11 = .ok (.invokestatic 38, 3) := by decide +kernel
theorem dX7_replayed_14 : decode cX7_replayed 14 = .ok (.ifCond .ne 5, 3) := by decide +kernel
theorem dX7_replayed_17 : decode cX7_replayed 17 = .ok (.iconst (-1), 1) := by decide +kernel
theorem dX7_replayed_18 : decode cX7_replayed 18 = .ok (.ireturn, 1) := by decide +kernel
theorem dX7_replayed_19 : decode cX7_replayed 19 = .ok (.iconst 0, 1) := by decide +kernel
theorem dX7_replayed_20 : decode cX7_replayed 20 = .ok (.istore_n 3, 1) := by decide +kernel
theorem dX7_replayed_21 : decode cX7_replayed 21 = .ok (.iconst 0, 1) := by decide +kernel
theorem dX7_replayed_22 : decode cX7_replayed 22 = .ok (.istore 4, 2) := by decide +kernel
theorem dX7_replayed_24 : decode cX7_replayed 24 = .ok (.iload 4, 2) := by decide +kernel
theorem dX7_replayed_26 : decode cX7_replayed 26 = .ok (.aload_n 0, 1) := by decide +kernel
theorem dX7_replayed_27 : decode cX7_replayed 27 = .ok (.iload_n 1, 1) := by decide +kernel
theorem dX7_replayed_28 : decode cX7_replayed 28 = .ok (.invokevirtual 253, 3) := by decide +kernel
theorem dX7_replayed_31 : decode cX7_replayed 31 = .ok (.if_icmp .ge 55, 3) := by decide +kernel
theorem dX7_replayed_34 : decode cX7_replayed 34 = .ok (.aload_n 0, 1) := by decide +kernel
theorem dX7_replayed_35 : decode cX7_replayed 35 = .ok (.getfield 22, 3) := by decide +kernel
theorem dX7_replayed_38 : decode cX7_replayed 38 = .ok (.iload_n 1, 1) := by decide +kernel
theorem dX7_replayed_39 : decode cX7_replayed 39 = .ok (.bipush 22, 2) := by decide +kernel
theorem dX7_replayed_41 : decode cX7_replayed 41 = .ok (.iconst 3, 1) := by decide +kernel
theorem dX7_replayed_42 : decode cX7_replayed 42 = .ok (.iload 4, 2) := by decide +kernel
theorem dX7_replayed_44 : decode cX7_replayed 44 = .ok (.imul, 1) := by decide +kernel
theorem dX7_replayed_45 : decode cX7_replayed 45 = .ok (.iadd, 1) := by decide +kernel
theorem dX7_replayed_46 : decode cX7_replayed 46 = .ok (.iconst 1, 1) := by decide +kernel
theorem dX7_replayed_47 : decode cX7_replayed 47 = .ok (.iadd, 1) := by decide +kernel
theorem dX7_replayed_48 : decode cX7_replayed 48 = .ok (.invokestatic 163, 3) := by decide +kernel
theorem dX7_replayed_51 : decode cX7_replayed 51 = .ok (.iaload, 1) := by decide +kernel
theorem dX7_replayed_52 : decode cX7_replayed 52 = .ok (.bipush 11, 2) := by decide +kernel
theorem dX7_replayed_54 : decode cX7_replayed 54 = .ok (.if_icmp .ne 24, 3) := by decide +kernel
theorem dX7_replayed_57 : decode cX7_replayed 57 = .ok (.aload_n 0, 1) := by decide +kernel
theorem dX7_replayed_58 : decode cX7_replayed 58 = .ok (.getfield 22, 3) := by decide +kernel
theorem dX7_replayed_61 : decode cX7_replayed 61 = .ok (.iload_n 1, 1) := by decide +kernel
theorem dX7_replayed_62 : decode cX7_replayed 62 = .ok (.bipush 22, 2) := by decide +kernel
theorem dX7_replayed_64 : decode cX7_replayed 64 = .ok (.iconst 3, 1) := by decide +kernel
theorem dX7_replayed_65 : decode cX7_replayed 65 = .ok (.iload 4, 2) := by decide +kernel
theorem dX7_replayed_67 : decode cX7_replayed 67 = .ok (.imul, 1) := by decide +kernel
theorem dX7_replayed_68 : decode cX7_replayed 68 = .ok (.iadd, 1) := by decide +kernel
theorem dX7_replayed_69 : decode cX7_replayed 69 = .ok (.iconst 2, 1) := by decide +kernel
theorem dX7_replayed_70 : decode cX7_replayed 70 = .ok (.iadd, 1) := by decide +kernel
theorem dX7_replayed_71 : decode cX7_replayed 71 = .ok (.invokestatic 163, 3) := by decide +kernel
theorem dX7_replayed_74 : decode cX7_replayed 74 = .ok (.iaload, 1) := by decide +kernel
theorem dX7_replayed_75 : decode cX7_replayed 75 = .ok (.goto 4, 3) := by decide +kernel
theorem dX7_replayed_78 : decode cX7_replayed 78 = .ok (.iload_n 3, 1) := by decide +kernel
theorem dX7_replayed_79 : decode cX7_replayed 79 = .ok (.istore_n 3, 1) := by decide +kernel
theorem dX7_replayed_80 : decode cX7_replayed 80 = .ok (.iinc 4 1, 3) := by decide +kernel
theorem dX7_replayed_83 : decode cX7_replayed 83 = .ok (.goto (-59), 3) := by decide +kernel
theorem dX7_replayed_86 : decode cX7_replayed 86 = .ok (.iload_n 2, 1) := by decide +kernel
theorem dX7_replayed_87 : decode cX7_replayed 87 = .ok (.tableswitch 72 0 4 #[33, 35, 42, 50, 58], 33) := by decide +kernel
theorem dX7_replayed_120 : decode cX7_replayed 120 = .ok (.iload_n 3, 1) := by decide +kernel
theorem dX7_replayed_121 : decode cX7_replayed 121 = .ok (.ireturn, 1) := by decide +kernel
theorem dX7_replayed_122 : decode cX7_replayed 122 = .ok (.aload_n 0, 1) := by decide +kernel
theorem dX7_replayed_123 : decode cX7_replayed 123 = .ok (.iload_n 1, 1) := by decide +kernel
theorem dX7_replayed_124 : decode cX7_replayed 124 = .ok (.iconst 2, 1) := by decide +kernel
theorem dX7_replayed_125 : decode cX7_replayed 125 = .ok (.invokevirtual 266, 3) := by decide +kernel
theorem dX7_replayed_128 : decode cX7_replayed 128 = .ok (.ireturn, 1) := by decide +kernel
theorem dX7_replayed_129 : decode cX7_replayed 129 = .ok (.aload_n 0, 1) := by decide +kernel
theorem dX7_replayed_130 : decode cX7_replayed 130 = .ok (.iload_n 1, 1) := by decide +kernel
theorem dX7_replayed_131 : decode cX7_replayed 131 = .ok (.bipush 6, 2) := by decide +kernel
theorem dX7_replayed_133 : decode cX7_replayed 133 = .ok (.invokevirtual 266, 3) := by decide +kernel
theorem dX7_replayed_136 : decode cX7_replayed 136 = .ok (.ireturn, 1) := by decide +kernel
theorem dX7_replayed_137 : decode cX7_replayed 137 = .ok (.aload_n 0, 1) := by decide +kernel
theorem dX7_replayed_138 : decode cX7_replayed 138 = .ok (.iload_n 1, 1) := by decide +kernel
theorem dX7_replayed_139 : decode cX7_replayed 139 = .ok (.bipush 7, 2) := by decide +kernel
theorem dX7_replayed_141 : decode cX7_replayed 141 = .ok (.invokevirtual 266, 3) := by decide +kernel
theorem dX7_replayed_144 : decode cX7_replayed 144 = .ok (.ireturn, 1) := by decide +kernel
theorem dX7_replayed_145 : decode cX7_replayed 145 = .ok (.aload_n 0, 1) := by decide +kernel
theorem dX7_replayed_146 : decode cX7_replayed 146 = .ok (.iload_n 1, 1) := by decide +kernel
theorem dX7_replayed_147 : decode cX7_replayed 147 = .ok (.iconst 0, 1) := by decide +kernel
theorem dX7_replayed_148 : decode cX7_replayed 148 = .ok (.invokevirtual 266, 3) := by decide +kernel
theorem dX7_replayed_151 : decode cX7_replayed 151 = .ok (.aload_n 0, 1) := by decide +kernel
theorem dX7_replayed_152 : decode cX7_replayed 152 = .ok (.iload_n 1, 1) := by decide +kernel
theorem dX7_replayed_153 : decode cX7_replayed 153 = .ok (.iconst 5, 1) := by decide +kernel
theorem dX7_replayed_154 : decode cX7_replayed 154 = .ok (.invokevirtual 266, 3) := by decide +kernel
theorem dX7_replayed_157 : decode cX7_replayed 157 = .ok (.iadd, 1) := by decide +kernel
theorem dX7_replayed_158 : decode cX7_replayed 158 = .ok (.ireturn, 1) := by decide +kernel
theorem dX7_replayed_159 : decode cX7_replayed 159 = .ok (.aload_n 0, 1) := by decide +kernel
theorem dX7_replayed_160 : decode cX7_replayed 160 = .ok (.iload_n 1, 1) := by decide +kernel
theorem dX7_replayed_161 : decode cX7_replayed 161 = .ok (.iconst 1, 1) := by decide +kernel
theorem dX7_replayed_162 : decode cX7_replayed 162 = .ok (.invokevirtual 266, 3) := by decide +kernel
theorem dX7_replayed_165 : decode cX7_replayed 165 = .ok (.ireturn, 1) := by decide +kernel
theorem dX7_instancesOf_0 : decode cX7_instancesOf 0 = .ok (.iconst 0, 1) := by decide +kernel
theorem dX7_instancesOf_1 : decode cX7_instancesOf 1 = .ok (.istore_n 3, 1) := by decide +kernel
theorem dX7_instancesOf_2 : decode cX7_instancesOf 2 = .ok (.iconst 0, 1) := by decide +kernel
theorem dX7_instancesOf_3 : decode cX7_instancesOf 3 = .ok (.istore 4, 2) := by decide +kernel
theorem dX7_instancesOf_5 : decode cX7_instancesOf 5 = .ok (.iload 4, 2) := by decide +kernel
theorem dX7_instancesOf_7 : decode cX7_instancesOf 7 = .ok (.bipush 6, 2) := by decide +kernel
theorem dX7_instancesOf_9 : decode cX7_instancesOf 9 = .ok (.if_icmp .ge 60, 3) := by decide +kernel
theorem dX7_instancesOf_12 : decode cX7_instancesOf 12 = .ok (.iload_n 3, 1) := by decide +kernel
theorem dX7_instancesOf_13 : decode cX7_instancesOf 13 = .ok (.aload_n 0, 1) := by decide +kernel
theorem dX7_instancesOf_14 : decode cX7_instancesOf 14 = .ok (.iload 4, 2) := by decide +kernel
theorem dX7_instancesOf_16 : decode cX7_instancesOf 16 = .ok (.invokevirtual 243, 3) := by decide +kernel
theorem dX7_instancesOf_19 : decode cX7_instancesOf 19 = .ok (.ifCond .eq 41, 3) := by decide +kernel
theorem dX7_instancesOf_22 : decode cX7_instancesOf 22 = .ok (.aload_n 0, 1) := by decide +kernel
theorem dX7_instancesOf_23 : decode cX7_instancesOf 23 = .ok (.getfield 22, 3) := by decide +kernel
theorem dX7_instancesOf_26 : decode cX7_instancesOf 26 = .ok (.iload 4, 2) := by decide +kernel
theorem dX7_instancesOf_28 : decode cX7_instancesOf 28 = .ok (.iconst 2, 1) := by decide +kernel
theorem dX7_instancesOf_29 : decode cX7_instancesOf 29 = .ok (.invokestatic 163, 3) := by decide +kernel
theorem dX7_instancesOf_32 : decode cX7_instancesOf 32 = .ok (.iaload, 1) := by decide +kernel
theorem dX7_instancesOf_33 : decode cX7_instancesOf 33 = .ok (.iload_n 1, 1) := by decide +kernel
theorem dX7_instancesOf_34 : decode cX7_instancesOf 34 = .ok (.if_icmp .ne 26, 3) := by decide +kernel
theorem dX7_instancesOf_37 : decode cX7_instancesOf 37 = .ok (.iload_n 2, 1) := by decide +kernel
theorem dX7_instancesOf_38 : decode cX7_instancesOf 38 = .ok (.ifCond .lt 18, 3) := by decide +kernel
theorem dX7_instancesOf_41 : decode cX7_instancesOf 41 = .ok (.aload_n 0, 1) := by decide +kernel
theorem dX7_instancesOf_42 : decode cX7_instancesOf 42 = .ok (.getfield 22, 3) := by decide +kernel
theorem dX7_instancesOf_45 : decode cX7_instancesOf 45 = .ok (.iload 4, 2) := by decide +kernel
theorem dX7_instancesOf_47 : decode cX7_instancesOf 47 = .ok (.iconst 1, 1) := by decide +kernel
theorem dX7_instancesOf_48 : decode cX7_instancesOf 48 = .ok (.invokestatic 163, 3) := by decide +kernel
theorem dX7_instancesOf_51 : decode cX7_instancesOf 51 = .ok (.iaload, 1) := by decide +kernel
theorem dX7_instancesOf_52 : decode cX7_instancesOf 52 = .ok (.iload_n 2, 1) := by decide +kernel
theorem dX7_instancesOf_53 : decode cX7_instancesOf 53 = .ok (.if_icmp .ne 7, 3) := by decide +kernel
theorem dX7_instancesOf_56 : decode cX7_instancesOf 56 = .ok (.iconst 1, 1) := by decide +kernel
theorem dX7_instancesOf_57 : decode cX7_instancesOf 57 = .ok (.goto 4, 3) := by decide +kernel
theorem dX7_instancesOf_60 : decode cX7_instancesOf 60 = .ok (.iconst 0, 1) := by decide +kernel
theorem dX7_instancesOf_61 : decode cX7_instancesOf 61 = .ok (.iadd, 1) := by decide +kernel
theorem dX7_instancesOf_62 : decode cX7_instancesOf 62 = .ok (.istore_n 3, 1) := by decide +kernel
theorem dX7_instancesOf_63 : decode cX7_instancesOf 63 = .ok (.iinc 4 1, 3) := by decide +kernel
theorem dX7_instancesOf_66 : decode cX7_instancesOf 66 = .ok (.goto (-61), 3) := by decide +kernel
theorem dX7_instancesOf_69 : decode cX7_instancesOf 69 = .ok (.iload_n 3, 1) := by decide +kernel
theorem dX7_instancesOf_70 : decode cX7_instancesOf 70 = .ok (.ireturn, 1) := by decide +kernel
theorem dX7_statistic_0 : decode cX7_statistic 0 = .ok (.iload_n 1, 1) := by decide +kernel
theorem dX7_statistic_1 : decode cX7_statistic 1 = .ok (.invokestatic 138, 3) := by decide +kernel
theorem dX7_statistic_4 : decode cX7_statistic 4 = .ok (.ifCond .eq 13, 3) := by decide +kernel
theorem dX7_statistic_7 : decode cX7_statistic 7 = .ok (.iload_n 2, 1) := by decide +kernel
theorem dX7_statistic_8 : decode cX7_statistic 8 = .ok (.iconst 0, 1) := by decide +kernel
theorem dX7_statistic_9 : decode cX7_statistic 9 = .ok (.bipush 7, 2) := by decide +kernel
theorem dX7_statistic_11 : decode cX7_statistic 11 = .ok (.invokestatic 38, 3) := by decide +kernel
theorem dX7_statistic_14 : decode cX7_statistic 14 = .ok (.ifCond .ne 5, 3) := by decide +kernel
theorem dX7_statistic_17 : decode cX7_statistic 17 = .ok (.iconst (-1), 1) := by decide +kernel
theorem dX7_statistic_18 : decode cX7_statistic 18 = .ok (.ireturn, 1) := by decide +kernel
theorem dX7_statistic_19 : decode cX7_statistic 19 = .ok (.iload_n 2, 1) := by decide +kernel
theorem dX7_statistic_20 : decode cX7_statistic 20 = .ok (.bipush 6, 2) := by decide +kernel
theorem dX7_statistic_22 : decode cX7_statistic 22 = .ok (.if_icmp .ge 19, 3) := by decide +kernel
theorem dX7_statistic_25 : decode cX7_statistic 25 = .ok (.aload_n 0, 1) := by decide +kernel
theorem dX7_statistic_26 : decode cX7_statistic 26 = .ok (.iload_n 1, 1) := by decide +kernel
theorem dX7_statistic_27 : decode cX7_statistic 27 = .ok (.iload_n 2, 1) := by decide +kernel
theorem dX7_statistic_28 : decode cX7_statistic 28 = .ok (.iconst 5, 1) := by decide +kernel
theorem dX7_statistic_29 : decode cX7_statistic 29 = .ok (.if_icmp .ge 7, 3) := by decide +kernel
theorem dX7_statistic_32 : decode cX7_statistic 32 = .ok (.iload_n 2, 1) := by decide +kernel
theorem dX7_statistic_33 : decode cX7_statistic 33 = .ok (.goto 4, 3) := by decide +kernel
theorem dX7_statistic_36 : decode cX7_statistic 36 = .ok (.iconst (-1), 1) := by decide +kernel
theorem dX7_statistic_37 : decode cX7_statistic 37 = .ok (.invokevirtual 269, 3) := by decide +kernel
theorem dX7_statistic_40 : decode cX7_statistic 40 = .ok (.ireturn, 1) := by decide +kernel
theorem dX7_statistic_41 : decode cX7_statistic 41 = .ok (.aload_n 0, 1) := by decide +kernel
theorem dX7_statistic_42 : decode cX7_statistic 42 = .ok (.iload_n 1, 1) := by decide +kernel
theorem dX7_statistic_43 : decode cX7_statistic 43 = .ok (.iconst 1, 1) := by decide +kernel
theorem dX7_statistic_44 : decode cX7_statistic 44 = .ok (.invokevirtual 269, 3) := by decide +kernel
theorem dX7_statistic_47 : decode cX7_statistic 47 = .ok (.aload_n 0, 1) := by decide +kernel
theorem dX7_statistic_48 : decode cX7_statistic 48 = .ok (.iload_n 1, 1) := by decide +kernel
theorem dX7_statistic_49 : decode cX7_statistic 49 = .ok (.iconst 3, 1) := by decide +kernel
theorem dX7_statistic_50 : decode cX7_statistic 50 = .ok (.invokevirtual 269, 3) := by decide +kernel
theorem dX7_statistic_53 : decode cX7_statistic 53 = .ok (.iadd, 1) := by decide +kernel
theorem dX7_statistic_54 : decode cX7_statistic 54 = .ok (.aload_n 0, 1) := by decide +kernel
theorem dX7_statistic_55 : decode cX7_statistic 55 = .ok (.iload_n 1, 1) := by decide +kernel
theorem dX7_statistic_56 : decode cX7_statistic 56 = .ok (.iconst 4, 1) := by decide +kernel
theorem dX7_statistic_57 : decode cX7_statistic 57 = .ok (.invokevirtual 269, 3) := by decide +kernel
theorem dX7_statistic_60 : decode cX7_statistic 60 = .ok (.iadd, 1) := by decide +kernel
theorem dX7_statistic_61 : decode cX7_statistic 61 = .ok (.istore_n 3, 1) := by decide +kernel
theorem dX7_statistic_62 : decode cX7_statistic 62 = .ok (.iload_n 3, 1) := by decide +kernel
theorem dX7_statistic_63 : decode cX7_statistic 63 = .ok (.ifCond .ne 6, 3) := by decide +kernel
theorem dX7_statistic_66 : decode cX7_statistic 66 = .ok (.bipush (-5), 2) := by decide +kernel
theorem dX7_statistic_68 : decode cX7_statistic 68 = .ok (.ireturn, 1) := by decide +kernel
theorem dX7_statistic_69 : decode cX7_statistic 69 = .ok (.iconst 0, 1) := by decide +kernel
theorem dX7_statistic_70 : decode cX7_statistic 70 = .ok (.istore 4, 2) := by decide +kernel
theorem dX7_statistic_72 : decode cX7_statistic 72 = .ok (.iconst 0, 1) := by decide +kernel
theorem dX7_statistic_73 : decode cX7_statistic 73 = .ok (.istore 5, 2) := by decide +kernel
theorem dX7_statistic_75 : decode cX7_statistic 75 = .ok (.iload 5, 2) := by decide +kernel
theorem dX7_statistic_77 : decode cX7_statistic 77 = .ok (.bipush 6, 2) := by decide +kernel
theorem dX7_statistic_79 : decode cX7_statistic 79 = .ok (.if_icmp .ge 91, 3) := by decide +kernel
theorem dX7_statistic_82 : decode cX7_statistic 82 = .ok (.aload_n 0, 1) := by decide +kernel
theorem dX7_statistic_83 : decode cX7_statistic 83 = .ok (.iload 5, 2) := by decide +kernel
theorem dX7_statistic_85 : decode cX7_statistic 85 = .ok (.invokevirtual 243, 3) := by decide +kernel
theorem dX7_statistic_88 : decode cX7_statistic 88 = .ok (.ifCond .eq 36, 3) := by decide +kernel
theorem dX7_statistic_91 : decode cX7_statistic 91 = .ok (.aload_n 0, 1) := by decide +kernel
theorem dX7_statistic_92 : decode cX7_statistic 92 = .ok (.getfield 22, 3) := by decide +kernel
theorem dX7_statistic_95 : decode cX7_statistic 95 = .ok (.iload 5, 2) := by decide +kernel
theorem dX7_statistic_97 : decode cX7_statistic 97 = .ok (.iconst 2, 1) := by decide +kernel
theorem dX7_statistic_98 : decode cX7_statistic 98 = .ok (.invokestatic 163, 3) := by decide +kernel
theorem dX7_statistic_101 : decode cX7_statistic 101 = .ok (.iaload, 1) := by decide +kernel
theorem dX7_statistic_102 : decode cX7_statistic 102 = .ok (.iload_n 1, 1) := by decide +kernel
theorem dX7_statistic_103 : decode cX7_statistic 103 = .ok (.if_icmp .ne 21, 3) := by decide +kernel
theorem dX7_statistic_106 : decode cX7_statistic 106 = .ok (.aload_n 0, 1) := by decide +kernel
theorem dX7_statistic_107 : decode cX7_statistic 107 = .ok (.getfield 22, 3) := by decide +kernel
theorem dX7_statistic_110 : decode cX7_statistic 110 = .ok (.iload 5, 2) := by decide +kernel
theorem dX7_statistic_112 : decode cX7_statistic 112 = .ok (.iconst 5, 1) := by decide +kernel
theorem dX7_statistic_113 : decode cX7_statistic 113 = .ok (.invokestatic 163, 3) := by decide +kernel
theorem dX7_statistic_116 : decode cX7_statistic 116 = .ok (.iaload, 1) := by decide +kernel
theorem dX7_statistic_117 : decode cX7_statistic 117 = .ok (.ifCond .lt 7, 3) := by decide +kernel
theorem dX7_statistic_120 : decode cX7_statistic 120 = .ok (.iconst 1, 1) := by decide +kernel
theorem dX7_statistic_121 : decode cX7_statistic 121 = .ok (.goto 4, 3) := by decide +kernel
theorem dX7_statistic_124 : decode cX7_statistic 124 = .ok (.iconst 0, 1) := by decide +kernel
theorem dX7_statistic_125 : decode cX7_statistic 125 = .ok (.istore 6, 2) := by decide +kernel
theorem dX7_statistic_127 : decode cX7_statistic 127 = .ok (.iload 4, 2) := by decide +kernel
theorem dX7_statistic_129 : decode cX7_statistic 129 = .ok (.iload 6, 2) := by decide +kernel
theorem dX7_statistic_131 : decode cX7_statistic 131 = .ok (.ifCond .eq 29, 3) := by decide +kernel
theorem dX7_statistic_134 : decode cX7_statistic 134 = .ok (.aload_n 0, 1) := by decide +kernel
theorem dX7_statistic_135 : decode cX7_statistic 135 = .ok (.getfield 22, 3) := by decide +kernel
theorem dX7_statistic_138 : decode cX7_statistic 138 = .ok (.iload 5, 2) := by decide +kernel
theorem dX7_statistic_140 : decode cX7_statistic 140 = .ok (.iconst 5, 1) := by decide +kernel
theorem dX7_statistic_141 : decode cX7_statistic 141 = .ok (.invokestatic 163, 3) := by decide +kernel
theorem dX7_statistic_144 : decode cX7_statistic 144 = .ok (.iaload, 1) := by decide +kernel
theorem dX7_statistic_145 : decode cX7_statistic 145 = .ok (.aload_n 0, 1) := by decide +kernel
theorem dX7_statistic_146 : decode cX7_statistic 146 = .ok (.getfield 22, 3) := by decide +kernel
theorem dX7_statistic_149 : decode cX7_statistic 149 = .ok (.iload 5, 2) := by decide +kernel
theorem dX7_statistic_151 : decode cX7_statistic 151 = .ok (.iconst 4, 1) := by decide +kernel
theorem dX7_statistic_152 : decode cX7_statistic 152 = .ok (.invokestatic 163, 3) := by decide +kernel
theorem dX7_statistic_155 : decode cX7_statistic 155 = .ok (.iaload, 1) := by decide +kernel
theorem dX7_statistic_156 : decode cX7_statistic 156 = .ok (.isub, 1) := by decide +kernel
theorem dX7_statistic_157 : decode cX7_statistic 157 = .ok (.goto 4, 3) := by decide +kernel
theorem dX7_statistic_160 : decode cX7_statistic 160 = .ok (.iconst 0, 1) := by decide +kernel
theorem dX7_statistic_161 : decode cX7_statistic 161 = .ok (.iadd, 1) := by decide +kernel
theorem dX7_statistic_162 : decode cX7_statistic 162 = .ok (.istore 4, 2) := by decide +kernel
theorem dX7_statistic_164 : decode cX7_statistic 164 = .ok (.iinc 5 1, 3) := by decide +kernel
theorem dX7_statistic_167 : decode cX7_statistic 167 = .ok (.goto (-92), 3) := by decide +kernel
theorem dX7_statistic_170 : decode cX7_statistic 170 = .ok (.iload_n 2, 1) := by decide +kernel
theorem dX7_statistic_171 : decode cX7_statistic 171 = .ok (.bipush 6, 2) := by decide +kernel
theorem dX7_statistic_173 : decode cX7_statistic 173 = .ok (.if_icmp .ne 8, 3) := by decide +kernel
theorem dX7_statistic_176 : decode cX7_statistic 176 = .ok (.iload 4, 2) := by decide +kernel
theorem dX7_statistic_178 : decode cX7_statistic 178 = .ok (.goto 9, 3) := by decide +kernel
theorem dX7_statistic_181 : decode cX7_statistic 181 = .ok (.aload_n 0, 1) := by decide +kernel
theorem dX7_statistic_182 : decode cX7_statistic 182 = .ok (.iload_n 1, 1) := by decide +kernel
theorem dX7_statistic_183 : decode cX7_statistic 183 = .ok (.iconst 1, 1) := by decide +kernel
theorem dX7_statistic_184 : decode cX7_statistic 184 = .ok (.invokevirtual 269, 3) := by decide +kernel
theorem dX7_statistic_187 : decode cX7_statistic 187 = .ok (.i2f, 1) := by decide +kernel
theorem dX7_statistic_188 : decode cX7_statistic 188 = .ok (.iload_n 3, 1) := by decide +kernel
theorem dX7_statistic_189 : decode cX7_statistic 189 = .ok (.i2f, 1) := by decide +kernel
theorem dX7_statistic_190 : decode cX7_statistic 190 = .ok (.fdiv, 1) := by decide +kernel
theorem dX7_statistic_191 : decode cX7_statistic 191 = .ok (.invokestatic 272, 3) := by decide +kernel
theorem dX7_statistic_194 : decode cX7_statistic 194 = .ok (.ireturn, 1) := by decide +kernel
theorem dX7_image_0 : decode cX7_image 0 = .ok (.aload_n 0, 1) := by decide +kernel
theorem dX7_image_1 : decode cX7_image 1 = .ok (.getfield 22, 3) := by decide +kernel
theorem dX7_image_4 : decode cX7_image 4 = .ok (.aload_n 0, 1) := by decide +kernel
theorem dX7_image_5 : decode cX7_image 5 = .ok (.getfield 25, 3) := by decide +kernel
theorem dX7_image_8 : decode cX7_image 8 = .ok (.sipush 7593, 3) := by decide +kernel
theorem dX7_image_11 : decode cX7_image 11 = .ok (.invokestatic 262, 3) := by decide +kernel
theorem dX7_image_14 : decode cX7_image 14 = .ok (.aload_n 0, 1) := by decide +kernel
theorem dX7_image_15 : decode cX7_image 15 = .ok (.getfield 9, 3) := by decide +kernel
theorem dX7_image_18 : decode cX7_image 18 = .ok (.aload_n 0, 1) := by decide +kernel
theorem dX7_image_19 : decode cX7_image 19 = .ok (.getfield 13, 3) := by decide +kernel
theorem dX7_image_22 : decode cX7_image 22 = .ok (.sipush 9792, 3) := by decide +kernel
theorem dX7_image_25 : decode cX7_image 25 = .ok (.invokestatic 262, 3) := by decide +kernel
theorem dX7_image_28 : decode cX7_image 28 = .ok (.aload_n 0, 1) := by decide +kernel
theorem dX7_image_29 : decode cX7_image 29 = .ok (.getfield 16, 3) := by decide +kernel
theorem dX7_image_32 : decode cX7_image 32 = .ok (.aload_n 0, 1) := by decide +kernel
theorem dX7_image_33 : decode cX7_image 33 = .ok (.getfield 19, 3) := by decide +kernel
theorem dX7_image_36 : decode cX7_image 36 = .ok (.bipush 68, 2) := by decide +kernel
theorem dX7_image_38 : decode cX7_image 38 = .ok (.invokestatic 262, 3) := by decide +kernel
theorem dX7_image_41 : decode cX7_image 41 = .ok (.aload_n 0, 1) := by decide +kernel
theorem dX7_image_42 : decode cX7_image 42 = .ok (.aload_n 0, 1) := by decide +kernel
theorem dX7_image_43 : decode cX7_image 43 = .ok (.getfield 34, 3) := by decide +kernel
theorem dX7_image_46 : decode cX7_image 46 = .ok (.putfield 278, 3) := by decide +kernel
theorem dX7_image_49 : decode cX7_image 49 = .ok (.aload_n 0, 1) := by decide +kernel
theorem dX7_image_50 : decode cX7_image 50 = .ok (.aload_n 0, 1) := by decide +kernel
theorem dX7_image_51 : decode cX7_image 51 = .ok (.getfield 141, 3) := by decide +kernel
theorem dX7_image_54 : decode cX7_image 54 = .ok (.putfield 281, 3) := by decide +kernel
theorem dX7_image_57 : decode cX7_image 57 = .ok (.aload_n 0, 1) := by decide +kernel
theorem dX7_image_58 : decode cX7_image 58 = .ok (.iconst 1, 1) := by decide +kernel
theorem dX7_image_59 : decode cX7_image 59 = .ok (.putfield 284, 3) := by decide +kernel
theorem dX7_image_62 : decode cX7_image 62 = .ok (.aload_n 0, 1) := by decide +kernel
theorem dX7_image_63 : decode cX7_image 63 = .ok (.invokevirtual 236, 3) := by decide +kernel
theorem dX7_image_66 : decode cX7_image 66 = .ok (.ireturn, 1) := by decide +kernel
theorem dX7_undo_0 : decode cX7_undo 0 = .ok (.aload_n 0, 1) := by decide +kernel
theorem dX7_undo_1 : decode cX7_undo 1 = .ok (.getfield 284, 3) := by decide +kernel
theorem dX7_undo_4 : decode cX7_undo 4 = .ok (.ifCond .ne 6, 3) := by decide +kernel
theorem dX7_undo_7 : decode cX7_undo 7 = .ok (.bipush (-3), 2) := by decide +kernel
theorem dX7_undo_9 : decode cX7_undo 9 = .ok (.ireturn, 1) := by decide +kernel
theorem dX7_undo_10 : decode cX7_undo 10 = .ok (.aload_n 0, 1) := by decide +kernel
theorem dX7_undo_11 : decode cX7_undo 11 = .ok (.getfield 25, 3) := by decide +kernel
theorem dX7_undo_14 : decode cX7_undo 14 = .ok (.aload_n 0, 1) := by decide +kernel
theorem dX7_undo_15 : decode cX7_undo 15 = .ok (.getfield 22, 3) := by decide +kernel
theorem dX7_undo_18 : decode cX7_undo 18 = .ok (.sipush 7593, 3) := by decide +kernel
theorem dX7_undo_21 : decode cX7_undo 21 = .ok (.invokestatic 262, 3) := by decide +kernel
theorem dX7_undo_24 : decode cX7_undo 24 = .ok (.aload_n 0, 1) := by decide +kernel
theorem dX7_undo_25 : decode cX7_undo 25 = .ok (.getfield 13, 3) := by decide +kernel
theorem dX7_undo_28 : decode cX7_undo 28 = .ok (.aload_n 0, 1) := by decide +kernel
theorem dX7_undo_29 : decode cX7_undo 29 = .ok (.getfield 9, 3) := by decide +kernel
theorem dX7_undo_32 : decode cX7_undo 32 = .ok (.sipush 9792, 3) := by decide +kernel
theorem dX7_undo_35 : decode cX7_undo 35 = .ok (.invokestatic 262, 3) := by decide +kernel
theorem dX7_undo_38 : decode cX7_undo 38 = .ok (.aload_n 0, 1) := by decide +kernel
theorem dX7_undo_39 : decode cX7_undo 39 = .ok (.getfield 19, 3) := by decide +kernel
theorem dX7_undo_42 : decode cX7_undo 42 = .ok (.aload_n 0, 1) := by decide +kernel
theorem dX7_undo_43 : decode cX7_undo 43 = .ok (.getfield 16, 3) := by decide +kernel
theorem dX7_undo_46 : decode cX7_undo 46 = .ok (.bipush 68, 2) := by decide +kernel
theorem dX7_undo_48 : decode cX7_undo 48 = .ok (.invokestatic 262, 3) := by decide +kernel
theorem dX7_undo_51 : decode cX7_undo 51 = .ok (.aload_n 0, 1) := by decide +kernel
theorem dX7_undo_52 : decode cX7_undo 52 = .ok (.aload_n 0, 1) := by decide +kernel
theorem dX7_undo_53 : decode cX7_undo 53 = .ok (.getfield 278, 3) := by decide +kernel
theorem dX7_undo_56 : decode cX7_undo 56 = .ok (.putfield 34, 3) := by decide +kernel
theorem dX7_undo_59 : decode cX7_undo 59 = .ok (.aload_n 0, 1) := by decide +kernel
theorem dX7_undo_60 : decode cX7_undo 60 = .ok (.aload_n 0, 1) := by decide +kernel
theorem dX7_undo_61 : decode cX7_undo 61 = .ok (.getfield 281, 3) := by decide +kernel
theorem dX7_undo_64 : decode cX7_undo 64 = .ok (.putfield 141, 3) := by decide +kernel
theorem dX7_undo_67 : decode cX7_undo 67 = .ok (.aload_n 0, 1) := by decide +kernel
theorem dX7_undo_68 : decode cX7_undo 68 = .ok (.invokevirtual 236, 3) := by decide +kernel
theorem dX7_undo_71 : decode cX7_undo 71 = .ok (.ireturn, 1) := by decide +kernel
theorem dX7_withStatus_0 : decode cX7_withStatus 0 = .ok (.iconst 0, 1) := by decide +kernel
theorem dX7_withStatus_1 : decode cX7_withStatus 1 = .ok (.istore_n 2, 1) := by decide +kernel
theorem dX7_withStatus_2 : decode cX7_withStatus 2 = .ok (.iconst 0, 1) := by decide +kernel
theorem dX7_withStatus_3 : decode cX7_withStatus 3 = .ok (.istore_n 3, 1) := by decide +kernel
theorem dX7_withStatus_4 : decode cX7_withStatus 4 = .ok (.iload_n 3, 1) := by decide +kernel
theorem dX7_withStatus_5 : decode cX7_withStatus 5 = .ok (.iconst 4, 1) := by decide +kernel
theorem dX7_withStatus_6 : decode cX7_withStatus 6 = .ok (.if_icmp .ge 18, 3) := by decide +kernel
theorem dX7_withStatus_9 : decode cX7_withStatus 9 = .ok (.iload_n 2, 1) := by decide +kernel
theorem dX7_withStatus_10 : decode cX7_withStatus 10 = .ok (.aload_n 0, 1) := by decide +kernel
theorem dX7_withStatus_11 : decode cX7_withStatus 11 = .ok (.iload_n 3, 1) := by decide +kernel
theorem dX7_withStatus_12 : decode cX7_withStatus 12 = .ok (.iload_n 1, 1) := by decide +kernel
theorem dX7_withStatus_13 : decode cX7_withStatus 13 = .ok (.invokevirtual 269, 3) := by decide +kernel
theorem dX7_withStatus_16 : decode cX7_withStatus 16 = .ok (.iadd, 1) := by decide +kernel
theorem dX7_withStatus_17 : decode cX7_withStatus 17 = .ok (.istore_n 2, 1) := by decide +kernel
theorem dX7_withStatus_18 : decode cX7_withStatus 18 = .ok (.iinc 3 1, 3) := by decide +kernel
theorem dX7_withStatus_21 : decode cX7_withStatus 21 = .ok (.goto (-17), 3) := by decide +kernel
theorem dX7_withStatus_24 : decode cX7_withStatus 24 = .ok (.iload_n 2, 1) := by decide +kernel
theorem dX7_withStatus_25 : decode cX7_withStatus 25 = .ok (.ireturn, 1) := by decide +kernel
theorem dX7_versions_0 : decode cX7_versions 0 = .ok (.iconst 0, 1) := by decide +kernel
theorem dX7_versions_1 : decode cX7_versions 1 = .ok (.istore_n 1, 1) := by decide +kernel
theorem dX7_versions_2 : decode cX7_versions 2 = .ok (.iconst 0, 1) := by decide +kernel
theorem dX7_versions_3 : decode cX7_versions 3 = .ok (.istore_n 2, 1) := by decide +kernel
theorem dX7_versions_4 : decode cX7_versions 4 = .ok (.iload_n 2, 1) := by decide +kernel
theorem dX7_versions_5 : decode cX7_versions 5 = .ok (.iconst 4, 1) := by decide +kernel
theorem dX7_versions_6 : decode cX7_versions 6 = .ok (.if_icmp .ge 21, 3) := by decide +kernel
theorem dX7_versions_9 : decode cX7_versions 9 = .ok (.iload_n 1, 1) := by decide +kernel
theorem dX7_versions_10 : decode cX7_versions 10 = .ok (.aload_n 0, 1) := by decide +kernel
theorem dX7_versions_11 : decode cX7_versions 11 = .ok (.getfield 22, 3) := by decide +kernel
theorem dX7_versions_14 : decode cX7_versions 14 = .ok (.bipush 17, 2) := by decide +kernel
theorem dX7_versions_16 : decode cX7_versions 16 = .ok (.iload_n 2, 1) := by decide +kernel
theorem dX7_versions_17 : decode cX7_versions 17 = .ok (.iadd, 1) := by decide +kernel
theorem dX7_versions_18 : decode cX7_versions 18 = .ok (.iaload, 1) := by decide +kernel
theorem dX7_versions_19 : decode cX7_versions 19 = .ok (.iadd, 1) := by decide +kernel
theorem dX7_versions_20 : decode cX7_versions 20 = .ok (.istore_n 1, 1) := by decide +kernel
theorem dX7_versions_21 : decode cX7_versions 21 = .ok (.iinc 2 1, 3) := by decide +kernel
theorem dX7_versions_24 : decode cX7_versions 24 = .ok (.goto (-20), 3) := by decide +kernel
theorem dX7_versions_27 : decode cX7_versions 27 = .ok (.iload_n 1, 1) := by decide +kernel
theorem dX7_versions_28 : decode cX7_versions 28 = .ok (.ireturn, 1) := by decide +kernel
theorem dX7_count_0 : decode cX7_count 0 = .ok (.iload_n 1, 1) := by decide +kernel
theorem dX7_count_1 : decode cX7_count 1 = .ok (.bipush 10, 2) := by decide +kernel
theorem dX7_count_3 : decode cX7_count 3 = .ok (.bipush 17, 2) := by decide +kernel
theorem dX7_count_5 : decode cX7_count 5 = .ok (.invokestatic 38, 3) := by decide +kernel
theorem dX7_count_8 : decode cX7_count 8 = .ok (.ifCond .eq 15, 3) := by decide +kernel
theorem dX7_count_11 : decode cX7_count 11 = .ok (.aload_n 0, 1) := by decide +kernel
theorem dX7_count_12 : decode cX7_count 12 = .ok (.getfield 22, 3) := by decide +kernel
theorem dX7_count_15 : decode cX7_count 15 = .ok (.iconst 1, 1) := by decide +kernel
theorem dX7_count_16 : decode cX7_count 16 = .ok (.iload_n 1, 1) := by decide +kernel
theorem dX7_count_17 : decode cX7_count 17 = .ok (.iadd, 1) := by decide +kernel
theorem dX7_count_18 : decode cX7_count 18 = .ok (.bipush 10, 2) := by decide +kernel
theorem dX7_count_20 : decode cX7_count 20 = .ok (.isub, 1) := by decide +kernel
theorem dX7_count_21 : decode cX7_count 21 = .ok (.iaload, 1) := by decide +kernel
theorem dX7_count_22 : decode cX7_count 22 = .ok (.ireturn, 1) := by decide +kernel
theorem dX7_count_23 : decode cX7_count 23 = .ok (.iload_n 1, 1) := by decide +kernel
theorem dX7_count_24 : decode cX7_count 24 = .ok (.bipush 20, 2) := by decide +kernel
theorem dX7_count_26 : decode cX7_count 26 = .ok (.bipush 27, 2) := by decide +kernel
theorem dX7_count_28 : decode cX7_count 28 = .ok (.invokestatic 38, 3) := by decide +kernel
theorem dX7_count_31 : decode cX7_count 31 = .ok (.ifCond .eq 16, 3) := by decide +kernel
theorem dX7_count_34 : decode cX7_count 34 = .ok (.aload_n 0, 1) := by decide +kernel
theorem dX7_count_35 : decode cX7_count 35 = .ok (.getfield 22, 3) := by decide +kernel
theorem dX7_count_38 : decode cX7_count 38 = .ok (.bipush 9, 2) := by decide +kernel
theorem dX7_count_40 : decode cX7_count 40 = .ok (.iload_n 1, 1) := by decide +kernel
theorem dX7_count_41 : decode cX7_count 41 = .ok (.iadd, 1) := by decide +kernel
theorem dX7_count_42 : decode cX7_count 42 = .ok (.bipush 20, 2) := by decide +kernel
theorem dX7_count_44 : decode cX7_count 44 = .ok (.isub, 1) := by decide +kernel
theorem dX7_count_45 : decode cX7_count 45 = .ok (.iaload, 1) := by decide +kernel
theorem dX7_count_46 : decode cX7_count 46 = .ok (.ireturn, 1) := by decide +kernel
theorem dX7_count_47 : decode cX7_count 47 = .ok (.iload_n 1, 1) := by decide +kernel
theorem dX7_count_48 : decode cX7_count 48 = .ok (.tableswitch 74 0 5 #[40, 47, 52, 58, 64, 69], 40) := by decide +kernel
theorem dX7_count_88 : decode cX7_count 88 = .ok (.aload_n 0, 1) := by decide +kernel
theorem dX7_count_89 : decode cX7_count 89 = .ok (.getfield 22, 3) := by decide +kernel
theorem dX7_count_92 : decode cX7_count 92 = .ok (.iconst 0, 1) := by decide +kernel
theorem dX7_count_93 : decode cX7_count 93 = .ok (.iaload, 1) := by decide +kernel
theorem dX7_count_94 : decode cX7_count 94 = .ok (.ireturn, 1) := by decide +kernel
theorem dX7_count_95 : decode cX7_count 95 = .ok (.aload_n 0, 1) := by decide +kernel
theorem dX7_count_96 : decode cX7_count 96 = .ok (.invokevirtual 236, 3) := by decide +kernel
theorem dX7_count_99 : decode cX7_count 99 = .ok (.ireturn, 1) := by decide +kernel
theorem dX7_count_100 : decode cX7_count 100 = .ok (.aload_n 0, 1) := by decide +kernel
theorem dX7_count_101 : decode cX7_count 101 = .ok (.iconst 0, 1) := by decide +kernel
theorem dX7_count_102 : decode cX7_count 102 = .ok (.invokevirtual 288, 3) := by decide +kernel
theorem dX7_count_105 : decode cX7_count 105 = .ok (.ireturn, 1) := by decide +kernel
theorem dX7_count_106 : decode cX7_count 106 = .ok (.aload_n 0, 1) := by decide +kernel
theorem dX7_count_107 : decode cX7_count 107 = .ok (.iconst 2, 1) := by decide +kernel
theorem dX7_count_108 : decode cX7_count 108 = .ok (.invokevirtual 288, 3) := by decide +kernel
theorem dX7_count_111 : decode cX7_count 111 = .ok (.ireturn, 1) := by decide +kernel
theorem dX7_count_112 : decode cX7_count 112 = .ok (.aload_n 0, 1) := by decide +kernel
theorem dX7_count_113 : decode cX7_count 113 = .ok (.getfield 42, 3) := by decide +kernel
theorem dX7_count_116 : decode cX7_count 116 = .ok (.ireturn, 1) := by decide +kernel
theorem dX7_count_117 : decode cX7_count 117 = .ok (.aload_n 0, 1) := by decide +kernel
theorem dX7_count_118 : decode cX7_count 118 = .ok (.invokevirtual 291, 3) := by decide +kernel
theorem dX7_count_121 : decode cX7_count 121 = .ok (.ireturn, 1) := by decide +kernel
theorem dX7_count_122 : decode cX7_count 122 = .ok (.iconst (-1), 1) := by decide +kernel
theorem dX7_count_123 : decode cX7_count 123 = .ok (.ireturn, 1) := by decide +kernel
end
section
def hM (E : Ev) (ad : Nat → Nat)  (μ : Mem) : va_W := [(ad 0, .inr (7, [.ref (ad 1), .ref (ad 2), .ref (ad 3), .ref (ad 4), .ref (ad 5), .ref (ad 6), .ref (ad 7), .int (μ 0 7), .ref (ad 8), .int (μ 0 9), .int (μ 0 10), .int (μ 0 11), .int (μ 0 12), .int (μ 0 13), .int (μ 0 14), .int (μ 0 15), .int (μ 0 16), .int (μ 0 17), .int (μ 0 18), .int (μ 0 19), .int (μ 0 20)])), (ad 1, .inl (E.2.1, 9792, .inl (μ 1))), (ad 2, .inl (E.2.1, 9792, .inl (μ 2))), (ad 3, .inl (E.2.1, 68, .inl (μ 3))), (ad 4, .inl (E.2.1, 68, .inl (μ 4))), (ad 5, .inl (E.2.1, 7593, .inl (μ 5))), (ad 6, .inl (E.2.1, 7593, .inl (μ 6))), (ad 7, .inl (E.2.1, 7593, .inl (μ 7))), (ad 8, .inl (E.2.1, 80, .inl (μ 8)))]
theorem mm_X7_readsTask : Cond.instanceMethod yX7_readsTask ∈ WS ∧ Cond.selects (yX7_readsTask).cls yX7_readsTask yX7_readsTask ∈ WS ∧ Cond.initialized (yX7_readsTask).cls ∈ WS ∧ Cond.code yX7_readsTask cX7_readsTask 2 (some .boolean) ∈ WS ∧ ((yX7_readsTask).cls ≠ "java/lang/invoke/MethodHandle" ∧ (yX7_readsTask).cls ≠ "java/lang/invoke/VarHandle") ∧ (parseMethodDescriptor (yX7_readsTask).desc).map (fun d => d.parameters.length) = some 1 ∧ 2 ≤ 20 := ⟨ws_in (List.mem_of_getElem? (i := 965) (by decide +kernel)) rfl, ws_in (List.mem_of_getElem? (i := 50) (by decide +kernel)) rfl, ws_in (List.mem_of_getElem? (i := 110) (by decide +kernel)) rfl, ws_in (List.mem_of_getElem? (i := 966) (by decide +kernel)) rfl, ⟨by decide +kernel, by decide +kernel⟩, by decide +kernel, by decide⟩
theorem lk_X7_100 : LkV RX7 100 yX7_readsTask cX7_readsTask 2 (some .boolean) 1 := ⟨ws_in (List.mem_of_getElem? (i := 963) (by decide +kernel)) rfl, mm_X7_readsTask⟩
theorem mm_X7_readsWait : Cond.instanceMethod yX7_readsWait ∈ WS ∧ Cond.selects (yX7_readsWait).cls yX7_readsWait yX7_readsWait ∈ WS ∧ Cond.initialized (yX7_readsWait).cls ∈ WS ∧ Cond.code yX7_readsWait cX7_readsWait 3 (some .boolean) ∈ WS ∧ ((yX7_readsWait).cls ≠ "java/lang/invoke/MethodHandle" ∧ (yX7_readsWait).cls ≠ "java/lang/invoke/VarHandle") ∧ (parseMethodDescriptor (yX7_readsWait).desc).map (fun d => d.parameters.length) = some 1 ∧ 3 ≤ 20 := ⟨ws_in (List.mem_of_getElem? (i := 985) (by decide +kernel)) rfl, ws_in (List.mem_of_getElem? (i := 55) (by decide +kernel)) rfl, ws_in (List.mem_of_getElem? (i := 110) (by decide +kernel)) rfl, ws_in (List.mem_of_getElem? (i := 986) (by decide +kernel)) rfl, ⟨by decide +kernel, by decide +kernel⟩, by decide +kernel, by decide⟩
theorem lk_X7_103 : LkV RX7 103 yX7_readsWait cX7_readsWait 3 (some .boolean) 1 := ⟨ws_in (List.mem_of_getElem? (i := 983) (by decide +kernel)) rfl, mm_X7_readsWait⟩
theorem mm_X7_readsSignal : Cond.instanceMethod yX7_readsSignal ∈ WS ∧ Cond.selects (yX7_readsSignal).cls yX7_readsSignal yX7_readsSignal ∈ WS ∧ Cond.initialized (yX7_readsSignal).cls ∈ WS ∧ Cond.code yX7_readsSignal cX7_readsSignal 2 (some .boolean) ∈ WS ∧ ((yX7_readsSignal).cls ≠ "java/lang/invoke/MethodHandle" ∧ (yX7_readsSignal).cls ≠ "java/lang/invoke/VarHandle") ∧ (parseMethodDescriptor (yX7_readsSignal).desc).map (fun d => d.parameters.length) = some 1 ∧ 2 ≤ 20 := ⟨ws_in (List.mem_of_getElem? (i := 989) (by decide +kernel)) rfl, ws_in (List.mem_of_getElem? (i := 56) (by decide +kernel)) rfl, ws_in (List.mem_of_getElem? (i := 110) (by decide +kernel)) rfl, ws_in (List.mem_of_getElem? (i := 990) (by decide +kernel)) rfl, ⟨by decide +kernel, by decide +kernel⟩, by decide +kernel, by decide⟩
theorem lk_X7_106 : LkV RX7 106 yX7_readsSignal cX7_readsSignal 2 (some .boolean) 1 := ⟨ws_in (List.mem_of_getElem? (i := 987) (by decide +kernel)) rfl, mm_X7_readsSignal⟩
theorem mm_X7_readsSet : Cond.instanceMethod yX7_readsSet ∈ WS ∧ Cond.selects (yX7_readsSet).cls yX7_readsSet yX7_readsSet ∈ WS ∧ Cond.initialized (yX7_readsSet).cls ∈ WS ∧ Cond.code yX7_readsSet cX7_readsSet 3 (some .boolean) ∈ WS ∧ ((yX7_readsSet).cls ≠ "java/lang/invoke/MethodHandle" ∧ (yX7_readsSet).cls ≠ "java/lang/invoke/VarHandle") ∧ (parseMethodDescriptor (yX7_readsSet).desc).map (fun d => d.parameters.length) = some 1 ∧ 3 ≤ 20 := ⟨ws_in (List.mem_of_getElem? (i := 993) (by decide +kernel)) rfl, ws_in (List.mem_of_getElem? (i := 57) (by decide +kernel)) rfl, ws_in (List.mem_of_getElem? (i := 110) (by decide +kernel)) rfl, ws_in (List.mem_of_getElem? (i := 994) (by decide +kernel)) rfl, ⟨by decide +kernel, by decide +kernel⟩, by decide +kernel, by decide⟩
theorem lk_X7_109 : LkV RX7 109 yX7_readsSet cX7_readsSet 3 (some .boolean) 1 := ⟨ws_in (List.mem_of_getElem? (i := 991) (by decide +kernel)) rfl, mm_X7_readsSet⟩
theorem mm_X7_readsChoice : Cond.instanceMethod yX7_readsChoice ∈ WS ∧ Cond.selects (yX7_readsChoice).cls yX7_readsChoice yX7_readsChoice ∈ WS ∧ Cond.initialized (yX7_readsChoice).cls ∈ WS ∧ Cond.code yX7_readsChoice cX7_readsChoice 3 (some .boolean) ∈ WS ∧ ((yX7_readsChoice).cls ≠ "java/lang/invoke/MethodHandle" ∧ (yX7_readsChoice).cls ≠ "java/lang/invoke/VarHandle") ∧ (parseMethodDescriptor (yX7_readsChoice).desc).map (fun d => d.parameters.length) = some 1 ∧ 3 ≤ 20 := ⟨ws_in (List.mem_of_getElem? (i := 1001) (by decide +kernel)) rfl, ws_in (List.mem_of_getElem? (i := 59) (by decide +kernel)) rfl, ws_in (List.mem_of_getElem? (i := 110) (by decide +kernel)) rfl, ws_in (List.mem_of_getElem? (i := 1002) (by decide +kernel)) rfl, ⟨by decide +kernel, by decide +kernel⟩, by decide +kernel, by decide⟩
theorem lk_X7_112 : LkV RX7 112 yX7_readsChoice cX7_readsChoice 3 (some .boolean) 1 := ⟨ws_in (List.mem_of_getElem? (i := 999) (by decide +kernel)) rfl, mm_X7_readsChoice⟩
theorem mm_X7_readsParallel : Cond.instanceMethod yX7_readsParallel ∈ WS ∧ Cond.selects (yX7_readsParallel).cls yX7_readsParallel yX7_readsParallel ∈ WS ∧ Cond.initialized (yX7_readsParallel).cls ∈ WS ∧ Cond.code yX7_readsParallel cX7_readsParallel 5 (some .boolean) ∈ WS ∧ ((yX7_readsParallel).cls ≠ "java/lang/invoke/MethodHandle" ∧ (yX7_readsParallel).cls ≠ "java/lang/invoke/VarHandle") ∧ (parseMethodDescriptor (yX7_readsParallel).desc).map (fun d => d.parameters.length) = some 1 ∧ 5 ≤ 20 := ⟨ws_in (List.mem_of_getElem? (i := 1010) (by decide +kernel)) rfl, ws_in (List.mem_of_getElem? (i := 61) (by decide +kernel)) rfl, ws_in (List.mem_of_getElem? (i := 110) (by decide +kernel)) rfl, ws_in (List.mem_of_getElem? (i := 1011) (by decide +kernel)) rfl, ⟨by decide +kernel, by decide +kernel⟩, by decide +kernel, by decide⟩
theorem lk_X7_115 : LkV RX7 115 yX7_readsParallel cX7_readsParallel 5 (some .boolean) 1 := ⟨ws_in (List.mem_of_getElem? (i := 1008) (by decide +kernel)) rfl, mm_X7_readsParallel⟩
theorem mm_X7_takesCode : Cond.instanceMethod yX7_takesCode ∈ WS ∧ Cond.selects (yX7_takesCode).cls yX7_takesCode yX7_takesCode ∈ WS ∧ Cond.initialized (yX7_takesCode).cls ∈ WS ∧ Cond.code yX7_takesCode cX7_takesCode 1 (some .boolean) ∈ WS ∧ ((yX7_takesCode).cls ≠ "java/lang/invoke/MethodHandle" ∧ (yX7_takesCode).cls ≠ "java/lang/invoke/VarHandle") ∧ (parseMethodDescriptor (yX7_takesCode).desc).map (fun d => d.parameters.length) = some 0 ∧ 1 ≤ 20 := ⟨ws_in (List.mem_of_getElem? (i := 969) (by decide +kernel)) rfl, ws_in (List.mem_of_getElem? (i := 51) (by decide +kernel)) rfl, ws_in (List.mem_of_getElem? (i := 110) (by decide +kernel)) rfl, ws_in (List.mem_of_getElem? (i := 970) (by decide +kernel)) rfl, ⟨by decide +kernel, by decide +kernel⟩, by decide +kernel, by decide⟩
theorem lk_X7_118 : LkV RX7 118 yX7_takesCode cX7_takesCode 1 (some .boolean) 0 := ⟨ws_in (List.mem_of_getElem? (i := 967) (by decide +kernel)) rfl, mm_X7_takesCode⟩
theorem mm_X7_takesSigned : Cond.instanceMethod yX7_takesSigned ∈ WS ∧ Cond.selects (yX7_takesSigned).cls yX7_takesSigned yX7_takesSigned ∈ WS ∧ Cond.initialized (yX7_takesSigned).cls ∈ WS ∧ Cond.code yX7_takesSigned cX7_takesSigned 2 (some .boolean) ∈ WS ∧ ((yX7_takesSigned).cls ≠ "java/lang/invoke/MethodHandle" ∧ (yX7_takesSigned).cls ≠ "java/lang/invoke/VarHandle") ∧ (parseMethodDescriptor (yX7_takesSigned).desc).map (fun d => d.parameters.length) = some 0 ∧ 2 ≤ 20 := ⟨ws_in (List.mem_of_getElem? (i := 997) (by decide +kernel)) rfl, ws_in (List.mem_of_getElem? (i := 58) (by decide +kernel)) rfl, ws_in (List.mem_of_getElem? (i := 110) (by decide +kernel)) rfl, ws_in (List.mem_of_getElem? (i := 998) (by decide +kernel)) rfl, ⟨by decide +kernel, by decide +kernel⟩, by decide +kernel, by decide⟩
theorem lk_X7_121 : LkV RX7 121 yX7_takesSigned cX7_takesSigned 2 (some .boolean) 0 := ⟨ws_in (List.mem_of_getElem? (i := 995) (by decide +kernel)) rfl, mm_X7_takesSigned⟩
theorem mm_X7_opens : Cond.instanceMethod yX7_opens ∈ WS ∧ Cond.selects (yX7_opens).cls yX7_opens yX7_opens ∈ WS ∧ Cond.initialized (yX7_opens).cls ∈ WS ∧ Cond.code yX7_opens cX7_opens 1 none ∈ WS ∧ ((yX7_opens).cls ≠ "java/lang/invoke/MethodHandle" ∧ (yX7_opens).cls ≠ "java/lang/invoke/VarHandle") ∧ (parseMethodDescriptor (yX7_opens).desc).map (fun d => d.parameters.length) = some 0 ∧ 1 ≤ 20 := ⟨ws_in (List.mem_of_getElem? (i := 1005) (by decide +kernel)) rfl, ws_in (List.mem_of_getElem? (i := 60) (by decide +kernel)) rfl, ws_in (List.mem_of_getElem? (i := 110) (by decide +kernel)) rfl, ws_in (List.mem_of_getElem? (i := 1006) (by decide +kernel)) rfl, ⟨by decide +kernel, by decide +kernel⟩, by decide +kernel, by decide⟩
theorem lk_X7_132 : LkV RX7 132 yX7_opens cX7_opens 1 none 0 := ⟨ws_in (List.mem_of_getElem? (i := 1003) (by decide +kernel)) rfl, mm_X7_opens⟩
theorem mm_X7_readsBody : Cond.instanceMethod yX7_readsBody ∈ WS ∧ Cond.selects (yX7_readsBody).cls yX7_readsBody yX7_readsBody ∈ WS ∧ Cond.initialized (yX7_readsBody).cls ∈ WS ∧ Cond.code yX7_readsBody cX7_readsBody 6 (some .boolean) ∈ WS ∧ ((yX7_readsBody).cls ≠ "java/lang/invoke/MethodHandle" ∧ (yX7_readsBody).cls ≠ "java/lang/invoke/VarHandle") ∧ (parseMethodDescriptor (yX7_readsBody).desc).map (fun d => d.parameters.length) = some 2 ∧ 6 ≤ 20 := ⟨ws_in (List.mem_of_getElem? (i := 935) (by decide +kernel)) rfl, ws_in (List.mem_of_getElem? (i := 44) (by decide +kernel)) rfl, ws_in (List.mem_of_getElem? (i := 110) (by decide +kernel)) rfl, ws_in (List.mem_of_getElem? (i := 936) (by decide +kernel)) rfl, ⟨by decide +kernel, by decide +kernel⟩, by decide +kernel, by decide⟩
theorem lk_X7_135 : LkV RX7 135 yX7_readsBody cX7_readsBody 6 (some .boolean) 2 := ⟨ws_in (List.mem_of_getElem? (i := 933) (by decide +kernel)) rfl, mm_X7_readsBody⟩
theorem mm_X7_isWorkflow : Cond.static yX7_isWorkflow ∈ WS ∧ Cond.initialized (yX7_isWorkflow).cls ∈ WS ∧ Cond.code yX7_isWorkflow cX7_isWorkflow 1 (some .boolean) ∈ WS ∧ ((yX7_isWorkflow).cls ≠ "java/lang/invoke/MethodHandle" ∧ (yX7_isWorkflow).cls ≠ "java/lang/invoke/VarHandle") ∧ (parseMethodDescriptor (yX7_isWorkflow).desc).map (fun d => d.parameters.length) = some 1 ∧ 1 ≤ 20 := ⟨ws_in (List.mem_of_getElem? (i := 931) (by decide +kernel)) rfl, ws_in (List.mem_of_getElem? (i := 110) (by decide +kernel)) rfl, ws_in (List.mem_of_getElem? (i := 932) (by decide +kernel)) rfl, ⟨by decide +kernel, by decide +kernel⟩, by decide +kernel, by decide⟩
theorem lk_X7_138 : LkS RX7 138 yX7_isWorkflow cX7_isWorkflow 1 (some .boolean) 1 := ⟨ws_in (List.mem_of_getElem? (i := 930) (by decide +kernel)) rfl, mm_X7_isWorkflow⟩
theorem mm_X7_kind : Cond.instanceMethod yX7_kind ∈ WS ∧ Cond.selects (yX7_kind).cls yX7_kind yX7_kind ∈ WS ∧ Cond.initialized (yX7_kind).cls ∈ WS ∧ Cond.code yX7_kind cX7_kind 3 (some .int) ∈ WS ∧ ((yX7_kind).cls ≠ "java/lang/invoke/MethodHandle" ∧ (yX7_kind).cls ≠ "java/lang/invoke/VarHandle") ∧ (parseMethodDescriptor (yX7_kind).desc).map (fun d => d.parameters.length) = some 2 ∧ 3 ≤ 20 := ⟨ws_in (List.mem_of_getElem? (i := 1026) (by decide +kernel)) rfl, ws_in (List.mem_of_getElem? (i := 63) (by decide +kernel)) rfl, ws_in (List.mem_of_getElem? (i := 110) (by decide +kernel)) rfl, ws_in (List.mem_of_getElem? (i := 1027) (by decide +kernel)) rfl, ⟨by decide +kernel, by decide +kernel⟩, by decide +kernel, by decide⟩
theorem lk_X7_144 : LkV RX7 144 yX7_kind cX7_kind 3 (some .int) 2 := ⟨ws_in (List.mem_of_getElem? (i := 1024) (by decide +kernel)) rfl, mm_X7_kind⟩
theorem mm_X7_child : Cond.instanceMethod yX7_child ∈ WS ∧ Cond.selects (yX7_child).cls yX7_child yX7_child ∈ WS ∧ Cond.initialized (yX7_child).cls ∈ WS ∧ Cond.code yX7_child cX7_child 3 (some .int) ∈ WS ∧ ((yX7_child).cls ≠ "java/lang/invoke/MethodHandle" ∧ (yX7_child).cls ≠ "java/lang/invoke/VarHandle") ∧ (parseMethodDescriptor (yX7_child).desc).map (fun d => d.parameters.length) = some 2 ∧ 3 ≤ 20 := ⟨ws_in (List.mem_of_getElem? (i := 1034) (by decide +kernel)) rfl, ws_in (List.mem_of_getElem? (i := 65) (by decide +kernel)) rfl, ws_in (List.mem_of_getElem? (i := 110) (by decide +kernel)) rfl, ws_in (List.mem_of_getElem? (i := 1035) (by decide +kernel)) rfl, ⟨by decide +kernel, by decide +kernel⟩, by decide +kernel, by decide⟩
theorem lk_X7_147 : LkV RX7 147 yX7_child cX7_child 3 (some .int) 2 := ⟨ws_in (List.mem_of_getElem? (i := 1032) (by decide +kernel)) rfl, mm_X7_child⟩
theorem mm_X7_width : Cond.instanceMethod yX7_width ∈ WS ∧ Cond.selects (yX7_width).cls yX7_width yX7_width ∈ WS ∧ Cond.initialized (yX7_width).cls ∈ WS ∧ Cond.code yX7_width cX7_width 8 (some .int) ∈ WS ∧ ((yX7_width).cls ≠ "java/lang/invoke/MethodHandle" ∧ (yX7_width).cls ≠ "java/lang/invoke/VarHandle") ∧ (parseMethodDescriptor (yX7_width).desc).map (fun d => d.parameters.length) = some 2 ∧ 8 ≤ 20 := ⟨ws_in (List.mem_of_getElem? (i := 1030) (by decide +kernel)) rfl, ws_in (List.mem_of_getElem? (i := 64) (by decide +kernel)) rfl, ws_in (List.mem_of_getElem? (i := 110) (by decide +kernel)) rfl, ws_in (List.mem_of_getElem? (i := 1031) (by decide +kernel)) rfl, ⟨by decide +kernel, by decide +kernel⟩, by decide +kernel, by decide⟩
theorem lk_X7_150 : LkV RX7 150 yX7_width cX7_width 8 (some .int) 2 := ⟨ws_in (List.mem_of_getElem? (i := 1028) (by decide +kernel)) rfl, mm_X7_width⟩
theorem mm_X7_next : Cond.instanceMethod yX7_next ∈ WS ∧ Cond.selects (yX7_next).cls yX7_next yX7_next ∈ WS ∧ Cond.initialized (yX7_next).cls ∈ WS ∧ Cond.code yX7_next cX7_next 3 (some .int) ∈ WS ∧ ((yX7_next).cls ≠ "java/lang/invoke/MethodHandle" ∧ (yX7_next).cls ≠ "java/lang/invoke/VarHandle") ∧ (parseMethodDescriptor (yX7_next).desc).map (fun d => d.parameters.length) = some 2 ∧ 3 ≤ 20 := ⟨ws_in (List.mem_of_getElem? (i := 1038) (by decide +kernel)) rfl, ws_in (List.mem_of_getElem? (i := 66) (by decide +kernel)) rfl, ws_in (List.mem_of_getElem? (i := 110) (by decide +kernel)) rfl, ws_in (List.mem_of_getElem? (i := 1039) (by decide +kernel)) rfl, ⟨by decide +kernel, by decide +kernel⟩, by decide +kernel, by decide⟩
theorem lk_X7_153 : LkV RX7 153 yX7_next cX7_next 3 (some .int) 2 := ⟨ws_in (List.mem_of_getElem? (i := 1036) (by decide +kernel)) rfl, mm_X7_next⟩
theorem mm_X7_tasksIn : Cond.instanceMethod yX7_tasksIn ∈ WS ∧ Cond.selects (yX7_tasksIn).cls yX7_tasksIn yX7_tasksIn ∈ WS ∧ Cond.initialized (yX7_tasksIn).cls ∈ WS ∧ Cond.code yX7_tasksIn cX7_tasksIn 4 (some .int) ∈ WS ∧ ((yX7_tasksIn).cls ≠ "java/lang/invoke/MethodHandle" ∧ (yX7_tasksIn).cls ≠ "java/lang/invoke/VarHandle") ∧ (parseMethodDescriptor (yX7_tasksIn).desc).map (fun d => d.parameters.length) = some 1 ∧ 4 ≤ 20 := ⟨ws_in (List.mem_of_getElem? (i := 1022) (by decide +kernel)) rfl, ws_in (List.mem_of_getElem? (i := 62) (by decide +kernel)) rfl, ws_in (List.mem_of_getElem? (i := 110) (by decide +kernel)) rfl, ws_in (List.mem_of_getElem? (i := 1023) (by decide +kernel)) rfl, ⟨by decide +kernel, by decide +kernel⟩, by decide +kernel, by decide⟩
theorem lk_X7_156 : LkV RX7 156 yX7_tasksIn cX7_tasksIn 4 (some .int) 1 := ⟨ws_in (List.mem_of_getElem? (i := 1020) (by decide +kernel)) rfl, mm_X7_tasksIn⟩
theorem mm_X7_isCode : Cond.static yX7_isCode ∈ WS ∧ Cond.initialized (yX7_isCode).cls ∈ WS ∧ Cond.code yX7_isCode cX7_isCode 1 (some .boolean) ∈ WS ∧ ((yX7_isCode).cls ≠ "java/lang/invoke/MethodHandle" ∧ (yX7_isCode).cls ≠ "java/lang/invoke/VarHandle") ∧ (parseMethodDescriptor (yX7_isCode).desc).map (fun d => d.parameters.length) = some 1 ∧ 1 ≤ 20 := ⟨ws_in (List.mem_of_getElem? (i := 1045) (by decide +kernel)) rfl, ws_in (List.mem_of_getElem? (i := 110) (by decide +kernel)) rfl, ws_in (List.mem_of_getElem? (i := 1046) (by decide +kernel)) rfl, ⟨by decide +kernel, by decide +kernel⟩, by decide +kernel, by decide⟩
theorem lk_X7_160 : LkS RX7 160 yX7_isCode cX7_isCode 1 (some .boolean) 1 := ⟨ws_in (List.mem_of_getElem? (i := 1044) (by decide +kernel)) rfl, mm_X7_isCode⟩
theorem mm_X7_of : Cond.static yX7_of ∈ WS ∧ Cond.initialized (yX7_of).cls ∈ WS ∧ Cond.code yX7_of cX7_of 2 (some .int) ∈ WS ∧ ((yX7_of).cls ≠ "java/lang/invoke/MethodHandle" ∧ (yX7_of).cls ≠ "java/lang/invoke/VarHandle") ∧ (parseMethodDescriptor (yX7_of).desc).map (fun d => d.parameters.length) = some 2 ∧ 2 ≤ 20 := ⟨ws_in (List.mem_of_getElem? (i := 1060) (by decide +kernel)) rfl, ws_in (List.mem_of_getElem? (i := 110) (by decide +kernel)) rfl, ws_in (List.mem_of_getElem? (i := 1061) (by decide +kernel)) rfl, ⟨by decide +kernel, by decide +kernel⟩, by decide +kernel, by decide⟩
theorem lk_X7_163 : LkS RX7 163 yX7_of cX7_of 2 (some .int) 2 := ⟨ws_in (List.mem_of_getElem? (i := 1059) (by decide +kernel)) rfl, mm_X7_of⟩
theorem mm_X7_versionOf : Cond.instanceMethod yX7_versionOf ∈ WS ∧ Cond.selects (yX7_versionOf).cls yX7_versionOf yX7_versionOf ∈ WS ∧ Cond.initialized (yX7_versionOf).cls ∈ WS ∧ Cond.code yX7_versionOf cX7_versionOf 2 (some .int) ∈ WS ∧ ((yX7_versionOf).cls ≠ "java/lang/invoke/MethodHandle" ∧ (yX7_versionOf).cls ≠ "java/lang/invoke/VarHandle") ∧ (parseMethodDescriptor (yX7_versionOf).desc).map (fun d => d.parameters.length) = some 1 ∧ 2 ≤ 20 := ⟨ws_in (List.mem_of_getElem? (i := 1079) (by decide +kernel)) rfl, ws_in (List.mem_of_getElem? (i := 71) (by decide +kernel)) rfl, ws_in (List.mem_of_getElem? (i := 110) (by decide +kernel)) rfl, ws_in (List.mem_of_getElem? (i := 1080) (by decide +kernel)) rfl, ⟨by decide +kernel, by decide +kernel⟩, by decide +kernel, by decide⟩
theorem lk_X7_166 : LkV RX7 166 yX7_versionOf cX7_versionOf 2 (some .int) 1 := ⟨ws_in (List.mem_of_getElem? (i := 1077) (by decide +kernel)) rfl, mm_X7_versionOf⟩
theorem mm_X7_at : Cond.static yX7_at ∈ WS ∧ Cond.initialized (yX7_at).cls ∈ WS ∧ Cond.code yX7_at cX7_at 3 (some .int) ∈ WS ∧ ((yX7_at).cls ≠ "java/lang/invoke/MethodHandle" ∧ (yX7_at).cls ≠ "java/lang/invoke/VarHandle") ∧ (parseMethodDescriptor (yX7_at).desc).map (fun d => d.parameters.length) = some 3 ∧ 3 ≤ 20 := ⟨ws_in (List.mem_of_getElem? (i := 1063) (by decide +kernel)) rfl, ws_in (List.mem_of_getElem? (i := 110) (by decide +kernel)) rfl, ws_in (List.mem_of_getElem? (i := 1064) (by decide +kernel)) rfl, ⟨by decide +kernel, by decide +kernel⟩, by decide +kernel, by decide⟩
theorem lk_X7_169 : LkS RX7 169 yX7_at cX7_at 3 (some .int) 3 := ⟨ws_in (List.mem_of_getElem? (i := 1062) (by decide +kernel)) rfl, mm_X7_at⟩
theorem mm_X7_nodePart : Cond.instanceMethod yX7_nodePart ∈ WS ∧ Cond.selects (yX7_nodePart).cls yX7_nodePart yX7_nodePart ∈ WS ∧ Cond.initialized (yX7_nodePart).cls ∈ WS ∧ Cond.code yX7_nodePart cX7_nodePart 4 (some .int) ∈ WS ∧ ((yX7_nodePart).cls ≠ "java/lang/invoke/MethodHandle" ∧ (yX7_nodePart).cls ≠ "java/lang/invoke/VarHandle") ∧ (parseMethodDescriptor (yX7_nodePart).desc).map (fun d => d.parameters.length) = some 3 ∧ 4 ≤ 20 := ⟨ws_in (List.mem_of_getElem? (i := 1075) (by decide +kernel)) rfl, ws_in (List.mem_of_getElem? (i := 70) (by decide +kernel)) rfl, ws_in (List.mem_of_getElem? (i := 110) (by decide +kernel)) rfl, ws_in (List.mem_of_getElem? (i := 1076) (by decide +kernel)) rfl, ⟨by decide +kernel, by decide +kernel⟩, by decide +kernel, by decide⟩
theorem lk_X7_171 : LkV RX7 171 yX7_nodePart cX7_nodePart 4 (some .int) 3 := ⟨ws_in (List.mem_of_getElem? (i := 1073) (by decide +kernel)) rfl, mm_X7_nodePart⟩
theorem mm_X7_notes : Cond.instanceMethod yX7_notes ∈ WS ∧ Cond.selects (yX7_notes).cls yX7_notes yX7_notes ∈ WS ∧ Cond.initialized (yX7_notes).cls ∈ WS ∧ Cond.code yX7_notes cX7_notes 5 none ∈ WS ∧ ((yX7_notes).cls ≠ "java/lang/invoke/MethodHandle" ∧ (yX7_notes).cls ≠ "java/lang/invoke/VarHandle") ∧ (parseMethodDescriptor (yX7_notes).desc).map (fun d => d.parameters.length) = some 3 ∧ 5 ≤ 20 := ⟨ws_in (List.mem_of_getElem? (i := 1091) (by decide +kernel)) rfl, ws_in (List.mem_of_getElem? (i := 74) (by decide +kernel)) rfl, ws_in (List.mem_of_getElem? (i := 110) (by decide +kernel)) rfl, ws_in (List.mem_of_getElem? (i := 1092) (by decide +kernel)) rfl, ⟨by decide +kernel, by decide +kernel⟩, by decide +kernel, by decide⟩
theorem lk_X7_174 : LkV RX7 174 yX7_notes cX7_notes 5 none 3 := ⟨ws_in (List.mem_of_getElem? (i := 1089) (by decide +kernel)) rfl, mm_X7_notes⟩
theorem mm_X7_tries : Cond.instanceMethod yX7_tries ∈ WS ∧ Cond.selects (yX7_tries).cls yX7_tries yX7_tries ∈ WS ∧ Cond.initialized (yX7_tries).cls ∈ WS ∧ Cond.code yX7_tries cX7_tries 4 none ∈ WS ∧ ((yX7_tries).cls ≠ "java/lang/invoke/MethodHandle" ∧ (yX7_tries).cls ≠ "java/lang/invoke/VarHandle") ∧ (parseMethodDescriptor (yX7_tries).desc).map (fun d => d.parameters.length) = some 2 ∧ 4 ≤ 20 := ⟨ws_in (List.mem_of_getElem? (i := 1087) (by decide +kernel)) rfl, ws_in (List.mem_of_getElem? (i := 73) (by decide +kernel)) rfl, ws_in (List.mem_of_getElem? (i := 110) (by decide +kernel)) rfl, ws_in (List.mem_of_getElem? (i := 1088) (by decide +kernel)) rfl, ⟨by decide +kernel, by decide +kernel⟩, by decide +kernel, by decide⟩
theorem lk_X7_177 : LkV RX7 177 yX7_tries cX7_tries 4 none 2 := ⟨ws_in (List.mem_of_getElem? (i := 1085) (by decide +kernel)) rfl, mm_X7_tries⟩
theorem mm_X7_fails : Cond.instanceMethod yX7_fails ∈ WS ∧ Cond.selects (yX7_fails).cls yX7_fails yX7_fails ∈ WS ∧ Cond.initialized (yX7_fails).cls ∈ WS ∧ Cond.code yX7_fails cX7_fails 2 (some .boolean) ∈ WS ∧ ((yX7_fails).cls ≠ "java/lang/invoke/MethodHandle" ∧ (yX7_fails).cls ≠ "java/lang/invoke/VarHandle") ∧ (parseMethodDescriptor (yX7_fails).desc).map (fun d => d.parameters.length) = some 1 ∧ 2 ≤ 20 := ⟨ws_in (List.mem_of_getElem? (i := 1103) (by decide +kernel)) rfl, ws_in (List.mem_of_getElem? (i := 77) (by decide +kernel)) rfl, ws_in (List.mem_of_getElem? (i := 110) (by decide +kernel)) rfl, ws_in (List.mem_of_getElem? (i := 1104) (by decide +kernel)) rfl, ⟨by decide +kernel, by decide +kernel⟩, by decide +kernel, by decide⟩
theorem lk_X7_181 : LkV RX7 181 yX7_fails cX7_fails 2 (some .boolean) 1 := ⟨ws_in (List.mem_of_getElem? (i := 1101) (by decide +kernel)) rfl, mm_X7_fails⟩
theorem mm_X7_comesTo : Cond.instanceMethod yX7_comesTo ∈ WS ∧ Cond.selects (yX7_comesTo).cls yX7_comesTo yX7_comesTo ∈ WS ∧ Cond.initialized (yX7_comesTo).cls ∈ WS ∧ Cond.code yX7_comesTo cX7_comesTo 4 (some .int) ∈ WS ∧ ((yX7_comesTo).cls ≠ "java/lang/invoke/MethodHandle" ∧ (yX7_comesTo).cls ≠ "java/lang/invoke/VarHandle") ∧ (parseMethodDescriptor (yX7_comesTo).desc).map (fun d => d.parameters.length) = some 3 ∧ 4 ≤ 20 := ⟨ws_in (List.mem_of_getElem? (i := 1107) (by decide +kernel)) rfl, ws_in (List.mem_of_getElem? (i := 78) (by decide +kernel)) rfl, ws_in (List.mem_of_getElem? (i := 110) (by decide +kernel)) rfl, ws_in (List.mem_of_getElem? (i := 1108) (by decide +kernel)) rfl, ⟨by decide +kernel, by decide +kernel⟩, by decide +kernel, by decide⟩
theorem lk_X7_184 : LkV RX7 184 yX7_comesTo cX7_comesTo 4 (some .int) 3 := ⟨ws_in (List.mem_of_getElem? (i := 1105) (by decide +kernel)) rfl, mm_X7_comesTo⟩
theorem mm_X7_looksAtTask : Cond.instanceMethod yX7_looksAtTask ∈ WS ∧ Cond.selects (yX7_looksAtTask).cls yX7_looksAtTask yX7_looksAtTask ∈ WS ∧ Cond.initialized (yX7_looksAtTask).cls ∈ WS ∧ Cond.code yX7_looksAtTask cX7_looksAtTask 6 (some .int) ∈ WS ∧ ((yX7_looksAtTask).cls ≠ "java/lang/invoke/MethodHandle" ∧ (yX7_looksAtTask).cls ≠ "java/lang/invoke/VarHandle") ∧ (parseMethodDescriptor (yX7_looksAtTask).desc).map (fun d => d.parameters.length) = some 2 ∧ 6 ≤ 20 := ⟨ws_in (List.mem_of_getElem? (i := 1099) (by decide +kernel)) rfl, ws_in (List.mem_of_getElem? (i := 76) (by decide +kernel)) rfl, ws_in (List.mem_of_getElem? (i := 110) (by decide +kernel)) rfl, ws_in (List.mem_of_getElem? (i := 1100) (by decide +kernel)) rfl, ⟨by decide +kernel, by decide +kernel⟩, by decide +kernel, by decide⟩
theorem lk_X7_187 : LkV RX7 187 yX7_looksAtTask cX7_looksAtTask 6 (some .int) 2 := ⟨ws_in (List.mem_of_getElem? (i := 1097) (by decide +kernel)) rfl, mm_X7_looksAtTask⟩
theorem mm_X7_looksAtSignal : Cond.instanceMethod yX7_looksAtSignal ∈ WS ∧ Cond.selects (yX7_looksAtSignal).cls yX7_looksAtSignal yX7_looksAtSignal ∈ WS ∧ Cond.initialized (yX7_looksAtSignal).cls ∈ WS ∧ Cond.code yX7_looksAtSignal cX7_looksAtSignal 5 (some .int) ∈ WS ∧ ((yX7_looksAtSignal).cls ≠ "java/lang/invoke/MethodHandle" ∧ (yX7_looksAtSignal).cls ≠ "java/lang/invoke/VarHandle") ∧ (parseMethodDescriptor (yX7_looksAtSignal).desc).map (fun d => d.parameters.length) = some 2 ∧ 5 ≤ 20 := ⟨ws_in (List.mem_of_getElem? (i := 1111) (by decide +kernel)) rfl, ws_in (List.mem_of_getElem? (i := 79) (by decide +kernel)) rfl, ws_in (List.mem_of_getElem? (i := 110) (by decide +kernel)) rfl, ws_in (List.mem_of_getElem? (i := 1112) (by decide +kernel)) rfl, ⟨by decide +kernel, by decide +kernel⟩, by decide +kernel, by decide⟩
theorem lk_X7_190 : LkV RX7 190 yX7_looksAtSignal cX7_looksAtSignal 5 (some .int) 2 := ⟨ws_in (List.mem_of_getElem? (i := 1109) (by decide +kernel)) rfl, mm_X7_looksAtSignal⟩
theorem mm_X7_sets : Cond.instanceMethod yX7_sets ∈ WS ∧ Cond.selects (yX7_sets).cls yX7_sets yX7_sets ∈ WS ∧ Cond.initialized (yX7_sets).cls ∈ WS ∧ Cond.code yX7_sets cX7_sets 6 (some .int) ∈ WS ∧ ((yX7_sets).cls ≠ "java/lang/invoke/MethodHandle" ∧ (yX7_sets).cls ≠ "java/lang/invoke/VarHandle") ∧ (parseMethodDescriptor (yX7_sets).desc).map (fun d => d.parameters.length) = some 2 ∧ 6 ≤ 20 := ⟨ws_in (List.mem_of_getElem? (i := 1115) (by decide +kernel)) rfl, ws_in (List.mem_of_getElem? (i := 80) (by decide +kernel)) rfl, ws_in (List.mem_of_getElem? (i := 110) (by decide +kernel)) rfl, ws_in (List.mem_of_getElem? (i := 1116) (by decide +kernel)) rfl, ⟨by decide +kernel, by decide +kernel⟩, by decide +kernel, by decide⟩
theorem lk_X7_193 : LkV RX7 193 yX7_sets cX7_sets 6 (some .int) 2 := ⟨ws_in (List.mem_of_getElem? (i := 1113) (by decide +kernel)) rfl, mm_X7_sets⟩
theorem mm_X7_looksAtBody : Cond.instanceMethod yX7_looksAtBody ∈ WS ∧ Cond.selects (yX7_looksAtBody).cls yX7_looksAtBody yX7_looksAtBody ∈ WS ∧ Cond.initialized (yX7_looksAtBody).cls ∈ WS ∧ Cond.code yX7_looksAtBody cX7_looksAtBody 5 (some .int) ∈ WS ∧ ((yX7_looksAtBody).cls ≠ "java/lang/invoke/MethodHandle" ∧ (yX7_looksAtBody).cls ≠ "java/lang/invoke/VarHandle") ∧ (parseMethodDescriptor (yX7_looksAtBody).desc).map (fun d => d.parameters.length) = some 2 ∧ 5 ≤ 20 := ⟨ws_in (List.mem_of_getElem? (i := 1071) (by decide +kernel)) rfl, ws_in (List.mem_of_getElem? (i := 69) (by decide +kernel)) rfl, ws_in (List.mem_of_getElem? (i := 110) (by decide +kernel)) rfl, ws_in (List.mem_of_getElem? (i := 1072) (by decide +kernel)) rfl, ⟨by decide +kernel, by decide +kernel⟩, by decide +kernel, by decide⟩
theorem lk_X7_196 : LkV RX7 196 yX7_looksAtBody cX7_looksAtBody 5 (some .int) 2 := ⟨ws_in (List.mem_of_getElem? (i := 1069) (by decide +kernel)) rfl, mm_X7_looksAtBody⟩
theorem mm_X7_looksAtParallel : Cond.instanceMethod yX7_looksAtParallel ∈ WS ∧ Cond.selects (yX7_looksAtParallel).cls yX7_looksAtParallel yX7_looksAtParallel ∈ WS ∧ Cond.initialized (yX7_looksAtParallel).cls ∈ WS ∧ Cond.code yX7_looksAtParallel cX7_looksAtParallel 5 (some .int) ∈ WS ∧ ((yX7_looksAtParallel).cls ≠ "java/lang/invoke/MethodHandle" ∧ (yX7_looksAtParallel).cls ≠ "java/lang/invoke/VarHandle") ∧ (parseMethodDescriptor (yX7_looksAtParallel).desc).map (fun d => d.parameters.length) = some 2 ∧ 5 ≤ 20 := ⟨ws_in (List.mem_of_getElem? (i := 1119) (by decide +kernel)) rfl, ws_in (List.mem_of_getElem? (i := 81) (by decide +kernel)) rfl, ws_in (List.mem_of_getElem? (i := 110) (by decide +kernel)) rfl, ws_in (List.mem_of_getElem? (i := 1120) (by decide +kernel)) rfl, ⟨by decide +kernel, by decide +kernel⟩, by decide +kernel, by decide⟩
theorem lk_X7_199 : LkV RX7 199 yX7_looksAtParallel cX7_looksAtParallel 5 (some .int) 2 := ⟨ws_in (List.mem_of_getElem? (i := 1117) (by decide +kernel)) rfl, mm_X7_looksAtParallel⟩
theorem mm_X7_looks : Cond.instanceMethod yX7_looks ∈ WS ∧ Cond.selects (yX7_looks).cls yX7_looks yX7_looks ∈ WS ∧ Cond.initialized (yX7_looks).cls ∈ WS ∧ Cond.code yX7_looks cX7_looks 3 (some .int) ∈ WS ∧ ((yX7_looks).cls ≠ "java/lang/invoke/MethodHandle" ∧ (yX7_looks).cls ≠ "java/lang/invoke/VarHandle") ∧ (parseMethodDescriptor (yX7_looks).desc).map (fun d => d.parameters.length) = some 2 ∧ 3 ≤ 20 := ⟨ws_in (List.mem_of_getElem? (i := 1095) (by decide +kernel)) rfl, ws_in (List.mem_of_getElem? (i := 75) (by decide +kernel)) rfl, ws_in (List.mem_of_getElem? (i := 110) (by decide +kernel)) rfl, ws_in (List.mem_of_getElem? (i := 1096) (by decide +kernel)) rfl, ⟨by decide +kernel, by decide +kernel⟩, by decide +kernel, by decide⟩
theorem lk_X7_202 : LkV RX7 202 yX7_looks cX7_looks 3 (some .int) 2 := ⟨ws_in (List.mem_of_getElem? (i := 1093) (by decide +kernel)) rfl, mm_X7_looks⟩
theorem mm_X7_begins : Cond.instanceMethod yX7_begins ∈ WS ∧ Cond.selects (yX7_begins).cls yX7_begins yX7_begins ∈ WS ∧ Cond.initialized (yX7_begins).cls ∈ WS ∧ Cond.code yX7_begins cX7_begins 6 (some .int) ∈ WS ∧ ((yX7_begins).cls ≠ "java/lang/invoke/MethodHandle" ∧ (yX7_begins).cls ≠ "java/lang/invoke/VarHandle") ∧ (parseMethodDescriptor (yX7_begins).desc).map (fun d => d.parameters.length) = some 2 ∧ 6 ≤ 20 := ⟨ws_in (List.mem_of_getElem? (i := 1083) (by decide +kernel)) rfl, ws_in (List.mem_of_getElem? (i := 72) (by decide +kernel)) rfl, ws_in (List.mem_of_getElem? (i := 110) (by decide +kernel)) rfl, ws_in (List.mem_of_getElem? (i := 1084) (by decide +kernel)) rfl, ⟨by decide +kernel, by decide +kernel⟩, by decide +kernel, by decide⟩
theorem lk_X7_205 : LkV RX7 205 yX7_begins cX7_begins 6 (some .int) 2 := ⟨ws_in (List.mem_of_getElem? (i := 1081) (by decide +kernel)) rfl, mm_X7_begins⟩
theorem mm_X7_cancels : Cond.instanceMethod yX7_cancels ∈ WS ∧ Cond.selects (yX7_cancels).cls yX7_cancels yX7_cancels ∈ WS ∧ Cond.initialized (yX7_cancels).cls ∈ WS ∧ Cond.code yX7_cancels cX7_cancels 5 none ∈ WS ∧ ((yX7_cancels).cls ≠ "java/lang/invoke/MethodHandle" ∧ (yX7_cancels).cls ≠ "java/lang/invoke/VarHandle") ∧ (parseMethodDescriptor (yX7_cancels).desc).map (fun d => d.parameters.length) = some 2 ∧ 5 ≤ 20 := ⟨ws_in (List.mem_of_getElem? (i := 1131) (by decide +kernel)) rfl, ws_in (List.mem_of_getElem? (i := 84) (by decide +kernel)) rfl, ws_in (List.mem_of_getElem? (i := 110) (by decide +kernel)) rfl, ws_in (List.mem_of_getElem? (i := 1132) (by decide +kernel)) rfl, ⟨by decide +kernel, by decide +kernel⟩, by decide +kernel, by decide⟩
theorem lk_X7_208 : LkV RX7 208 yX7_cancels cX7_cancels 5 none 2 := ⟨ws_in (List.mem_of_getElem? (i := 1129) (by decide +kernel)) rfl, mm_X7_cancels⟩
theorem mm_X7_bodiesIn : Cond.instanceMethod yX7_bodiesIn ∈ WS ∧ Cond.selects (yX7_bodiesIn).cls yX7_bodiesIn yX7_bodiesIn ∈ WS ∧ Cond.initialized (yX7_bodiesIn).cls ∈ WS ∧ Cond.code yX7_bodiesIn cX7_bodiesIn 6 (some .int) ∈ WS ∧ ((yX7_bodiesIn).cls ≠ "java/lang/invoke/MethodHandle" ∧ (yX7_bodiesIn).cls ≠ "java/lang/invoke/VarHandle") ∧ (parseMethodDescriptor (yX7_bodiesIn).desc).map (fun d => d.parameters.length) = some 3 ∧ 6 ≤ 20 := ⟨ws_in (List.mem_of_getElem? (i := 1123) (by decide +kernel)) rfl, ws_in (List.mem_of_getElem? (i := 82) (by decide +kernel)) rfl, ws_in (List.mem_of_getElem? (i := 110) (by decide +kernel)) rfl, ws_in (List.mem_of_getElem? (i := 1124) (by decide +kernel)) rfl, ⟨by decide +kernel, by decide +kernel⟩, by decide +kernel, by decide⟩
theorem lk_X7_211 : LkV RX7 211 yX7_bodiesIn cX7_bodiesIn 6 (some .int) 3 := ⟨ws_in (List.mem_of_getElem? (i := 1121) (by decide +kernel)) rfl, mm_X7_bodiesIn⟩
theorem mm_X7_cancelsBodies : Cond.instanceMethod yX7_cancelsBodies ∈ WS ∧ Cond.selects (yX7_cancelsBodies).cls yX7_cancelsBodies yX7_cancelsBodies ∈ WS ∧ Cond.initialized (yX7_cancelsBodies).cls ∈ WS ∧ Cond.code yX7_cancelsBodies cX7_cancelsBodies 5 none ∈ WS ∧ ((yX7_cancelsBodies).cls ≠ "java/lang/invoke/MethodHandle" ∧ (yX7_cancelsBodies).cls ≠ "java/lang/invoke/VarHandle") ∧ (parseMethodDescriptor (yX7_cancelsBodies).desc).map (fun d => d.parameters.length) = some 2 ∧ 5 ≤ 20 := ⟨ws_in (List.mem_of_getElem? (i := 1127) (by decide +kernel)) rfl, ws_in (List.mem_of_getElem? (i := 83) (by decide +kernel)) rfl, ws_in (List.mem_of_getElem? (i := 110) (by decide +kernel)) rfl, ws_in (List.mem_of_getElem? (i := 1128) (by decide +kernel)) rfl, ⟨by decide +kernel, by decide +kernel⟩, by decide +kernel, by decide⟩
theorem lk_X7_214 : LkV RX7 214 yX7_cancelsBodies cX7_cancelsBodies 5 none 2 := ⟨ws_in (List.mem_of_getElem? (i := 1125) (by decide +kernel)) rfl, mm_X7_cancelsBodies⟩
theorem mm_X7_compensates : Cond.instanceMethod yX7_compensates ∈ WS ∧ Cond.selects (yX7_compensates).cls yX7_compensates yX7_compensates ∈ WS ∧ Cond.initialized (yX7_compensates).cls ∈ WS ∧ Cond.code yX7_compensates cX7_compensates 4 (some .boolean) ∈ WS ∧ ((yX7_compensates).cls ≠ "java/lang/invoke/MethodHandle" ∧ (yX7_compensates).cls ≠ "java/lang/invoke/VarHandle") ∧ (parseMethodDescriptor (yX7_compensates).desc).map (fun d => d.parameters.length) = some 2 ∧ 4 ≤ 20 := ⟨ws_in (List.mem_of_getElem? (i := 1135) (by decide +kernel)) rfl, ws_in (List.mem_of_getElem? (i := 85) (by decide +kernel)) rfl, ws_in (List.mem_of_getElem? (i := 110) (by decide +kernel)) rfl, ws_in (List.mem_of_getElem? (i := 1136) (by decide +kernel)) rfl, ⟨by decide +kernel, by decide +kernel⟩, by decide +kernel, by decide⟩
theorem lk_X7_217 : LkV RX7 217 yX7_compensates cX7_compensates 4 (some .boolean) 2 := ⟨ws_in (List.mem_of_getElem? (i := 1133) (by decide +kernel)) rfl, mm_X7_compensates⟩
theorem mm_X7_isFor : Cond.instanceMethod yX7_isFor ∈ WS ∧ Cond.selects (yX7_isFor).cls yX7_isFor yX7_isFor ∈ WS ∧ Cond.initialized (yX7_isFor).cls ∈ WS ∧ Cond.code yX7_isFor cX7_isFor 6 (some .boolean) ∈ WS ∧ ((yX7_isFor).cls ≠ "java/lang/invoke/MethodHandle" ∧ (yX7_isFor).cls ≠ "java/lang/invoke/VarHandle") ∧ (parseMethodDescriptor (yX7_isFor).desc).map (fun d => d.parameters.length) = some 3 ∧ 6 ≤ 20 := ⟨ws_in (List.mem_of_getElem? (i := 1143) (by decide +kernel)) rfl, ws_in (List.mem_of_getElem? (i := 87) (by decide +kernel)) rfl, ws_in (List.mem_of_getElem? (i := 110) (by decide +kernel)) rfl, ws_in (List.mem_of_getElem? (i := 1144) (by decide +kernel)) rfl, ⟨by decide +kernel, by decide +kernel⟩, by decide +kernel, by decide⟩
theorem lk_X7_220 : LkV RX7 220 yX7_isFor cX7_isFor 6 (some .boolean) 3 := ⟨ws_in (List.mem_of_getElem? (i := 1141) (by decide +kernel)) rfl, mm_X7_isFor⟩
theorem mm_X7_nextToCompensate : Cond.instanceMethod yX7_nextToCompensate ∈ WS ∧ Cond.selects (yX7_nextToCompensate).cls yX7_nextToCompensate yX7_nextToCompensate ∈ WS ∧ Cond.initialized (yX7_nextToCompensate).cls ∈ WS ∧ Cond.code yX7_nextToCompensate cX7_nextToCompensate 7 (some .int) ∈ WS ∧ ((yX7_nextToCompensate).cls ≠ "java/lang/invoke/MethodHandle" ∧ (yX7_nextToCompensate).cls ≠ "java/lang/invoke/VarHandle") ∧ (parseMethodDescriptor (yX7_nextToCompensate).desc).map (fun d => d.parameters.length) = some 2 ∧ 7 ≤ 20 := ⟨ws_in (List.mem_of_getElem? (i := 1139) (by decide +kernel)) rfl, ws_in (List.mem_of_getElem? (i := 86) (by decide +kernel)) rfl, ws_in (List.mem_of_getElem? (i := 110) (by decide +kernel)) rfl, ws_in (List.mem_of_getElem? (i := 1140) (by decide +kernel)) rfl, ⟨by decide +kernel, by decide +kernel⟩, by decide +kernel, by decide⟩
theorem lk_X7_223 : LkV RX7 223 yX7_nextToCompensate cX7_nextToCompensate 7 (some .int) 2 := ⟨ws_in (List.mem_of_getElem? (i := 1137) (by decide +kernel)) rfl, mm_X7_nextToCompensate⟩
theorem mm_X7_triesToCompensate : Cond.instanceMethod yX7_triesToCompensate ∈ WS ∧ Cond.selects (yX7_triesToCompensate).cls yX7_triesToCompensate yX7_triesToCompensate ∈ WS ∧ Cond.initialized (yX7_triesToCompensate).cls ∈ WS ∧ Cond.code yX7_triesToCompensate cX7_triesToCompensate 4 none ∈ WS ∧ ((yX7_triesToCompensate).cls ≠ "java/lang/invoke/MethodHandle" ∧ (yX7_triesToCompensate).cls ≠ "java/lang/invoke/VarHandle") ∧ (parseMethodDescriptor (yX7_triesToCompensate).desc).map (fun d => d.parameters.length) = some 2 ∧ 4 ≤ 20 := ⟨ws_in (List.mem_of_getElem? (i := 1147) (by decide +kernel)) rfl, ws_in (List.mem_of_getElem? (i := 88) (by decide +kernel)) rfl, ws_in (List.mem_of_getElem? (i := 110) (by decide +kernel)) rfl, ws_in (List.mem_of_getElem? (i := 1148) (by decide +kernel)) rfl, ⟨by decide +kernel, by decide +kernel⟩, by decide +kernel, by decide⟩
theorem lk_X7_226 : LkV RX7 226 yX7_triesToCompensate cX7_triesToCompensate 4 none 2 := ⟨ws_in (List.mem_of_getElem? (i := 1145) (by decide +kernel)) rfl, mm_X7_triesToCompensate⟩
theorem mm_X7_handles : Cond.instanceMethod yX7_handles ∈ WS ∧ Cond.selects (yX7_handles).cls yX7_handles yX7_handles ∈ WS ∧ Cond.initialized (yX7_handles).cls ∈ WS ∧ Cond.code yX7_handles cX7_handles 6 none ∈ WS ∧ ((yX7_handles).cls ≠ "java/lang/invoke/MethodHandle" ∧ (yX7_handles).cls ≠ "java/lang/invoke/VarHandle") ∧ (parseMethodDescriptor (yX7_handles).desc).map (fun d => d.parameters.length) = some 4 ∧ 6 ≤ 20 := ⟨ws_in (List.mem_of_getElem? (i := 1151) (by decide +kernel)) rfl, ws_in (List.mem_of_getElem? (i := 89) (by decide +kernel)) rfl, ws_in (List.mem_of_getElem? (i := 110) (by decide +kernel)) rfl, ws_in (List.mem_of_getElem? (i := 1152) (by decide +kernel)) rfl, ⟨by decide +kernel, by decide +kernel⟩, by decide +kernel, by decide⟩
theorem lk_X7_229 : LkV RX7 229 yX7_handles cX7_handles 6 none 4 := ⟨ws_in (List.mem_of_getElem? (i := 1149) (by decide +kernel)) rfl, mm_X7_handles⟩
theorem mm_X7_becomes : Cond.instanceMethod yX7_becomes ∈ WS ∧ Cond.selects (yX7_becomes).cls yX7_becomes yX7_becomes ∈ WS ∧ Cond.initialized (yX7_becomes).cls ∈ WS ∧ Cond.code yX7_becomes cX7_becomes 3 none ∈ WS ∧ ((yX7_becomes).cls ≠ "java/lang/invoke/MethodHandle" ∧ (yX7_becomes).cls ≠ "java/lang/invoke/VarHandle") ∧ (parseMethodDescriptor (yX7_becomes).desc).map (fun d => d.parameters.length) = some 2 ∧ 3 ≤ 20 := ⟨ws_in (List.mem_of_getElem? (i := 1155) (by decide +kernel)) rfl, ws_in (List.mem_of_getElem? (i := 90) (by decide +kernel)) rfl, ws_in (List.mem_of_getElem? (i := 110) (by decide +kernel)) rfl, ws_in (List.mem_of_getElem? (i := 1156) (by decide +kernel)) rfl, ⟨by decide +kernel, by decide +kernel⟩, by decide +kernel, by decide⟩
theorem lk_X7_233 : LkV RX7 233 yX7_becomes cX7_becomes 3 none 2 := ⟨ws_in (List.mem_of_getElem? (i := 1153) (by decide +kernel)) rfl, mm_X7_becomes⟩
theorem mm_X7_instances : Cond.instanceMethod yX7_instances ∈ WS ∧ Cond.selects (yX7_instances).cls yX7_instances yX7_instances ∈ WS ∧ Cond.initialized (yX7_instances).cls ∈ WS ∧ Cond.code yX7_instances cX7_instances 3 (some .int) ∈ WS ∧ ((yX7_instances).cls ≠ "java/lang/invoke/MethodHandle" ∧ (yX7_instances).cls ≠ "java/lang/invoke/VarHandle") ∧ (parseMethodDescriptor (yX7_instances).desc).map (fun d => d.parameters.length) = some 0 ∧ 3 ≤ 20 := ⟨ws_in (List.mem_of_getElem? (i := 1057) (by decide +kernel)) rfl, ws_in (List.mem_of_getElem? (i := 67) (by decide +kernel)) rfl, ws_in (List.mem_of_getElem? (i := 110) (by decide +kernel)) rfl, ws_in (List.mem_of_getElem? (i := 1058) (by decide +kernel)) rfl, ⟨by decide +kernel, by decide +kernel⟩, by decide +kernel, by decide⟩
theorem lk_X7_236 : LkV RX7 236 yX7_instances cX7_instances 3 (some .int) 0 := ⟨ws_in (List.mem_of_getElem? (i := 1055) (by decide +kernel)) rfl, mm_X7_instances⟩
theorem mm_X7_looksAt : Cond.instanceMethod yX7_looksAt ∈ WS ∧ Cond.selects (yX7_looksAt).cls yX7_looksAt yX7_looksAt ∈ WS ∧ Cond.initialized (yX7_looksAt).cls ∈ WS ∧ Cond.code yX7_looksAt cX7_looksAt 3 none ∈ WS ∧ ((yX7_looksAt).cls ≠ "java/lang/invoke/MethodHandle" ∧ (yX7_looksAt).cls ≠ "java/lang/invoke/VarHandle") ∧ (parseMethodDescriptor (yX7_looksAt).desc).map (fun d => d.parameters.length) = some 1 ∧ 3 ≤ 20 := ⟨ws_in (List.mem_of_getElem? (i := 1067) (by decide +kernel)) rfl, ws_in (List.mem_of_getElem? (i := 68) (by decide +kernel)) rfl, ws_in (List.mem_of_getElem? (i := 110) (by decide +kernel)) rfl, ws_in (List.mem_of_getElem? (i := 1068) (by decide +kernel)) rfl, ⟨by decide +kernel, by decide +kernel⟩, by decide +kernel, by decide⟩
theorem lk_X7_239 : LkV RX7 239 yX7_looksAt cX7_looksAt 3 none 1 := ⟨ws_in (List.mem_of_getElem? (i := 1065) (by decide +kernel)) rfl, mm_X7_looksAt⟩
theorem mm_X7_isInstance : Cond.instanceMethod yX7_isInstance ∈ WS ∧ Cond.selects (yX7_isInstance).cls yX7_isInstance yX7_isInstance ∈ WS ∧ Cond.initialized (yX7_isInstance).cls ∈ WS ∧ Cond.code yX7_isInstance cX7_isInstance 2 (some .boolean) ∈ WS ∧ ((yX7_isInstance).cls ≠ "java/lang/invoke/MethodHandle" ∧ (yX7_isInstance).cls ≠ "java/lang/invoke/VarHandle") ∧ (parseMethodDescriptor (yX7_isInstance).desc).map (fun d => d.parameters.length) = some 1 ∧ 2 ≤ 20 := ⟨ws_in (List.mem_of_getElem? (i := 1163) (by decide +kernel)) rfl, ws_in (List.mem_of_getElem? (i := 91) (by decide +kernel)) rfl, ws_in (List.mem_of_getElem? (i := 110) (by decide +kernel)) rfl, ws_in (List.mem_of_getElem? (i := 1164) (by decide +kernel)) rfl, ⟨by decide +kernel, by decide +kernel⟩, by decide +kernel, by decide⟩
theorem lk_X7_243 : LkV RX7 243 yX7_isInstance cX7_isInstance 2 (some .boolean) 1 := ⟨ws_in (List.mem_of_getElem? (i := 1161) (by decide +kernel)) rfl, mm_X7_isInstance⟩
theorem mm_X7_passes : Cond.instanceMethod yX7_passes ∈ WS ∧ Cond.selects (yX7_passes).cls yX7_passes yX7_passes ∈ WS ∧ Cond.initialized (yX7_passes).cls ∈ WS ∧ Cond.code yX7_passes cX7_passes 2 none ∈ WS ∧ ((yX7_passes).cls ≠ "java/lang/invoke/MethodHandle" ∧ (yX7_passes).cls ≠ "java/lang/invoke/VarHandle") ∧ (parseMethodDescriptor (yX7_passes).desc).map (fun d => d.parameters.length) = some 0 ∧ 2 ≤ 20 := ⟨ws_in (List.mem_of_getElem? (i := 1180) (by decide +kernel)) rfl, ws_in (List.mem_of_getElem? (i := 92) (by decide +kernel)) rfl, ws_in (List.mem_of_getElem? (i := 110) (by decide +kernel)) rfl, ws_in (List.mem_of_getElem? (i := 1181) (by decide +kernel)) rfl, ⟨by decide +kernel, by decide +kernel⟩, by decide +kernel, by decide⟩
theorem lk_X7_247 : LkV RX7 247 yX7_passes cX7_passes 2 none 0 := ⟨ws_in (List.mem_of_getElem? (i := 1178) (by decide +kernel)) rfl, mm_X7_passes⟩
theorem mm_X7_keptEntries : Cond.instanceMethod yX7_keptEntries ∈ WS ∧ Cond.selects (yX7_keptEntries).cls yX7_keptEntries yX7_keptEntries ∈ WS ∧ Cond.initialized (yX7_keptEntries).cls ∈ WS ∧ Cond.code yX7_keptEntries cX7_keptEntries 2 (some .int) ∈ WS ∧ ((yX7_keptEntries).cls ≠ "java/lang/invoke/MethodHandle" ∧ (yX7_keptEntries).cls ≠ "java/lang/invoke/VarHandle") ∧ (parseMethodDescriptor (yX7_keptEntries).desc).map (fun d => d.parameters.length) = some 1 ∧ 2 ≤ 20 := ⟨ws_in (List.mem_of_getElem? (i := 1192) (by decide +kernel)) rfl, ws_in (List.mem_of_getElem? (i := 93) (by decide +kernel)) rfl, ws_in (List.mem_of_getElem? (i := 110) (by decide +kernel)) rfl, ws_in (List.mem_of_getElem? (i := 1193) (by decide +kernel)) rfl, ⟨by decide +kernel, by decide +kernel⟩, by decide +kernel, by decide⟩
theorem lk_X7_253 : LkV RX7 253 yX7_keptEntries cX7_keptEntries 2 (some .int) 1 := ⟨ws_in (List.mem_of_getElem? (i := 1190) (by decide +kernel)) rfl, mm_X7_keptEntries⟩
theorem mm_X7_runs : Cond.instanceMethod yX7_runs ∈ WS ∧ Cond.selects (yX7_runs).cls yX7_runs yX7_runs ∈ WS ∧ Cond.initialized (yX7_runs).cls ∈ WS ∧ Cond.code yX7_runs cX7_runs 3 (some .boolean) ∈ WS ∧ ((yX7_runs).cls ≠ "java/lang/invoke/MethodHandle" ∧ (yX7_runs).cls ≠ "java/lang/invoke/VarHandle") ∧ (parseMethodDescriptor (yX7_runs).desc).map (fun d => d.parameters.length) = some 2 ∧ 3 ≤ 20 := ⟨ws_in (List.mem_of_getElem? (i := 1201) (by decide +kernel)) rfl, ws_in (List.mem_of_getElem? (i := 94) (by decide +kernel)) rfl, ws_in (List.mem_of_getElem? (i := 110) (by decide +kernel)) rfl, ws_in (List.mem_of_getElem? (i := 1202) (by decide +kernel)) rfl, ⟨by decide +kernel, by decide +kernel⟩, by decide +kernel, by decide⟩
theorem lk_X7_256 : LkV RX7 256 yX7_runs cX7_runs 3 (some .boolean) 2 := ⟨ws_in (List.mem_of_getElem? (i := 1199) (by decide +kernel)) rfl, mm_X7_runs⟩
theorem mm_X7_dueAt : Cond.instanceMethod yX7_dueAt ∈ WS ∧ Cond.selects (yX7_dueAt).cls yX7_dueAt yX7_dueAt ∈ WS ∧ Cond.initialized (yX7_dueAt).cls ∈ WS ∧ Cond.code yX7_dueAt cX7_dueAt 4 (some .int) ∈ WS ∧ ((yX7_dueAt).cls ≠ "java/lang/invoke/MethodHandle" ∧ (yX7_dueAt).cls ≠ "java/lang/invoke/VarHandle") ∧ (parseMethodDescriptor (yX7_dueAt).desc).map (fun d => d.parameters.length) = some 2 ∧ 4 ≤ 20 := ⟨ws_in (List.mem_of_getElem? (i := 1209) (by decide +kernel)) rfl, ws_in (List.mem_of_getElem? (i := 95) (by decide +kernel)) rfl, ws_in (List.mem_of_getElem? (i := 110) (by decide +kernel)) rfl, ws_in (List.mem_of_getElem? (i := 1210) (by decide +kernel)) rfl, ⟨by decide +kernel, by decide +kernel⟩, by decide +kernel, by decide⟩
theorem lk_X7_259 : LkV RX7 259 yX7_dueAt cX7_dueAt 4 (some .int) 2 := ⟨ws_in (List.mem_of_getElem? (i := 1207) (by decide +kernel)) rfl, mm_X7_dueAt⟩
theorem mm_X7_entriesOf : Cond.instanceMethod yX7_entriesOf ∈ WS ∧ Cond.selects (yX7_entriesOf).cls yX7_entriesOf yX7_entriesOf ∈ WS ∧ Cond.initialized (yX7_entriesOf).cls ∈ WS ∧ Cond.code yX7_entriesOf cX7_entriesOf 5 (some .int) ∈ WS ∧ ((yX7_entriesOf).cls ≠ "java/lang/invoke/MethodHandle" ∧ (yX7_entriesOf).cls ≠ "java/lang/invoke/VarHandle") ∧ (parseMethodDescriptor (yX7_entriesOf).desc).map (fun d => d.parameters.length) = some 2 ∧ 5 ≤ 20 := ⟨ws_in (List.mem_of_getElem? (i := 1224) (by decide +kernel)) rfl, ws_in (List.mem_of_getElem? (i := 96) (by decide +kernel)) rfl, ws_in (List.mem_of_getElem? (i := 110) (by decide +kernel)) rfl, ws_in (List.mem_of_getElem? (i := 1225) (by decide +kernel)) rfl, ⟨by decide +kernel, by decide +kernel⟩, by decide +kernel, by decide⟩
theorem lk_X7_266 : LkV RX7 266 yX7_entriesOf cX7_entriesOf 5 (some .int) 2 := ⟨ws_in (List.mem_of_getElem? (i := 1222) (by decide +kernel)) rfl, mm_X7_entriesOf⟩
theorem mm_X7_instancesOf : Cond.instanceMethod yX7_instancesOf ∈ WS ∧ Cond.selects (yX7_instancesOf).cls yX7_instancesOf yX7_instancesOf ∈ WS ∧ Cond.initialized (yX7_instancesOf).cls ∈ WS ∧ Cond.code yX7_instancesOf cX7_instancesOf 5 (some .int) ∈ WS ∧ ((yX7_instancesOf).cls ≠ "java/lang/invoke/MethodHandle" ∧ (yX7_instancesOf).cls ≠ "java/lang/invoke/VarHandle") ∧ (parseMethodDescriptor (yX7_instancesOf).desc).map (fun d => d.parameters.length) = some 2 ∧ 5 ≤ 20 := ⟨ws_in (List.mem_of_getElem? (i := 1232) (by decide +kernel)) rfl, ws_in (List.mem_of_getElem? (i := 97) (by decide +kernel)) rfl, ws_in (List.mem_of_getElem? (i := 110) (by decide +kernel)) rfl, ws_in (List.mem_of_getElem? (i := 1233) (by decide +kernel)) rfl, ⟨by decide +kernel, by decide +kernel⟩, by decide +kernel, by decide⟩
theorem lk_X7_269 : LkV RX7 269 yX7_instancesOf cX7_instancesOf 5 (some .int) 2 := ⟨ws_in (List.mem_of_getElem? (i := 1230) (by decide +kernel)) rfl, mm_X7_instancesOf⟩
theorem mm_X7_withStatus : Cond.instanceMethod yX7_withStatus ∈ WS ∧ Cond.selects (yX7_withStatus).cls yX7_withStatus yX7_withStatus ∈ WS ∧ Cond.initialized (yX7_withStatus).cls ∈ WS ∧ Cond.code yX7_withStatus cX7_withStatus 4 (some .int) ∈ WS ∧ ((yX7_withStatus).cls ≠ "java/lang/invoke/MethodHandle" ∧ (yX7_withStatus).cls ≠ "java/lang/invoke/VarHandle") ∧ (parseMethodDescriptor (yX7_withStatus).desc).map (fun d => d.parameters.length) = some 1 ∧ 4 ≤ 20 := ⟨ws_in (List.mem_of_getElem? (i := 1258) (by decide +kernel)) rfl, ws_in (List.mem_of_getElem? (i := 98) (by decide +kernel)) rfl, ws_in (List.mem_of_getElem? (i := 110) (by decide +kernel)) rfl, ws_in (List.mem_of_getElem? (i := 1259) (by decide +kernel)) rfl, ⟨by decide +kernel, by decide +kernel⟩, by decide +kernel, by decide⟩
theorem lk_X7_288 : LkV RX7 288 yX7_withStatus cX7_withStatus 4 (some .int) 1 := ⟨ws_in (List.mem_of_getElem? (i := 1256) (by decide +kernel)) rfl, mm_X7_withStatus⟩
theorem mm_X7_versions : Cond.instanceMethod yX7_versions ∈ WS ∧ Cond.selects (yX7_versions).cls yX7_versions yX7_versions ∈ WS ∧ Cond.initialized (yX7_versions).cls ∈ WS ∧ Cond.code yX7_versions cX7_versions 3 (some .int) ∈ WS ∧ ((yX7_versions).cls ≠ "java/lang/invoke/MethodHandle" ∧ (yX7_versions).cls ≠ "java/lang/invoke/VarHandle") ∧ (parseMethodDescriptor (yX7_versions).desc).map (fun d => d.parameters.length) = some 0 ∧ 3 ≤ 20 := ⟨ws_in (List.mem_of_getElem? (i := 1262) (by decide +kernel)) rfl, ws_in (List.mem_of_getElem? (i := 99) (by decide +kernel)) rfl, ws_in (List.mem_of_getElem? (i := 110) (by decide +kernel)) rfl, ws_in (List.mem_of_getElem? (i := 1263) (by decide +kernel)) rfl, ⟨by decide +kernel, by decide +kernel⟩, by decide +kernel, by decide⟩
theorem lk_X7_291 : LkV RX7 291 yX7_versions cX7_versions 3 (some .int) 0 := ⟨ws_in (List.mem_of_getElem? (i := 1260) (by decide +kernel)) rfl, mm_X7_versions⟩
theorem mm_X7_isIn : Cond.static yX7_isIn ∈ WS ∧ Cond.initialized (yX7_isIn).cls ∈ WS ∧ Cond.code yX7_isIn cX7_isIn 3 (some .boolean) ∈ WS ∧ ((yX7_isIn).cls ≠ "java/lang/invoke/MethodHandle" ∧ (yX7_isIn).cls ≠ "java/lang/invoke/VarHandle") ∧ (parseMethodDescriptor (yX7_isIn).desc).map (fun d => d.parameters.length) = some 3 ∧ 3 ≤ 20 := ⟨ws_in (List.mem_of_getElem? (i := 924) (by decide +kernel)) rfl, ws_in (List.mem_of_getElem? (i := 110) (by decide +kernel)) rfl, ws_in (List.mem_of_getElem? (i := 925) (by decide +kernel)) rfl, ⟨by decide +kernel, by decide +kernel⟩, by decide +kernel, by decide⟩
theorem lk_X7_38 : LkS RX7 38 yX7_isIn cX7_isIn 3 (some .boolean) 3 := ⟨ws_in (List.mem_of_getElem? (i := 923) (by decide +kernel)) rfl, mm_X7_isIn⟩
theorem mm_X7_here : Cond.instanceMethod yX7_here ∈ WS ∧ Cond.selects (yX7_here).cls yX7_here yX7_here ∈ WS ∧ Cond.initialized (yX7_here).cls ∈ WS ∧ Cond.code yX7_here cX7_here 1 (some .int) ∈ WS ∧ ((yX7_here).cls ≠ "java/lang/invoke/MethodHandle" ∧ (yX7_here).cls ≠ "java/lang/invoke/VarHandle") ∧ (parseMethodDescriptor (yX7_here).desc).map (fun d => d.parameters.length) = some 0 ∧ 1 ≤ 20 := ⟨ws_in (List.mem_of_getElem? (i := 954) (by decide +kernel)) rfl, ws_in (List.mem_of_getElem? (i := 48) (by decide +kernel)) rfl, ws_in (List.mem_of_getElem? (i := 110) (by decide +kernel)) rfl, ws_in (List.mem_of_getElem? (i := 955) (by decide +kernel)) rfl, ⟨by decide +kernel, by decide +kernel⟩, by decide +kernel, by decide⟩
theorem lk_X7_48 : LkV RX7 48 yX7_here cX7_here 1 (some .int) 0 := ⟨ws_in (List.mem_of_getElem? (i := 952) (by decide +kernel)) rfl, mm_X7_here⟩
theorem mm_X7_takesDigit : Cond.instanceMethod yX7_takesDigit ∈ WS ∧ Cond.selects (yX7_takesDigit).cls yX7_takesDigit yX7_takesDigit ∈ WS ∧ Cond.initialized (yX7_takesDigit).cls ∈ WS ∧ Cond.code yX7_takesDigit cX7_takesDigit 3 (some .boolean) ∈ WS ∧ ((yX7_takesDigit).cls ≠ "java/lang/invoke/MethodHandle" ∧ (yX7_takesDigit).cls ≠ "java/lang/invoke/VarHandle") ∧ (parseMethodDescriptor (yX7_takesDigit).desc).map (fun d => d.parameters.length) = some 2 ∧ 3 ≤ 20 := ⟨ws_in (List.mem_of_getElem? (i := 977) (by decide +kernel)) rfl, ws_in (List.mem_of_getElem? (i := 53) (by decide +kernel)) rfl, ws_in (List.mem_of_getElem? (i := 110) (by decide +kernel)) rfl, ws_in (List.mem_of_getElem? (i := 978) (by decide +kernel)) rfl, ⟨by decide +kernel, by decide +kernel⟩, by decide +kernel, by decide⟩
theorem lk_X7_55 : LkV RX7 55 yX7_takesDigit cX7_takesDigit 3 (some .boolean) 2 := ⟨ws_in (List.mem_of_getElem? (i := 975) (by decide +kernel)) rfl, mm_X7_takesDigit⟩
theorem mm_X7_takes : Cond.instanceMethod yX7_takes ∈ WS ∧ Cond.selects (yX7_takes).cls yX7_takes yX7_takes ∈ WS ∧ Cond.initialized (yX7_takes).cls ∈ WS ∧ Cond.code yX7_takes cX7_takes 2 (some .boolean) ∈ WS ∧ ((yX7_takes).cls ≠ "java/lang/invoke/MethodHandle" ∧ (yX7_takes).cls ≠ "java/lang/invoke/VarHandle") ∧ (parseMethodDescriptor (yX7_takes).desc).map (fun d => d.parameters.length) = some 1 ∧ 2 ≤ 20 := ⟨ws_in (List.mem_of_getElem? (i := 973) (by decide +kernel)) rfl, ws_in (List.mem_of_getElem? (i := 52) (by decide +kernel)) rfl, ws_in (List.mem_of_getElem? (i := 110) (by decide +kernel)) rfl, ws_in (List.mem_of_getElem? (i := 974) (by decide +kernel)) rfl, ⟨by decide +kernel, by decide +kernel⟩, by decide +kernel, by decide⟩
theorem lk_X7_59 : LkV RX7 59 yX7_takes cX7_takes 2 (some .boolean) 1 := ⟨ws_in (List.mem_of_getElem? (i := 971) (by decide +kernel)) rfl, mm_X7_takes⟩
theorem mm_X7_takesNumber : Cond.instanceMethod yX7_takesNumber ∈ WS ∧ Cond.selects (yX7_takesNumber).cls yX7_takesNumber yX7_takesNumber ∈ WS ∧ Cond.initialized (yX7_takesNumber).cls ∈ WS ∧ Cond.code yX7_takesNumber cX7_takesNumber 3 (some .boolean) ∈ WS ∧ ((yX7_takesNumber).cls ≠ "java/lang/invoke/MethodHandle" ∧ (yX7_takesNumber).cls ≠ "java/lang/invoke/VarHandle") ∧ (parseMethodDescriptor (yX7_takesNumber).desc).map (fun d => d.parameters.length) = some 0 ∧ 3 ≤ 20 := ⟨ws_in (List.mem_of_getElem? (i := 981) (by decide +kernel)) rfl, ws_in (List.mem_of_getElem? (i := 54) (by decide +kernel)) rfl, ws_in (List.mem_of_getElem? (i := 110) (by decide +kernel)) rfl, ws_in (List.mem_of_getElem? (i := 982) (by decide +kernel)) rfl, ⟨by decide +kernel, by decide +kernel⟩, by decide +kernel, by decide⟩
theorem lk_X7_63 : LkV RX7 63 yX7_takesNumber cX7_takesNumber 3 (some .boolean) 0 := ⟨ws_in (List.mem_of_getElem? (i := 979) (by decide +kernel)) rfl, mm_X7_takesNumber⟩
theorem mm_X7_part : Cond.static yX7_part ∈ WS ∧ Cond.initialized (yX7_part).cls ∈ WS ∧ Cond.code yX7_part cX7_part 3 (some .int) ∈ WS ∧ ((yX7_part).cls ≠ "java/lang/invoke/MethodHandle" ∧ (yX7_part).cls ≠ "java/lang/invoke/VarHandle") ∧ (parseMethodDescriptor (yX7_part).desc).map (fun d => d.parameters.length) = some 3 ∧ 3 ≤ 20 := ⟨ws_in (List.mem_of_getElem? (i := 946) (by decide +kernel)) rfl, ws_in (List.mem_of_getElem? (i := 110) (by decide +kernel)) rfl, ws_in (List.mem_of_getElem? (i := 947) (by decide +kernel)) rfl, ⟨by decide +kernel, by decide +kernel⟩, by decide +kernel, by decide⟩
theorem lk_X7_67 : LkS RX7 67 yX7_part cX7_part 3 (some .int) 3 := ⟨ws_in (List.mem_of_getElem? (i := 945) (by decide +kernel)) rfl, mm_X7_part⟩
theorem mm_X7_put : Cond.instanceMethod yX7_put ∈ WS ∧ Cond.selects (yX7_put).cls yX7_put yX7_put ∈ WS ∧ Cond.initialized (yX7_put).cls ∈ WS ∧ Cond.code yX7_put cX7_put 4 none ∈ WS ∧ ((yX7_put).cls ≠ "java/lang/invoke/MethodHandle" ∧ (yX7_put).cls ≠ "java/lang/invoke/VarHandle") ∧ (parseMethodDescriptor (yX7_put).desc).map (fun d => d.parameters.length) = some 3 ∧ 4 ≤ 20 := ⟨ws_in (List.mem_of_getElem? (i := 943) (by decide +kernel)) rfl, ws_in (List.mem_of_getElem? (i := 46) (by decide +kernel)) rfl, ws_in (List.mem_of_getElem? (i := 110) (by decide +kernel)) rfl, ws_in (List.mem_of_getElem? (i := 944) (by decide +kernel)) rfl, ⟨by decide +kernel, by decide +kernel⟩, by decide +kernel, by decide⟩
theorem lk_X7_74 : LkV RX7 74 yX7_put cX7_put 4 none 3 := ⟨ws_in (List.mem_of_getElem? (i := 941) (by decide +kernel)) rfl, mm_X7_put⟩
theorem mm_X7_makes : Cond.instanceMethod yX7_makes ∈ WS ∧ Cond.selects (yX7_makes).cls yX7_makes yX7_makes ∈ WS ∧ Cond.initialized (yX7_makes).cls ∈ WS ∧ Cond.code yX7_makes cX7_makes 5 (some .int) ∈ WS ∧ ((yX7_makes).cls ≠ "java/lang/invoke/MethodHandle" ∧ (yX7_makes).cls ≠ "java/lang/invoke/VarHandle") ∧ (parseMethodDescriptor (yX7_makes).desc).map (fun d => d.parameters.length) = some 2 ∧ 5 ≤ 20 := ⟨ws_in (List.mem_of_getElem? (i := 939) (by decide +kernel)) rfl, ws_in (List.mem_of_getElem? (i := 45) (by decide +kernel)) rfl, ws_in (List.mem_of_getElem? (i := 110) (by decide +kernel)) rfl, ws_in (List.mem_of_getElem? (i := 940) (by decide +kernel)) rfl, ⟨by decide +kernel, by decide +kernel⟩, by decide +kernel, by decide⟩
theorem lk_X7_81 : LkV RX7 81 yX7_makes cX7_makes 5 (some .int) 2 := ⟨ws_in (List.mem_of_getElem? (i := 937) (by decide +kernel)) rfl, mm_X7_makes⟩
theorem mm_X7_readsItem : Cond.instanceMethod yX7_readsItem ∈ WS ∧ Cond.selects (yX7_readsItem).cls yX7_readsItem yX7_readsItem ∈ WS ∧ Cond.initialized (yX7_readsItem).cls ∈ WS ∧ Cond.code yX7_readsItem cX7_readsItem 3 (some .boolean) ∈ WS ∧ ((yX7_readsItem).cls ≠ "java/lang/invoke/MethodHandle" ∧ (yX7_readsItem).cls ≠ "java/lang/invoke/VarHandle") ∧ (parseMethodDescriptor (yX7_readsItem).desc).map (fun d => d.parameters.length) = some 1 ∧ 3 ≤ 20 := ⟨ws_in (List.mem_of_getElem? (i := 950) (by decide +kernel)) rfl, ws_in (List.mem_of_getElem? (i := 47) (by decide +kernel)) rfl, ws_in (List.mem_of_getElem? (i := 110) (by decide +kernel)) rfl, ws_in (List.mem_of_getElem? (i := 951) (by decide +kernel)) rfl, ⟨by decide +kernel, by decide +kernel⟩, by decide +kernel, by decide⟩
theorem lk_X7_85 : LkV RX7 85 yX7_readsItem cX7_readsItem 3 (some .boolean) 1 := ⟨ws_in (List.mem_of_getElem? (i := 948) (by decide +kernel)) rfl, mm_X7_readsItem⟩
theorem mm_X7_beginsItem : Cond.static yX7_beginsItem ∈ WS ∧ Cond.initialized (yX7_beginsItem).cls ∈ WS ∧ Cond.code yX7_beginsItem cX7_beginsItem 1 (some .boolean) ∈ WS ∧ ((yX7_beginsItem).cls ≠ "java/lang/invoke/MethodHandle" ∧ (yX7_beginsItem).cls ≠ "java/lang/invoke/VarHandle") ∧ (parseMethodDescriptor (yX7_beginsItem).desc).map (fun d => d.parameters.length) = some 1 ∧ 1 ≤ 20 := ⟨ws_in (List.mem_of_getElem? (i := 957) (by decide +kernel)) rfl, ws_in (List.mem_of_getElem? (i := 110) (by decide +kernel)) rfl, ws_in (List.mem_of_getElem? (i := 958) (by decide +kernel)) rfl, ⟨by decide +kernel, by decide +kernel⟩, by decide +kernel, by decide⟩
theorem lk_X7_88 : LkS RX7 88 yX7_beginsItem cX7_beginsItem 1 (some .boolean) 1 := ⟨ws_in (List.mem_of_getElem? (i := 956) (by decide +kernel)) rfl, mm_X7_beginsItem⟩
theorem mm_X7_isTooMuch : Cond.instanceMethod yX7_isTooMuch ∈ WS ∧ Cond.selects (yX7_isTooMuch).cls yX7_isTooMuch yX7_isTooMuch ∈ WS ∧ Cond.initialized (yX7_isTooMuch).cls ∈ WS ∧ Cond.code yX7_isTooMuch cX7_isTooMuch 1 (some .boolean) ∈ WS ∧ ((yX7_isTooMuch).cls ≠ "java/lang/invoke/MethodHandle" ∧ (yX7_isTooMuch).cls ≠ "java/lang/invoke/VarHandle") ∧ (parseMethodDescriptor (yX7_isTooMuch).desc).map (fun d => d.parameters.length) = some 0 ∧ 1 ≤ 20 := ⟨ws_in (List.mem_of_getElem? (i := 961) (by decide +kernel)) rfl, ws_in (List.mem_of_getElem? (i := 49) (by decide +kernel)) rfl, ws_in (List.mem_of_getElem? (i := 110) (by decide +kernel)) rfl, ws_in (List.mem_of_getElem? (i := 962) (by decide +kernel)) rfl, ⟨by decide +kernel, by decide +kernel⟩, by decide +kernel, by decide⟩
theorem lk_X7_97 : LkV RX7 97 yX7_isTooMuch cX7_isTooMuch 1 (some .boolean) 0 := ⟨ws_in (List.mem_of_getElem? (i := 959) (by decide +kernel)) rfl, mm_X7_isTooMuch⟩
theorem k_X7_246 : Cond.constant RX7 246 99999 ∈ WS := ws_in (List.mem_of_getElem? (i := 1177) (by decide +kernel)) rfl
set_option maxRecDepth 100000 in
theorem wsin_X7 : ∀ w ∈ u_ws RX7 TX7 21, w ∈ WS := fun w hw => have h := goodIn_of (big := lw_tbl) (u_ws RX7 TX7 21) (by decide +kernel); ws_in (h w hw).1 (List.all_eq_true.mp (by decide +kernel : (u_ws RX7 TX7 21).all goodWord = true) w hw)
theorem f_X7_124 : FL RX7 124 7 17 := ⟨RX7, TX7, 21, rfl, by decide, wsin_X7, ws_in (List.mem_of_getElem? (i := 872) (by decide +kernel)) rfl⟩
theorem f_X7_141 : FL RX7 141 7 11 := ⟨RX7, TX7, 21, rfl, by decide, wsin_X7, ws_in (List.mem_of_getElem? (i := 866) (by decide +kernel)) rfl⟩
theorem f_X7_16 : FL RX7 16 7 2 := ⟨RX7, TX7, 21, rfl, by decide, wsin_X7, ws_in (List.mem_of_getElem? (i := 857) (by decide +kernel)) rfl⟩
theorem f_X7_22 : FL RX7 22 7 4 := ⟨RX7, TX7, 21, rfl, by decide, wsin_X7, ws_in (List.mem_of_getElem? (i := 859) (by decide +kernel)) rfl⟩
theorem f_X7_31 : FL RX7 31 7 8 := ⟨RX7, TX7, 21, rfl, by decide, wsin_X7, ws_in (List.mem_of_getElem? (i := 863) (by decide +kernel)) rfl⟩
theorem f_X7_34 : FL RX7 34 7 10 := ⟨RX7, TX7, 21, rfl, by decide, wsin_X7, ws_in (List.mem_of_getElem? (i := 865) (by decide +kernel)) rfl⟩
theorem f_X7_42 : FL RX7 42 7 9 := ⟨RX7, TX7, 21, rfl, by decide, wsin_X7, ws_in (List.mem_of_getElem? (i := 864) (by decide +kernel)) rfl⟩
theorem f_X7_45 : FL RX7 45 7 12 := ⟨RX7, TX7, 21, rfl, by decide, wsin_X7, ws_in (List.mem_of_getElem? (i := 867) (by decide +kernel)) rfl⟩
theorem f_X7_52 : FL RX7 52 7 18 := ⟨RX7, TX7, 21, rfl, by decide, wsin_X7, ws_in (List.mem_of_getElem? (i := 873) (by decide +kernel)) rfl⟩
theorem f_X7_71 : FL RX7 71 7 14 := ⟨RX7, TX7, 21, rfl, by decide, wsin_X7, ws_in (List.mem_of_getElem? (i := 869) (by decide +kernel)) rfl⟩
theorem f_X7_78 : FL RX7 78 7 13 := ⟨RX7, TX7, 21, rfl, by decide, wsin_X7, ws_in (List.mem_of_getElem? (i := 868) (by decide +kernel)) rfl⟩
theorem f_X7_9 : FL RX7 9 7 0 := ⟨RX7, TX7, 21, rfl, by decide, wsin_X7, ws_in (List.mem_of_getElem? (i := 855) (by decide +kernel)) rfl⟩
theorem f_X7_91 : FL RX7 91 7 15 := ⟨RX7, TX7, 21, rfl, by decide, wsin_X7, ws_in (List.mem_of_getElem? (i := 870) (by decide +kernel)) rfl⟩
theorem f_X7_94 : FL RX7 94 7 16 := ⟨RX7, TX7, 21, rfl, by decide, wsin_X7, ws_in (List.mem_of_getElem? (i := 871) (by decide +kernel)) rfl⟩
theorem mw_X7_127 : Cond.methodLink RX7 127 Lib.Math.max.name ∈ WS ∧ Cond.static Lib.Math.max.name ∈ WS ∧ Cond.initialized "java/lang/Math" ∈ WS ∧ Cond.code Lib.Math.max.name Lib.Math.max.code 2 (some .int) ∈ WS := ⟨ws_in (List.mem_of_getElem? (i := 1007) (by decide +kernel)) rfl, ws_in (List.mem_of_getElem? (i := 275) (by decide +kernel)) rfl, ws_in (List.mem_of_getElem? (i := 109) (by decide +kernel)) rfl, ws_in (List.mem_of_getElem? (i := 276) (by decide +kernel)) rfl⟩
theorem mw_X7_250 : Cond.methodLink RX7 250 Lib.Math.min.name ∈ WS ∧ Cond.static Lib.Math.min.name ∈ WS ∧ Cond.initialized "java/lang/Math" ∈ WS ∧ Cond.code Lib.Math.min.name Lib.Math.min.code 2 (some .int) ∈ WS := ⟨ws_in (List.mem_of_getElem? (i := 1194) (by decide +kernel)) rfl, ws_in (List.mem_of_getElem? (i := 420) (by decide +kernel)) rfl, ws_in (List.mem_of_getElem? (i := 109) (by decide +kernel)) rfl, ws_in (List.mem_of_getElem? (i := 421) (by decide +kernel)) rfl⟩
theorem fp_X7_124 : FLp RX7 124 7 17 .int := ⟨RX7, TX7, 21, tyX7, rfl, by decide, wsin_X7, ws_in (List.mem_of_getElem? (i := 872) (by decide +kernel)) rfl, tyX7_ok, nmX7, rfl, rfl⟩
theorem fp_X7_141 : FLp RX7 141 7 11 .int := ⟨RX7, TX7, 21, tyX7, rfl, by decide, wsin_X7, ws_in (List.mem_of_getElem? (i := 866) (by decide +kernel)) rfl, tyX7_ok, nmX7, rfl, rfl⟩
theorem fp_X7_34 : FLp RX7 34 7 10 .int := ⟨RX7, TX7, 21, tyX7, rfl, by decide, wsin_X7, ws_in (List.mem_of_getElem? (i := 865) (by decide +kernel)) rfl, tyX7_ok, nmX7, rfl, rfl⟩
theorem fp_X7_42 : FLp RX7 42 7 9 .int := ⟨RX7, TX7, 21, tyX7, rfl, by decide, wsin_X7, ws_in (List.mem_of_getElem? (i := 864) (by decide +kernel)) rfl, tyX7_ok, nmX7, rfl, rfl⟩
theorem fp_X7_45 : FLp RX7 45 7 12 .int := ⟨RX7, TX7, 21, tyX7, rfl, by decide, wsin_X7, ws_in (List.mem_of_getElem? (i := 867) (by decide +kernel)) rfl, tyX7_ok, nmX7, rfl, rfl⟩
theorem fp_X7_52 : FLp RX7 52 7 18 .int := ⟨RX7, TX7, 21, tyX7, rfl, by decide, wsin_X7, ws_in (List.mem_of_getElem? (i := 873) (by decide +kernel)) rfl, tyX7_ok, nmX7, rfl, rfl⟩
theorem fp_X7_71 : FLp RX7 71 7 14 .int := ⟨RX7, TX7, 21, tyX7, rfl, by decide, wsin_X7, ws_in (List.mem_of_getElem? (i := 869) (by decide +kernel)) rfl, tyX7_ok, nmX7, rfl, rfl⟩
theorem fp_X7_78 : FLp RX7 78 7 13 .int := ⟨RX7, TX7, 21, tyX7, rfl, by decide, wsin_X7, ws_in (List.mem_of_getElem? (i := 868) (by decide +kernel)) rfl, tyX7_ok, nmX7, rfl, rfl⟩
theorem fp_X7_91 : FLp RX7 91 7 15 .int := ⟨RX7, TX7, 21, tyX7, rfl, by decide, wsin_X7, ws_in (List.mem_of_getElem? (i := 870) (by decide +kernel)) rfl, tyX7_ok, nmX7, rfl, rfl⟩
theorem fp_X7_94 : FLp RX7 94 7 16 .int := ⟨RX7, TX7, 21, tyX7, rfl, by decide, wsin_X7, ws_in (List.mem_of_getElem? (i := 871) (by decide +kernel)) rfl, tyX7_ok, nmX7, rfl, rfl⟩
end
section
/-! the reference: partial pure functions, and the walk of each method (0) -/
def md_isIn  (x0 : Int32) (x1 : Int32) (x2 : Int32)  : Option (Bool) :=
  if x0 < x1 then
    (some false)
  else
    (if x2 < x0 then
      (some false)
    else
      (some true))
set_option maxHeartbeats 400000 in
set_option maxRecDepth 100000 in
theorem c_md_isIn {l : Launch} {E : Ev} {d : Nat}    {x0 : Int32} {x1 : Int32} {x2 : Int32}  (hd : 1 ≤ d) : Ct l yX7_isIn cX7_isIn 3 (some .boolean) d E ([]) [.int x0, .int x1, .int x2] (fun v : Bool => (some (.int (b2i v)), [])) (md_isIn x0 x1 x2) := by
  refine Ct.of2 (own := RX7) (L := [(0, .int x0), (1, .int x1), (2, .int x2)]) rfl (by decide +kernel) (Nat.le_of_ble_eq_true rfl) rfl ?_
  unfold md_isIn
  refine b_iload_n (n := 1) 0 dX7_isIn_0 rfl rfl rfl ?_
  refine b_iload_n (n := 2) 1 dX7_isIn_1 rfl rfl rfl ?_
  refine b_cmp_lt (n := 5) (tgt := 14) dX7_isIn_2 (by decide) rfl (fun h2 => ?_) (fun h2 => ?_)
  · refine b_iconst (n := 15) (v := 0) dX7_isIn_14 rfl (by decide) ?_
    exact b_zret (b := false) dX7_isIn_15 rfl rfl
  · refine b_iload_n (n := 6) 0 dX7_isIn_5 rfl rfl rfl ?_
    refine b_iload_n (n := 7) 2 dX7_isIn_6 rfl rfl rfl ?_
    refine b_cmp_gt (n := 10) (tgt := 14) dX7_isIn_7 (by decide) rfl (fun h7 => ?_) (fun h7 => ?_)
    · refine b_iconst (n := 15) (v := 0) dX7_isIn_14 rfl (by decide) ?_
      exact b_zret (b := false) dX7_isIn_15 rfl rfl
    · refine b_iconst (n := 11) (v := 1) dX7_isIn_10 rfl (by decide) ?_
      refine b_goto (n := 15) dX7_isIn_11 (by decide) ?_
      exact b_zret (b := true) dX7_isIn_15 rfl rfl
def md_isCode  (x0 : Int32)  : Option (Bool) :=
  (md_isIn x0 0 7).bind fun k4 =>
  some k4
set_option maxHeartbeats 400000 in
set_option maxRecDepth 100000 in
theorem c_md_isCode {l : Launch} {E : Ev} {d : Nat}    {x0 : Int32}  (hd : 2 ≤ d) : Ct l yX7_isCode cX7_isCode 1 (some .boolean) d E ([]) [.int x0] (fun v : Bool => (some (.int (b2i v)), [])) (md_isCode x0) := by
  refine Ct.of2 (own := RX7) (L := [(0, .int x0)]) rfl (by decide +kernel) (Nat.le_of_ble_eq_true rfl) rfl ?_
  unfold md_isCode
  refine b_iload_n (n := 1) 0 dX7_isCode_0 rfl rfl rfl ?_
  refine b_iconst (n := 2) (v := 0) dX7_isCode_1 rfl (by decide) ?_
  refine b_bipush (n := 4) (v := 7) dX7_isCode_2 rfl (by decide) ?_
  refine bSb (n := 7) (As := [.int x0, .int 0, .int 7]) (rest := []) lk_X7_38 (c_md_isIn (Nat.le_refl _)) (by omega) rfl rfl (Nat.le_of_ble_eq_true rfl) dX7_isCode_4 rfl (fun k4 => ?_)
  exact b_zret (b := k4) dX7_isCode_7 rfl rfl
def md_isWorkflow  (x0 : Int32)  : Option (Bool) :=
  (md_isIn x0 0 3).bind fun k3 =>
  some k3
set_option maxHeartbeats 400000 in
set_option maxRecDepth 100000 in
theorem c_md_isWorkflow {l : Launch} {E : Ev} {d : Nat}    {x0 : Int32}  (hd : 2 ≤ d) : Ct l yX7_isWorkflow cX7_isWorkflow 1 (some .boolean) d E ([]) [.int x0] (fun v : Bool => (some (.int (b2i v)), [])) (md_isWorkflow x0) := by
  refine Ct.of2 (own := RX7) (L := [(0, .int x0)]) rfl (by decide +kernel) (Nat.le_of_ble_eq_true rfl) rfl ?_
  unfold md_isWorkflow
  refine b_iload_n (n := 1) 0 dX7_isWorkflow_0 rfl rfl rfl ?_
  refine b_iconst (n := 2) (v := 0) dX7_isWorkflow_1 rfl (by decide) ?_
  refine b_iconst (n := 3) (v := 3) dX7_isWorkflow_2 rfl (by decide) ?_
  refine bSb (n := 6) (As := [.int x0, .int 0, .int 3]) (rest := []) lk_X7_38 (c_md_isIn (Nat.le_refl _)) (by omega) rfl rfl (Nat.le_of_ble_eq_true rfl) dX7_isWorkflow_3 rfl (fun k3 => ?_)
  exact b_zret (b := k3) dX7_isWorkflow_6 rfl rfl
def md_feed  (x1 : Int32) (μ : Mem) : Option (Int32 × Mem) :=
  (md_isIn x1 0 127).bind fun k4 =>
  if k4 = true then
    (if μ 0 9 = 80 then
      (some ((-4), μ))
    else
      (ck 80 (μ 0 9) <|
      some ((up (up μ 8 (μ 0 9).toNatClampNeg x1) 0 9 (((up μ 8 (μ 0 9).toNatClampNeg x1) 0 9) + 1)) 0 9, up (up μ 8 (μ 0 9).toNatClampNeg x1) 0 9 (((up μ 8 (μ 0 9).toNatClampNeg x1) 0 9) + 1))))
  else
    (some ((-2), μ))
set_option maxHeartbeats 400000 in
set_option maxRecDepth 100000 in
theorem c_md_feed {l : Launch} {E : Ev} {ad : Nat → Nat} {d : Nat}    {x1 : Int32} {μ : Mem} (hd : 2 ≤ d) : Ct l yX7_feed cX7_feed 2 (some .int) d E (hM E ad μ) [.ref (ad 0), .int x1] (fun q : Int32 × Mem => (some (.int q.1), hM E ad q.2)) (md_feed x1 μ) := by
  refine Ct.of2 (own := RX7) (L := [(0, .ref (ad 0)), (1, .int x1)]) rfl (by decide +kernel) (Nat.le_of_ble_eq_true rfl) rfl ?_
  unfold md_feed
  refine b_iload_n (n := 1) 1 dX7_feed_0 rfl rfl rfl ?_
  refine b_iconst (n := 2) (v := 0) dX7_feed_1 rfl (by decide) ?_
  refine b_bipush (n := 4) (v := 127) dX7_feed_2 rfl (by decide) ?_
  refine bSb (n := 7) (As := [.int x1, .int 0, .int 127]) (rest := []) lk_X7_38 (c_md_isIn (Nat.le_refl _)) (by omega) rfl rfl (Nat.le_of_ble_eq_true rfl) dX7_feed_4 rfl (fun k4 => ?_)
  refine b_bnz (n := 10) (tgt := 13) dX7_feed_7 (by decide) rfl (fun h7 => ?_) (fun h7 => ?_)
  · refine b_aload_n (n := 14) 0 dX7_feed_13 rfl rfl rfl ?_
    refine b_get (n := 17) 0 f_X7_42 dX7_feed_14 rfl rfl rfl ?_
    refine b_bipush (n := 19) (v := 80) dX7_feed_17 rfl (by decide) ?_
    refine b_cmp_ne (n := 22) (tgt := 25) dX7_feed_19 (by decide) rfl (fun h19 => ?_) (fun h19 => ?_)
    · refine b_bipush (n := 24) (v := -4) dX7_feed_22 rfl (by decide) ?_
      exact b_iret dX7_feed_24 rfl rfl
    · refine b_aload_n (n := 26) 0 dX7_feed_25 rfl rfl rfl ?_
      refine b_get (n := 29) 0 f_X7_31 dX7_feed_26 rfl rfl rfl ?_
      refine b_aload_n (n := 30) 0 dX7_feed_29 rfl rfl rfl ?_
      refine b_get (n := 33) 0 f_X7_42 dX7_feed_30 rfl rfl rfl ?_
      refine b_iload_n (n := 34) 1 dX7_feed_33 rfl rfl rfl ?_
      refine b_iast (n := 35) (ws' := hM E ad (up μ 8 (μ 0 9).toNatClampNeg x1)) 8 dX7_feed_34 rfl rfl rfl ?_
      refine b_aload_n (n := 36) 0 dX7_feed_35 rfl rfl rfl ?_
      refine b_dup (n := 37) dX7_feed_36 rfl rfl ?_
      refine b_get (n := 40) 0 f_X7_42 dX7_feed_37 rfl rfl rfl ?_
      refine b_iconst (n := 41) (v := 1) dX7_feed_40 rfl (by decide) ?_
      refine b_iadd (n := 42) dX7_feed_41 rfl ?_
      refine b_put (n := 45) (ws' := hM E ad (up (up μ 8 (μ 0 9).toNatClampNeg x1) 0 9 (((up μ 8 (μ 0 9).toNatClampNeg x1) 0 9) + 1))) 0 fp_X7_42 dX7_feed_42 rfl rfl rfl rfl (Nat.le_of_ble_eq_true rfl) rfl ?_
      refine b_aload_n (n := 46) 0 dX7_feed_45 rfl rfl rfl ?_
      refine b_get (n := 49) 0 f_X7_42 dX7_feed_46 rfl rfl rfl ?_
      exact b_iret dX7_feed_49 rfl rfl
  · refine b_bipush (n := 12) (v := -2) dX7_feed_10 rfl (by decide) ?_
    exact b_iret dX7_feed_12 rfl rfl
def md_here (μ : Mem)   : Option (Int32) :=
  if μ 0 12 < μ 0 9 then
    ((rd 80 (μ 8) (μ 0 12)).bind fun v19 =>
    some v19)
  else
    (some ((-1)))
set_option maxHeartbeats 400000 in
set_option maxRecDepth 100000 in
theorem c_md_here {l : Launch} {E : Ev} {ad : Nat → Nat} {d : Nat}   {μ : Mem}   (hd : 1 ≤ d) : Ct l yX7_here cX7_here 1 (some .int) d E (hM E ad μ) [.ref (ad 0)] (fun v : Int32 => (some (.int v), hM E ad μ)) (md_here μ) := by
  refine Ct.of2 (own := RX7) (L := [(0, .ref (ad 0))]) rfl (by decide +kernel) (Nat.le_of_ble_eq_true rfl) rfl ?_
  unfold md_here
  refine b_aload_n (n := 1) 0 dX7_here_0 rfl rfl rfl ?_
  refine b_get (n := 4) 0 f_X7_45 dX7_here_1 rfl rfl rfl ?_
  refine b_aload_n (n := 5) 0 dX7_here_4 rfl rfl rfl ?_
  refine b_get (n := 8) 0 f_X7_42 dX7_here_5 rfl rfl rfl ?_
  refine b_cmp_ge (n := 11) (tgt := 23) dX7_here_8 (by decide) rfl (fun h8 => ?_) (fun h8 => ?_)
  · refine b_aload_n (n := 12) 0 dX7_here_11 rfl rfl rfl ?_
    refine b_get (n := 15) 0 f_X7_31 dX7_here_12 rfl rfl rfl ?_
    refine b_aload_n (n := 16) 0 dX7_here_15 rfl rfl rfl ?_
    refine b_get (n := 19) 0 f_X7_45 dX7_here_16 rfl rfl rfl ?_
    refine b_iald (n := 20) 8 dX7_here_19 rfl rfl (fun v19 => ?_)
    refine b_goto (n := 24) dX7_here_20 (by decide) ?_
    exact b_iret dX7_here_24 rfl rfl
  · refine b_iconst (n := 24) (v := -1) dX7_here_23 rfl (by decide) ?_
    exact b_iret dX7_here_24 rfl rfl
def md_takes  (x1 : Int32) (μ : Mem) : Option (Bool × Mem) :=
  (md_here μ).bind fun k1 =>
  if k1 = x1 then
    (some (true, up μ 0 12 ((μ 0 12) + 1)))
  else
    (some (false, μ))
set_option maxHeartbeats 400000 in
set_option maxRecDepth 100000 in
theorem c_md_takes {l : Launch} {E : Ev} {ad : Nat → Nat} {d : Nat}    {x1 : Int32} {μ : Mem} (hd : 2 ≤ d) : Ct l yX7_takes cX7_takes 2 (some .boolean) d E (hM E ad μ) [.ref (ad 0), .int x1] (fun q : Bool × Mem => (some (.int (b2i q.1)), hM E ad q.2)) (md_takes x1 μ) := by
  refine Ct.of2 (own := RX7) (L := [(0, .ref (ad 0)), (1, .int x1)]) rfl (by decide +kernel) (Nat.le_of_ble_eq_true rfl) rfl ?_
  unfold md_takes
  refine b_aload_n (n := 1) 0 dX7_takes_0 rfl rfl rfl ?_
  refine bV0i (n := 4) (As := []) (rest := []) 0 lk_X7_48 (c_md_here (Nat.le_refl _)) (by omega) rfl rfl rfl rfl (Nat.le_of_ble_eq_true rfl) dX7_takes_1 rfl (fun k1 => ?_)
  refine b_iload_n (n := 5) 1 dX7_takes_4 rfl rfl rfl ?_
  refine b_cmp_eq (n := 8) (tgt := 10) dX7_takes_5 (by decide) rfl (fun h5 => ?_) (fun h5 => ?_)
  · refine b_aload_n (n := 11) 0 dX7_takes_10 rfl rfl rfl ?_
    refine b_dup (n := 12) dX7_takes_11 rfl rfl ?_
    refine b_get (n := 15) 0 f_X7_45 dX7_takes_12 rfl rfl rfl ?_
    refine b_iconst (n := 16) (v := 1) dX7_takes_15 rfl (by decide) ?_
    refine b_iadd (n := 17) dX7_takes_16 rfl ?_
    refine b_put (n := 20) (ws' := hM E ad (up μ 0 12 ((μ 0 12) + 1))) 0 fp_X7_45 dX7_takes_17 rfl rfl rfl rfl (Nat.le_of_ble_eq_true rfl) rfl ?_
    refine b_iconst (n := 21) (v := 1) dX7_takes_20 rfl (by decide) ?_
    exact b_zret (b := true) dX7_takes_21 rfl rfl
  · refine b_iconst (n := 9) (v := 0) dX7_takes_8 rfl (by decide) ?_
    exact b_zret (b := false) dX7_takes_9 rfl rfl
def md_takesDigit  (x1 : Int32) (x2 : Int32) (μ : Mem) : Option (Bool × Mem) :=
  (md_here μ).bind fun k1 =>
  (md_isIn k1 (48 + x1) (48 + x2)).bind fun k12 =>
  if k12 = true then
    ((md_here μ).bind fun k22 =>
    some (true, up (up μ 0 18 (k22 - 48)) 0 12 (((up μ 0 18 (k22 - 48)) 0 12) + 1)))
  else
    (some (false, μ))
set_option maxHeartbeats 400000 in
set_option maxRecDepth 100000 in
theorem c_md_takesDigit {l : Launch} {E : Ev} {ad : Nat → Nat} {d : Nat}    {x1 : Int32} {x2 : Int32} {μ : Mem} (hd : 2 ≤ d) : Ct l yX7_takesDigit cX7_takesDigit 3 (some .boolean) d E (hM E ad μ) [.ref (ad 0), .int x1, .int x2] (fun q : Bool × Mem => (some (.int (b2i q.1)), hM E ad q.2)) (md_takesDigit x1 x2 μ) := by
  refine Ct.of2 (own := RX7) (L := [(0, .ref (ad 0)), (1, .int x1), (2, .int x2)]) rfl (by decide +kernel) (Nat.le_of_ble_eq_true rfl) rfl ?_
  unfold md_takesDigit
  refine b_aload_n (n := 1) 0 dX7_takesDigit_0 rfl rfl rfl ?_
  refine bV0i (n := 4) (As := []) (rest := []) 0 lk_X7_48 (c_md_here (Nat.le_refl _)) (by omega) rfl rfl rfl rfl (Nat.le_of_ble_eq_true rfl) dX7_takesDigit_1 rfl (fun k1 => ?_)
  refine b_bipush (n := 6) (v := 48) dX7_takesDigit_4 rfl (by decide) ?_
  refine b_iload_n (n := 7) 1 dX7_takesDigit_6 rfl rfl rfl ?_
  refine b_iadd (n := 8) dX7_takesDigit_7 rfl ?_
  refine b_bipush (n := 10) (v := 48) dX7_takesDigit_8 rfl (by decide) ?_
  refine b_iload_n (n := 11) 2 dX7_takesDigit_10 rfl rfl rfl ?_
  refine b_iadd (n := 12) dX7_takesDigit_11 rfl ?_
  refine bSb (n := 15) (As := [.int k1, .int (48 + x1), .int (48 + x2)]) (rest := []) lk_X7_38 (c_md_isIn (Nat.le_refl _)) (by omega) rfl rfl (Nat.le_of_ble_eq_true rfl) dX7_takesDigit_12 rfl (fun k12 => ?_)
  refine b_bnz (n := 18) (tgt := 20) dX7_takesDigit_15 (by decide) rfl (fun h15 => ?_) (fun h15 => ?_)
  · refine b_aload_n (n := 21) 0 dX7_takesDigit_20 rfl rfl rfl ?_
    refine b_aload_n (n := 22) 0 dX7_takesDigit_21 rfl rfl rfl ?_
    refine bV0i (n := 25) (As := []) (rest := [.ref (ad 0)]) 0 lk_X7_48 (c_md_here (Nat.le_refl _)) (by omega) rfl rfl rfl rfl (Nat.le_of_ble_eq_true rfl) dX7_takesDigit_22 rfl (fun k22 => ?_)
    refine b_bipush (n := 27) (v := 48) dX7_takesDigit_25 rfl (by decide) ?_
    refine b_isub (n := 28) dX7_takesDigit_27 rfl ?_
    refine b_put (n := 31) (ws' := hM E ad (up μ 0 18 (k22 - 48))) 0 fp_X7_52 dX7_takesDigit_28 rfl rfl rfl rfl (Nat.le_of_ble_eq_true rfl) rfl ?_
    refine b_aload_n (n := 32) 0 dX7_takesDigit_31 rfl rfl rfl ?_
    refine b_dup (n := 33) dX7_takesDigit_32 rfl rfl ?_
    refine b_get (n := 36) 0 f_X7_45 dX7_takesDigit_33 rfl rfl rfl ?_
    refine b_iconst (n := 37) (v := 1) dX7_takesDigit_36 rfl (by decide) ?_
    refine b_iadd (n := 38) dX7_takesDigit_37 rfl ?_
    refine b_put (n := 41) (ws' := hM E ad (up (up μ 0 18 (k22 - 48)) 0 12 (((up μ 0 18 (k22 - 48)) 0 12) + 1))) 0 fp_X7_45 dX7_takesDigit_38 rfl rfl rfl rfl (Nat.le_of_ble_eq_true rfl) rfl ?_
    refine b_iconst (n := 42) (v := 1) dX7_takesDigit_41 rfl (by decide) ?_
    exact b_zret (b := true) dX7_takesDigit_42 rfl rfl
  · refine b_iconst (n := 19) (v := 0) dX7_takesDigit_18 rfl (by decide) ?_
    exact b_zret (b := false) dX7_takesDigit_19 rfl rfl
def md_takesNumber_19 (N : Nat)  : Nat → Int32 → Int32 → Mem → Option (Bool × Mem)
  | 0, _, _, _ => none
  | n + 1, y1, y2, μ =>
    if y2 < 3 then
      (if 0 < y1 then
        ((md_here μ).bind fun k29 =>
        (md_isIn k29 48 57).bind fun k36 =>
        if k36 = true then
          ((md_here μ).bind fun k47 =>
          md_takesNumber_19 N n (((10 * y1) + k47) - 48) (y2 + 1) (up μ 0 12 ((μ 0 12) + 1)))
        else
          (some (true, up μ 0 18 y1)))
      else
        (some (true, up μ 0 18 y1)))
    else
      (some (true, up μ 0 18 y1))
set_option maxHeartbeats 400000 in
set_option maxRecDepth 100000 in
theorem w_md_takesNumber_19 {l : Launch} {E : Ev} {ad : Nat → Nat} {A : Nat → Prop} {d : Nat} {N : Nat}    (hd : 3 ≤ d)  (n : Nat) : ∀ (y1 : Int32) (y2 : Int32) (μ : Mem), Bd l E A RX7 cX7_takesNumber 3 (some .boolean) d (fun q : Bool × Mem => (some (.int (b2i q.1)), hM E ad q.2)) 19 [(0, .ref (ad 0)), (1, .int y1), (2, .int y2)] [] (hM E ad μ) (md_takesNumber_19 N n y1 y2 μ) := by
  induction n with
  | zero => intro y1 y2 μ; exact b_none
  | succ n ih =>
    intro y1 y2 μ
    rw [md_takesNumber_19]
    refine b_iload_n (n := 20) 2 dX7_takesNumber_19 rfl rfl rfl ?_
    refine b_iconst (n := 21) (v := 3) dX7_takesNumber_20 rfl (by decide) ?_
    refine b_cmp_ge (n := 24) (tgt := 71) dX7_takesNumber_21 (by decide) rfl (fun h21 => ?_) (fun h21 => ?_)
    · refine b_iload_n (n := 25) 1 dX7_takesNumber_24 rfl rfl rfl ?_
      refine b_if_le (n := 28) (tgt := 71) dX7_takesNumber_25 (by decide) rfl (fun h25 => ?_) (fun h25 => ?_)
      · refine b_aload_n (n := 29) 0 dX7_takesNumber_28 rfl rfl rfl ?_
        refine bV0i (n := 32) (As := []) (rest := []) 0 lk_X7_48 (c_md_here (Nat.le_refl _)) (by omega) rfl rfl rfl rfl (Nat.le_of_ble_eq_true rfl) dX7_takesNumber_29 rfl (fun k29 => ?_)
        refine b_bipush (n := 34) (v := 48) dX7_takesNumber_32 rfl (by decide) ?_
        refine b_bipush (n := 36) (v := 57) dX7_takesNumber_34 rfl (by decide) ?_
        refine bSb (n := 39) (As := [.int k29, .int 48, .int 57]) (rest := []) lk_X7_38 (c_md_isIn (Nat.le_refl _)) (by omega) rfl rfl (Nat.le_of_ble_eq_true rfl) dX7_takesNumber_36 rfl (fun k36 => ?_)
        refine b_bz (n := 42) (tgt := 71) dX7_takesNumber_39 (by decide) rfl (fun h39 => ?_) (fun h39 => ?_)
        · refine b_bipush (n := 44) (v := 10) dX7_takesNumber_42 rfl (by decide) ?_
          refine b_iload_n (n := 45) 1 dX7_takesNumber_44 rfl rfl rfl ?_
          refine b_imul (n := 46) dX7_takesNumber_45 rfl ?_
          refine b_aload_n (n := 47) 0 dX7_takesNumber_46 rfl rfl rfl ?_
          refine bV0i (n := 50) (As := []) (rest := [.int (10 * y1)]) 0 lk_X7_48 (c_md_here (Nat.le_refl _)) (by omega) rfl rfl rfl rfl (Nat.le_of_ble_eq_true rfl) dX7_takesNumber_47 rfl (fun k47 => ?_)
          refine b_iadd (n := 51) dX7_takesNumber_50 rfl ?_
          refine b_bipush (n := 53) (v := 48) dX7_takesNumber_51 rfl (by decide) ?_
          refine b_isub (n := 54) dX7_takesNumber_53 rfl ?_
          refine b_istore_n (n := 55) (L' := [(1, .int (((10 * y1) + k47) - 48)), (0, .ref (ad 0)), (2, .int y2)]) dX7_takesNumber_54 rfl rfl (Nat.le_of_ble_eq_true rfl) rfl ?_
          refine b_aload_n (n := 56) 1 dX7_takesNumber_55 rfl rfl rfl ?_
          refine b_dup (n := 57) dX7_takesNumber_56 rfl rfl ?_
          refine b_get (n := 60) 0 f_X7_45 dX7_takesNumber_57 rfl rfl rfl ?_
          refine b_iconst (n := 61) (v := 1) dX7_takesNumber_60 rfl (by decide) ?_
          refine b_iadd (n := 62) dX7_takesNumber_61 rfl ?_
          refine b_put (n := 65) (ws' := hM E ad (up μ 0 12 ((μ 0 12) + 1))) 0 fp_X7_45 dX7_takesNumber_62 rfl rfl rfl rfl (Nat.le_of_ble_eq_true rfl) rfl ?_
          refine b_iinc (n := 68) (L' := [(2, .int (y2 + 1)), (1, .int (((10 * y1) + k47) - 48)), (0, .ref (ad 0))]) 2 1 dX7_takesNumber_65 rfl rfl (by decide) (Nat.le_of_ble_eq_true rfl) rfl ?_
          refine b_goto (n := 19) dX7_takesNumber_68 (by decide) ?_
          refine Bd.sub (L' := [(0, .ref (ad 0)), (1, .int (((10 * y1) + k47) - 48)), (2, .int (y2 + 1))]) [2, 1, 0] rfl ?_
          exact ih _ _ _
        · refine b_aload_n (n := 72) 0 dX7_takesNumber_71 rfl rfl rfl ?_
          refine b_iload_n (n := 73) 1 dX7_takesNumber_72 rfl rfl rfl ?_
          refine b_put (n := 76) (ws' := hM E ad (up μ 0 18 y1)) 0 fp_X7_52 dX7_takesNumber_73 rfl rfl rfl rfl (Nat.le_of_ble_eq_true rfl) rfl ?_
          refine b_iconst (n := 77) (v := 1) dX7_takesNumber_76 rfl (by decide) ?_
          exact b_zret (b := true) dX7_takesNumber_77 rfl rfl
      · refine b_aload_n (n := 72) 0 dX7_takesNumber_71 rfl rfl rfl ?_
        refine b_iload_n (n := 73) 1 dX7_takesNumber_72 rfl rfl rfl ?_
        refine b_put (n := 76) (ws' := hM E ad (up μ 0 18 y1)) 0 fp_X7_52 dX7_takesNumber_73 rfl rfl rfl rfl (Nat.le_of_ble_eq_true rfl) rfl ?_
        refine b_iconst (n := 77) (v := 1) dX7_takesNumber_76 rfl (by decide) ?_
        exact b_zret (b := true) dX7_takesNumber_77 rfl rfl
    · refine b_aload_n (n := 72) 0 dX7_takesNumber_71 rfl rfl rfl ?_
      refine b_iload_n (n := 73) 1 dX7_takesNumber_72 rfl rfl rfl ?_
      refine b_put (n := 76) (ws' := hM E ad (up μ 0 18 y1)) 0 fp_X7_52 dX7_takesNumber_73 rfl rfl rfl rfl (Nat.le_of_ble_eq_true rfl) rfl ?_
      refine b_iconst (n := 77) (v := 1) dX7_takesNumber_76 rfl (by decide) ?_
      exact b_zret (b := true) dX7_takesNumber_77 rfl rfl
def md_takesNumber (N : Nat)  (μ : Mem) : Option (Bool × Mem) :=
  (md_takesDigit 0 9 μ).bind fun (k4, μ4) =>
  if k4 = true then
    (md_takesNumber_19 N N (μ4 0 18) 1 μ4)
  else
    (some (false, μ4))
set_option maxHeartbeats 400000 in
set_option maxRecDepth 100000 in
theorem c_md_takesNumber {l : Launch} {E : Ev} {ad : Nat → Nat} {d : Nat} {N : Nat}    {μ : Mem} (hd : 3 ≤ d) : Ct l yX7_takesNumber cX7_takesNumber 3 (some .boolean) d E (hM E ad μ) [.ref (ad 0)] (fun q : Bool × Mem => (some (.int (b2i q.1)), hM E ad q.2)) (md_takesNumber N μ) := by
  refine Ct.of2 (own := RX7) (L := [(0, .ref (ad 0))]) rfl (by decide +kernel) (Nat.le_of_ble_eq_true rfl) rfl ?_
  unfold md_takesNumber
  refine b_aload_n (n := 1) 0 dX7_takesNumber_0 rfl rfl rfl ?_
  refine b_iconst (n := 2) (v := 0) dX7_takesNumber_1 rfl (by decide) ?_
  refine b_bipush (n := 4) (v := 9) dX7_takesNumber_2 rfl (by decide) ?_
  refine bV0wb (n := 7) (hh := (fun s : Mem => hM E ad s)) (As := [.int 0, .int 9]) (rest := []) 0 lk_X7_55 (c_md_takesDigit (Nat.le_refl _)) (by omega) (fun _ => rfl) rfl rfl rfl rfl (Nat.le_of_ble_eq_true rfl) dX7_takesNumber_4 rfl ?_
  rintro k4 μ4
  try dsimp only
  refine b_bnz (n := 10) (tgt := 12) dX7_takesNumber_7 (by decide) rfl (fun h7 => ?_) (fun h7 => ?_)
  · refine b_aload_n (n := 13) 0 dX7_takesNumber_12 rfl rfl rfl ?_
    refine b_get (n := 16) 0 f_X7_52 dX7_takesNumber_13 rfl rfl rfl ?_
    refine b_istore_n (n := 17) (L' := [(1, .int (μ4 0 18)), (0, .ref (ad 0))]) dX7_takesNumber_16 rfl rfl (Nat.le_of_ble_eq_true rfl) rfl ?_
    refine b_iconst (n := 18) (v := 1) dX7_takesNumber_17 rfl (by decide) ?_
    refine b_istore_n (n := 19) (L' := [(2, .int 1), (1, .int (μ4 0 18)), (0, .ref (ad 0))]) dX7_takesNumber_18 rfl rfl (Nat.le_of_ble_eq_true rfl) rfl ?_
    refine Bd.sub (L' := [(0, .ref (ad 0)), (1, .int (μ4 0 18)), (2, .int 1)]) [2, 1, 0] rfl ?_
    exact w_md_takesNumber_19 hd _ _ _ _
  · refine b_iconst (n := 11) (v := 0) dX7_takesNumber_10 rfl (by decide) ?_
    exact b_zret (b := false) dX7_takesNumber_11 rfl rfl
def md_takesSigned (N : Nat)  (μ : Mem) : Option (Bool × Mem) :=
  (md_takes 45 μ).bind fun (k3, μ3) =>
  (md_takesNumber N μ3).bind fun (k8, μ8) =>
  if k8 = true then
    (if k3 = true then
      (some (true, up μ8 0 18 (-(μ8 0 18))))
    else
      (some (true, up μ8 0 18 (μ8 0 18))))
  else
    (some (false, μ8))
set_option maxHeartbeats 400000 in
set_option maxRecDepth 100000 in
theorem c_md_takesSigned {l : Launch} {E : Ev} {ad : Nat → Nat} {d : Nat} {N : Nat}    {μ : Mem} (hd : 4 ≤ d) : Ct l yX7_takesSigned cX7_takesSigned 2 (some .boolean) d E (hM E ad μ) [.ref (ad 0)] (fun q : Bool × Mem => (some (.int (b2i q.1)), hM E ad q.2)) (md_takesSigned N μ) := by
  refine Ct.of2 (own := RX7) (L := [(0, .ref (ad 0))]) rfl (by decide +kernel) (Nat.le_of_ble_eq_true rfl) rfl ?_
  unfold md_takesSigned
  refine b_aload_n (n := 1) 0 dX7_takesSigned_0 rfl rfl rfl ?_
  refine b_bipush (n := 3) (v := 45) dX7_takesSigned_1 rfl (by decide) ?_
  refine bV0wb (n := 6) (hh := (fun s : Mem => hM E ad s)) (As := [.int 45]) (rest := []) 0 lk_X7_59 (c_md_takes (Nat.le_refl _)) (by omega) (fun _ => rfl) rfl rfl rfl rfl (Nat.le_of_ble_eq_true rfl) dX7_takesSigned_3 rfl ?_
  rintro k3 μ3
  try dsimp only
  refine b_istore_n (n := 7) (L' := [(1, .int (b2i k3)), (0, .ref (ad 0))]) dX7_takesSigned_6 rfl rfl (Nat.le_of_ble_eq_true rfl) rfl ?_
  refine b_aload_n (n := 8) 1 dX7_takesSigned_7 rfl rfl rfl ?_
  refine bV0wb (n := 11) (hh := (fun s : Mem => hM E ad s)) (As := []) (rest := []) 0 lk_X7_63 (c_md_takesNumber (Nat.le_refl _)) (by omega) (fun _ => rfl) rfl rfl rfl rfl (Nat.le_of_ble_eq_true rfl) dX7_takesSigned_8 rfl ?_
  rintro k8 μ8
  try dsimp only
  refine b_bnz (n := 14) (tgt := 16) dX7_takesSigned_11 (by decide) rfl (fun h11 => ?_) (fun h11 => ?_)
  · refine b_aload_n (n := 17) 1 dX7_takesSigned_16 rfl rfl rfl ?_
    refine b_iload_n (n := 18) 0 dX7_takesSigned_17 rfl rfl rfl ?_
    refine b_bz (n := 21) (tgt := 29) dX7_takesSigned_18 (by decide) rfl (fun h18 => ?_) (fun h18 => ?_)
    · refine b_aload_n (n := 22) 1 dX7_takesSigned_21 rfl rfl rfl ?_
      refine b_get (n := 25) 0 f_X7_52 dX7_takesSigned_22 rfl rfl rfl ?_
      refine b_ineg (n := 26) dX7_takesSigned_25 rfl ?_
      refine b_goto (n := 33) dX7_takesSigned_26 (by decide) ?_
      refine b_put (n := 36) (ws' := hM E ad (up μ8 0 18 (-(μ8 0 18)))) 0 fp_X7_52 dX7_takesSigned_33 rfl rfl rfl rfl (Nat.le_of_ble_eq_true rfl) rfl ?_
      refine b_iconst (n := 37) (v := 1) dX7_takesSigned_36 rfl (by decide) ?_
      exact b_zret (b := true) dX7_takesSigned_37 rfl rfl
    · refine b_aload_n (n := 30) 1 dX7_takesSigned_29 rfl rfl rfl ?_
      refine b_get (n := 33) 0 f_X7_52 dX7_takesSigned_30 rfl rfl rfl ?_
      refine b_put (n := 36) (ws' := hM E ad (up μ8 0 18 (μ8 0 18))) 0 fp_X7_52 dX7_takesSigned_33 rfl rfl rfl rfl (Nat.le_of_ble_eq_true rfl) rfl ?_
      refine b_iconst (n := 37) (v := 1) dX7_takesSigned_36 rfl (by decide) ?_
      exact b_zret (b := true) dX7_takesSigned_37 rfl rfl
  · refine b_iconst (n := 15) (v := 0) dX7_takesSigned_14 rfl (by decide) ?_
    exact b_zret (b := false) dX7_takesSigned_15 rfl rfl
def md_takesCode   (μ : Mem) : Option (Bool × Mem) :=
  (md_here μ).bind fun k1 =>
  (md_isIn k1 97 104).bind fun k8 =>
  if k8 = true then
    ((md_here μ).bind fun k18 =>
    some (true, up (up μ 0 18 (k18 - 97)) 0 12 (((up μ 0 18 (k18 - 97)) 0 12) + 1)))
  else
    (some (false, μ))
set_option maxHeartbeats 400000 in
set_option maxRecDepth 100000 in
theorem c_md_takesCode {l : Launch} {E : Ev} {ad : Nat → Nat} {d : Nat}     {μ : Mem} (hd : 2 ≤ d) : Ct l yX7_takesCode cX7_takesCode 1 (some .boolean) d E (hM E ad μ) [.ref (ad 0)] (fun q : Bool × Mem => (some (.int (b2i q.1)), hM E ad q.2)) (md_takesCode μ) := by
  refine Ct.of2 (own := RX7) (L := [(0, .ref (ad 0))]) rfl (by decide +kernel) (Nat.le_of_ble_eq_true rfl) rfl ?_
  unfold md_takesCode
  refine b_aload_n (n := 1) 0 dX7_takesCode_0 rfl rfl rfl ?_
  refine bV0i (n := 4) (As := []) (rest := []) 0 lk_X7_48 (c_md_here (Nat.le_refl _)) (by omega) rfl rfl rfl rfl (Nat.le_of_ble_eq_true rfl) dX7_takesCode_1 rfl (fun k1 => ?_)
  refine b_bipush (n := 6) (v := 97) dX7_takesCode_4 rfl (by decide) ?_
  refine b_bipush (n := 8) (v := 104) dX7_takesCode_6 rfl (by decide) ?_
  refine bSb (n := 11) (As := [.int k1, .int 97, .int 104]) (rest := []) lk_X7_38 (c_md_isIn (Nat.le_refl _)) (by omega) rfl rfl (Nat.le_of_ble_eq_true rfl) dX7_takesCode_8 rfl (fun k8 => ?_)
  refine b_bnz (n := 14) (tgt := 16) dX7_takesCode_11 (by decide) rfl (fun h11 => ?_) (fun h11 => ?_)
  · refine b_aload_n (n := 17) 0 dX7_takesCode_16 rfl rfl rfl ?_
    refine b_aload_n (n := 18) 0 dX7_takesCode_17 rfl rfl rfl ?_
    refine bV0i (n := 21) (As := []) (rest := [.ref (ad 0)]) 0 lk_X7_48 (c_md_here (Nat.le_refl _)) (by omega) rfl rfl rfl rfl (Nat.le_of_ble_eq_true rfl) dX7_takesCode_18 rfl (fun k18 => ?_)
    refine b_bipush (n := 23) (v := 97) dX7_takesCode_21 rfl (by decide) ?_
    refine b_isub (n := 24) dX7_takesCode_23 rfl ?_
    refine b_put (n := 27) (ws' := hM E ad (up μ 0 18 (k18 - 97))) 0 fp_X7_52 dX7_takesCode_24 rfl rfl rfl rfl (Nat.le_of_ble_eq_true rfl) rfl ?_
    refine b_aload_n (n := 28) 0 dX7_takesCode_27 rfl rfl rfl ?_
    refine b_dup (n := 29) dX7_takesCode_28 rfl rfl ?_
    refine b_get (n := 32) 0 f_X7_45 dX7_takesCode_29 rfl rfl rfl ?_
    refine b_iconst (n := 33) (v := 1) dX7_takesCode_32 rfl (by decide) ?_
    refine b_iadd (n := 34) dX7_takesCode_33 rfl ?_
    refine b_put (n := 37) (ws' := hM E ad (up (up μ 0 18 (k18 - 97)) 0 12 (((up μ 0 18 (k18 - 97)) 0 12) + 1))) 0 fp_X7_45 dX7_takesCode_34 rfl rfl rfl rfl (Nat.le_of_ble_eq_true rfl) rfl ?_
    refine b_iconst (n := 38) (v := 1) dX7_takesCode_37 rfl (by decide) ?_
    exact b_zret (b := true) dX7_takesCode_38 rfl rfl
  · refine b_iconst (n := 15) (v := 0) dX7_takesCode_14 rfl (by decide) ?_
    exact b_zret (b := false) dX7_takesCode_15 rfl rfl
def md_part  (x0 : Int32) (x1 : Int32) (x2 : Int32)  : Option (Int32) :=
  some ((((64 * x0) + x1) * 9) + x2)
set_option maxHeartbeats 400000 in
set_option maxRecDepth 100000 in
theorem c_md_part {l : Launch} {E : Ev} {d : Nat}    {x0 : Int32} {x1 : Int32} {x2 : Int32}  (hd : 1 ≤ d) : Ct l yX7_part cX7_part 3 (some .int) d E ([]) [.int x0, .int x1, .int x2] (fun v : Int32 => (some (.int v), [])) (md_part x0 x1 x2) := by
  refine Ct.of2 (own := RX7) (L := [(0, .int x0), (1, .int x1), (2, .int x2)]) rfl (by decide +kernel) (Nat.le_of_ble_eq_true rfl) rfl ?_
  unfold md_part
  refine b_bipush (n := 2) (v := 64) dX7_part_0 rfl (by decide) ?_
  refine b_iload_n (n := 3) 0 dX7_part_2 rfl rfl rfl ?_
  refine b_imul (n := 4) dX7_part_3 rfl ?_
  refine b_iload_n (n := 5) 1 dX7_part_4 rfl rfl rfl ?_
  refine b_iadd (n := 6) dX7_part_5 rfl ?_
  refine b_bipush (n := 8) (v := 9) dX7_part_6 rfl (by decide) ?_
  refine b_imul (n := 9) dX7_part_8 rfl ?_
  refine b_iload_n (n := 10) 2 dX7_part_9 rfl rfl rfl ?_
  refine b_iadd (n := 11) dX7_part_10 rfl ?_
  exact b_iret dX7_part_11 rfl rfl
def md_put  (x1 : Int32) (x2 : Int32) (x3 : Int32) (μ : Mem) : Option (Mem) :=
  (md_part 16 x1 x2).bind fun k8 =>
  ck 9792 k8 <|
  some (up μ 1 k8.toNatClampNeg x3)
set_option maxHeartbeats 400000 in
set_option maxRecDepth 100000 in
theorem c_md_put {l : Launch} {E : Ev} {ad : Nat → Nat} {d : Nat}    {x1 : Int32} {x2 : Int32} {x3 : Int32} {μ : Mem} (hd : 2 ≤ d) : Ct l yX7_put cX7_put 4 none d E (hM E ad μ) [.ref (ad 0), .int x1, .int x2, .int x3] (fun q : Mem => (none, hM E ad q)) (md_put x1 x2 x3 μ) := by
  refine Ct.of2 (own := RX7) (L := [(0, .ref (ad 0)), (1, .int x1), (2, .int x2), (3, .int x3)]) rfl (by decide +kernel) (Nat.le_of_ble_eq_true rfl) rfl ?_
  unfold md_put
  refine b_aload_n (n := 1) 0 dX7_put_0 rfl rfl rfl ?_
  refine b_get (n := 4) 0 f_X7_9 dX7_put_1 rfl rfl rfl ?_
  refine b_bipush (n := 6) (v := 16) dX7_put_4 rfl (by decide) ?_
  refine b_iload_n (n := 7) 1 dX7_put_6 rfl rfl rfl ?_
  refine b_iload_n (n := 8) 2 dX7_put_7 rfl rfl rfl ?_
  refine bSi (n := 11) (As := [.int 16, .int x1, .int x2]) (rest := [.ref (ad 1)]) lk_X7_67 (c_md_part (Nat.le_refl _)) (by omega) rfl rfl (Nat.le_of_ble_eq_true rfl) dX7_put_8 rfl (fun k8 => ?_)
  refine b_iload_n (n := 12) 3 dX7_put_11 rfl rfl rfl ?_
  refine b_iast (n := 13) (ws' := hM E ad (up μ 1 k8.toNatClampNeg x3)) 1 dX7_put_12 rfl rfl rfl ?_
  exact b_vret dX7_put_13 rfl rfl
def md_makes_18 (N : Nat)  : Nat → Int32 → Int32 → Int32 → Int32 → Mem → Option (Int32 × Mem)
  | 0, _, _, _, _, _ => none
  | n + 1, y1, y2, y3, y4, μ =>
    if y4 < 9 then
      ((md_put y3 y4 ((-1)) μ).bind fun μ30 =>
      md_makes_18 N n y1 y2 y3 (y4 + 1) μ30)
    else
      ((md_put y3 0 y1 μ).bind fun μ43 =>
      (md_put y3 7 (μ43 0 12) μ43).bind fun μ54 =>
      (md_put y3 8 y2 μ54).bind fun μ62 =>
      some (y3, μ62))
set_option maxHeartbeats 400000 in
set_option maxRecDepth 100000 in
theorem w_md_makes_18 {l : Launch} {E : Ev} {ad : Nat → Nat} {A : Nat → Prop} {d : Nat} {N : Nat}    (hd : 3 ≤ d)  (n : Nat) : ∀ (y1 : Int32) (y2 : Int32) (y3 : Int32) (y4 : Int32) (μ : Mem), Bd l E A RX7 cX7_makes 5 (some .int) d (fun q : Int32 × Mem => (some (.int q.1), hM E ad q.2)) 18 [(0, .ref (ad 0)), (1, .int y1), (2, .int y2), (3, .int y3), (4, .int y4)] [] (hM E ad μ) (md_makes_18 N n y1 y2 y3 y4 μ) := by
  induction n with
  | zero => intro y1 y2 y3 y4 μ; exact b_none
  | succ n ih =>
    intro y1 y2 y3 y4 μ
    rw [md_makes_18]
    refine b_iload (n := 20) 4 dX7_makes_18 rfl rfl ?_
    refine b_bipush (n := 22) (v := 9) dX7_makes_20 rfl (by decide) ?_
    refine b_cmp_ge (n := 25) (tgt := 39) dX7_makes_22 (by decide) rfl (fun h22 => ?_) (fun h22 => ?_)
    · refine b_aload_n (n := 26) 0 dX7_makes_25 rfl rfl rfl ?_
      refine b_iload_n (n := 27) 3 dX7_makes_26 rfl rfl rfl ?_
      refine b_iload (n := 29) 4 dX7_makes_27 rfl rfl ?_
      refine b_iconst (n := 30) (v := -1) dX7_makes_29 rfl (by decide) ?_
      refine bV0wv (n := 33) (hh := (fun s : Mem => hM E ad s)) (As := [.int y3, .int y4, .int ((-1))]) (rest := []) 0 lk_X7_74 (c_md_put (Nat.le_refl _)) (by omega) (fun _ => rfl) rfl rfl rfl rfl (Nat.le_of_ble_eq_true rfl) dX7_makes_30 rfl ?_
      rintro μ30
      try dsimp only
      refine b_iinc (n := 36) (L' := [(4, .int (y4 + 1)), (0, .ref (ad 0)), (1, .int y1), (2, .int y2), (3, .int y3)]) 4 1 dX7_makes_33 rfl rfl (by decide) (Nat.le_of_ble_eq_true rfl) rfl ?_
      refine b_goto (n := 18) dX7_makes_36 (by decide) ?_
      refine Bd.sub (L' := [(0, .ref (ad 0)), (1, .int y1), (2, .int y2), (3, .int y3), (4, .int (y4 + 1))]) [1, 2, 3, 4, 0] rfl ?_
      exact ih _ _ _ _ _
    · refine b_aload_n (n := 40) 0 dX7_makes_39 rfl rfl rfl ?_
      refine b_iload_n (n := 41) 3 dX7_makes_40 rfl rfl rfl ?_
      refine b_iconst (n := 42) (v := 0) dX7_makes_41 rfl (by decide) ?_
      refine b_iload_n (n := 43) 1 dX7_makes_42 rfl rfl rfl ?_
      refine bV0wv (n := 46) (hh := (fun s : Mem => hM E ad s)) (As := [.int y3, .int 0, .int y1]) (rest := []) 0 lk_X7_74 (c_md_put (Nat.le_refl _)) (by omega) (fun _ => rfl) rfl rfl rfl rfl (Nat.le_of_ble_eq_true rfl) dX7_makes_43 rfl ?_
      rintro μ43
      try dsimp only
      refine b_aload_n (n := 47) 0 dX7_makes_46 rfl rfl rfl ?_
      refine b_iload_n (n := 48) 3 dX7_makes_47 rfl rfl rfl ?_
      refine b_bipush (n := 50) (v := 7) dX7_makes_48 rfl (by decide) ?_
      refine b_aload_n (n := 51) 0 dX7_makes_50 rfl rfl rfl ?_
      refine b_get (n := 54) 0 f_X7_45 dX7_makes_51 rfl rfl rfl ?_
      refine bV0wv (n := 57) (hh := (fun s : Mem => hM E ad s)) (As := [.int y3, .int 7, .int (μ43 0 12)]) (rest := []) 0 lk_X7_74 (c_md_put (Nat.le_refl _)) (by omega) (fun _ => rfl) rfl rfl rfl rfl (Nat.le_of_ble_eq_true rfl) dX7_makes_54 rfl ?_
      rintro μ54
      try dsimp only
      refine b_aload_n (n := 58) 0 dX7_makes_57 rfl rfl rfl ?_
      refine b_iload_n (n := 59) 3 dX7_makes_58 rfl rfl rfl ?_
      refine b_bipush (n := 61) (v := 8) dX7_makes_59 rfl (by decide) ?_
      refine b_iload_n (n := 62) 2 dX7_makes_61 rfl rfl rfl ?_
      refine bV0wv (n := 65) (hh := (fun s : Mem => hM E ad s)) (As := [.int y3, .int 8, .int y2]) (rest := []) 0 lk_X7_74 (c_md_put (Nat.le_refl _)) (by omega) (fun _ => rfl) rfl rfl rfl rfl (Nat.le_of_ble_eq_true rfl) dX7_makes_62 rfl ?_
      rintro μ62
      try dsimp only
      refine b_iload_n (n := 66) 3 dX7_makes_65 rfl rfl rfl ?_
      exact b_iret dX7_makes_66 rfl rfl
def md_makes (N : Nat) (x1 : Int32) (x2 : Int32) (μ : Mem) : Option (Int32 × Mem) :=
  md_makes_18 N N x1 x2 (μ 0 14) 0 (up μ 0 14 ((μ 0 14) + 1))
set_option maxHeartbeats 400000 in
set_option maxRecDepth 100000 in
theorem c_md_makes {l : Launch} {E : Ev} {ad : Nat → Nat} {d : Nat} {N : Nat}   {x1 : Int32} {x2 : Int32} {μ : Mem} (hd : 3 ≤ d) : Ct l yX7_makes cX7_makes 5 (some .int) d E (hM E ad μ) [.ref (ad 0), .int x1, .int x2] (fun q : Int32 × Mem => (some (.int q.1), hM E ad q.2)) (md_makes N x1 x2 μ) := by
  refine Ct.of2 (own := RX7) (L := [(0, .ref (ad 0)), (1, .int x1), (2, .int x2)]) rfl (by decide +kernel) (Nat.le_of_ble_eq_true rfl) rfl ?_
  unfold md_makes
  refine b_aload_n (n := 1) 0 dX7_makes_0 rfl rfl rfl ?_
  refine b_get (n := 4) 0 f_X7_71 dX7_makes_1 rfl rfl rfl ?_
  refine b_istore_n (n := 5) (L' := [(3, .int (μ 0 14)), (0, .ref (ad 0)), (1, .int x1), (2, .int x2)]) dX7_makes_4 rfl rfl (Nat.le_of_ble_eq_true rfl) rfl ?_
  refine b_aload_n (n := 6) 1 dX7_makes_5 rfl rfl rfl ?_
  refine b_dup (n := 7) dX7_makes_6 rfl rfl ?_
  refine b_get (n := 10) 0 f_X7_71 dX7_makes_7 rfl rfl rfl ?_
  refine b_iconst (n := 11) (v := 1) dX7_makes_10 rfl (by decide) ?_
  refine b_iadd (n := 12) dX7_makes_11 rfl ?_
  refine b_put (n := 15) (ws' := hM E ad (up μ 0 14 ((μ 0 14) + 1))) 0 fp_X7_71 dX7_makes_12 rfl rfl rfl rfl (Nat.le_of_ble_eq_true rfl) rfl ?_
  refine b_iconst (n := 16) (v := 0) dX7_makes_15 rfl (by decide) ?_
  refine b_istore (n := 18) (L' := [(4, .int 0), (3, .int (μ 0 14)), (0, .ref (ad 0)), (1, .int x1), (2, .int x2)]) dX7_makes_16 rfl (Nat.le_of_ble_eq_true rfl) rfl ?_
  refine Bd.sub (L' := [(0, .ref (ad 0)), (1, .int x1), (2, .int x2), (3, .int (μ 0 14)), (4, .int 0)]) [2, 3, 4, 1, 0] rfl ?_
  exact w_md_makes_18 hd _ _ _ _ _ _
def md_beginsItem  (x0 : Int32)  : Option (Bool) :=
  if x0 = 116 then
    (some true)
  else
    (if x0 = 119 then
      (some true)
    else
      (if x0 = 115 then
        (some true)
      else
        (if x0 = 120 then
          (some true)
        else
          (if x0 = 91 then
            (some true)
          else
            (if x0 = 40 then
              (some true)
            else
              (some false))))))
set_option maxHeartbeats 400000 in
set_option maxRecDepth 100000 in
theorem c_md_beginsItem {l : Launch} {E : Ev} {d : Nat}    {x0 : Int32}  (hd : 1 ≤ d) : Ct l yX7_beginsItem cX7_beginsItem 1 (some .boolean) d E ([]) [.int x0] (fun v : Bool => (some (.int (b2i v)), [])) (md_beginsItem x0) := by
  refine Ct.of2 (own := RX7) (L := [(0, .int x0)]) rfl (by decide +kernel) (Nat.le_of_ble_eq_true rfl) rfl ?_
  unfold md_beginsItem
  refine b_iload_n (n := 1) 0 dX7_beginsItem_0 rfl rfl rfl ?_
  refine b_bipush (n := 3) (v := 116) dX7_beginsItem_1 rfl (by decide) ?_
  refine b_cmp_eq (n := 6) (tgt := 36) dX7_beginsItem_3 (by decide) rfl (fun h3 => ?_) (fun h3 => ?_)
  · refine b_iconst (n := 37) (v := 1) dX7_beginsItem_36 rfl (by decide) ?_
    refine b_goto (n := 41) dX7_beginsItem_37 (by decide) ?_
    exact b_zret (b := true) dX7_beginsItem_41 rfl rfl
  · refine b_iload_n (n := 7) 0 dX7_beginsItem_6 rfl rfl rfl ?_
    refine b_bipush (n := 9) (v := 119) dX7_beginsItem_7 rfl (by decide) ?_
    refine b_cmp_eq (n := 12) (tgt := 36) dX7_beginsItem_9 (by decide) rfl (fun h9 => ?_) (fun h9 => ?_)
    · refine b_iconst (n := 37) (v := 1) dX7_beginsItem_36 rfl (by decide) ?_
      refine b_goto (n := 41) dX7_beginsItem_37 (by decide) ?_
      exact b_zret (b := true) dX7_beginsItem_41 rfl rfl
    · refine b_iload_n (n := 13) 0 dX7_beginsItem_12 rfl rfl rfl ?_
      refine b_bipush (n := 15) (v := 115) dX7_beginsItem_13 rfl (by decide) ?_
      refine b_cmp_eq (n := 18) (tgt := 36) dX7_beginsItem_15 (by decide) rfl (fun h15 => ?_) (fun h15 => ?_)
      · refine b_iconst (n := 37) (v := 1) dX7_beginsItem_36 rfl (by decide) ?_
        refine b_goto (n := 41) dX7_beginsItem_37 (by decide) ?_
        exact b_zret (b := true) dX7_beginsItem_41 rfl rfl
      · refine b_iload_n (n := 19) 0 dX7_beginsItem_18 rfl rfl rfl ?_
        refine b_bipush (n := 21) (v := 120) dX7_beginsItem_19 rfl (by decide) ?_
        refine b_cmp_eq (n := 24) (tgt := 36) dX7_beginsItem_21 (by decide) rfl (fun h21 => ?_) (fun h21 => ?_)
        · refine b_iconst (n := 37) (v := 1) dX7_beginsItem_36 rfl (by decide) ?_
          refine b_goto (n := 41) dX7_beginsItem_37 (by decide) ?_
          exact b_zret (b := true) dX7_beginsItem_41 rfl rfl
        · refine b_iload_n (n := 25) 0 dX7_beginsItem_24 rfl rfl rfl ?_
          refine b_bipush (n := 27) (v := 91) dX7_beginsItem_25 rfl (by decide) ?_
          refine b_cmp_eq (n := 30) (tgt := 36) dX7_beginsItem_27 (by decide) rfl (fun h27 => ?_) (fun h27 => ?_)
          · refine b_iconst (n := 37) (v := 1) dX7_beginsItem_36 rfl (by decide) ?_
            refine b_goto (n := 41) dX7_beginsItem_37 (by decide) ?_
            exact b_zret (b := true) dX7_beginsItem_41 rfl rfl
          · refine b_iload_n (n := 31) 0 dX7_beginsItem_30 rfl rfl rfl ?_
            refine b_bipush (n := 33) (v := 40) dX7_beginsItem_31 rfl (by decide) ?_
            refine b_cmp_ne (n := 36) (tgt := 40) dX7_beginsItem_33 (by decide) rfl (fun h33 => ?_) (fun h33 => ?_)
            · refine b_iconst (n := 37) (v := 1) dX7_beginsItem_36 rfl (by decide) ?_
              refine b_goto (n := 41) dX7_beginsItem_37 (by decide) ?_
              exact b_zret (b := true) dX7_beginsItem_41 rfl rfl
            · refine b_iconst (n := 41) (v := 0) dX7_beginsItem_40 rfl (by decide) ?_
              exact b_zret (b := false) dX7_beginsItem_41 rfl rfl
def md_isTooMuch   (μ : Mem) : Option (Bool × Mem) :=
  some (false, up μ 0 13 2)
set_option maxHeartbeats 400000 in
set_option maxRecDepth 100000 in
theorem c_md_isTooMuch {l : Launch} {E : Ev} {ad : Nat → Nat} {d : Nat}     {μ : Mem} (hd : 1 ≤ d) : Ct l yX7_isTooMuch cX7_isTooMuch 1 (some .boolean) d E (hM E ad μ) [.ref (ad 0)] (fun q : Bool × Mem => (some (.int (b2i q.1)), hM E ad q.2)) (md_isTooMuch μ) := by
  refine Ct.of2 (own := RX7) (L := [(0, .ref (ad 0))]) rfl (by decide +kernel) (Nat.le_of_ble_eq_true rfl) rfl ?_
  unfold md_isTooMuch
  refine b_aload_n (n := 1) 0 dX7_isTooMuch_0 rfl rfl rfl ?_
  refine b_iconst (n := 2) (v := 2) dX7_isTooMuch_1 rfl (by decide) ?_
  refine b_put (n := 5) (ws' := hM E ad (up μ 0 13 2)) 0 fp_X7_78 dX7_isTooMuch_2 rfl rfl rfl rfl (Nat.le_of_ble_eq_true rfl) rfl ?_
  refine b_iconst (n := 6) (v := 0) dX7_isTooMuch_5 rfl (by decide) ?_
  exact b_zret (b := false) dX7_isTooMuch_6 rfl rfl
end
