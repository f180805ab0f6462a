section
-- ===== PART A: goes FIRST, ahead of the names: the tables' words, and 'selects' of the private methods out of them =====
/-- a private method of a class that the tables say can be made, by its rows of tables_1 -/
def lw_okq (q : MethodName × Nat) : Prop := (q.1.cls ≠ "java/lang/invoke/MethodHandle" ∧ q.1.cls ≠ "java/lang/invoke/VarHandle") ∧ Cond.instantiable q.1.cls q.2 ∈ tables_1 ∧ Cond.privateMethod q.1 ∈ tables_1 ∧ Cond.instanceMethod q.1 ∈ tables_1
theorem lw_p0 : lw_okq (⟨"WorkflowEngine$Reader", "readBody", "(I)I"⟩, 6) := ⟨⟨by decide +kernel, by decide +kernel⟩, List.mem_of_getElem? (i := 23) (by decide +kernel), List.mem_of_getElem? (i := 327) (by decide +kernel), List.mem_of_getElem? (i := 328) (by decide +kernel)⟩
theorem lw_p1 : lw_okq (⟨"WorkflowEngine$Reader", "readItem", "(I)I"⟩, 6) := ⟨⟨by decide +kernel, by decide +kernel⟩, List.mem_of_getElem? (i := 23) (by decide +kernel), List.mem_of_getElem? (i := 331) (by decide +kernel), List.mem_of_getElem? (i := 332) (by decide +kernel)⟩
theorem lw_p2 : lw_okq (⟨"WorkflowEngine$Reader", "sign", "()I"⟩, 6) := ⟨⟨by decide +kernel, by decide +kernel⟩, List.mem_of_getElem? (i := 23) (by decide +kernel), List.mem_of_getElem? (i := 335) (by decide +kernel), List.mem_of_getElem? (i := 336) (by decide +kernel)⟩
theorem lw_p3 : lw_okq (⟨"WorkflowEngine$Reader", "fail", "(I)V"⟩, 6) := ⟨⟨by decide +kernel, by decide +kernel⟩, List.mem_of_getElem? (i := 23) (by decide +kernel), List.mem_of_getElem? (i := 342) (by decide +kernel), List.mem_of_getElem? (i := 343) (by decide +kernel)⟩
theorem lw_p4 : lw_okq (⟨"WorkflowEngine$Reader", "readTask", "(I)V"⟩, 6) := ⟨⟨by decide +kernel, by decide +kernel⟩, List.mem_of_getElem? (i := 23) (by decide +kernel), List.mem_of_getElem? (i := 351) (by decide +kernel), List.mem_of_getElem? (i := 352) (by decide +kernel)⟩
theorem lw_p5 : lw_okq (⟨"WorkflowEngine$Reader", "readCode", "()I"⟩, 6) := ⟨⟨by decide +kernel, by decide +kernel⟩, List.mem_of_getElem? (i := 23) (by decide +kernel), List.mem_of_getElem? (i := 355) (by decide +kernel), List.mem_of_getElem? (i := 356) (by decide +kernel)⟩
theorem lw_p6 : lw_okq (⟨"WorkflowEngine$Reader", "readBetween", "(II)I"⟩, 6) := ⟨⟨by decide +kernel, by decide +kernel⟩, List.mem_of_getElem? (i := 23) (by decide +kernel), List.mem_of_getElem? (i := 359) (by decide +kernel), List.mem_of_getElem? (i := 360) (by decide +kernel)⟩
theorem lw_p7 : lw_okq (⟨"WorkflowEngine$Reader", "takes", "(I)Z"⟩, 6) := ⟨⟨by decide +kernel, by decide +kernel⟩, List.mem_of_getElem? (i := 23) (by decide +kernel), List.mem_of_getElem? (i := 363) (by decide +kernel), List.mem_of_getElem? (i := 364) (by decide +kernel)⟩
theorem lw_p8 : lw_okq (⟨"WorkflowEngine$Reader", "readNumber", "()I"⟩, 6) := ⟨⟨by decide +kernel, by decide +kernel⟩, List.mem_of_getElem? (i := 23) (by decide +kernel), List.mem_of_getElem? (i := 367) (by decide +kernel), List.mem_of_getElem? (i := 368) (by decide +kernel)⟩
theorem lw_p9 : lw_okq (⟨"WorkflowEngine$Reader", "readSignal", "(I)V"⟩, 6) := ⟨⟨by decide +kernel, by decide +kernel⟩, List.mem_of_getElem? (i := 23) (by decide +kernel), List.mem_of_getElem? (i := 374) (by decide +kernel), List.mem_of_getElem? (i := 375) (by decide +kernel)⟩
theorem lw_p10 : lw_okq (⟨"WorkflowEngine$Reader", "readSet", "(I)V"⟩, 6) := ⟨⟨by decide +kernel, by decide +kernel⟩, List.mem_of_getElem? (i := 23) (by decide +kernel), List.mem_of_getElem? (i := 378) (by decide +kernel), List.mem_of_getElem? (i := 379) (by decide +kernel)⟩
theorem lw_p11 : lw_okq (⟨"WorkflowEngine$Reader", "readVariable", "()I"⟩, 6) := ⟨⟨by decide +kernel, by decide +kernel⟩, List.mem_of_getElem? (i := 23) (by decide +kernel), List.mem_of_getElem? (i := 382) (by decide +kernel), List.mem_of_getElem? (i := 383) (by decide +kernel)⟩
theorem lw_p12 : lw_okq (⟨"WorkflowEngine$Reader", "expect", "(I)V"⟩, 6) := ⟨⟨by decide +kernel, by decide +kernel⟩, List.mem_of_getElem? (i := 23) (by decide +kernel), List.mem_of_getElem? (i := 386) (by decide +kernel), List.mem_of_getElem? (i := 387) (by decide +kernel)⟩
theorem lw_p13 : lw_okq (⟨"WorkflowEngine$Reader", "readChoice", "(II)V"⟩, 6) := ⟨⟨by decide +kernel, by decide +kernel⟩, List.mem_of_getElem? (i := 23) (by decide +kernel), List.mem_of_getElem? (i := 390) (by decide +kernel), List.mem_of_getElem? (i := 391) (by decide +kernel)⟩
theorem lw_p14 : lw_okq (⟨"WorkflowEngine$Reader", "readBodyOf", "(III)I"⟩, 6) := ⟨⟨by decide +kernel, by decide +kernel⟩, List.mem_of_getElem? (i := 23) (by decide +kernel), List.mem_of_getElem? (i := 394) (by decide +kernel), List.mem_of_getElem? (i := 395) (by decide +kernel)⟩
theorem lw_p15 : lw_okq (⟨"WorkflowEngine$Reader", "readParallel", "(II)V"⟩, 6) := ⟨⟨by decide +kernel, by decide +kernel⟩, List.mem_of_getElem? (i := 23) (by decide +kernel), List.mem_of_getElem? (i := 398) (by decide +kernel), List.mem_of_getElem? (i := 399) (by decide +kernel)⟩
def lw_privs_1 : List (MethodName × Nat) := [(⟨"WorkflowEngine$Reader", "readBody", "(I)I"⟩, 6), (⟨"WorkflowEngine$Reader", "readItem", "(I)I"⟩, 6), (⟨"WorkflowEngine$Reader", "sign", "()I"⟩, 6), (⟨"WorkflowEngine$Reader", "fail", "(I)V"⟩, 6), (⟨"WorkflowEngine$Reader", "readTask", "(I)V"⟩, 6), (⟨"WorkflowEngine$Reader", "readCode", "()I"⟩, 6), (⟨"WorkflowEngine$Reader", "readBetween", "(II)I"⟩, 6), (⟨"WorkflowEngine$Reader", "takes", "(I)Z"⟩, 6), (⟨"WorkflowEngine$Reader", "readNumber", "()I"⟩, 6), (⟨"WorkflowEngine$Reader", "readSignal", "(I)V"⟩, 6), (⟨"WorkflowEngine$Reader", "readSet", "(I)V"⟩, 6), (⟨"WorkflowEngine$Reader", "readVariable", "()I"⟩, 6), (⟨"WorkflowEngine$Reader", "expect", "(I)V"⟩, 6), (⟨"WorkflowEngine$Reader", "readChoice", "(II)V"⟩, 6), (⟨"WorkflowEngine$Reader", "readBodyOf", "(III)I"⟩, 6), (⟨"WorkflowEngine$Reader", "readParallel", "(II)V"⟩, 6)]
theorem lw_r1 : ∀ q ∈ lw_privs_1, lw_okq q := List.forall_mem_cons.mpr ⟨lw_p0, List.forall_mem_cons.mpr ⟨lw_p1, List.forall_mem_cons.mpr ⟨lw_p2, List.forall_mem_cons.mpr ⟨lw_p3, List.forall_mem_cons.mpr ⟨lw_p4, List.forall_mem_cons.mpr ⟨lw_p5, List.forall_mem_cons.mpr ⟨lw_p6, List.forall_mem_cons.mpr ⟨lw_p7, List.forall_mem_cons.mpr ⟨lw_p8, List.forall_mem_cons.mpr ⟨lw_p9, List.forall_mem_cons.mpr ⟨lw_p10, List.forall_mem_cons.mpr ⟨lw_p11, List.forall_mem_cons.mpr ⟨lw_p12, List.forall_mem_cons.mpr ⟨lw_p13, List.forall_mem_cons.mpr ⟨lw_p14, List.forall_mem_cons.mpr ⟨lw_p15, fun _ h => absurd h List.not_mem_nil⟩⟩⟩⟩⟩⟩⟩⟩⟩⟩⟩⟩⟩⟩⟩⟩
theorem lw_p16 : lw_okq (⟨"WorkflowEngine$Instance", "beginBody", "(II)V"⟩, 18) := ⟨⟨by decide +kernel, by decide +kernel⟩, List.mem_of_getElem? (i := 163) (by decide +kernel), List.mem_of_getElem? (i := 435) (by decide +kernel), List.mem_of_getElem? (i := 436) (by decide +kernel)⟩
theorem lw_p17 : lw_okq (⟨"WorkflowEngine$Instance", "beginItem", "(II)V"⟩, 18) := ⟨⟨by decide +kernel, by decide +kernel⟩, List.mem_of_getElem? (i := 163) (by decide +kernel), List.mem_of_getElem? (i := 440) (by decide +kernel), List.mem_of_getElem? (i := 441) (by decide +kernel)⟩
theorem lw_p18 : lw_okq (⟨"WorkflowEngine$Instance", "beginAttempt", "(I)V"⟩, 18) := ⟨⟨by decide +kernel, by decide +kernel⟩, List.mem_of_getElem? (i := 163) (by decide +kernel), List.mem_of_getElem? (i := 445) (by decide +kernel), List.mem_of_getElem? (i := 446) (by decide +kernel)⟩
theorem lw_p19 : lw_okq (⟨"WorkflowEngine$Instance", "beginSignal", "(I)V"⟩, 18) := ⟨⟨by decide +kernel, by decide +kernel⟩, List.mem_of_getElem? (i := 163) (by decide +kernel), List.mem_of_getElem? (i := 457) (by decide +kernel), List.mem_of_getElem? (i := 458) (by decide +kernel)⟩
theorem lw_p20 : lw_okq (⟨"WorkflowEngine$Instance", "chosenBody", "(I)I"⟩, 18) := ⟨⟨by decide +kernel, by decide +kernel⟩, List.mem_of_getElem? (i := 163) (by decide +kernel), List.mem_of_getElem? (i := 461) (by decide +kernel), List.mem_of_getElem? (i := 462) (by decide +kernel)⟩
theorem lw_p21 : lw_okq (⟨"WorkflowEngine$Instance", "beginBodies", "(II)V"⟩, 18) := ⟨⟨by decide +kernel, by decide +kernel⟩, List.mem_of_getElem? (i := 163) (by decide +kernel), List.mem_of_getElem? (i := 469) (by decide +kernel), List.mem_of_getElem? (i := 470) (by decide +kernel)⟩
theorem lw_p22 : lw_okq (⟨"WorkflowEngine$Instance", "goOn", "(II)V"⟩, 18) := ⟨⟨by decide +kernel, by decide +kernel⟩, List.mem_of_getElem? (i := 163) (by decide +kernel), List.mem_of_getElem? (i := 473) (by decide +kernel), List.mem_of_getElem? (i := 474) (by decide +kernel)⟩
theorem lw_p23 : lw_okq (⟨"WorkflowEngine$Instance", "lookAt", "(II)V"⟩, 18) := ⟨⟨by decide +kernel, by decide +kernel⟩, List.mem_of_getElem? (i := 163) (by decide +kernel), List.mem_of_getElem? (i := 477) (by decide +kernel), List.mem_of_getElem? (i := 478) (by decide +kernel)⟩
theorem lw_p24 : lw_okq (⟨"WorkflowEngine$Instance", "lookAtTask", "(I)V"⟩, 18) := ⟨⟨by decide +kernel, by decide +kernel⟩, List.mem_of_getElem? (i := 163) (by decide +kernel), List.mem_of_getElem? (i := 481) (by decide +kernel), List.mem_of_getElem? (i := 482) (by decide +kernel)⟩
theorem lw_p25 : lw_okq (⟨"WorkflowEngine$Instance", "goesOn", "(I)Z"⟩, 18) := ⟨⟨by decide +kernel, by decide +kernel⟩, List.mem_of_getElem? (i := 163) (by decide +kernel), List.mem_of_getElem? (i := 485) (by decide +kernel), List.mem_of_getElem? (i := 486) (by decide +kernel)⟩
theorem lw_p26 : lw_okq (⟨"WorkflowEngine$Instance", "endAttempt", "(I)V"⟩, 18) := ⟨⟨by decide +kernel, by decide +kernel⟩, List.mem_of_getElem? (i := 163) (by decide +kernel), List.mem_of_getElem? (i := 489) (by decide +kernel), List.mem_of_getElem? (i := 490) (by decide +kernel)⟩
theorem lw_p27 : lw_okq (⟨"WorkflowEngine$Instance", "lookAtWait", "(I)V"⟩, 18) := ⟨⟨by decide +kernel, by decide +kernel⟩, List.mem_of_getElem? (i := 163) (by decide +kernel), List.mem_of_getElem? (i := 497) (by decide +kernel), List.mem_of_getElem? (i := 498) (by decide +kernel)⟩
theorem lw_p28 : lw_okq (⟨"WorkflowEngine$Instance", "lookAtSignal", "(I)V"⟩, 18) := ⟨⟨by decide +kernel, by decide +kernel⟩, List.mem_of_getElem? (i := 163) (by decide +kernel), List.mem_of_getElem? (i := 501) (by decide +kernel), List.mem_of_getElem? (i := 502) (by decide +kernel)⟩
theorem lw_p29 : lw_okq (⟨"WorkflowEngine$Instance", "changeVariable", "(I)V"⟩, 18) := ⟨⟨by decide +kernel, by decide +kernel⟩, List.mem_of_getElem? (i := 163) (by decide +kernel), List.mem_of_getElem? (i := 505) (by decide +kernel), List.mem_of_getElem? (i := 506) (by decide +kernel)⟩
theorem lw_p30 : lw_okq (⟨"WorkflowEngine$Instance", "lookAtChoice", "(II)V"⟩, 18) := ⟨⟨by decide +kernel, by decide +kernel⟩, List.mem_of_getElem? (i := 163) (by decide +kernel), List.mem_of_getElem? (i := 509) (by decide +kernel), List.mem_of_getElem? (i := 510) (by decide +kernel)⟩
theorem lw_p31 : lw_okq (⟨"WorkflowEngine$Instance", "lookAtParallel", "(II)V"⟩, 18) := ⟨⟨by decide +kernel, by decide +kernel⟩, List.mem_of_getElem? (i := 163) (by decide +kernel), List.mem_of_getElem? (i := 513) (by decide +kernel), List.mem_of_getElem? (i := 514) (by decide +kernel)⟩
def lw_privs_2 : List (MethodName × Nat) := [(⟨"WorkflowEngine$Instance", "beginBody", "(II)V"⟩, 18), (⟨"WorkflowEngine$Instance", "beginItem", "(II)V"⟩, 18), (⟨"WorkflowEngine$Instance", "beginAttempt", "(I)V"⟩, 18), (⟨"WorkflowEngine$Instance", "beginSignal", "(I)V"⟩, 18), (⟨"WorkflowEngine$Instance", "chosenBody", "(I)I"⟩, 18), (⟨"WorkflowEngine$Instance", "beginBodies", "(II)V"⟩, 18), (⟨"WorkflowEngine$Instance", "goOn", "(II)V"⟩, 18), (⟨"WorkflowEngine$Instance", "lookAt", "(II)V"⟩, 18), (⟨"WorkflowEngine$Instance", "lookAtTask", "(I)V"⟩, 18), (⟨"WorkflowEngine$Instance", "goesOn", "(I)Z"⟩, 18), (⟨"WorkflowEngine$Instance", "endAttempt", "(I)V"⟩, 18), (⟨"WorkflowEngine$Instance", "lookAtWait", "(I)V"⟩, 18), (⟨"WorkflowEngine$Instance", "lookAtSignal", "(I)V"⟩, 18), (⟨"WorkflowEngine$Instance", "changeVariable", "(I)V"⟩, 18), (⟨"WorkflowEngine$Instance", "lookAtChoice", "(II)V"⟩, 18), (⟨"WorkflowEngine$Instance", "lookAtParallel", "(II)V"⟩, 18)]
theorem lw_r2 : ∀ q ∈ lw_privs_2, lw_okq q := List.forall_mem_cons.mpr ⟨lw_p16, List.forall_mem_cons.mpr ⟨lw_p17, List.forall_mem_cons.mpr ⟨lw_p18, List.forall_mem_cons.mpr ⟨lw_p19, List.forall_mem_cons.mpr ⟨lw_p20, List.forall_mem_cons.mpr ⟨lw_p21, List.forall_mem_cons.mpr ⟨lw_p22, List.forall_mem_cons.mpr ⟨lw_p23, List.forall_mem_cons.mpr ⟨lw_p24, List.forall_mem_cons.mpr ⟨lw_p25, List.forall_mem_cons.mpr ⟨lw_p26, List.forall_mem_cons.mpr ⟨lw_p27, List.forall_mem_cons.mpr ⟨lw_p28, List.forall_mem_cons.mpr ⟨lw_p29, List.forall_mem_cons.mpr ⟨lw_p30, List.forall_mem_cons.mpr ⟨lw_p31, fun _ h => absurd h List.not_mem_nil⟩⟩⟩⟩⟩⟩⟩⟩⟩⟩⟩⟩⟩⟩⟩⟩
theorem lw_p32 : lw_okq (⟨"WorkflowEngine$Instance", "join", "(I)V"⟩, 18) := ⟨⟨by decide +kernel, by decide +kernel⟩, List.mem_of_getElem? (i := 163) (by decide +kernel), List.mem_of_getElem? (i := 517) (by decide +kernel), List.mem_of_getElem? (i := 518) (by decide +kernel)⟩
theorem lw_p33 : lw_okq (⟨"WorkflowEngine$Instance", "bodiesWith", "(II)I"⟩, 18) := ⟨⟨by decide +kernel, by decide +kernel⟩, List.mem_of_getElem? (i := 163) (by decide +kernel), List.mem_of_getElem? (i := 521) (by decide +kernel), List.mem_of_getElem? (i := 522) (by decide +kernel)⟩
theorem lw_p34 : lw_okq (⟨"WorkflowEngine$Instance", "cancelBodies", "(I)V"⟩, 18) := ⟨⟨by decide +kernel, by decide +kernel⟩, List.mem_of_getElem? (i := 163) (by decide +kernel), List.mem_of_getElem? (i := 525) (by decide +kernel), List.mem_of_getElem? (i := 526) (by decide +kernel)⟩
theorem lw_p35 : lw_okq (⟨"WorkflowEngine$Instance", "cancel", "(II)V"⟩, 18) := ⟨⟨by decide +kernel, by decide +kernel⟩, List.mem_of_getElem? (i := 163) (by decide +kernel), List.mem_of_getElem? (i := 529) (by decide +kernel), List.mem_of_getElem? (i := 530) (by decide +kernel)⟩
theorem lw_p36 : lw_okq (⟨"WorkflowEngine$Instance", "reversesAll", "(I)Z"⟩, 18) := ⟨⟨by decide +kernel, by decide +kernel⟩, List.mem_of_getElem? (i := 163) (by decide +kernel), List.mem_of_getElem? (i := 533) (by decide +kernel), List.mem_of_getElem? (i := 534) (by decide +kernel)⟩
theorem lw_p37 : lw_okq (⟨"WorkflowEngine$Instance", "endReversal", "(II)V"⟩, 18) := ⟨⟨by decide +kernel, by decide +kernel⟩, List.mem_of_getElem? (i := 163) (by decide +kernel), List.mem_of_getElem? (i := 537) (by decide +kernel), List.mem_of_getElem? (i := 538) (by decide +kernel)⟩
theorem lw_p38 : lw_okq (⟨"WorkflowEngine$Instance", "lastToReverse", "(I)I"⟩, 18) := ⟨⟨by decide +kernel, by decide +kernel⟩, List.mem_of_getElem? (i := 163) (by decide +kernel), List.mem_of_getElem? (i := 541) (by decide +kernel), List.mem_of_getElem? (i := 542) (by decide +kernel)⟩
theorem lw_p39 : lw_okq (⟨"WorkflowEngine$Instance", "isReversible", "(I)Z"⟩, 18) := ⟨⟨by decide +kernel, by decide +kernel⟩, List.mem_of_getElem? (i := 163) (by decide +kernel), List.mem_of_getElem? (i := 546) (by decide +kernel), List.mem_of_getElem? (i := 547) (by decide +kernel)⟩
theorem lw_p40 : lw_okq (⟨"WorkflowEngine$Instance", "concerns", "(II)Z"⟩, 18) := ⟨⟨by decide +kernel, by decide +kernel⟩, List.mem_of_getElem? (i := 163) (by decide +kernel), List.mem_of_getElem? (i := 550) (by decide +kernel), List.mem_of_getElem? (i := 551) (by decide +kernel)⟩
theorem lw_p41 : lw_okq (⟨"WorkflowEngine$Instance", "become", "(I)V"⟩, 18) := ⟨⟨by decide +kernel, by decide +kernel⟩, List.mem_of_getElem? (i := 163) (by decide +kernel), List.mem_of_getElem? (i := 559) (by decide +kernel), List.mem_of_getElem? (i := 560) (by decide +kernel)⟩
theorem lw_p42 : lw_okq (⟨"WorkflowEngine", "find", "(I)LWorkflowEngine$Instance;"⟩, 8) := ⟨⟨by decide +kernel, by decide +kernel⟩, List.mem_of_getElem? (i := 15) (by decide +kernel), List.mem_of_getElem? (i := 571) (by decide +kernel), List.mem_of_getElem? (i := 572) (by decide +kernel)⟩
theorem lw_p43 : lw_okq (⟨"WorkflowEngine$Instance", "isRunning", "(I)Z"⟩, 18) := ⟨⟨by decide +kernel, by decide +kernel⟩, List.mem_of_getElem? (i := 163) (by decide +kernel), List.mem_of_getElem? (i := 632) (by decide +kernel), List.mem_of_getElem? (i := 633) (by decide +kernel)⟩
theorem lw_p44 : lw_okq (⟨"WorkflowEngineModel", "readsBody", "(II)Z"⟩, 21) := ⟨⟨by decide +kernel, by decide +kernel⟩, List.mem_of_getElem? (i := 750) (by decide +kernel), List.mem_of_getElem? (i := 834) (by decide +kernel), List.mem_of_getElem? (i := 835) (by decide +kernel)⟩
theorem lw_p45 : lw_okq (⟨"WorkflowEngineModel", "makes", "(II)I"⟩, 21) := ⟨⟨by decide +kernel, by decide +kernel⟩, List.mem_of_getElem? (i := 750) (by decide +kernel), List.mem_of_getElem? (i := 838) (by decide +kernel), List.mem_of_getElem? (i := 839) (by decide +kernel)⟩
theorem lw_p46 : lw_okq (⟨"WorkflowEngineModel", "put", "(III)V"⟩, 21) := ⟨⟨by decide +kernel, by decide +kernel⟩, List.mem_of_getElem? (i := 750) (by decide +kernel), List.mem_of_getElem? (i := 842) (by decide +kernel), List.mem_of_getElem? (i := 843) (by decide +kernel)⟩
theorem lw_p47 : lw_okq (⟨"WorkflowEngineModel", "readsItem", "(I)Z"⟩, 21) := ⟨⟨by decide +kernel, by decide +kernel⟩, List.mem_of_getElem? (i := 750) (by decide +kernel), List.mem_of_getElem? (i := 849) (by decide +kernel), List.mem_of_getElem? (i := 850) (by decide +kernel)⟩
def lw_privs_3 : List (MethodName × Nat) := [(⟨"WorkflowEngine$Instance", "join", "(I)V"⟩, 18), (⟨"WorkflowEngine$Instance", "bodiesWith", "(II)I"⟩, 18), (⟨"WorkflowEngine$Instance", "cancelBodies", "(I)V"⟩, 18), (⟨"WorkflowEngine$Instance", "cancel", "(II)V"⟩, 18), (⟨"WorkflowEngine$Instance", "reversesAll", "(I)Z"⟩, 18), (⟨"WorkflowEngine$Instance", "endReversal", "(II)V"⟩, 18), (⟨"WorkflowEngine$Instance", "lastToReverse", "(I)I"⟩, 18), (⟨"WorkflowEngine$Instance", "isReversible", "(I)Z"⟩, 18), (⟨"WorkflowEngine$Instance", "concerns", "(II)Z"⟩, 18), (⟨"WorkflowEngine$Instance", "become", "(I)V"⟩, 18), (⟨"WorkflowEngine", "find", "(I)LWorkflowEngine$Instance;"⟩, 8), (⟨"WorkflowEngine$Instance", "isRunning", "(I)Z"⟩, 18), (⟨"WorkflowEngineModel", "readsBody", "(II)Z"⟩, 21), (⟨"WorkflowEngineModel", "makes", "(II)I"⟩, 21), (⟨"WorkflowEngineModel", "put", "(III)V"⟩, 21), (⟨"WorkflowEngineModel", "readsItem", "(I)Z"⟩, 21)]
theorem lw_r3 : ∀ q ∈ lw_privs_3, lw_okq q := List.forall_mem_cons.mpr ⟨lw_p32, List.forall_mem_cons.mpr ⟨lw_p33, List.forall_mem_cons.mpr ⟨lw_p34, List.forall_mem_cons.mpr ⟨lw_p35, List.forall_mem_cons.mpr ⟨lw_p36, List.forall_mem_cons.mpr ⟨lw_p37, List.forall_mem_cons.mpr ⟨lw_p38, List.forall_mem_cons.mpr ⟨lw_p39, List.forall_mem_cons.mpr ⟨lw_p40, List.forall_mem_cons.mpr ⟨lw_p41, List.forall_mem_cons.mpr ⟨lw_p42, List.forall_mem_cons.mpr ⟨lw_p43, List.forall_mem_cons.mpr ⟨lw_p44, List.forall_mem_cons.mpr ⟨lw_p45, List.forall_mem_cons.mpr ⟨lw_p46, List.forall_mem_cons.mpr ⟨lw_p47, fun _ h => absurd h List.not_mem_nil⟩⟩⟩⟩⟩⟩⟩⟩⟩⟩⟩⟩⟩⟩⟩⟩
theorem lw_p48 : lw_okq (⟨"WorkflowEngineModel", "here", "()I"⟩, 21) := ⟨⟨by decide +kernel, by decide +kernel⟩, List.mem_of_getElem? (i := 750) (by decide +kernel), List.mem_of_getElem? (i := 853) (by decide +kernel), List.mem_of_getElem? (i := 854) (by decide +kernel)⟩
theorem lw_p49 : lw_okq (⟨"WorkflowEngineModel", "isTooMuch", "()Z"⟩, 21) := ⟨⟨by decide +kernel, by decide +kernel⟩, List.mem_of_getElem? (i := 750) (by decide +kernel), List.mem_of_getElem? (i := 860) (by decide +kernel), List.mem_of_getElem? (i := 861) (by decide +kernel)⟩
theorem lw_p50 : lw_okq (⟨"WorkflowEngineModel", "readsTask", "(I)Z"⟩, 21) := ⟨⟨by decide +kernel, by decide +kernel⟩, List.mem_of_getElem? (i := 750) (by decide +kernel), List.mem_of_getElem? (i := 864) (by decide +kernel), List.mem_of_getElem? (i := 865) (by decide +kernel)⟩
theorem lw_p51 : lw_okq (⟨"WorkflowEngineModel", "takesCode", "()Z"⟩, 21) := ⟨⟨by decide +kernel, by decide +kernel⟩, List.mem_of_getElem? (i := 750) (by decide +kernel), List.mem_of_getElem? (i := 868) (by decide +kernel), List.mem_of_getElem? (i := 869) (by decide +kernel)⟩
theorem lw_p52 : lw_okq (⟨"WorkflowEngineModel", "takes", "(I)Z"⟩, 21) := ⟨⟨by decide +kernel, by decide +kernel⟩, List.mem_of_getElem? (i := 750) (by decide +kernel), List.mem_of_getElem? (i := 872) (by decide +kernel), List.mem_of_getElem? (i := 873) (by decide +kernel)⟩
theorem lw_p53 : lw_okq (⟨"WorkflowEngineModel", "takesDigit", "(II)Z"⟩, 21) := ⟨⟨by decide +kernel, by decide +kernel⟩, List.mem_of_getElem? (i := 750) (by decide +kernel), List.mem_of_getElem? (i := 876) (by decide +kernel), List.mem_of_getElem? (i := 877) (by decide +kernel)⟩
theorem lw_p54 : lw_okq (⟨"WorkflowEngineModel", "takesNumber", "()Z"⟩, 21) := ⟨⟨by decide +kernel, by decide +kernel⟩, List.mem_of_getElem? (i := 750) (by decide +kernel), List.mem_of_getElem? (i := 880) (by decide +kernel), List.mem_of_getElem? (i := 881) (by decide +kernel)⟩
theorem lw_p55 : lw_okq (⟨"WorkflowEngineModel", "readsWait", "(I)Z"⟩, 21) := ⟨⟨by decide +kernel, by decide +kernel⟩, List.mem_of_getElem? (i := 750) (by decide +kernel), List.mem_of_getElem? (i := 884) (by decide +kernel), List.mem_of_getElem? (i := 885) (by decide +kernel)⟩
theorem lw_p56 : lw_okq (⟨"WorkflowEngineModel", "readsSignal", "(I)Z"⟩, 21) := ⟨⟨by decide +kernel, by decide +kernel⟩, List.mem_of_getElem? (i := 750) (by decide +kernel), List.mem_of_getElem? (i := 888) (by decide +kernel), List.mem_of_getElem? (i := 889) (by decide +kernel)⟩
theorem lw_p57 : lw_okq (⟨"WorkflowEngineModel", "readsSet", "(I)Z"⟩, 21) := ⟨⟨by decide +kernel, by decide +kernel⟩, List.mem_of_getElem? (i := 750) (by decide +kernel), List.mem_of_getElem? (i := 892) (by decide +kernel), List.mem_of_getElem? (i := 893) (by decide +kernel)⟩
theorem lw_p58 : lw_okq (⟨"WorkflowEngineModel", "takesSigned", "()Z"⟩, 21) := ⟨⟨by decide +kernel, by decide +kernel⟩, List.mem_of_getElem? (i := 750) (by decide +kernel), List.mem_of_getElem? (i := 896) (by decide +kernel), List.mem_of_getElem? (i := 897) (by decide +kernel)⟩
theorem lw_p59 : lw_okq (⟨"WorkflowEngineModel", "readsChoice", "(I)Z"⟩, 21) := ⟨⟨by decide +kernel, by decide +kernel⟩, List.mem_of_getElem? (i := 750) (by decide +kernel), List.mem_of_getElem? (i := 900) (by decide +kernel), List.mem_of_getElem? (i := 901) (by decide +kernel)⟩
theorem lw_p60 : lw_okq (⟨"WorkflowEngineModel", "opens", "()V"⟩, 21) := ⟨⟨by decide +kernel, by decide +kernel⟩, List.mem_of_getElem? (i := 750) (by decide +kernel), List.mem_of_getElem? (i := 904) (by decide +kernel), List.mem_of_getElem? (i := 905) (by decide +kernel)⟩
theorem lw_p61 : lw_okq (⟨"WorkflowEngineModel", "readsParallel", "(I)Z"⟩, 21) := ⟨⟨by decide +kernel, by decide +kernel⟩, List.mem_of_getElem? (i := 750) (by decide +kernel), List.mem_of_getElem? (i := 909) (by decide +kernel), List.mem_of_getElem? (i := 910) (by decide +kernel)⟩
theorem lw_p62 : lw_okq (⟨"WorkflowEngineModel", "tasksIn", "(I)I"⟩, 21) := ⟨⟨by decide +kernel, by decide +kernel⟩, List.mem_of_getElem? (i := 750) (by decide +kernel), List.mem_of_getElem? (i := 921) (by decide +kernel), List.mem_of_getElem? (i := 922) (by decide +kernel)⟩
theorem lw_p63 : lw_okq (⟨"WorkflowEngineModel", "kind", "(II)I"⟩, 21) := ⟨⟨by decide +kernel, by decide +kernel⟩, List.mem_of_getElem? (i := 750) (by decide +kernel), List.mem_of_getElem? (i := 925) (by decide +kernel), List.mem_of_getElem? (i := 926) (by decide +kernel)⟩
def lw_privs_4 : List (MethodName × Nat) := [(⟨"WorkflowEngineModel", "here", "()I"⟩, 21), (⟨"WorkflowEngineModel", "isTooMuch", "()Z"⟩, 21), (⟨"WorkflowEngineModel", "readsTask", "(I)Z"⟩, 21), (⟨"WorkflowEngineModel", "takesCode", "()Z"⟩, 21), (⟨"WorkflowEngineModel", "takes", "(I)Z"⟩, 21), (⟨"WorkflowEngineModel", "takesDigit", "(II)Z"⟩, 21), (⟨"WorkflowEngineModel", "takesNumber", "()Z"⟩, 21), (⟨"WorkflowEngineModel", "readsWait", "(I)Z"⟩, 21), (⟨"WorkflowEngineModel", "readsSignal", "(I)Z"⟩, 21), (⟨"WorkflowEngineModel", "readsSet", "(I)Z"⟩, 21), (⟨"WorkflowEngineModel", "takesSigned", "()Z"⟩, 21), (⟨"WorkflowEngineModel", "readsChoice", "(I)Z"⟩, 21), (⟨"WorkflowEngineModel", "opens", "()V"⟩, 21), (⟨"WorkflowEngineModel", "readsParallel", "(I)Z"⟩, 21), (⟨"WorkflowEngineModel", "tasksIn", "(I)I"⟩, 21), (⟨"WorkflowEngineModel", "kind", "(II)I"⟩, 21)]
theorem lw_r4 : ∀ q ∈ lw_privs_4, lw_okq q := List.forall_mem_cons.mpr ⟨lw_p48, List.forall_mem_cons.mpr ⟨lw_p49, List.forall_mem_cons.mpr ⟨lw_p50, List.forall_mem_cons.mpr ⟨lw_p51, List.forall_mem_cons.mpr ⟨lw_p52, List.forall_mem_cons.mpr ⟨lw_p53, List.forall_mem_cons.mpr ⟨lw_p54, List.forall_mem_cons.mpr ⟨lw_p55, List.forall_mem_cons.mpr ⟨lw_p56, List.forall_mem_cons.mpr ⟨lw_p57, List.forall_mem_cons.mpr ⟨lw_p58, List.forall_mem_cons.mpr ⟨lw_p59, List.forall_mem_cons.mpr ⟨lw_p60, List.forall_mem_cons.mpr ⟨lw_p61, List.forall_mem_cons.mpr ⟨lw_p62, List.forall_mem_cons.mpr ⟨lw_p63, fun _ h => absurd h List.not_mem_nil⟩⟩⟩⟩⟩⟩⟩⟩⟩⟩⟩⟩⟩⟩⟩⟩
theorem lw_p64 : lw_okq (⟨"WorkflowEngineModel", "width", "(II)I"⟩, 21) := ⟨⟨by decide +kernel, by decide +kernel⟩, List.mem_of_getElem? (i := 750) (by decide +kernel), List.mem_of_getElem? (i := 929) (by decide +kernel), List.mem_of_getElem? (i := 930) (by decide +kernel)⟩
theorem lw_p65 : lw_okq (⟨"WorkflowEngineModel", "child", "(II)I"⟩, 21) := ⟨⟨by decide +kernel, by decide +kernel⟩, List.mem_of_getElem? (i := 750) (by decide +kernel), List.mem_of_getElem? (i := 933) (by decide +kernel), List.mem_of_getElem? (i := 934) (by decide +kernel)⟩
theorem lw_p66 : lw_okq (⟨"WorkflowEngineModel", "next", "(II)I"⟩, 21) := ⟨⟨by decide +kernel, by decide +kernel⟩, List.mem_of_getElem? (i := 750) (by decide +kernel), List.mem_of_getElem? (i := 937) (by decide +kernel), List.mem_of_getElem? (i := 938) (by decide +kernel)⟩
theorem lw_p67 : lw_okq (⟨"WorkflowEngineModel", "instances", "()I"⟩, 21) := ⟨⟨by decide +kernel, by decide +kernel⟩, List.mem_of_getElem? (i := 750) (by decide +kernel), List.mem_of_getElem? (i := 956) (by decide +kernel), List.mem_of_getElem? (i := 957) (by decide +kernel)⟩
theorem lw_p68 : lw_okq (⟨"WorkflowEngineModel", "looksAt", "(I)V"⟩, 21) := ⟨⟨by decide +kernel, by decide +kernel⟩, List.mem_of_getElem? (i := 750) (by decide +kernel), List.mem_of_getElem? (i := 966) (by decide +kernel), List.mem_of_getElem? (i := 967) (by decide +kernel)⟩
theorem lw_p69 : lw_okq (⟨"WorkflowEngineModel", "looksAtBody", "(II)I"⟩, 21) := ⟨⟨by decide +kernel, by decide +kernel⟩, List.mem_of_getElem? (i := 750) (by decide +kernel), List.mem_of_getElem? (i := 970) (by decide +kernel), List.mem_of_getElem? (i := 971) (by decide +kernel)⟩
theorem lw_p70 : lw_okq (⟨"WorkflowEngineModel", "nodePart", "(III)I"⟩, 21) := ⟨⟨by decide +kernel, by decide +kernel⟩, List.mem_of_getElem? (i := 750) (by decide +kernel), List.mem_of_getElem? (i := 974) (by decide +kernel), List.mem_of_getElem? (i := 975) (by decide +kernel)⟩
theorem lw_p71 : lw_okq (⟨"WorkflowEngineModel", "versionOf", "(I)I"⟩, 21) := ⟨⟨by decide +kernel, by decide +kernel⟩, List.mem_of_getElem? (i := 750) (by decide +kernel), List.mem_of_getElem? (i := 978) (by decide +kernel), List.mem_of_getElem? (i := 979) (by decide +kernel)⟩
theorem lw_p72 : lw_okq (⟨"WorkflowEngineModel", "begins", "(II)I"⟩, 21) := ⟨⟨by decide +kernel, by decide +kernel⟩, List.mem_of_getElem? (i := 750) (by decide +kernel), List.mem_of_getElem? (i := 982) (by decide +kernel), List.mem_of_getElem? (i := 983) (by decide +kernel)⟩
theorem lw_p73 : lw_okq (⟨"WorkflowEngineModel", "tries", "(II)V"⟩, 21) := ⟨⟨by decide +kernel, by decide +kernel⟩, List.mem_of_getElem? (i := 750) (by decide +kernel), List.mem_of_getElem? (i := 986) (by decide +kernel), List.mem_of_getElem? (i := 987) (by decide +kernel)⟩
theorem lw_p74 : lw_okq (⟨"WorkflowEngineModel", "notes", "(III)V"⟩, 21) := ⟨⟨by decide +kernel, by decide +kernel⟩, List.mem_of_getElem? (i := 750) (by decide +kernel), List.mem_of_getElem? (i := 990) (by decide +kernel), List.mem_of_getElem? (i := 991) (by decide +kernel)⟩
theorem lw_p75 : lw_okq (⟨"WorkflowEngineModel", "looks", "(II)I"⟩, 21) := ⟨⟨by decide +kernel, by decide +kernel⟩, List.mem_of_getElem? (i := 750) (by decide +kernel), List.mem_of_getElem? (i := 994) (by decide +kernel), List.mem_of_getElem? (i := 995) (by decide +kernel)⟩
theorem lw_p76 : lw_okq (⟨"WorkflowEngineModel", "looksAtTask", "(II)I"⟩, 21) := ⟨⟨by decide +kernel, by decide +kernel⟩, List.mem_of_getElem? (i := 750) (by decide +kernel), List.mem_of_getElem? (i := 998) (by decide +kernel), List.mem_of_getElem? (i := 999) (by decide +kernel)⟩
theorem lw_p77 : lw_okq (⟨"WorkflowEngineModel", "fails", "(I)Z"⟩, 21) := ⟨⟨by decide +kernel, by decide +kernel⟩, List.mem_of_getElem? (i := 750) (by decide +kernel), List.mem_of_getElem? (i := 1002) (by decide +kernel), List.mem_of_getElem? (i := 1003) (by decide +kernel)⟩
theorem lw_p78 : lw_okq (⟨"WorkflowEngineModel", "comesTo", "(III)I"⟩, 21) := ⟨⟨by decide +kernel, by decide +kernel⟩, List.mem_of_getElem? (i := 750) (by decide +kernel), List.mem_of_getElem? (i := 1006) (by decide +kernel), List.mem_of_getElem? (i := 1007) (by decide +kernel)⟩
theorem lw_p79 : lw_okq (⟨"WorkflowEngineModel", "looksAtSignal", "(II)I"⟩, 21) := ⟨⟨by decide +kernel, by decide +kernel⟩, List.mem_of_getElem? (i := 750) (by decide +kernel), List.mem_of_getElem? (i := 1010) (by decide +kernel), List.mem_of_getElem? (i := 1011) (by decide +kernel)⟩
def lw_privs_5 : List (MethodName × Nat) := [(⟨"WorkflowEngineModel", "width", "(II)I"⟩, 21), (⟨"WorkflowEngineModel", "child", "(II)I"⟩, 21), (⟨"WorkflowEngineModel", "next", "(II)I"⟩, 21), (⟨"WorkflowEngineModel", "instances", "()I"⟩, 21), (⟨"WorkflowEngineModel", "looksAt", "(I)V"⟩, 21), (⟨"WorkflowEngineModel", "looksAtBody", "(II)I"⟩, 21), (⟨"WorkflowEngineModel", "nodePart", "(III)I"⟩, 21), (⟨"WorkflowEngineModel", "versionOf", "(I)I"⟩, 21), (⟨"WorkflowEngineModel", "begins", "(II)I"⟩, 21), (⟨"WorkflowEngineModel", "tries", "(II)V"⟩, 21), (⟨"WorkflowEngineModel", "notes", "(III)V"⟩, 21), (⟨"WorkflowEngineModel", "looks", "(II)I"⟩, 21), (⟨"WorkflowEngineModel", "looksAtTask", "(II)I"⟩, 21), (⟨"WorkflowEngineModel", "fails", "(I)Z"⟩, 21), (⟨"WorkflowEngineModel", "comesTo", "(III)I"⟩, 21), (⟨"WorkflowEngineModel", "looksAtSignal", "(II)I"⟩, 21)]
theorem lw_r5 : ∀ q ∈ lw_privs_5, lw_okq q := List.forall_mem_cons.mpr ⟨lw_p64, List.forall_mem_cons.mpr ⟨lw_p65, List.forall_mem_cons.mpr ⟨lw_p66, List.forall_mem_cons.mpr ⟨lw_p67, List.forall_mem_cons.mpr ⟨lw_p68, List.forall_mem_cons.mpr ⟨lw_p69, List.forall_mem_cons.mpr ⟨lw_p70, List.forall_mem_cons.mpr ⟨lw_p71, List.forall_mem_cons.mpr ⟨lw_p72, List.forall_mem_cons.mpr ⟨lw_p73, List.forall_mem_cons.mpr ⟨lw_p74, List.forall_mem_cons.mpr ⟨lw_p75, List.forall_mem_cons.mpr ⟨lw_p76, List.forall_mem_cons.mpr ⟨lw_p77, List.forall_mem_cons.mpr ⟨lw_p78, List.forall_mem_cons.mpr ⟨lw_p79, fun _ h => absurd h List.not_mem_nil⟩⟩⟩⟩⟩⟩⟩⟩⟩⟩⟩⟩⟩⟩⟩⟩
theorem lw_p80 : lw_okq (⟨"WorkflowEngineModel", "sets", "(II)I"⟩, 21) := ⟨⟨by decide +kernel, by decide +kernel⟩, List.mem_of_getElem? (i := 750) (by decide +kernel), List.mem_of_getElem? (i := 1014) (by decide +kernel), List.mem_of_getElem? (i := 1015) (by decide +kernel)⟩
theorem lw_p81 : lw_okq (⟨"WorkflowEngineModel", "looksAtParallel", "(II)I"⟩, 21) := ⟨⟨by decide +kernel, by decide +kernel⟩, List.mem_of_getElem? (i := 750) (by decide +kernel), List.mem_of_getElem? (i := 1018) (by decide +kernel), List.mem_of_getElem? (i := 1019) (by decide +kernel)⟩
theorem lw_p82 : lw_okq (⟨"WorkflowEngineModel", "bodiesIn", "(III)I"⟩, 21) := ⟨⟨by decide +kernel, by decide +kernel⟩, List.mem_of_getElem? (i := 750) (by decide +kernel), List.mem_of_getElem? (i := 1022) (by decide +kernel), List.mem_of_getElem? (i := 1023) (by decide +kernel)⟩
theorem lw_p83 : lw_okq (⟨"WorkflowEngineModel", "cancelsBodies", "(II)V"⟩, 21) := ⟨⟨by decide +kernel, by decide +kernel⟩, List.mem_of_getElem? (i := 750) (by decide +kernel), List.mem_of_getElem? (i := 1026) (by decide +kernel), List.mem_of_getElem? (i := 1027) (by decide +kernel)⟩
theorem lw_p84 : lw_okq (⟨"WorkflowEngineModel", "cancels", "(II)V"⟩, 21) := ⟨⟨by decide +kernel, by decide +kernel⟩, List.mem_of_getElem? (i := 750) (by decide +kernel), List.mem_of_getElem? (i := 1030) (by decide +kernel), List.mem_of_getElem? (i := 1031) (by decide +kernel)⟩
theorem lw_p85 : lw_okq (⟨"WorkflowEngineModel", "compensates", "(II)Z"⟩, 21) := ⟨⟨by decide +kernel, by decide +kernel⟩, List.mem_of_getElem? (i := 750) (by decide +kernel), List.mem_of_getElem? (i := 1034) (by decide +kernel), List.mem_of_getElem? (i := 1035) (by decide +kernel)⟩
theorem lw_p86 : lw_okq (⟨"WorkflowEngineModel", "nextToCompensate", "(II)I"⟩, 21) := ⟨⟨by decide +kernel, by decide +kernel⟩, List.mem_of_getElem? (i := 750) (by decide +kernel), List.mem_of_getElem? (i := 1038) (by decide +kernel), List.mem_of_getElem? (i := 1039) (by decide +kernel)⟩
theorem lw_p87 : lw_okq (⟨"WorkflowEngineModel", "isFor", "(III)Z"⟩, 21) := ⟨⟨by decide +kernel, by decide +kernel⟩, List.mem_of_getElem? (i := 750) (by decide +kernel), List.mem_of_getElem? (i := 1042) (by decide +kernel), List.mem_of_getElem? (i := 1043) (by decide +kernel)⟩
theorem lw_p88 : lw_okq (⟨"WorkflowEngineModel", "triesToCompensate", "(II)V"⟩, 21) := ⟨⟨by decide +kernel, by decide +kernel⟩, List.mem_of_getElem? (i := 750) (by decide +kernel), List.mem_of_getElem? (i := 1046) (by decide +kernel), List.mem_of_getElem? (i := 1047) (by decide +kernel)⟩
theorem lw_p89 : lw_okq (⟨"WorkflowEngineModel", "handles", "(IIII)V"⟩, 21) := ⟨⟨by decide +kernel, by decide +kernel⟩, List.mem_of_getElem? (i := 750) (by decide +kernel), List.mem_of_getElem? (i := 1050) (by decide +kernel), List.mem_of_getElem? (i := 1051) (by decide +kernel)⟩
theorem lw_p90 : lw_okq (⟨"WorkflowEngineModel", "becomes", "(II)V"⟩, 21) := ⟨⟨by decide +kernel, by decide +kernel⟩, List.mem_of_getElem? (i := 750) (by decide +kernel), List.mem_of_getElem? (i := 1054) (by decide +kernel), List.mem_of_getElem? (i := 1055) (by decide +kernel)⟩
theorem lw_p91 : lw_okq (⟨"WorkflowEngineModel", "isInstance", "(I)Z"⟩, 21) := ⟨⟨by decide +kernel, by decide +kernel⟩, List.mem_of_getElem? (i := 750) (by decide +kernel), List.mem_of_getElem? (i := 1062) (by decide +kernel), List.mem_of_getElem? (i := 1063) (by decide +kernel)⟩
theorem lw_p92 : lw_okq (⟨"WorkflowEngineModel", "passes", "()V"⟩, 21) := ⟨⟨by decide +kernel, by decide +kernel⟩, List.mem_of_getElem? (i := 750) (by decide +kernel), List.mem_of_getElem? (i := 1079) (by decide +kernel), List.mem_of_getElem? (i := 1080) (by decide +kernel)⟩
theorem lw_p93 : lw_okq (⟨"WorkflowEngineModel", "keptEntries", "(I)I"⟩, 21) := ⟨⟨by decide +kernel, by decide +kernel⟩, List.mem_of_getElem? (i := 750) (by decide +kernel), List.mem_of_getElem? (i := 1091) (by decide +kernel), List.mem_of_getElem? (i := 1092) (by decide +kernel)⟩
theorem lw_p94 : lw_okq (⟨"WorkflowEngineModel", "runs", "(II)Z"⟩, 21) := ⟨⟨by decide +kernel, by decide +kernel⟩, List.mem_of_getElem? (i := 750) (by decide +kernel), List.mem_of_getElem? (i := 1100) (by decide +kernel), List.mem_of_getElem? (i := 1101) (by decide +kernel)⟩
theorem lw_p95 : lw_okq (⟨"WorkflowEngineModel", "dueAt", "(II)I"⟩, 21) := ⟨⟨by decide +kernel, by decide +kernel⟩, List.mem_of_getElem? (i := 750) (by decide +kernel), List.mem_of_getElem? (i := 1108) (by decide +kernel), List.mem_of_getElem? (i := 1109) (by decide +kernel)⟩
def lw_privs_6 : List (MethodName × Nat) := [(⟨"WorkflowEngineModel", "sets", "(II)I"⟩, 21), (⟨"WorkflowEngineModel", "looksAtParallel", "(II)I"⟩, 21), (⟨"WorkflowEngineModel", "bodiesIn", "(III)I"⟩, 21), (⟨"WorkflowEngineModel", "cancelsBodies", "(II)V"⟩, 21), (⟨"WorkflowEngineModel", "cancels", "(II)V"⟩, 21), (⟨"WorkflowEngineModel", "compensates", "(II)Z"⟩, 21), (⟨"WorkflowEngineModel", "nextToCompensate", "(II)I"⟩, 21), (⟨"WorkflowEngineModel", "isFor", "(III)Z"⟩, 21), (⟨"WorkflowEngineModel", "triesToCompensate", "(II)V"⟩, 21), (⟨"WorkflowEngineModel", "handles", "(IIII)V"⟩, 21), (⟨"WorkflowEngineModel", "becomes", "(II)V"⟩, 21), (⟨"WorkflowEngineModel", "isInstance", "(I)Z"⟩, 21), (⟨"WorkflowEngineModel", "passes", "()V"⟩, 21), (⟨"WorkflowEngineModel", "keptEntries", "(I)I"⟩, 21), (⟨"WorkflowEngineModel", "runs", "(II)Z"⟩, 21), (⟨"WorkflowEngineModel", "dueAt", "(II)I"⟩, 21)]
theorem lw_r6 : ∀ q ∈ lw_privs_6, lw_okq q := List.forall_mem_cons.mpr ⟨lw_p80, List.forall_mem_cons.mpr ⟨lw_p81, List.forall_mem_cons.mpr ⟨lw_p82, List.forall_mem_cons.mpr ⟨lw_p83, List.forall_mem_cons.mpr ⟨lw_p84, List.forall_mem_cons.mpr ⟨lw_p85, List.forall_mem_cons.mpr ⟨lw_p86, List.forall_mem_cons.mpr ⟨lw_p87, List.forall_mem_cons.mpr ⟨lw_p88, List.forall_mem_cons.mpr ⟨lw_p89, List.forall_mem_cons.mpr ⟨lw_p90, List.forall_mem_cons.mpr ⟨lw_p91, List.forall_mem_cons.mpr ⟨lw_p92, List.forall_mem_cons.mpr ⟨lw_p93, List.forall_mem_cons.mpr ⟨lw_p94, List.forall_mem_cons.mpr ⟨lw_p95, fun _ h => absurd h List.not_mem_nil⟩⟩⟩⟩⟩⟩⟩⟩⟩⟩⟩⟩⟩⟩⟩⟩
theorem lw_p96 : lw_okq (⟨"WorkflowEngineModel", "entriesOf", "(II)I"⟩, 21) := ⟨⟨by decide +kernel, by decide +kernel⟩, List.mem_of_getElem? (i := 750) (by decide +kernel), List.mem_of_getElem? (i := 1123) (by decide +kernel), List.mem_of_getElem? (i := 1124) (by decide +kernel)⟩
theorem lw_p97 : lw_okq (⟨"WorkflowEngineModel", "instancesOf", "(II)I"⟩, 21) := ⟨⟨by decide +kernel, by decide +kernel⟩, List.mem_of_getElem? (i := 750) (by decide +kernel), List.mem_of_getElem? (i := 1131) (by decide +kernel), List.mem_of_getElem? (i := 1132) (by decide +kernel)⟩
theorem lw_p98 : lw_okq (⟨"WorkflowEngineModel", "withStatus", "(I)I"⟩, 21) := ⟨⟨by decide +kernel, by decide +kernel⟩, List.mem_of_getElem? (i := 750) (by decide +kernel), List.mem_of_getElem? (i := 1157) (by decide +kernel), List.mem_of_getElem? (i := 1158) (by decide +kernel)⟩
theorem lw_p99 : lw_okq (⟨"WorkflowEngineModel", "versions", "()I"⟩, 21) := ⟨⟨by decide +kernel, by decide +kernel⟩, List.mem_of_getElem? (i := 750) (by decide +kernel), List.mem_of_getElem? (i := 1161) (by decide +kernel), List.mem_of_getElem? (i := 1162) (by decide +kernel)⟩
def lw_privs_7 : List (MethodName × Nat) := [(⟨"WorkflowEngineModel", "entriesOf", "(II)I"⟩, 21), (⟨"WorkflowEngineModel", "instancesOf", "(II)I"⟩, 21), (⟨"WorkflowEngineModel", "withStatus", "(I)I"⟩, 21), (⟨"WorkflowEngineModel", "versions", "()I"⟩, 21)]
theorem lw_r7 : ∀ q ∈ lw_privs_7, lw_okq q := List.forall_mem_cons.mpr ⟨lw_p96, List.forall_mem_cons.mpr ⟨lw_p97, List.forall_mem_cons.mpr ⟨lw_p98, List.forall_mem_cons.mpr ⟨lw_p99, fun _ h => absurd h List.not_mem_nil⟩⟩⟩⟩
def lw_privs : List (MethodName × Nat) := lw_privs_1 ++ (lw_privs_2 ++ (lw_privs_3 ++ (lw_privs_4 ++ (lw_privs_5 ++ (lw_privs_6 ++ (lw_privs_7))))))
def lw_tbl : List Cond := k2_sels lw_privs ++ tables_1
theorem lw_privs_ok : ∀ q ∈ lw_privs, lw_okq q := by
  show ∀ q ∈ lw_privs_1 ++ (lw_privs_2 ++ (lw_privs_3 ++ (lw_privs_4 ++ (lw_privs_5 ++ (lw_privs_6 ++ (lw_privs_7)))))), lw_okq q
  exact List.forall_mem_append.mpr ⟨lw_r1, List.forall_mem_append.mpr ⟨lw_r2, List.forall_mem_append.mpr ⟨lw_r3, List.forall_mem_append.mpr ⟨lw_r4, List.forall_mem_append.mpr ⟨lw_r5, List.forall_mem_append.mpr ⟨lw_r6, lw_r7⟩⟩⟩⟩⟩⟩
/-- the streams that the claim lets the run draw from -/
abbrev lw_cs : List Choice := [Jvm.Choice.named "NaN.bits"]
theorem lw_bits : nanBits ∈ lw_cs := by first | decide | exact List.mem_cons_self | simp [lw_cs, nanBits]
-- ===== end of PART A; then your names; then what follows =====
def RX0 : String := "WorkflowEngine$Environment"
def TX0 : u_T := fun k => match k with
  | 0 => ("WorkflowEngine$Environment", "durations", "[I", true)
  | 1 => ("WorkflowEngine$Environment", "failing", "[I", true)
  | _ => ("WorkflowEngine$Environment", "minute", "I", false)
def tyX0 : Nat → FieldType := fun k => match k with
  | 0 => .array .int
  | 1 => .array .int
  | _ => .int
abbrev wsX00 : List Cond := u_ws RX0 TX0 3
theorem nmX0 : ∀ a, a < 3 → ∀ b, b < 3 → a ≠ b → (TX0 a).2.1 ≠ (TX0 b).2.1 := by decide +kernel
theorem tyX0_ok : ∀ k, k < 3 → parseFieldDescriptor (TX0 k).2.2.1 = some (tyX0 k) := by decide +kernel
abbrev cX0_init : ByteArray := prog_2_method_1_code
def yX0_init : MethodName := ⟨RX0, "<init>", "()V"⟩
abbrev cX0_copy : ByteArray := prog_2_method_2_code
def yX0_copy : MethodName := ⟨RX0, "copy", "(LWorkflowEngine$Environment;)V"⟩
abbrev cX0_endOfAttempt : ByteArray := prog_2_method_3_code
def yX0_endOfAttempt : MethodName := ⟨RX0, "endOfAttempt", "(I)I"⟩
abbrev cX0_succeeds : ByteArray := prog_2_method_4_code
def yX0_succeeds : MethodName := ⟨RX0, "succeeds", "(I)Z"⟩
def RX1 : String := "WorkflowEngine$History"
def TX1 : u_T := fun k => match k with
  | 0 => ("WorkflowEngine$History", "environment", "LWorkflowEngine$Environment;", true)
  | 1 => ("WorkflowEngine$History", "rows", "[I", true)
  | _ => ("WorkflowEngine$History", "entries", "I", false)
def tyX1 : Nat → FieldType := fun k => match k with
  | 0 => .object "WorkflowEngine$Environment"
  | 1 => .array .int
  | _ => .int
abbrev wsX10 : List Cond := u_ws RX1 TX1 3
theorem nmX1 : ∀ a, a < 3 → ∀ b, b < 3 → a ≠ b → (TX1 a).2.1 ≠ (TX1 b).2.1 := by decide +kernel
theorem tyX1_ok : ∀ k, k < 3 → parseFieldDescriptor (TX1 k).2.2.1 = some (tyX1 k) := by decide +kernel
abbrev cX1_init : ByteArray := prog_3_method_1_code
def yX1_init : MethodName := ⟨RX1, "<init>", "(LWorkflowEngine$Environment;I)V"⟩
abbrev cX1_copy : ByteArray := prog_3_method_2_code
def yX1_copy : MethodName := ⟨RX1, "copy", "(LWorkflowEngine$History;)V"⟩
abbrev cX1_add : ByteArray := prog_3_method_3_code
def yX1_add : MethodName := ⟨RX1, "add", "(II)V"⟩
abbrev cX1_kept : ByteArray := prog_3_method_4_code
def yX1_kept : MethodName := ⟨RX1, "kept", "()I"⟩
abbrev cX1_minuteOf : ByteArray := prog_3_method_5_code
def yX1_minuteOf : MethodName := ⟨RX1, "minuteOf", "(I)I"⟩
abbrev cX1_kindOf : ByteArray := prog_3_method_6_code
def yX1_kindOf : MethodName := ⟨RX1, "kindOf", "(I)I"⟩
abbrev cX1_valueOf : ByteArray := prog_3_method_7_code
def yX1_valueOf : MethodName := ⟨RX1, "valueOf", "(I)I"⟩
abbrev cX1_entriesOf : ByteArray := prog_3_method_8_code
def yX1_entriesOf : MethodName := ⟨RX1, "entriesOf", "(I)I"⟩
abbrev cX1_attempts : ByteArray := prog_3_method_9_code
def yX1_attempts : MethodName := ⟨RX1, "attempts", "()I"⟩
abbrev cX1_lastStatus : ByteArray := prog_3_method_10_code
def yX1_lastStatus : MethodName := ⟨RX1, "lastStatus", "()I"⟩
def RX2 : String := "WorkflowEngine$Instance"
def TX2 : u_T := fun k => match k with
  | 0 => ("WorkflowEngine$Instance", "environment", "LWorkflowEngine$Environment;", true)
  | 1 => ("WorkflowEngine$Instance", "history", "LWorkflowEngine$History;", true)
  | 2 => ("WorkflowEngine$Instance", "plan", "LWorkflowEngine$Version;", false)
  | 3 => ("WorkflowEngine$Instance", "status", "I", false)
  | 4 => ("WorkflowEngine$Instance", "started", "I", false)
  | 5 => ("WorkflowEngine$Instance", "ended", "I", false)
  | 6 => ("WorkflowEngine$Instance", "done", "I", false)
  | 7 => ("WorkflowEngine$Instance", "reversed", "I", false)
  | 8 => ("WorkflowEngine$Instance", "stuck", "I", false)
  | 9 => ("WorkflowEngine$Instance", "variables", "[I", true)
  | 10 => ("WorkflowEngine$Instance", "pending", "[I", true)
  | 11 => ("WorkflowEngine$Instance", "state", "[I", true)
  | 12 => ("WorkflowEngine$Instance", "bodyState", "[I", true)
  | 13 => ("WorkflowEngine$Instance", "bodyItem", "[I", true)
  | 14 => ("WorkflowEngine$Instance", "order", "[I", true)
  | 15 => ("WorkflowEngine$Instance", "until", "[I", true)
  | 16 => ("WorkflowEngine$Instance", "attempts", "[I", true)
  | _ => ("WorkflowEngine$Instance", "reversing", "[I", true)
def tyX2 : Nat → FieldType := fun k => match k with
  | 0 => .object "WorkflowEngine$Environment"
  | 1 => .object "WorkflowEngine$History"
  | 2 => .object "WorkflowEngine$Version"
  | 3 => .int
  | 4 => .int
  | 5 => .int
  | 6 => .int
  | 7 => .int
  | 8 => .int
  | 9 => .array .int
  | 10 => .array .int
  | 11 => .array .int
  | 12 => .array .int
  | 13 => .array .int
  | 14 => .array .int
  | 15 => .array .int
  | 16 => .array .int
  | _ => .array .int
abbrev wsX20 : List Cond := u_ws RX2 TX2 18
theorem nmX2 : ∀ a, a < 18 → ∀ b, b < 18 → a ≠ b → (TX2 a).2.1 ≠ (TX2 b).2.1 := by decide +kernel
theorem tyX2_ok : ∀ k, k < 18 → parseFieldDescriptor (TX2 k).2.2.1 = some (tyX2 k) := by decide +kernel
abbrev cX2_init : ByteArray := prog_4_method_1_code
def yX2_init : MethodName := ⟨RX2, "<init>", "(LWorkflowEngine$Environment;LWorkflowEngine$Version;I)V"⟩
abbrev cX2_copy : ByteArray := prog_4_method_2_code
def yX2_copy : MethodName := ⟨RX2, "copy", "(LWorkflowEngine$Instance;)V"⟩
abbrev cX2_begin : ByteArray := prog_4_method_3_code
def yX2_begin : MethodName := ⟨RX2, "begin", "(LWorkflowEngine$Version;)V"⟩
abbrev cX2_look : ByteArray := prog_4_method_4_code
def yX2_look : MethodName := ⟨RX2, "look", "()V"⟩
abbrev cX2_giveUp : ByteArray := prog_4_method_5_code
def yX2_giveUp : MethodName := ⟨RX2, "giveUp", "()V"⟩
abbrev cX2_become : ByteArray := prog_4_method_6_code
def yX2_become : MethodName := ⟨RX2, "become", "(I)V"⟩
abbrev cX2_hasEnded : ByteArray := prog_4_method_7_code
def yX2_hasEnded : MethodName := ⟨RX2, "hasEnded", "()Z"⟩
abbrev cX2_beginBody : ByteArray := prog_4_method_8_code
def yX2_beginBody : MethodName := ⟨RX2, "beginBody", "(II)V"⟩
abbrev cX2_goOn : ByteArray := prog_4_method_9_code
def yX2_goOn : MethodName := ⟨RX2, "goOn", "(II)V"⟩
abbrev cX2_beginItem : ByteArray := prog_4_method_10_code
def yX2_beginItem : MethodName := ⟨RX2, "beginItem", "(II)V"⟩
abbrev cX2_beginSignal : ByteArray := prog_4_method_11_code
def yX2_beginSignal : MethodName := ⟨RX2, "beginSignal", "(I)V"⟩
abbrev cX2_beginBodies : ByteArray := prog_4_method_12_code
def yX2_beginBodies : MethodName := ⟨RX2, "beginBodies", "(II)V"⟩
abbrev cX2_beginAttempt : ByteArray := prog_4_method_13_code
def yX2_beginAttempt : MethodName := ⟨RX2, "beginAttempt", "(I)V"⟩
abbrev cX2_lookAt : ByteArray := prog_4_method_14_code
def yX2_lookAt : MethodName := ⟨RX2, "lookAt", "(II)V"⟩
abbrev cX2_lookAtTask : ByteArray := prog_4_method_15_code
def yX2_lookAtTask : MethodName := ⟨RX2, "lookAtTask", "(I)V"⟩
abbrev cX2_endAttempt : ByteArray := prog_4_method_16_code
def yX2_endAttempt : MethodName := ⟨RX2, "endAttempt", "(I)V"⟩
abbrev cX2_lookAtWait : ByteArray := prog_4_method_17_code
def yX2_lookAtWait : MethodName := ⟨RX2, "lookAtWait", "(I)V"⟩
abbrev cX2_lookAtSignal : ByteArray := prog_4_method_18_code
def yX2_lookAtSignal : MethodName := ⟨RX2, "lookAtSignal", "(I)V"⟩
abbrev cX2_changeVariable : ByteArray := prog_4_method_19_code
def yX2_changeVariable : MethodName := ⟨RX2, "changeVariable", "(I)V"⟩
abbrev cX2_chosenBody : ByteArray := prog_4_method_20_code
def yX2_chosenBody : MethodName := ⟨RX2, "chosenBody", "(I)I"⟩
abbrev cX2_lookAtChoice : ByteArray := prog_4_method_21_code
def yX2_lookAtChoice : MethodName := ⟨RX2, "lookAtChoice", "(II)V"⟩
abbrev cX2_lookAtParallel : ByteArray := prog_4_method_22_code
def yX2_lookAtParallel : MethodName := ⟨RX2, "lookAtParallel", "(II)V"⟩
abbrev cX2_join : ByteArray := prog_4_method_23_code
def yX2_join : MethodName := ⟨RX2, "join", "(I)V"⟩
abbrev cX2_bodiesWith : ByteArray := prog_4_method_24_code
def yX2_bodiesWith : MethodName := ⟨RX2, "bodiesWith", "(II)I"⟩
abbrev cX2_cancelBodies : ByteArray := prog_4_method_25_code
def yX2_cancelBodies : MethodName := ⟨RX2, "cancelBodies", "(I)V"⟩
abbrev cX2_cancel : ByteArray := prog_4_method_26_code
def yX2_cancel : MethodName := ⟨RX2, "cancel", "(II)V"⟩
abbrev cX2_goesOn : ByteArray := prog_4_method_27_code
def yX2_goesOn : MethodName := ⟨RX2, "goesOn", "(I)Z"⟩
abbrev cX2_reversesAll : ByteArray := prog_4_method_28_code
def yX2_reversesAll : MethodName := ⟨RX2, "reversesAll", "(I)Z"⟩
abbrev cX2_endReversal : ByteArray := prog_4_method_29_code
def yX2_endReversal : MethodName := ⟨RX2, "endReversal", "(II)V"⟩
abbrev cX2_lastToReverse : ByteArray := prog_4_method_30_code
def yX2_lastToReverse : MethodName := ⟨RX2, "lastToReverse", "(I)I"⟩
abbrev cX2_isReversible : ByteArray := prog_4_method_31_code
def yX2_isReversible : MethodName := ⟨RX2, "isReversible", "(I)Z"⟩
abbrev cX2_concerns : ByteArray := prog_4_method_32_code
def yX2_concerns : MethodName := ⟨RX2, "concerns", "(II)Z"⟩
abbrev cX2_runningItems : ByteArray := prog_4_method_33_code
def yX2_runningItems : MethodName := ⟨RX2, "runningItems", "()I"⟩
abbrev cX2_placeOfRunning : ByteArray := prog_4_method_34_code
def yX2_placeOfRunning : MethodName := ⟨RX2, "placeOfRunning", "(I)I"⟩
abbrev cX2_isRunning : ByteArray := prog_4_method_35_code
def yX2_isRunning : MethodName := ⟨RX2, "isRunning", "(I)Z"⟩
abbrev cX2_nextMinute : ByteArray := prog_4_method_36_code
def yX2_nextMinute : MethodName := ⟨RX2, "nextMinute", "()I"⟩
def RX3 : String := "WorkflowEngine$Reader"
def TX3 : u_T := fun k => match k with
  | 0 => ("WorkflowEngine$Reader", "widths", "[I", true)
  | 1 => ("WorkflowEngine$Reader", "text", "[I", false)
  | 2 => ("WorkflowEngine$Reader", "length", "I", false)
  | 3 => ("WorkflowEngine$Reader", "target", "LWorkflowEngine$Version;", false)
  | 4 => ("WorkflowEngine$Reader", "reason", "I", false)
  | _ => ("WorkflowEngine$Reader", "at", "I", false)
def tyX3 : Nat → FieldType := fun k => match k with
  | 0 => .array .int
  | 1 => .array .int
  | 2 => .int
  | 3 => .object "WorkflowEngine$Version"
  | 4 => .int
  | _ => .int
abbrev wsX30 : List Cond := u_ws RX3 TX3 6
theorem nmX3 : ∀ a, a < 6 → ∀ b, b < 6 → a ≠ b → (TX3 a).2.1 ≠ (TX3 b).2.1 := by decide +kernel
theorem tyX3_ok : ∀ k, k < 6 → parseFieldDescriptor (TX3 k).2.2.1 = some (tyX3 k) := by decide +kernel
abbrev cX3_init : ByteArray := prog_5_method_1_code
def yX3_init : MethodName := ⟨RX3, "<init>", "()V"⟩
abbrev cX3_read : ByteArray := prog_5_method_2_code
def yX3_read : MethodName := ⟨RX3, "read", "([IILWorkflowEngine$Version;)I"⟩
abbrev cX3_readBody : ByteArray := prog_5_method_3_code
def yX3_readBody : MethodName := ⟨RX3, "readBody", "(I)I"⟩
abbrev cX3_readItem : ByteArray := prog_5_method_4_code
def yX3_readItem : MethodName := ⟨RX3, "readItem", "(I)I"⟩
abbrev cX3_readTask : ByteArray := prog_5_method_5_code
def yX3_readTask : MethodName := ⟨RX3, "readTask", "(I)V"⟩
abbrev cX3_readSignal : ByteArray := prog_5_method_6_code
def yX3_readSignal : MethodName := ⟨RX3, "readSignal", "(I)V"⟩
abbrev cX3_readSet : ByteArray := prog_5_method_7_code
def yX3_readSet : MethodName := ⟨RX3, "readSet", "(I)V"⟩
abbrev cX3_readChoice : ByteArray := prog_5_method_8_code
def yX3_readChoice : MethodName := ⟨RX3, "readChoice", "(II)V"⟩
abbrev cX3_readParallel : ByteArray := prog_5_method_9_code
def yX3_readParallel : MethodName := ⟨RX3, "readParallel", "(II)V"⟩
abbrev cX3_readBodyOf : ByteArray := prog_5_method_10_code
def yX3_readBodyOf : MethodName := ⟨RX3, "readBodyOf", "(III)I"⟩
abbrev cX3_readCode : ByteArray := prog_5_method_11_code
def yX3_readCode : MethodName := ⟨RX3, "readCode", "()I"⟩
abbrev cX3_readVariable : ByteArray := prog_5_method_12_code
def yX3_readVariable : MethodName := ⟨RX3, "readVariable", "()I"⟩
abbrev cX3_readNumber : ByteArray := prog_5_method_13_code
def yX3_readNumber : MethodName := ⟨RX3, "readNumber", "()I"⟩
abbrev cX3_readBetween : ByteArray := prog_5_method_14_code
def yX3_readBetween : MethodName := ⟨RX3, "readBetween", "(II)I"⟩
abbrev cX3_expect : ByteArray := prog_5_method_15_code
def yX3_expect : MethodName := ⟨RX3, "expect", "(I)V"⟩
abbrev cX3_takes : ByteArray := prog_5_method_16_code
def yX3_takes : MethodName := ⟨RX3, "takes", "(I)Z"⟩
abbrev cX3_fail : ByteArray := prog_5_method_17_code
def yX3_fail : MethodName := ⟨RX3, "fail", "(I)V"⟩
abbrev cX3_sign : ByteArray := prog_5_method_18_code
def yX3_sign : MethodName := ⟨RX3, "sign", "()I"⟩
abbrev cX3_isDigit : ByteArray := prog_5_method_19_code
def yX3_isDigit : MethodName := ⟨RX3, "isDigit", "(I)Z"⟩
abbrev cX3_kindOf : ByteArray := prog_5_method_20_code
def yX3_kindOf : MethodName := ⟨RX3, "kindOf", "(I)I"⟩
def RX4 : String := "WorkflowEngine$Version"
def TX4 : u_T := fun k => match k with
  | 0 => ("WorkflowEngine$Version", "workflow", "I", true)
  | 1 => ("WorkflowEngine$Version", "number", "I", true)
  | 2 => ("WorkflowEngine$Version", "kind", "[I", true)
  | 3 => ("WorkflowEngine$Version", "place", "[I", true)
  | 4 => ("WorkflowEngine$Version", "code", "[I", true)
  | 5 => ("WorkflowEngine$Version", "amount", "[I", true)
  | 6 => ("WorkflowEngine$Version", "digit", "[I", true)
  | 7 => ("WorkflowEngine$Version", "reversal", "[I", true)
  | 8 => ("WorkflowEngine$Version", "next", "[I", true)
  | 9 => ("WorkflowEngine$Version", "end", "[I", true)
  | 10 => ("WorkflowEngine$Version", "bodies", "[I", true)
  | 11 => ("WorkflowEngine$Version", "items", "I", false)
  | 12 => ("WorkflowEngine$Version", "tasks", "I", false)
  | 13 => ("WorkflowEngine$Version", "depth", "I", false)
  | 14 => ("WorkflowEngine$Version", "length", "I", false)
  | _ => ("WorkflowEngine$Version", "width", "I", false)
def tyX4 : Nat → FieldType := fun k => match k with
  | 0 => .int
  | 1 => .int
  | 2 => .array .int
  | 3 => .array .int
  | 4 => .array .int
  | 5 => .array .int
  | 6 => .array .int
  | 7 => .array .int
  | 8 => .array .int
  | 9 => .array .int
  | 10 => .array .int
  | 11 => .int
  | 12 => .int
  | 13 => .int
  | 14 => .int
  | _ => .int
abbrev wsX40 : List Cond := u_ws RX4 TX4 16
theorem nmX4 : ∀ a, a < 16 → ∀ b, b < 16 → a ≠ b → (TX4 a).2.1 ≠ (TX4 b).2.1 := by decide +kernel
theorem tyX4_ok : ∀ k, k < 16 → parseFieldDescriptor (TX4 k).2.2.1 = some (tyX4 k) := by decide +kernel
abbrev cX4_init : ByteArray := prog_6_method_1_code
def yX4_init : MethodName := ⟨RX4, "<init>", "(II)V"⟩
abbrev cX4_clear : ByteArray := prog_6_method_2_code
def yX4_clear : MethodName := ⟨RX4, "clear", "(I)V"⟩
abbrev cX4_add : ByteArray := prog_6_method_3_code
def yX4_add : MethodName := ⟨RX4, "add", "(II)I"⟩
abbrev cX4_body : ByteArray := prog_6_method_4_code
def yX4_body : MethodName := ⟨RX4, "body", "(II)I"⟩
def RX5 : String := "WorkflowEngine$World"
def TX5 : u_T := fun k => match k with
  | 0 => ("WorkflowEngine$World", "environment", "LWorkflowEngine$Environment;", true)
  | 1 => ("WorkflowEngine$World", "instances", "[LWorkflowEngine$Instance;", true)
  | 2 => ("WorkflowEngine$World", "defined", "[I", true)
  | 3 => ("WorkflowEngine$World", "reason", "I", false)
  | _ => ("WorkflowEngine$World", "wrongAt", "I", false)
def tyX5 : Nat → FieldType := fun k => match k with
  | 0 => .object "WorkflowEngine$Environment"
  | 1 => .array (.object "WorkflowEngine$Instance")
  | 2 => .array .int
  | 3 => .int
  | _ => .int
abbrev wsX50 : List Cond := u_ws RX5 TX5 5
theorem nmX5 : ∀ a, a < 5 → ∀ b, b < 5 → a ≠ b → (TX5 a).2.1 ≠ (TX5 b).2.1 := by decide +kernel
theorem tyX5_ok : ∀ k, k < 5 → parseFieldDescriptor (TX5 k).2.2.1 = some (tyX5 k) := by decide +kernel
abbrev cX5_init : ByteArray := prog_7_method_1_code
def yX5_init : MethodName := ⟨RX5, "<init>", "(LWorkflowEngine$Environment;LWorkflowEngine$Version;I)V"⟩
abbrev cX5_copy : ByteArray := prog_7_method_2_code
def yX5_copy : MethodName := ⟨RX5, "copy", "(LWorkflowEngine$World;)V"⟩
abbrev cX5_letPass : ByteArray := prog_7_method_3_code
def yX5_letPass : MethodName := ⟨RX5, "letPass", "(I)V"⟩
abbrev cX5_lowestFree : ByteArray := prog_7_method_4_code
def yX5_lowestFree : MethodName := ⟨RX5, "lowestFree", "()I"⟩
abbrev cX5_allDefined : ByteArray := prog_7_method_5_code
def yX5_allDefined : MethodName := ⟨RX5, "allDefined", "()I"⟩
abbrev cX5_instancesOf : ByteArray := prog_7_method_6_code
def yX5_instancesOf : MethodName := ⟨RX5, "instancesOf", "(II)I"⟩
abbrev cX5_instancesWith : ByteArray := prog_7_method_7_code
def yX5_instancesWith : MethodName := ⟨RX5, "instancesWith", "(I)I"⟩
abbrev cX5_startedOf : ByteArray := prog_7_method_8_code
def yX5_startedOf : MethodName := ⟨RX5, "startedOf", "(I)I"⟩
abbrev cX5_started : ByteArray := prog_7_method_9_code
def yX5_started : MethodName := ⟨RX5, "started", "()I"⟩
abbrev cX5_endedOf : ByteArray := prog_7_method_10_code
def yX5_endedOf : MethodName := ⟨RX5, "endedOf", "(I)I"⟩
abbrev cX5_minutesOf : ByteArray := prog_7_method_11_code
def yX5_minutesOf : MethodName := ⟨RX5, "minutesOf", "(I)I"⟩
def RX6 : String := "WorkflowEngine"
def TX6 : u_T := fun k => match k with
  | 0 => ("WorkflowEngine", "tape", "[I", true)
  | 1 => ("WorkflowEngine", "reader", "LWorkflowEngine$Reader;", true)
  | 2 => ("WorkflowEngine", "versions", "[LWorkflowEngine$Version;", true)
  | 3 => ("WorkflowEngine", "present", "LWorkflowEngine$World;", true)
  | 4 => ("WorkflowEngine", "saved", "LWorkflowEngine$World;", true)
  | 5 => ("WorkflowEngine", "forecast", "LWorkflowEngine$World;", true)
  | 6 => ("WorkflowEngine", "fed", "I", false)
  | _ => ("WorkflowEngine", "hasSaved", "Z", false)
def tyX6 : Nat → FieldType := fun k => match k with
  | 0 => .array .int
  | 1 => .object "WorkflowEngine$Reader"
  | 2 => .array (.object "WorkflowEngine$Version")
  | 3 => .object "WorkflowEngine$World"
  | 4 => .object "WorkflowEngine$World"
  | 5 => .object "WorkflowEngine$World"
  | 6 => .int
  | _ => .boolean
abbrev wsX60 : List Cond := u_ws RX6 TX6 8
theorem nmX6 : ∀ a, a < 8 → ∀ b, b < 8 → a ≠ b → (TX6 a).2.1 ≠ (TX6 b).2.1 := by decide +kernel
theorem tyX6_ok : ∀ k, k < 8 → parseFieldDescriptor (TX6 k).2.2.1 = some (tyX6 k) := by decide +kernel
abbrev cX6_init : ByteArray := prog_1_method_1_code
def yX6_init : MethodName := ⟨RX6, "<init>", "()V"⟩
abbrev cX6_feed : ByteArray := prog_1_method_2_code
def yX6_feed : MethodName := ⟨RX6, "feed", "(I)I"⟩
abbrev cX6_define : ByteArray := prog_1_method_3_code
def yX6_define : MethodName := ⟨RX6, "define", "(I)I"⟩
abbrev cX6_wrong : ByteArray := prog_1_method_4_code
def yX6_wrong : MethodName := ⟨RX6, "wrong", "(I)I"⟩
abbrev cX6_version : ByteArray := prog_1_method_5_code
def yX6_version : MethodName := ⟨RX6, "version", "(III)I"⟩
abbrev cX6_duration : ByteArray := prog_1_method_6_code
def yX6_duration : MethodName := ⟨RX6, "duration", "(II)I"⟩
abbrev cX6_failures : ByteArray := prog_1_method_7_code
def yX6_failures : MethodName := ⟨RX6, "failures", "(II)I"⟩
abbrev cX6_start : ByteArray := prog_1_method_8_code
def yX6_start : MethodName := ⟨RX6, "start", "(I)I"⟩
abbrev cX6_signal : ByteArray := prog_1_method_9_code
def yX6_signal : MethodName := ⟨RX6, "signal", "(II)I"⟩
abbrev cX6_abort : ByteArray := prog_1_method_10_code
def yX6_abort : MethodName := ⟨RX6, "abort", "(I)I"⟩
abbrev cX6_remove : ByteArray := prog_1_method_11_code
def yX6_remove : MethodName := ⟨RX6, "remove", "(I)I"⟩
abbrev cX6_pass : ByteArray := prog_1_method_12_code
def yX6_pass : MethodName := ⟨RX6, "pass", "(I)I"⟩
abbrev cX6_instance : ByteArray := prog_1_method_13_code
def yX6_instance : MethodName := ⟨RX6, "instance", "(II)I"⟩
abbrev cX6_entry : ByteArray := prog_1_method_14_code
def yX6_entry : MethodName := ⟨RX6, "entry", "(III)I"⟩
abbrev cX6_running : ByteArray := prog_1_method_15_code
def yX6_running : MethodName := ⟨RX6, "running", "(II)I"⟩
abbrev cX6_due : ByteArray := prog_1_method_16_code
def yX6_due : MethodName := ⟨RX6, "due", "(I)I"⟩
abbrev cX6_ahead : ByteArray := prog_1_method_17_code
def yX6_ahead : MethodName := ⟨RX6, "ahead", "(II)I"⟩
abbrev cX6_replayed : ByteArray := prog_1_method_18_code
def yX6_replayed : MethodName := ⟨RX6, "replayed", "(II)I"⟩
abbrev cX6_statistic : ByteArray := prog_1_method_19_code
def yX6_statistic : MethodName := ⟨RX6, "statistic", "(II)I"⟩
abbrev cX6_image : ByteArray := prog_1_method_20_code
def yX6_image : MethodName := ⟨RX6, "image", "()I"⟩
abbrev cX6_undo : ByteArray := prog_1_method_21_code
def yX6_undo : MethodName := ⟨RX6, "undo", "()I"⟩
abbrev cX6_count : ByteArray := prog_1_method_22_code
def yX6_count : MethodName := ⟨RX6, "count", "(I)I"⟩
abbrev cX6_find : ByteArray := prog_1_method_23_code
def yX6_find : MethodName := ⟨RX6, "find", "(I)LWorkflowEngine$Instance;"⟩
abbrev cX6_replaced : ByteArray := prog_1_method_24_code
def yX6_replaced : MethodName := ⟨RX6, "replaced", "([III)I"⟩
abbrev cX6_isInside : ByteArray := prog_1_method_25_code
def yX6_isInside : MethodName := ⟨RX6, "isInside", "(II)Z"⟩
abbrev cX6_copyRow : ByteArray := prog_1_method_26_code
def yX6_copyRow : MethodName := ⟨RX6, "copyRow", "([I[I)V"⟩
abbrev cX6_floatBits : ByteArray := prog_1_method_27_code
def yX6_floatBits : MethodName := ⟨RX6, "floatBits", "(II)I"⟩
def RX7 : String := "WorkflowEngineModel"
def TX7 : u_T := fun k => match k with
  | 0 => ("WorkflowEngineModel", "v", "[I", true)
  | 1 => ("WorkflowEngineModel", "keptV", "[I", true)
  | 2 => ("WorkflowEngineModel", "size", "[I", true)
  | 3 => ("WorkflowEngineModel", "keptSize", "[I", true)
  | 4 => ("WorkflowEngineModel", "s", "[I", true)
  | 5 => ("WorkflowEngineModel", "kept", "[I", true)
  | 6 => ("WorkflowEngineModel", "aside", "[I", true)
  | 7 => ("WorkflowEngineModel", "isKept", "Z", false)
  | 8 => ("WorkflowEngineModel", "tape", "[I", true)
  | 9 => ("WorkflowEngineModel", "fed", "I", false)
  | 10 => ("WorkflowEngineModel", "wrongAt", "I", false)
  | 11 => ("WorkflowEngineModel", "wrongWhy", "I", false)
  | 12 => ("WorkflowEngineModel", "at", "I", false)
  | 13 => ("WorkflowEngineModel", "why", "I", false)
  | 14 => ("WorkflowEngineModel", "nodes", "I", false)
  | 15 => ("WorkflowEngineModel", "items", "I", false)
  | 16 => ("WorkflowEngineModel", "open", "I", false)
  | 17 => ("WorkflowEngineModel", "mostOpen", "I", false)
  | 18 => ("WorkflowEngineModel", "number", "I", false)
  | 19 => ("WorkflowEngineModel", "keptWrongAt", "I", false)
  | _ => ("WorkflowEngineModel", "keptWrongWhy", "I", false)
def tyX7 : Nat → FieldType := fun k => match k with
  | 0 => .array .int
  | 1 => .array .int
  | 2 => .array .int
  | 3 => .array .int
  | 4 => .array .int
  | 5 => .array .int
  | 6 => .array .int
  | 7 => .boolean
  | 8 => .array .int
  | 9 => .int
  | 10 => .int
  | 11 => .int
  | 12 => .int
  | 13 => .int
  | 14 => .int
  | 15 => .int
  | 16 => .int
  | 17 => .int
  | 18 => .int
  | 19 => .int
  | _ => .int
abbrev wsX70 : List Cond := u_ws RX7 TX7 21
theorem nmX7 : ∀ a, a < 21 → ∀ b, b < 21 → a ≠ b → (TX7 a).2.1 ≠ (TX7 b).2.1 := by decide +kernel
theorem tyX7_ok : ∀ k, k < 21 → parseFieldDescriptor (TX7 k).2.2.1 = some (tyX7 k) := by decide +kernel
abbrev cX7_init : ByteArray := prog_9_method_1_code
def yX7_init : MethodName := ⟨RX7, "<init>", "()V"⟩
abbrev cX7_isIn : ByteArray := prog_9_method_2_code
def yX7_isIn : MethodName := ⟨RX7, "isIn", "(III)Z"⟩
abbrev cX7_isCode : ByteArray := prog_9_method_3_code
def yX7_isCode : MethodName := ⟨RX7, "isCode", "(I)Z"⟩
abbrev cX7_isWorkflow : ByteArray := prog_9_method_4_code
def yX7_isWorkflow : MethodName := ⟨RX7, "isWorkflow", "(I)Z"⟩
abbrev cX7_feed : ByteArray := prog_9_method_5_code
def yX7_feed : MethodName := ⟨RX7, "feed", "(I)I"⟩
abbrev cX7_here : ByteArray := prog_9_method_6_code
def yX7_here : MethodName := ⟨RX7, "here", "()I"⟩
abbrev cX7_takes : ByteArray := prog_9_method_7_code
def yX7_takes : MethodName := ⟨RX7, "takes", "(I)Z"⟩
abbrev cX7_takesDigit : ByteArray := prog_9_method_8_code
def yX7_takesDigit : MethodName := ⟨RX7, "takesDigit", "(II)Z"⟩
abbrev cX7_takesNumber : ByteArray := prog_9_method_9_code
def yX7_takesNumber : MethodName := ⟨RX7, "takesNumber", "()Z"⟩
abbrev cX7_takesSigned : ByteArray := prog_9_method_10_code
def yX7_takesSigned : MethodName := ⟨RX7, "takesSigned", "()Z"⟩
abbrev cX7_takesCode : ByteArray := prog_9_method_11_code
def yX7_takesCode : MethodName := ⟨RX7, "takesCode", "()Z"⟩
abbrev cX7_part : ByteArray := prog_9_method_12_code
def yX7_part : MethodName := ⟨RX7, "part", "(III)I"⟩
abbrev cX7_put : ByteArray := prog_9_method_14_code
def yX7_put : MethodName := ⟨RX7, "put", "(III)V"⟩
abbrev cX7_makes : ByteArray := prog_9_method_15_code
def yX7_makes : MethodName := ⟨RX7, "makes", "(II)I"⟩
abbrev cX7_beginsItem : ByteArray := prog_9_method_16_code
def yX7_beginsItem : MethodName := ⟨RX7, "beginsItem", "(I)Z"⟩
abbrev cX7_isTooMuch : ByteArray := prog_9_method_17_code
def yX7_isTooMuch : MethodName := ⟨RX7, "isTooMuch", "()Z"⟩
abbrev cX7_readsBody : ByteArray := prog_9_method_18_code
def yX7_readsBody : MethodName := ⟨RX7, "readsBody", "(II)Z"⟩
abbrev cX7_readsItem : ByteArray := prog_9_method_19_code
def yX7_readsItem : MethodName := ⟨RX7, "readsItem", "(I)Z"⟩
abbrev cX7_readsTask : ByteArray := prog_9_method_20_code
def yX7_readsTask : MethodName := ⟨RX7, "readsTask", "(I)Z"⟩
abbrev cX7_readsWait : ByteArray := prog_9_method_21_code
def yX7_readsWait : MethodName := ⟨RX7, "readsWait", "(I)Z"⟩
abbrev cX7_readsSignal : ByteArray := prog_9_method_22_code
def yX7_readsSignal : MethodName := ⟨RX7, "readsSignal", "(I)Z"⟩
abbrev cX7_readsSet : ByteArray := prog_9_method_23_code
def yX7_readsSet : MethodName := ⟨RX7, "readsSet", "(I)Z"⟩
abbrev cX7_opens : ByteArray := prog_9_method_24_code
def yX7_opens : MethodName := ⟨RX7, "opens", "()V"⟩
abbrev cX7_readsChoice : ByteArray := prog_9_method_25_code
def yX7_readsChoice : MethodName := ⟨RX7, "readsChoice", "(I)Z"⟩
abbrev cX7_readsParallel : ByteArray := prog_9_method_26_code
def yX7_readsParallel : MethodName := ⟨RX7, "readsParallel", "(I)Z"⟩
abbrev cX7_define : ByteArray := prog_9_method_27_code
def yX7_define : MethodName := ⟨RX7, "define", "(I)I"⟩
abbrev cX7_wrong : ByteArray := prog_9_method_28_code
def yX7_wrong : MethodName := ⟨RX7, "wrong", "(I)I"⟩
abbrev cX7_kind : ByteArray := prog_9_method_29_code
def yX7_kind : MethodName := ⟨RX7, "kind", "(II)I"⟩
abbrev cX7_child : ByteArray := prog_9_method_30_code
def yX7_child : MethodName := ⟨RX7, "child", "(II)I"⟩
abbrev cX7_next : ByteArray := prog_9_method_31_code
def yX7_next : MethodName := ⟨RX7, "next", "(II)I"⟩
abbrev cX7_tasksIn : ByteArray := prog_9_method_32_code
def yX7_tasksIn : MethodName := ⟨RX7, "tasksIn", "(I)I"⟩
abbrev cX7_width : ByteArray := prog_9_method_33_code
def yX7_width : MethodName := ⟨RX7, "width", "(II)I"⟩
abbrev cX7_version : ByteArray := prog_9_method_34_code
def yX7_version : MethodName := ⟨RX7, "version", "(III)I"⟩
abbrev cX7_duration : ByteArray := prog_9_method_35_code
def yX7_duration : MethodName := ⟨RX7, "duration", "(II)I"⟩
abbrev cX7_failures : ByteArray := prog_9_method_36_code
def yX7_failures : MethodName := ⟨RX7, "failures", "(II)I"⟩
abbrev cX7_fails : ByteArray := prog_9_method_37_code
def yX7_fails : MethodName := ⟨RX7, "fails", "(I)Z"⟩
abbrev cX7_of : ByteArray := prog_9_method_38_code
def yX7_of : MethodName := ⟨RX7, "of", "(II)I"⟩
abbrev cX7_at : ByteArray := prog_9_method_39_code
def yX7_at : MethodName := ⟨RX7, "at", "(III)I"⟩
abbrev cX7_versionOf : ByteArray := prog_9_method_40_code
def yX7_versionOf : MethodName := ⟨RX7, "versionOf", "(I)I"⟩
abbrev cX7_nodePart : ByteArray := prog_9_method_41_code
def yX7_nodePart : MethodName := ⟨RX7, "nodePart", "(III)I"⟩
abbrev cX7_isInstance : ByteArray := prog_9_method_42_code
def yX7_isInstance : MethodName := ⟨RX7, "isInstance", "(I)Z"⟩
abbrev cX7_notes : ByteArray := prog_9_method_43_code
def yX7_notes : MethodName := ⟨RX7, "notes", "(III)V"⟩
abbrev cX7_comesTo : ByteArray := prog_9_method_44_code
def yX7_comesTo : MethodName := ⟨RX7, "comesTo", "(III)I"⟩
abbrev cX7_tries : ByteArray := prog_9_method_45_code
def yX7_tries : MethodName := ⟨RX7, "tries", "(II)V"⟩
abbrev cX7_looksAtTask : ByteArray := prog_9_method_46_code
def yX7_looksAtTask : MethodName := ⟨RX7, "looksAtTask", "(II)I"⟩
abbrev cX7_looksAtSignal : ByteArray := prog_9_method_47_code
def yX7_looksAtSignal : MethodName := ⟨RX7, "looksAtSignal", "(II)I"⟩
abbrev cX7_sets : ByteArray := prog_9_method_48_code
def yX7_sets : MethodName := ⟨RX7, "sets", "(II)I"⟩
abbrev cX7_looks : ByteArray := prog_9_method_49_code
def yX7_looks : MethodName := ⟨RX7, "looks", "(II)I"⟩
abbrev cX7_begins : ByteArray := prog_9_method_50_code
def yX7_begins : MethodName := ⟨RX7, "begins", "(II)I"⟩
abbrev cX7_looksAtBody : ByteArray := prog_9_method_51_code
def yX7_looksAtBody : MethodName := ⟨RX7, "looksAtBody", "(II)I"⟩
abbrev cX7_bodiesIn : ByteArray := prog_9_method_52_code
def yX7_bodiesIn : MethodName := ⟨RX7, "bodiesIn", "(III)I"⟩
abbrev cX7_cancels : ByteArray := prog_9_method_53_code
def yX7_cancels : MethodName := ⟨RX7, "cancels", "(II)V"⟩
abbrev cX7_cancelsBodies : ByteArray := prog_9_method_54_code
def yX7_cancelsBodies : MethodName := ⟨RX7, "cancelsBodies", "(II)V"⟩
abbrev cX7_looksAtParallel : ByteArray := prog_9_method_55_code
def yX7_looksAtParallel : MethodName := ⟨RX7, "looksAtParallel", "(II)I"⟩
abbrev cX7_isFor : ByteArray := prog_9_method_56_code
def yX7_isFor : MethodName := ⟨RX7, "isFor", "(III)Z"⟩
abbrev cX7_nextToCompensate : ByteArray := prog_9_method_57_code
def yX7_nextToCompensate : MethodName := ⟨RX7, "nextToCompensate", "(II)I"⟩
abbrev cX7_triesToCompensate : ByteArray := prog_9_method_58_code
def yX7_triesToCompensate : MethodName := ⟨RX7, "triesToCompensate", "(II)V"⟩
abbrev cX7_handles : ByteArray := prog_9_method_59_code
def yX7_handles : MethodName := ⟨RX7, "handles", "(IIII)V"⟩
abbrev cX7_compensates : ByteArray := prog_9_method_60_code
def yX7_compensates : MethodName := ⟨RX7, "compensates", "(II)Z"⟩
abbrev cX7_becomes : ByteArray := prog_9_method_61_code
def yX7_becomes : MethodName := ⟨RX7, "becomes", "(II)V"⟩
abbrev cX7_looksAt : ByteArray := prog_9_method_62_code
def yX7_looksAt : MethodName := ⟨RX7, "looksAt", "(I)V"⟩
abbrev cX7_instances : ByteArray := prog_9_method_63_code
def yX7_instances : MethodName := ⟨RX7, "instances", "()I"⟩
abbrev cX7_start : ByteArray := prog_9_method_64_code
def yX7_start : MethodName := ⟨RX7, "start", "(I)I"⟩
abbrev cX7_signal : ByteArray := prog_9_method_65_code
def yX7_signal : MethodName := ⟨RX7, "signal", "(II)I"⟩
abbrev cX7_abort : ByteArray := prog_9_method_66_code
def yX7_abort : MethodName := ⟨RX7, "abort", "(I)I"⟩
abbrev cX7_remove : ByteArray := prog_9_method_67_code
def yX7_remove : MethodName := ⟨RX7, "remove", "(I)I"⟩
abbrev cX7_passes : ByteArray := prog_9_method_68_code
def yX7_passes : MethodName := ⟨RX7, "passes", "()V"⟩
abbrev cX7_pass : ByteArray := prog_9_method_69_code
def yX7_pass : MethodName := ⟨RX7, "pass", "(I)I"⟩
abbrev cX7_instance : ByteArray := prog_9_method_70_code
def yX7_instance : MethodName := ⟨RX7, "instance", "(II)I"⟩
abbrev cX7_keptEntries : ByteArray := prog_9_method_71_code
def yX7_keptEntries : MethodName := ⟨RX7, "keptEntries", "(I)I"⟩
abbrev cX7_entry : ByteArray := prog_9_method_72_code
def yX7_entry : MethodName := ⟨RX7, "entry", "(III)I"⟩
abbrev cX7_runs : ByteArray := prog_9_method_73_code
def yX7_runs : MethodName := ⟨RX7, "runs", "(II)Z"⟩
abbrev cX7_running : ByteArray := prog_9_method_74_code
def yX7_running : MethodName := ⟨RX7, "running", "(II)I"⟩
abbrev cX7_dueAt : ByteArray := prog_9_method_75_code
def yX7_dueAt : MethodName := ⟨RX7, "dueAt", "(II)I"⟩
abbrev cX7_due : ByteArray := prog_9_method_76_code
def yX7_due : MethodName := ⟨RX7, "due", "(I)I"⟩
abbrev cX7_copies : ByteArray := prog_9_method_77_code
def yX7_copies : MethodName := ⟨RX7, "copies", "([I[II)V"⟩
abbrev cX7_ahead : ByteArray := prog_9_method_78_code
def yX7_ahead : MethodName := ⟨RX7, "ahead", "(II)I"⟩
abbrev cX7_entriesOf : ByteArray := prog_9_method_79_code
def yX7_entriesOf : MethodName := ⟨RX7, "entriesOf", "(II)I"⟩
abbrev cX7_replayed : ByteArray := prog_9_method_80_code
def yX7_replayed : MethodName := ⟨RX7, "replayed", "(II)I"⟩
abbrev cX7_instancesOf : ByteArray := prog_9_method_81_code
def yX7_instancesOf : MethodName := ⟨RX7, "instancesOf", "(II)I"⟩
abbrev cX7_statistic : ByteArray := prog_9_method_82_code
def yX7_statistic : MethodName := ⟨RX7, "statistic", "(II)I"⟩
abbrev cX7_image : ByteArray := prog_9_method_83_code
def yX7_image : MethodName := ⟨RX7, "image", "()I"⟩
abbrev cX7_undo : ByteArray := prog_9_method_84_code
def yX7_undo : MethodName := ⟨RX7, "undo", "()I"⟩
abbrev cX7_withStatus : ByteArray := prog_9_method_85_code
def yX7_withStatus : MethodName := ⟨RX7, "withStatus", "(I)I"⟩
abbrev cX7_versions : ByteArray := prog_9_method_86_code
def yX7_versions : MethodName := ⟨RX7, "versions", "()I"⟩
abbrev cX7_count : ByteArray := prog_9_method_87_code
def yX7_count : MethodName := ⟨RX7, "count", "(I)I"⟩
def RL : String := "WorkflowEngineLaw"
abbrev cL_law : ByteArray := code
def yL_law : MethodName := ⟨RL, "law", "([I)Z"⟩
abbrev vwCl : List vw_C := [(RX0, TX0, 3), (RX1, TX1, 3), (RX2, TX2, 18), (RX3, TX3, 6), (RX4, TX4, 16), (RX5, TX5, 5), (RX6, TX6, 8), (RX7, TX7, 21)]
end
section
/-! THE LIGHT JUDGEMENT: a method's walk over a list of cells, its answer a partial pure function's -/
def WS : List Cond := lw_tbl.filter goodWord
theorem ws_in {w : Cond} (h : w ∈ lw_tbl) (g : goodWord w = true) : w ∈ WS := List.mem_filter.mpr ⟨h, g⟩
theorem ws_of {w : Cond} (h : w ∈ WS) : w ∈ WS ∧ ((w.onTables && w.keeps) = true ∨ ∃ ty, w = .arrayClass ty) := ⟨h, good_of_word (List.mem_filter.mp h).2⟩
/-- the calls of a nest mate's private method: their words don't keep by themselves -/
def nwOf : Cond → Option (String × Nat × MethodName × String)
  | .methodLinkNest a i y h => some (a, i, y, h)
  | _ => none
def NWl : List (String × Nat × MethodName × String) := lw_tbl.filterMap nwOf
def Nst (U : State) : Prop := ∀ q ∈ NWl, va_Nw (.methodLinkNest q.1 q.2.1 q.2.2.1 q.2.2.2) U
theorem Nst.warm {s U : State} (hW : s.WarmedH U.vm) (h : Nst s) : Nst U := fun q hq => va_Nw.warmM hW (h q hq)
theorem Nst.same {u U : State} (hv : u.vm = U.vm) (h : Nst u) : Nst U := fun q hq => va_Nw.same rfl hv (h q hq)
theorem Nst.of {A : Array Value} {U : State} (h : ∀ w ∈ lw_tbl, w.before A U = true) : Nst U := fun q hq => by
  obtain ⟨w, hw, hq⟩ := List.mem_filterMap.mp hq
  unfold nwOf at hq
  split at hq
  · cases hq; exact va_Nw.of rfl (h _ hw)
  · cases hq
abbrev Ev : Type := va_G × (ClassId × ClassId × ClassId)
def tysE (E : Ev) : List (ClassId × FieldType) := [(E.2.1, .int), (E.2.2.1, .object "WorkflowEngine$Version"), (E.2.2.2, .object "WorkflowEngine$Instance")]
def Cx (E : Ev) (own : String) (cc : ByteArray) (nL : Nat) (ret : Option FieldType) (p : Program) (s : State) (m : MethodId) (args : Array Value) (meth : Method) (c : Code) : Prop :=
  p.tables.exec = Jvm.exec ∧ c.code = cc ∧ c.maxLocals = nL ∧ s.vm.findClass own = some m.cls ∧ (∀ w ∈ WS, w.before args s = true) ∧ va_K E.1 vwCl (tysE E) s ∧ Nst s ∧ meth.sig.returnType = ret ∧ meth.locks = false
abbrev rmd (d : Nat) : Room := { frames := d, cells := 0, slots := 0, locals := 40 * d }
/-- the addresses of a list of cells -/
def Ad (ws : va_W) : Nat → Prop := fun q => ∃ (k : Nat) (e : va_E), ws[k]? = some (q, e)
abbrev Rs : Type := Option Value × va_W
def QQ {α : Type} (E : Ev) (A : Nat → Prop) (X : Option α) (φ : α → Rs) : Array Value → State → Outcome → State → Prop := fun _ st oc t => (∃ a, X = some a ∧ oc = .returned (φ a).1 ∧ va_P E.1 vwCl (φ a).2 t.heap) ∧ va_F A st t
def Bd {α : Type} (l : Launch) (E : Ev) (A : Nat → Prop) (own : String) (cc : ByteArray) (nL : Nat) (ret : Option FieldType) (d : Nat) (φ : α → Rs) (pc : Nat) (L : List (Nat × Value)) (st : List Value) (ws : va_W) (X : Option α) : Prop :=
  X.isSome = true → ∀ (p : Program) (e : Env) (s : State) (m : MethodId) (args : Array Value) (below : List Frame) (meth : Method) (c : Code) (H : Heap) (locs : List Loc) (ls : Array Slot), Cx E own cc nL ret p s m args meth c → va_P E.1 vwCl ws H → va_D A ws → va_S A s.heap H locs → lv_has ls nL L → W p l e (rmd d) s m args below meth c H locs 0 0 (MQ below (QQ E A X φ) args s 0 0 A) (F0 m pc ls st)
def Pcd (E : Ev) (ws : va_W) (args : List Value) : Array Value → State → Prop := va_Pc args (fun U => va_P E.1 vwCl ws U.heap ∧ va_K E.1 vwCl (tysE E) U ∧ Nst U ∧ va_D (fun _ => True) ws)
def Ct {α : Type} (l : Launch) (y : MethodName) (cc : ByteArray) (nL : Nat) (ret : Option FieldType) (d : Nat) (E : Ev) (ws : va_W) (args : List Value) (φ : α → Rs) (X : Option α) : Prop :=
  X.isSome = true → Met l y (Cond.code y cc nL ret :: WS) (rmd d) (Pcd E ws args) (QQ E (Ad ws) X φ) 0 0 (Ad ws)
theorem Ct.of {α : Type} {l : Launch} {y : MethodName} {cc : ByteArray} {nL : Nat} {ret : Option FieldType} {d : Nat} {E : Ev} {ws : va_W} {args : List Value} {φ : α → Rs} {X : Option α} (L : List (Nat × Value)) (hy : plainName y.cls = true) (hlen : (lg_sl args).length ≤ nL) (hL : lv_args 0 args = L)
    (k : Bd l E (Ad ws) y.cls cc nL ret d φ 0 L [] ws X) : Ct l y cc nL ret d E ws args φ X := by
  intro hX
  subst hL
  refine Met.ofW (cc := cc) (maxL := nL) (ret := ret) hy rfl ?_
  intro p e s m args' below meth c s₁ B hml hv
  obtain ⟨rfl, hP, hK, hN, hD0⟩ := hv
  have hts := atoms_spec (ws := Cond.code y cc nL ret :: WS) B.pre
  rw [lg_entry_eq]
  exact k hX p e s m _ below meth c s.heap [] _ ⟨B.exec, B.bytes, hml, findClass_of_methodNamed B.named, fun w h => hts w (List.mem_cons_of_mem _ h), hK, hN, B.returns, B.notSynchronized⟩ hP ⟨hD0.1, fun k q h => ⟨k, q.2, h⟩⟩ va_S.rf (lv_entry args hlen)
section B1
variable {α : Type} {l : Launch} {E : Ev} {A : Nat → Prop} {own : String} {cc : ByteArray} {nL : Nat} {ret : Option FieldType} {d : Nat} {φ : α → Rs} {pc n : Nat} {L : List (Nat × Value)} {st : List Value} {ws : va_W} {X : Option α}
theorem Bd.sub {L' : List (Nat × Value)} (ks : List Nat) (hl : lv_pick L ks = L') (k : Bd l E A own cc nL ret d φ pc L' st ws X) : Bd l E A own cc nL ret d φ pc L st ws X :=
  fun hX p e s m args below meth c H locs ls C hP hD hS hl' => k hX p e s m args below meth c H locs ls C hP hD hS (lv_sub hl' ks hl)
theorem b_iconst {i : Int} {v : Int32} (hdg : decode cc pc = .ok (.iconst i, 1)) (hn : pc + 1 = n) (hv : Int32.ofInt i = v) (k : Bd l E A own cc nL ret d φ n L (.int v :: st) ws X) : Bd l E A own cc nL ret d φ pc L st ws X :=
  fun hX p e s m args below meth c H locs ls C hP hD hS hl => lv_iconst C.1 C.2.1 hdg hv (hn ▸ k hX p e s m args below meth c H locs ls C hP hD hS hl)
theorem b_bipush {i : Int} {v : Int32} (hdg : decode cc pc = .ok (.bipush i, 2)) (hn : pc + 2 = n) (hv : (Int8.ofInt i).toInt32 = v) (k : Bd l E A own cc nL ret d φ n L (.int v :: st) ws X) : Bd l E A own cc nL ret d φ pc L st ws X :=
  fun hX p e s m args below meth c H locs ls C hP hD hS hl => lv_bipush C.1 C.2.1 hdg hv (hn ▸ k hX p e s m args below meth c H locs ls C hP hD hS hl)
theorem b_sipush {i : Int} {v : Int32} (hdg : decode cc pc = .ok (.sipush i, 3)) (hn : pc + 3 = n) (hv : (Int16.ofInt i).toInt32 = v) (k : Bd l E A own cc nL ret d φ n L (.int v :: st) ws X) : Bd l E A own cc nL ret d φ pc L st ws X :=
  fun hX p e s m args below meth c H locs ls C hP hD hS hl => lv_sipush C.1 C.2.1 hdg hv (hn ▸ k hX p e s m args below meth c H locs ls C hP hD hS hl)
theorem b_ldc {i : Nat} {v : Int32} (hw : Cond.constant own i v ∈ WS) (hdg : decode cc pc = .ok (.ldc i, 2)) (hn : pc + 2 = n) (k : Bd l E A own cc nL ret d φ n L (.int v :: st) ws X) : Bd l E A own cc nL ret d φ pc L st ws X :=
  fun hX p e s m args below meth c H locs ls C hP hD hS hl => lv_ldc C.1 C.2.1 C.2.2.2.1 (C.2.2.2.2.1 _ hw) hdg (hn ▸ k hX p e s m args below meth c H locs ls C hP hD hS hl)
theorem b_iload_n {k : Fin 4} {i : Nat} {x : Int32} (q : Nat) (hdg : decode cc pc = .ok (.iload_n k, 1)) (hn : pc + 1 = n) (hi : (k : Nat) = i) (hl : L[q]? = some (i, .int x)) (kk : Bd l E A own cc nL ret d φ n L (.int x :: st) ws X) : Bd l E A own cc nL ret d φ pc L st ws X :=
  fun hX p e s m args below meth c H locs ls C hP hD hS hl' => lv_iload_n C.1 C.2.1 hdg hi (lv_at hl' q hl) (hn ▸ kk hX p e s m args below meth c H locs ls C hP hD hS hl')
theorem b_iload {i : Nat} {x : Int32} (q : Nat) (hdg : decode cc pc = .ok (.iload i, 2)) (hn : pc + 2 = n) (hl : L[q]? = some (i, .int x)) (kk : Bd l E A own cc nL ret d φ n L (.int x :: st) ws X) : Bd l E A own cc nL ret d φ pc L st ws X :=
  fun hX p e s m args below meth c H locs ls C hP hD hS hl' => lv_iload C.1 C.2.1 hdg (lv_at hl' q hl) (hn ▸ kk hX p e s m args below meth c H locs ls C hP hD hS hl')
theorem b_aload_n {k : Fin 4} {i : Nat} {x : Nat} (q : Nat) (hdg : decode cc pc = .ok (.aload_n k, 1)) (hn : pc + 1 = n) (hi : (k : Nat) = i) (hl : L[q]? = some (i, .ref x)) (kk : Bd l E A own cc nL ret d φ n L (.ref x :: st) ws X) : Bd l E A own cc nL ret d φ pc L st ws X :=
  fun hX p e s m args below meth c H locs ls C hP hD hS hl' => lv_aload_n C.1 C.2.1 hdg hi (lv_at hl' q hl) (hn ▸ kk hX p e s m args below meth c H locs ls C hP hD hS hl')
theorem b_aload {i : Nat} {x : Nat} (q : Nat) (hdg : decode cc pc = .ok (.aload i, 2)) (hn : pc + 2 = n) (hl : L[q]? = some (i, .ref x)) (kk : Bd l E A own cc nL ret d φ n L (.ref x :: st) ws X) : Bd l E A own cc nL ret d φ pc L st ws X :=
  fun hX p e s m args below meth c H locs ls C hP hD hS hl' => lv_aload C.1 C.2.1 hdg (lv_at hl' q hl) (hn ▸ kk hX p e s m args below meth c H locs ls C hP hD hS hl')
theorem b_istore_n {k : Fin 4} {i : Nat} {x : Int32} {L' : List (Nat × Value)} (hdg : decode cc pc = .ok (.istore_n k, 1)) (hn : pc + 1 = n) (hi : (k : Nat) = i) (hm : i < nL) (hl : (i, Value.int x) :: L.filter (fun q => !(q.1 == i) && !(q.1 + 1 == i && q.2.category == 2)) = L') (kk : Bd l E A own cc nL ret d φ n L' st ws X) : Bd l E A own cc nL ret d φ pc L (.int x :: st) ws X :=
  fun hX p e s m args below meth c H locs ls C hP hD hS hl' => lv_istore_n C.1 C.2.1 hdg hi hl' hm hl (fun ls' h' => hn ▸ kk hX p e s m args below meth c H locs ls' C hP hD hS h')
theorem b_istore {i : Nat} {x : Int32} {L' : List (Nat × Value)} (hdg : decode cc pc = .ok (.istore i, 2)) (hn : pc + 2 = n) (hm : i < nL) (hl : (i, Value.int x) :: L.filter (fun q => !(q.1 == i) && !(q.1 + 1 == i && q.2.category == 2)) = L') (kk : Bd l E A own cc nL ret d φ n L' st ws X) : Bd l E A own cc nL ret d φ pc L (.int x :: st) ws X :=
  fun hX p e s m args below meth c H locs ls C hP hD hS hl' => lv_istore C.1 C.2.1 hdg hl' hm hl (fun ls' h' => hn ▸ kk hX p e s m args below meth c H locs ls' C hP hD hS h')
theorem b_astore_n {k : Fin 4} {i : Nat} {x : Nat} {L' : List (Nat × Value)} (hdg : decode cc pc = .ok (.astore_n k, 1)) (hn : pc + 1 = n) (hi : (k : Nat) = i) (hm : i < nL) (hl : (i, Value.ref x) :: L.filter (fun q => !(q.1 == i) && !(q.1 + 1 == i && q.2.category == 2)) = L') (kk : Bd l E A own cc nL ret d φ n L' st ws X) : Bd l E A own cc nL ret d φ pc L (.ref x :: st) ws X :=
  fun hX p e s m args below meth c H locs ls C hP hD hS hl' => lv_astore_n C.1 C.2.1 hdg hi hl' hm hl (fun ls' h' => hn ▸ kk hX p e s m args below meth c H locs ls' C hP hD hS h')
theorem b_astore {i : Nat} {x : Nat} {L' : List (Nat × Value)} (hdg : decode cc pc = .ok (.astore i, 2)) (hn : pc + 2 = n) (hm : i < nL) (hl : (i, Value.ref x) :: L.filter (fun q => !(q.1 == i) && !(q.1 + 1 == i && q.2.category == 2)) = L') (kk : Bd l E A own cc nL ret d φ n L' st ws X) : Bd l E A own cc nL ret d φ pc L (.ref x :: st) ws X :=
  fun hX p e s m args below meth c H locs ls C hP hD hS hl' => lv_astore C.1 C.2.1 hdg hl' hm hl (fun ls' h' => hn ▸ kk hX p e s m args below meth c H locs ls' C hP hD hS h')
theorem b_iinc {i : Nat} {j : Int} {x : Int32} {L' : List (Nat × Value)} (q : Nat) (w : Int32) (hdg : decode cc pc = .ok (.iinc i j, 3)) (hn : pc + 3 = n) (hq : L[q]? = some (i, .int x)) (hv : Int32.ofInt j = w) (hm : i < nL) (hl : (i, Value.int (x + w)) :: L.filter (fun q => !(q.1 == i) && !(q.1 + 1 == i && q.2.category == 2)) = L') (kk : Bd l E A own cc nL ret d φ n L' st ws X) : Bd l E A own cc nL ret d φ pc L st ws X :=
  fun hX p e s m args below meth c H locs ls C hP hD hS hl' => lv_iinc C.1 C.2.1 hdg hl' hq (by rw [hv]) hm hl (fun ls' h' => hn ▸ kk hX p e s m args below meth c H locs ls' C hP hD hS h')
theorem b_iadd {x y : Int32} (hdg : decode cc pc = .ok (.iadd, 1)) (hn : pc + 1 = n) (kk : Bd l E A own cc nL ret d φ n L (.int (x + y) :: st) ws X) : Bd l E A own cc nL ret d φ pc L (.int y :: .int x :: st) ws X :=
  fun hX p e s m args below meth c H locs ls C hP hD hS hl => lv_iadd C.1 C.2.1 hdg (hn ▸ kk hX p e s m args below meth c H locs ls C hP hD hS hl)
theorem b_isub {x y : Int32} (hdg : decode cc pc = .ok (.isub, 1)) (hn : pc + 1 = n) (kk : Bd l E A own cc nL ret d φ n L (.int (x - y) :: st) ws X) : Bd l E A own cc nL ret d φ pc L (.int y :: .int x :: st) ws X :=
  fun hX p e s m args below meth c H locs ls C hP hD hS hl => lv_isub C.1 C.2.1 hdg (hn ▸ kk hX p e s m args below meth c H locs ls C hP hD hS hl)
theorem b_imul {x y : Int32} (hdg : decode cc pc = .ok (.imul, 1)) (hn : pc + 1 = n) (kk : Bd l E A own cc nL ret d φ n L (.int (x * y) :: st) ws X) : Bd l E A own cc nL ret d φ pc L (.int y :: .int x :: st) ws X :=
  fun hX p e s m args below meth c H locs ls C hP hD hS hl => lv_imul C.1 C.2.1 hdg (hn ▸ kk hX p e s m args below meth c H locs ls C hP hD hS hl)
theorem b_ineg {x : Int32} (hdg : decode cc pc = .ok (.ineg, 1)) (hn : pc + 1 = n) (kk : Bd l E A own cc nL ret d φ n L (.int (-x) :: st) ws X) : Bd l E A own cc nL ret d φ pc L (.int x :: st) ws X :=
  fun hX p e s m args below meth c H locs ls C hP hD hS hl => lv_ineg C.1 C.2.1 hdg (hn ▸ kk hX p e s m args below meth c H locs ls C hP hD hS hl)
theorem b_ishl {x y : Int32} (hdg : decode cc pc = .ok (.ishl, 1)) (hn : pc + 1 = n) (kk : Bd l E A own cc nL ret d φ n L (.int (x <<< (y &&& 31)) :: st) ws X) : Bd l E A own cc nL ret d φ pc L (.int y :: .int x :: st) ws X :=
  fun hX p e s m args below meth c H locs ls C hP hD hS hl => lv_ishl C.1 C.2.1 hdg (hn ▸ kk hX p e s m args below meth c H locs ls C hP hD hS hl)
theorem b_ishr {x y : Int32} (hdg : decode cc pc = .ok (.ishr, 1)) (hn : pc + 1 = n) (kk : Bd l E A own cc nL ret d φ n L (.int (x >>> (y &&& 31)) :: st) ws X) : Bd l E A own cc nL ret d φ pc L (.int y :: .int x :: st) ws X :=
  fun hX p e s m args below meth c H locs ls C hP hD hS hl => lv_ishr C.1 C.2.1 hdg (hn ▸ kk hX p e s m args below meth c H locs ls C hP hD hS hl)
theorem b_iand {x y : Int32} (hdg : decode cc pc = .ok (.iand, 1)) (hn : pc + 1 = n) (kk : Bd l E A own cc nL ret d φ n L (.int (x &&& y) :: st) ws X) : Bd l E A own cc nL ret d φ pc L (.int y :: .int x :: st) ws X :=
  fun hX p e s m args below meth c H locs ls C hP hD hS hl => lv_iand C.1 C.2.1 hdg (hn ▸ kk hX p e s m args below meth c H locs ls C hP hD hS hl)
theorem b_ior {x y : Int32} (hdg : decode cc pc = .ok (.ior, 1)) (hn : pc + 1 = n) (kk : Bd l E A own cc nL ret d φ n L (.int (x ||| y) :: st) ws X) : Bd l E A own cc nL ret d φ pc L (.int y :: .int x :: st) ws X :=
  fun hX p e s m args below meth c H locs ls C hP hD hS hl => lv_ior C.1 C.2.1 hdg (hn ▸ kk hX p e s m args below meth c H locs ls C hP hD hS hl)
theorem b_dup {v : Value} (hdg : decode cc pc = .ok (.dup, 1)) (hn : pc + 1 = n) (hv : v.category = 1) (kk : Bd l E A own cc nL ret d φ n L (v :: v :: st) ws X) : Bd l E A own cc nL ret d φ pc L (v :: st) ws X :=
  fun hX p e s m args below meth c H locs ls C hP hD hS hl => lv_dup C.1 C.2.1 hdg hv (hn ▸ kk hX p e s m args below meth c H locs ls C hP hD hS hl)
theorem b_goto {off : Int} (hdg : decode cc pc = .ok (.goto off, 3)) (hn : (pc : Int) + off = (n : Int)) (kk : Bd l E A own cc nL ret d φ n L st ws X) : Bd l E A own cc nL ret d φ pc L st ws X :=
  fun hX p e s m args below meth c H locs ls C hP hD hS hl => lv_goto C.1 C.2.1 hdg hn (kk hX p e s m args below meth c H locs ls C hP hD hS hl)
theorem b_if {t : Prop} [hd : Decidable t] {X1 X2 : Option α} (k1 : t → Bd l E A own cc nL ret d φ pc L st ws X1) (k2 : ¬ t → Bd l E A own cc nL ret d φ pc L st ws X2) : Bd l E A own cc nL ret d φ pc L st ws (if t then X1 else X2) := by
  by_cases h : t
  · rw [if_pos h]; exact k1 h
  · rw [if_neg h]; exact k2 h
end B1
end
section
/-! reads and writes of arrays and fields, branches, ends -/
def rd (n : Nat) (f : Nat → Int32) (i : Int32) : Option Int32 := if 0 ≤ i.toInt ∧ i.toInt < (n : Int) then some (f i.toNatClampNeg) else none
def ck {α : Type} (n : Nat) (i : Int32) (K : Option α) : Option α := if 0 ≤ i.toInt ∧ i.toInt < (n : Int) then K else none
theorem inb_vp {i : Int32} {n : Nat} (h : 0 ≤ i.toInt ∧ i.toInt < (n : Int)) : vp_in i n := vp_in_iff.mpr h
/-- a field's place: the class's number, the slot's -/
def FL (own : String) (idx ci k : Nat) : Prop := ∃ (C : String) (T : u_T) (N : Nat), vwCl[ci]? = some (C, T, N) ∧ k < N ∧ (∀ w ∈ u_ws C T N, w ∈ WS) ∧ Cond.fieldLink own idx (T k).1 (T k).2.1 (T k).2.2.1 ∈ WS
def FLp (own : String) (idx ci k : Nat) (ty : FieldType) : Prop := ∃ (C : String) (T : u_T) (N : Nat) (ty0 : Nat → FieldType), vwCl[ci]? = some (C, T, N) ∧ k < N ∧ (∀ w ∈ u_ws C T N, w ∈ WS) ∧ Cond.fieldLink own idx (T k).1 (T k).2.1 (T k).2.2.1 ∈ WS ∧ (∀ k, k < N → parseFieldDescriptor (T k).2.2.1 = some (ty0 k)) ∧ (∀ a, a < N → ∀ b, b < N → a ≠ b → (T a).2.1 ≠ (T b).2.1) ∧ (T k).2.2.2 = false ∧ ty0 k = ty
def LkV (own : String) (idx : Nat) (y : MethodName) (cc : ByteArray) (nL : Nat) (ret : Option FieldType) (n : Nat) : Prop :=
  Cond.methodLink own idx y ∈ WS ∧ Cond.instanceMethod y ∈ WS ∧ Cond.selects y.cls y y ∈ WS ∧ Cond.initialized y.cls ∈ WS ∧ Cond.code y cc nL ret ∈ WS ∧ (y.cls ≠ "java/lang/invoke/MethodHandle" ∧ y.cls ≠ "java/lang/invoke/VarHandle") ∧ (parseMethodDescriptor y.desc).map (fun d => d.parameters.length) = some n ∧ nL ≤ 20
def LkS (own : String) (idx : Nat) (y : MethodName) (cc : ByteArray) (nL : Nat) (ret : Option FieldType) (n : Nat) : Prop :=
  Cond.methodLink own idx y ∈ WS ∧ Cond.static y ∈ WS ∧ Cond.initialized y.cls ∈ WS ∧ Cond.code y cc nL ret ∈ WS ∧ (y.cls ≠ "java/lang/invoke/MethodHandle" ∧ y.cls ≠ "java/lang/invoke/VarHandle") ∧ (parseMethodDescriptor y.desc).map (fun d => d.parameters.length) = some n ∧ nL ≤ 20
def LkN (own : String) (idx : Nat) (y : MethodName) (host : String) (cc : ByteArray) (nL : Nat) (ret : Option FieldType) (n : Nat) : Prop :=
  (own, idx, y, host) ∈ NWl ∧ Cond.static y ∈ WS ∧ Cond.initialized y.cls ∈ WS ∧ Cond.code y cc nL ret ∈ WS ∧ (y.cls ≠ "java/lang/invoke/MethodHandle" ∧ y.cls ≠ "java/lang/invoke/VarHandle") ∧ (parseMethodDescriptor y.desc).map (fun d => d.parameters.length) = some n ∧ nL ≤ 20
theorem va_D.fst {A : Nat → Prop} {ws w1 : va_W} (h : va_D A ws) (he : w1.map Prod.fst = ws.map Prod.fst) : va_D A w1 := by
  have key : ∀ (k : Nat) (q : Nat × va_E), w1[k]? = some q → ∃ q', ws[k]? = some q' ∧ q'.1 = q.1 := by
    intro k q hq
    have h1 : (w1.map Prod.fst)[k]? = some q.1 := by rw [List.getElem?_map, hq]; rfl
    rw [he, List.getElem?_map] at h1
    cases hw : ws[k]? with
    | none => rw [hw] at h1; cases h1
    | some q' => rw [hw] at h1; exact ⟨q', rfl, Option.some.inj h1⟩
  refine ⟨fun i j p q hp hq hpq => ?_, fun k q hq => ?_⟩
  · obtain ⟨p', h1, h2⟩ := key i p hp
    obtain ⟨q', h3, h4⟩ := key j q hq
    exact h.1 i j p' q' h1 h3 (by rw [h2, h4]; exact hpq)
  · obtain ⟨q', h3, h4⟩ := key k q hq
    rw [← h4]; exact h.2 k q' h3
def patch : va_W → List Nat → va_W → va_W
  | ws, i :: is, c :: w => patch (ws.set i c) is w
  | ws, _, _ => ws
theorem patch_at : ∀ (is : List Nat) (w ws : va_W) (k : Nat) (q : Nat × va_E), is.Nodup → is.length = w.length → (patch ws is w)[k]? = some q → (∃ j : Nat, is[j]? = some k ∧ w[j]? = some q) ∨ (k ∉ is ∧ ws[k]? = some q)
  | [], [], ws, k, q, _, _, h => Or.inr ⟨List.not_mem_nil, h⟩
  | i :: is, c :: w, ws, k, q, hn, hl, h => by
    have hn' := List.nodup_cons.mp hn
    rcases patch_at is w (ws.set i c) k q hn'.2 (by simpa using hl) h with ⟨j, h1, h2⟩ | ⟨h1, h2⟩
    · exact Or.inl ⟨j + 1, h1, h2⟩
    · by_cases hik : i = k
      · subst hik
        rw [List.getElem?_set_self'] at h2
        cases hw : ws[i]? with
        | none => rw [hw] at h2; cases h2
        | some x => rw [hw] at h2; exact Or.inl ⟨0, rfl, h2⟩
      · rw [List.getElem?_set_ne hik] at h2
        exact Or.inr ⟨fun hm => by rcases List.mem_cons.mp hm with e | e; exact hik e.symm; exact h1 e, h2⟩
theorem patch_fst : ∀ (is : List Nat) (w ws : va_W), (∀ (j i : Nat) (q : Nat × va_E), is[j]? = some i → w[j]? = some q → ∃ q', ws[i]? = some q' ∧ q'.1 = q.1) → (patch ws is w).map Prod.fst = ws.map Prod.fst
  | [], w, ws, _ => by simp [patch]
  | i :: is, [], ws, _ => by simp [patch]
  | i :: is, c :: w, ws, h => by
    have e : (ws.set i c).map Prod.fst = ws.map Prod.fst := by
      obtain ⟨q', h1, h2⟩ := h 0 i c rfl rfl
      rw [List.map_set, ← h2]
      apply List.ext_getElem?
      intro n
      by_cases hn : i = n
      · subst hn
        rw [List.getElem?_set_self', List.getElem?_map, h1]
        rfl
      · rw [List.getElem?_set_ne hn]
    show (patch (ws.set i c) is w).map Prod.fst = _
    rw [patch_fst is w (ws.set i c) ?_, e]
    intro j i' q h1 h2
    obtain ⟨q', h3, h4⟩ := h (j + 1) i' q h1 h2
    have h5 : ((ws.set i c).map Prod.fst)[i']? = some q.1 := by rw [e, List.getElem?_map, h3]; exact congrArg some h4
    rw [List.getElem?_map] at h5
    cases hw : (ws.set i c)[i']? with
    | none => rw [hw] at h5; cases h5
    | some q2 => rw [hw] at h5; exact ⟨q2, rfl, Option.some.inj h5⟩
section B2
variable {α : Type} {l : Launch} {E : Ev} {A : Nat → Prop} {own : String} {cc : ByteArray} {nL : Nat} {ret : Option FieldType} {d : Nat} {φ : α → Rs} {pc n : Nat} {L : List (Nat × Value)} {st : List Value} {ws : va_W} {X : Option α}
theorem b_get {idx ci k a : Nat} {fs : List Value} {v : Value} (q : Nat) (hf : FL own idx ci k) (hdg : decode cc pc = .ok (.getfield idx, 3)) (hn : pc + 3 = n) (he : ws[q]? = some (a, .inr (ci, fs))) (hv : fs[k]? = some v) (kk : Bd l E A own cc nL ret d φ n L (v :: st) ws X) : Bd l E A own cc nL ret d φ pc L (.ref a :: st) ws X :=
  fun hX p e s m args below meth c H locs ls C hP hD hS hl => by
    obtain ⟨C0, T, N, h1, h2, h3, h4⟩ := hf
    exact va_get C.1 C.2.1 C.2.2.2.2.1 h3 C.2.2.2.1 C.2.2.2.2.2.1 hP q he h1 k h2 (C.2.2.2.2.1 _ h4) (fun _ h => h) hv hdg (hn ▸ kk hX p e s m args below meth c H locs ls C hP hD hS hl)
theorem b_put {idx ci k a : Nat} {fs : List Value} {v : Value} {ty : FieldType} {ws' : va_W} (q : Nat) (hf : FLp own idx ci k ty) (hdg : decode cc pc = .ok (.putfield idx, 3)) (hn : pc + 3 = n) (he : ws[q]? = some (a, .inr (ci, fs))) (hv : narrow ty v = v) (ht : fits ty v = true) (hk : k < fs.length) (hw : ws.set q (a, .inr (ci, fs.set k v)) = ws') (kk : Bd l E A own cc nL ret d φ n L st ws' X) : Bd l E A own cc nL ret d φ pc L (v :: .ref a :: st) ws X :=
  fun hX p e s m args below meth c H locs ls C hP hD hS hl => by
    obtain ⟨C0, T, N, ty0, h1, h2, h3, h4, h5, h6, h7, h8⟩ := hf
    exact va_put C.1 C.2.1 C.2.2.2.2.1 h3 ty0 h5 h6 C.2.2.2.1 C.2.2.2.2.2.1 hP hD hS q he h1 k h2 (C.2.2.2.2.1 _ h4) (fun _ h => h) h7 (by rw [h5 k h2, h8]) hv ht hk hdg (fun H1 locs1 hP1 hD1 hS1 => hn ▸ kk hX p e s m args below meth c H1 locs1 ls C (hw ▸ hP1) (hw ▸ hD1) hS1 hl)
theorem b_iald {a N : Nat} {f : Nat → Int32} {i : Int32} {K : Int32 → Option α} (q : Nat) (hdg : decode cc pc = .ok (.iaload, 1)) (hn : pc + 1 = n) (he : ws[q]? = some (a, .inl (E.2.1, N, .inl f))) (kk : ∀ v, Bd l E A own cc nL ret d φ n L (.int v :: st) ws (K v)) : Bd l E A own cc nL ret d φ pc L (.int i :: .ref a :: st) ws ((rd N f i).bind K) := by
  unfold rd
  by_cases h : 0 ≤ i.toInt ∧ i.toInt < (N : Int)
  · rw [if_pos h]
    exact fun hX p e s m args below meth c H locs ls C hP hD hS hl => va_iald C.1 C.2.1 C.2.2.2.2.2.1 hP q 0 he rfl (inb_vp h) hdg (hn ▸ kk (f i.toNatClampNeg) hX p e s m args below meth c H locs ls C hP hD hS hl)
  · rw [if_neg h]
    exact fun hX => by cases hX
theorem b_iast {a N : Nat} {f : Nat → Int32} {i x : Int32} {ws' : va_W} (q : Nat) (hdg : decode cc pc = .ok (.iastore, 1)) (hn : pc + 1 = n) (he : ws[q]? = some (a, .inl (E.2.1, N, .inl f))) (hw : ws.set q (a, .inl (E.2.1, N, .inl (upd f i.toNatClampNeg x))) = ws') (kk : Bd l E A own cc nL ret d φ n L st ws' X) : Bd l E A own cc nL ret d φ pc L (.int x :: .int i :: .ref a :: st) ws (ck N i X) := by
  unfold ck
  by_cases h : 0 ≤ i.toInt ∧ i.toInt < (N : Int)
  · rw [if_pos h]
    exact fun hX p e s m args below meth c H locs ls C hP hD hS hl => va_iast C.1 C.2.1 C.2.2.2.2.2.1 hP hD hS q 0 he rfl (inb_vp h) hdg (fun H1 locs1 hP1 hD1 hS1 => hn ▸ kk hX p e s m args below meth c H1 locs1 ls C (hw ▸ hP1) (hw ▸ hD1) hS1 hl)
  · rw [if_neg h]
    exact fun hX => by cases hX
theorem b_alen {a : Nat} {x : vp_A} {v : Int32} (q : Nat) (hdg : decode cc pc = .ok (.arraylength, 1)) (hn : pc + 1 = n) (he : ws[q]? = some (a, .inl (E.2.1, x))) (hv : Int32.ofNat x.1 = v) (kk : Bd l E A own cc nL ret d φ n L (.int v :: st) ws X) : Bd l E A own cc nL ret d φ pc L (.ref a :: st) ws X :=
  fun hX p e s m args below meth c H locs ls C hP hD hS hl => va_alen C.1 C.2.1 C.2.2.2.2.2.1 hP q 0 he rfl hv hdg (hn ▸ kk hX p e s m args below meth c H locs ls C hP hD hS hl)
theorem b_dup2 {v w : Value} (hdg : decode cc pc = .ok (.dup2, 1)) (hn : pc + 1 = n) (hv : v.category = 1) (hw : w.category = 1) (kk : Bd l E A own cc nL ret d φ n L (v :: w :: v :: w :: st) ws X) : Bd l E A own cc nL ret d φ pc L (v :: w :: st) ws X :=
  fun hX p e s m args below meth c H locs ls C hP hD hS hl => lv_dup2_11 C.1 C.2.1 hdg hv hw (hn ▸ kk hX p e s m args below meth c H locs ls C hP hD hS hl)
theorem i32_le {x y : Int32} : y ≤ x ↔ ¬ x < y := by
  rw [Int32.le_iff_toInt_le, Int32.lt_iff_toInt_lt]; omega
theorem bX {X Y : Option α} (e : X = Y) (k : Bd l E A own cc nL ret d φ pc L st ws Y) : Bd l E A own cc nL ret d φ pc L st ws X := e ▸ k
section BR
variable {x y : Int32} {off : Int} {tgt : Nat} {Y : Option α}
theorem b_cmp_lt (hdg : decode cc pc = .ok (.if_icmp .lt off, 3)) (ht : (pc : Int) + off = (tgt : Int)) (hn : pc + 3 = n) (k1 : x < y → Bd l E A own cc nL ret d φ tgt L st ws X) (k2 : ¬ x < y → Bd l E A own cc nL ret d φ n L st ws Y) : Bd l E A own cc nL ret d φ pc L (.int y :: .int x :: st) ws (if x < y then X else Y) :=
  b_if (fun h hX p e s m args below meth c H locs ls C hP hD hS hl => lv_icmp_lt C.1 C.2.1 hdg ht (fun _ => k1 h hX p e s m args below meth c H locs ls C hP hD hS hl) (fun h' => absurd h h'))
    (fun h hX p e s m args below meth c H locs ls C hP hD hS hl => lv_icmp_lt C.1 C.2.1 hdg ht (fun h' => absurd h' h) (fun _ => hn ▸ k2 h hX p e s m args below meth c H locs ls C hP hD hS hl))
theorem b_cmp_ge (hdg : decode cc pc = .ok (.if_icmp .ge off, 3)) (ht : (pc : Int) + off = (tgt : Int)) (hn : pc + 3 = n) (k1 : x < y → Bd l E A own cc nL ret d φ n L st ws X) (k2 : ¬ x < y → Bd l E A own cc nL ret d φ tgt L st ws Y) : Bd l E A own cc nL ret d φ pc L (.int y :: .int x :: st) ws (if x < y then X else Y) :=
  b_if (fun h hX p e s m args below meth c H locs ls C hP hD hS hl => lv_icmp_ge C.1 C.2.1 hdg ht (fun h' => absurd h (i32_le.mp h')) (fun _ => hn ▸ k1 h hX p e s m args below meth c H locs ls C hP hD hS hl))
    (fun h hX p e s m args below meth c H locs ls C hP hD hS hl => lv_icmp_ge C.1 C.2.1 hdg ht (fun _ => k2 h hX p e s m args below meth c H locs ls C hP hD hS hl) (fun h' => absurd (i32_le.mpr h) h'))
theorem b_cmp_gt (hdg : decode cc pc = .ok (.if_icmp .gt off, 3)) (ht : (pc : Int) + off = (tgt : Int)) (hn : pc + 3 = n) (k1 : y < x → Bd l E A own cc nL ret d φ tgt L st ws X) (k2 : ¬ y < x → Bd l E A own cc nL ret d φ n L st ws Y) : Bd l E A own cc nL ret d φ pc L (.int y :: .int x :: st) ws (if y < x then X else Y) :=
  b_if (fun h hX p e s m args below meth c H locs ls C hP hD hS hl => lv_icmp_gt C.1 C.2.1 hdg ht (fun _ => k1 h hX p e s m args below meth c H locs ls C hP hD hS hl) (fun h' => absurd h h'))
    (fun h hX p e s m args below meth c H locs ls C hP hD hS hl => lv_icmp_gt C.1 C.2.1 hdg ht (fun h' => absurd h' h) (fun _ => hn ▸ k2 h hX p e s m args below meth c H locs ls C hP hD hS hl))
theorem b_cmp_le (hdg : decode cc pc = .ok (.if_icmp .le off, 3)) (ht : (pc : Int) + off = (tgt : Int)) (hn : pc + 3 = n) (k1 : y < x → Bd l E A own cc nL ret d φ n L st ws X) (k2 : ¬ y < x → Bd l E A own cc nL ret d φ tgt L st ws Y) : Bd l E A own cc nL ret d φ pc L (.int y :: .int x :: st) ws (if y < x then X else Y) :=
  b_if (fun h hX p e s m args below meth c H locs ls C hP hD hS hl => lv_icmp_le C.1 C.2.1 hdg ht (fun h' => absurd h (i32_le.mp h')) (fun _ => hn ▸ k1 h hX p e s m args below meth c H locs ls C hP hD hS hl))
    (fun h hX p e s m args below meth c H locs ls C hP hD hS hl => lv_icmp_le C.1 C.2.1 hdg ht (fun _ => k2 h hX p e s m args below meth c H locs ls C hP hD hS hl) (fun h' => absurd (i32_le.mpr h) h'))
theorem b_cmp_eq (hdg : decode cc pc = .ok (.if_icmp .eq off, 3)) (ht : (pc : Int) + off = (tgt : Int)) (hn : pc + 3 = n) (k1 : x = y → Bd l E A own cc nL ret d φ tgt L st ws X) (k2 : ¬ x = y → Bd l E A own cc nL ret d φ n L st ws Y) : Bd l E A own cc nL ret d φ pc L (.int y :: .int x :: st) ws (if x = y then X else Y) :=
  b_if (fun h hX p e s m args below meth c H locs ls C hP hD hS hl => lv_icmp_eq C.1 C.2.1 hdg ht (fun _ => k1 h hX p e s m args below meth c H locs ls C hP hD hS hl) (fun h' => absurd h h'))
    (fun h hX p e s m args below meth c H locs ls C hP hD hS hl => lv_icmp_eq C.1 C.2.1 hdg ht (fun h' => absurd h' h) (fun _ => hn ▸ k2 h hX p e s m args below meth c H locs ls C hP hD hS hl))
theorem b_cmp_ne (hdg : decode cc pc = .ok (.if_icmp .ne off, 3)) (ht : (pc : Int) + off = (tgt : Int)) (hn : pc + 3 = n) (k1 : x = y → Bd l E A own cc nL ret d φ n L st ws X) (k2 : ¬ x = y → Bd l E A own cc nL ret d φ tgt L st ws Y) : Bd l E A own cc nL ret d φ pc L (.int y :: .int x :: st) ws (if x = y then X else Y) :=
  b_if (fun h hX p e s m args below meth c H locs ls C hP hD hS hl => lv_icmp_ne C.1 C.2.1 hdg ht (fun h' => absurd h h') (fun _ => hn ▸ k1 h hX p e s m args below meth c H locs ls C hP hD hS hl))
    (fun h hX p e s m args below meth c H locs ls C hP hD hS hl => lv_icmp_ne C.1 C.2.1 hdg ht (fun _ => k2 h hX p e s m args below meth c H locs ls C hP hD hS hl) (fun h' => absurd h' h))
theorem b_if_lt (hdg : decode cc pc = .ok (.ifCond .lt off, 3)) (ht : (pc : Int) + off = (tgt : Int)) (hn : pc + 3 = n) (k1 : x < 0 → Bd l E A own cc nL ret d φ tgt L st ws X) (k2 : ¬ x < 0 → Bd l E A own cc nL ret d φ n L st ws Y) : Bd l E A own cc nL ret d φ pc L (.int x :: st) ws (if x < 0 then X else Y) :=
  b_if (fun h hX p e s m args below meth c H locs ls C hP hD hS hl => lv_if_lt C.1 C.2.1 hdg ht (fun _ => k1 h hX p e s m args below meth c H locs ls C hP hD hS hl) (fun h' => absurd h h'))
    (fun h hX p e s m args below meth c H locs ls C hP hD hS hl => lv_if_lt C.1 C.2.1 hdg ht (fun h' => absurd h' h) (fun _ => hn ▸ k2 h hX p e s m args below meth c H locs ls C hP hD hS hl))
theorem b_if_ge (hdg : decode cc pc = .ok (.ifCond .ge off, 3)) (ht : (pc : Int) + off = (tgt : Int)) (hn : pc + 3 = n) (k1 : x < 0 → Bd l E A own cc nL ret d φ n L st ws X) (k2 : ¬ x < 0 → Bd l E A own cc nL ret d φ tgt L st ws Y) : Bd l E A own cc nL ret d φ pc L (.int x :: st) ws (if x < 0 then X else Y) :=
  b_if (fun h hX p e s m args below meth c H locs ls C hP hD hS hl => lv_if_ge C.1 C.2.1 hdg ht (fun h' => absurd h (i32_le.mp h')) (fun _ => hn ▸ k1 h hX p e s m args below meth c H locs ls C hP hD hS hl))
    (fun h hX p e s m args below meth c H locs ls C hP hD hS hl => lv_if_ge C.1 C.2.1 hdg ht (fun _ => k2 h hX p e s m args below meth c H locs ls C hP hD hS hl) (fun h' => absurd (i32_le.mpr h) h'))
theorem b_if_gt (hdg : decode cc pc = .ok (.ifCond .gt off, 3)) (ht : (pc : Int) + off = (tgt : Int)) (hn : pc + 3 = n) (k1 : 0 < x → Bd l E A own cc nL ret d φ tgt L st ws X) (k2 : ¬ 0 < x → Bd l E A own cc nL ret d φ n L st ws Y) : Bd l E A own cc nL ret d φ pc L (.int x :: st) ws (if 0 < x then X else Y) :=
  b_if (fun h hX p e s m args below meth c H locs ls C hP hD hS hl => lv_if_gt C.1 C.2.1 hdg ht (fun _ => k1 h hX p e s m args below meth c H locs ls C hP hD hS hl) (fun h' => absurd h h'))
    (fun h hX p e s m args below meth c H locs ls C hP hD hS hl => lv_if_gt C.1 C.2.1 hdg ht (fun h' => absurd h' h) (fun _ => hn ▸ k2 h hX p e s m args below meth c H locs ls C hP hD hS hl))
theorem b_if_le (hdg : decode cc pc = .ok (.ifCond .le off, 3)) (ht : (pc : Int) + off = (tgt : Int)) (hn : pc + 3 = n) (k1 : 0 < x → Bd l E A own cc nL ret d φ n L st ws X) (k2 : ¬ 0 < x → Bd l E A own cc nL ret d φ tgt L st ws Y) : Bd l E A own cc nL ret d φ pc L (.int x :: st) ws (if 0 < x then X else Y) :=
  b_if (fun h hX p e s m args below meth c H locs ls C hP hD hS hl => lv_if_le C.1 C.2.1 hdg ht (fun h' => absurd h (i32_le.mp h')) (fun _ => hn ▸ k1 h hX p e s m args below meth c H locs ls C hP hD hS hl))
    (fun h hX p e s m args below meth c H locs ls C hP hD hS hl => lv_if_le C.1 C.2.1 hdg ht (fun _ => k2 h hX p e s m args below meth c H locs ls C hP hD hS hl) (fun h' => absurd (i32_le.mpr h) h'))
theorem b_if_eq (hdg : decode cc pc = .ok (.ifCond .eq off, 3)) (ht : (pc : Int) + off = (tgt : Int)) (hn : pc + 3 = n) (k1 : x = 0 → Bd l E A own cc nL ret d φ tgt L st ws X) (k2 : ¬ x = 0 → Bd l E A own cc nL ret d φ n L st ws Y) : Bd l E A own cc nL ret d φ pc L (.int x :: st) ws (if x = 0 then X else Y) :=
  b_if (fun h hX p e s m args below meth c H locs ls C hP hD hS hl => lv_if_eq C.1 C.2.1 hdg ht (fun _ => k1 h hX p e s m args below meth c H locs ls C hP hD hS hl) (fun h' => absurd h h'))
    (fun h hX p e s m args below meth c H locs ls C hP hD hS hl => lv_if_eq C.1 C.2.1 hdg ht (fun h' => absurd h' h) (fun _ => hn ▸ k2 h hX p e s m args below meth c H locs ls C hP hD hS hl))
theorem b_if_ne (hdg : decode cc pc = .ok (.ifCond .ne off, 3)) (ht : (pc : Int) + off = (tgt : Int)) (hn : pc + 3 = n) (k1 : x = 0 → Bd l E A own cc nL ret d φ n L st ws X) (k2 : ¬ x = 0 → Bd l E A own cc nL ret d φ tgt L st ws Y) : Bd l E A own cc nL ret d φ pc L (.int x :: st) ws (if x = 0 then X else Y) :=
  b_if (fun h hX p e s m args below meth c H locs ls C hP hD hS hl => lv_if_ne C.1 C.2.1 hdg ht (fun h' => absurd h h') (fun _ => hn ▸ k1 h hX p e s m args below meth c H locs ls C hP hD hS hl))
    (fun h hX p e s m args below meth c H locs ls C hP hD hS hl => lv_if_ne C.1 C.2.1 hdg ht (fun _ => k2 h hX p e s m args below meth c H locs ls C hP hD hS hl) (fun h' => absurd h' h))
def b2i (b : Bool) : Int32 := if b then 1 else 0
/-- a truth value on the stack: ifeq jumps where it is false -/
theorem b_bz {b : Bool} (hdg : decode cc pc = .ok (.ifCond .eq off, 3)) (ht : (pc : Int) + off = (tgt : Int)) (hn : pc + 3 = n) (k1 : b = true → Bd l E A own cc nL ret d φ n L st ws X) (k2 : ¬ b = true → Bd l E A own cc nL ret d φ tgt L st ws Y) : Bd l E A own cc nL ret d φ pc L (.int (b2i b) :: st) ws (if b = true then X else Y) :=
  b_if (fun h hX p e s m args below meth c H locs ls C hP hD hS hl => lv_if_eq C.1 C.2.1 hdg ht (fun h' => by subst h; exact absurd h' (by decide)) (fun _ => hn ▸ k1 h hX p e s m args below meth c H locs ls C hP hD hS hl))
    (fun h hX p e s m args below meth c H locs ls C hP hD hS hl => lv_if_eq C.1 C.2.1 hdg ht (fun _ => k2 h hX p e s m args below meth c H locs ls C hP hD hS hl) (fun h' => by rw [Bool.not_eq_true] at h; subst h; exact absurd rfl h'))
theorem b_bnz {b : Bool} (hdg : decode cc pc = .ok (.ifCond .ne off, 3)) (ht : (pc : Int) + off = (tgt : Int)) (hn : pc + 3 = n) (k1 : b = true → Bd l E A own cc nL ret d φ tgt L st ws X) (k2 : ¬ b = true → Bd l E A own cc nL ret d φ n L st ws Y) : Bd l E A own cc nL ret d φ pc L (.int (b2i b) :: st) ws (if b = true then X else Y) :=
  b_if (fun h hX p e s m args below meth c H locs ls C hP hD hS hl => lv_if_ne C.1 C.2.1 hdg ht (fun _ => k1 h hX p e s m args below meth c H locs ls C hP hD hS hl) (fun h' => by subst h; exact absurd h' (by decide)))
    (fun h hX p e s m args below meth c H locs ls C hP hD hS hl => lv_if_ne C.1 C.2.1 hdg ht (fun h' => by rw [Bool.not_eq_true] at h; subst h; exact absurd rfl h') (fun _ => hn ▸ k2 h hX p e s m args below meth c H locs ls C hP hD hS hl))
end BR
theorem b_iret {v : Int32} {a : α} (hdg : decode cc pc = .ok (.ireturn, 1)) (hr : ret = some .int) (hφ : φ a = (some (.int v), ws)) : Bd l E A own cc nL ret d φ pc L [.int v] ws (some a) :=
  fun _ p e s m args below meth c H locs ls C hP hD hS hl => W.iret C.1 C.2.1 (C.2.2.2.2.2.2.2.1.trans hr) (fun t ht hW => ⟨⟨a, rfl, by rw [hφ], by rw [hφ, ht]; exact hP⟩, hS.F ht⟩) hS.2.2 hdg C.2.2.2.2.2.2.2.2
theorem b_zret {b : Bool} {a : α} (hdg : decode cc pc = .ok (.ireturn, 1)) (hr : ret = some .boolean) (hφ : φ a = (some (.int (b2i b)), ws)) : Bd l E A own cc nL ret d φ pc L [.int (b2i b)] ws (some a) :=
  fun _ p e s m args below meth c H locs ls C hP hD hS hl => W.zret C.1 C.2.1 (C.2.2.2.2.2.2.2.1.trans hr) (by cases b <;> decide) (fun t ht hW => ⟨⟨a, rfl, by rw [hφ], by rw [hφ, ht]; exact hP⟩, hS.F ht⟩) hS.2.2 hdg C.2.2.2.2.2.2.2.2
theorem b_vret {a : α} (hdg : decode cc pc = .ok (.return_, 1)) (hr : ret = none) (hφ : φ a = (none, ws)) : Bd l E A own cc nL ret d φ pc L [] ws (some a) :=
  fun _ p e s m args below meth c H locs ls C hP hD hS hl => W.vret C.1 C.2.1 (C.2.2.2.2.2.2.2.1.trans hr) (fun t ht hW => ⟨⟨a, rfl, by rw [hφ], by rw [hφ, ht]; exact hP⟩, hS.F ht⟩) hS.2.2 hdg C.2.2.2.2.2.2.2.2
end B2
end
section
/-! calls -/
theorem QQ.blind {E : Ev} {ws : va_W} {args : List Value} : FrameBlind (Pcd E ws args) := fun a U g mk q => by
  obtain ⟨q0, qP, qK, qN, qD⟩ := q
  exact ⟨q0, qP, va_K.moved (u := U) (U := U.calling g mk a) (Vm.Alike.refl U.vm) qK, Nst.same (U := U.calling g mk a) rfl qN, qD⟩
theorem wsGood {Ts ws : List Cond} (h : ∀ w ∈ ws, w ∈ WS) (hT : Ts = WS) : GoodIn Ts ws := fun w hw => by
  subst hT; exact ws_of (h w hw)
section C1
variable {α β : Type} {p : Program} {l : Launch} {e : Env} {R : Room} {s : State} {m : MethodId} {args : Array Value} {below : List Frame} {meth : Method} {c : Code} {H : Heap} {locs : List Loc} {Q : State → Prop} {E : Ev} {A A1 : Nat → Prop} {pc : Nat} {ls : Array Slot} {rest st0 : List Value} {a : Array Value} {H0 : Heap}
theorem w_call {cells slots : Nat} {F : Option β} {ψ : β → Rs} (hr : va_Run p l e R s m args below meth c H locs cells slots 0 0 (F0 m pc ls st0) rest (QQ E A1 F ψ a) A1) (hS : va_S A H0 H locs) (hA : ∀ q, A1 q → A q)
    (kk : ∀ (b : β) (H1 : Heap) (locs1 : List Loc), F = some b → va_P E.1 vwCl (ψ b).2 H1 → (∀ q : Nat, q < H.size → ¬ A1 q → H1[q]? = H[q]?) → va_S A H0 H1 locs1 → W p l e R s m args below meth c H1 locs1 cells slots Q (F0 m (pc + 3) ls ((ψ b).1.toList ++ rest))) : W p l e R s m args below meth c H locs cells slots Q (F0 m pc ls st0) := by
  intro T hT X
  obtain ⟨v, st₀, t, T', L, h0, X', hL, e1, e2, ⟨⟨b, hF, hv, hP⟩, hz, hk⟩, st⟩ := hr T hT X
  cases hv
  rw [h0] at hz hk
  obtain ⟨t2, a1, b1⟩ := kk b T'.heap (locs ++ L) hF (by rw [e1]; exact hP) (fun q h1 h2 => by rw [e1]; exact hk q h1 h2)
    ⟨Nat.le_trans hS.1 (by rw [e1]; exact hz), fun q h1 h2 => by rw [e1, hk q (Nat.lt_of_lt_of_le h1 hS.1) (fun z => h2 (hA q z))]; exact hS.2.1 q h1 h2, fun q hq => by
      rcases List.mem_append.mp hq with h | h
      · exact hS.2.2 q h
      · exact hA _ (hL q h)⟩ T' rfl X'
  exact ⟨t2, st t2 a1, b1⟩
/-- behind a call on a part of the cells: the rest stands as it was -/
theorem va_P.patch {ws wc w1 : va_W} {H H1 : Heap} {is : List Nat} (hP : va_P E.1 vwCl ws H) (hD : va_D A ws) (hC : is.map (fun i => ws[i]?) = wc.map some) (hnd : is.Nodup) (hfst : w1.map Prod.fst = wc.map Prod.fst) (hP1 : va_P E.1 vwCl w1 H1) (hk : ∀ q : Nat, q < H.size → ¬ Ad wc q → H1[q]? = H[q]?) : va_P E.1 vwCl (patch ws is w1) H1 ∧ (patch ws is w1).map Prod.fst = ws.map Prod.fst := by
  have hlen1 : is.length = wc.length := by have := congrArg List.length hC; simpa using this
  have hlen2 : w1.length = wc.length := by have := congrArg List.length hfst; simpa using this
  have hat : ∀ (j i : Nat), is[j]? = some i → ∃ q, wc[j]? = some q ∧ ws[i]? = some q := by
    intro j i hj
    have h1 : (is.map (fun i => ws[i]?))[j]? = some (ws[i]?) := by rw [List.getElem?_map, hj]; rfl
    rw [hC, List.getElem?_map] at h1
    cases hw : wc[j]? with
    | none => rw [hw] at h1; cases h1
    | some q => rw [hw] at h1; exact ⟨q, rfl, (Option.some.inj h1).symm⟩
  refine ⟨fun k q hq => ?_, patch_fst is w1 ws fun j i q h1 h2 => ?_⟩
  · rcases patch_at is w1 ws k q hnd (hlen1.trans hlen2.symm) hq with ⟨j, -, h2⟩ | ⟨h1, h2⟩
    · exact hP1 j q h2
    · refine (hP k q h2).kept (hk q.1 (hP k q h2).lt fun ⟨j, e, hj⟩ => ?_)
      have hjl : j < is.length := by rw [hlen1]; exact (List.getElem?_eq_some_iff.mp hj).1
      obtain ⟨q', h3, h4⟩ := hat j is[j] (List.getElem?_eq_getElem hjl)
      have h5 : q' = (q.1, e) := Option.some.inj (h3.symm.trans hj)
      subst h5
      have h6 := hD.1 k is[j] q (q.1, e) h2 h4 rfl
      exact h1 (h6 ▸ List.getElem_mem hjl)
  · obtain ⟨q', h3, h4⟩ := hat j i h1
    have h5 : (w1.map Prod.fst)[j]? = some q.1 := by rw [List.getElem?_map, h2]; rfl
    rw [hfst, List.getElem?_map, h3] at h5
    exact ⟨q', h4, Option.some.inj h5⟩
end C1
section C2
variable {α β : Type} {l : Launch} {E : Ev} {A : Nat → Prop} {own : String} {cc : ByteArray} {nL : Nat} {ret : Option FieldType} {d : Nat} {φ : α → Rs} {pc n : Nat} {L : List (Nat × Value)} {st rest As : List Value} {ws wc : va_W} {K : β → Option α} {F : Option β} {ψ : β → Rs}
variable {idx na d' nL' : Nat} {y : MethodName} {cc' : ByteArray} {ret' : Option FieldType} {host : String}
theorem pcd_of {p : Program} {s : State} {m : MethodId} {args : Array Value} {meth : Method} {c : Code} {H : Heap} {as : List Value} (C : Cx E own cc nL ret p s m args meth c) (hP : va_P E.1 vwCl wc H) (hD : va_D A wc) (U : State) (hU : U.heap = H) (hW : s.WarmedH U.vm) : Pcd E wc as as.toArray U :=
  ⟨rfl, by rw [hU]; exact hP, va_K.moved hW.alike C.2.2.2.2.2.1, C.2.2.2.2.2.2.1.warm hW, hD.weaken (fun _ _ _ _ => trivial)⟩
/-- a call of an instance's method, on a part wc of the cells, at the places 'is' -/
theorem b_callV (q0 : Nat) (is : List Nat) {a ci : Nat} {fs : List Value} (hlk : LkV own idx y cc' nL' ret' na) (hct : Ct l y cc' nL' ret' d' E wc (.ref a :: As) ψ F) (hd : d' + 1 ≤ d) (hC : is.map (fun i => ws[i]?) = wc.map some) (hnd : is.Nodup) (hfst : ∀ b, (ψ b).2.map Prod.fst = wc.map Prod.fst)
    (he : ws[q0]? = some (a, .inr (ci, fs))) (hci : (vwCl[ci]?).map (·.1) = some y.cls) (hna : As.length = na) (hst : As.reverse ++ .ref a :: rest = st) (hrest : (rest.map fun v => v.category).sum ≤ 8) (hdg : decode cc pc = .ok (.invokevirtual idx, 3)) (hn : pc + 3 = n)
    (kk : ∀ b, F = some b → Bd l E A own cc nL ret d φ n L ((ψ b).1.toList ++ rest) (patch ws is (ψ b).2) (K b)) : Bd l E A own cc nL ret d φ pc L st ws (F.bind K) := by
  intro hX p e s m args below meth c H locs ls C hP hD hS hl
  have hF : F.isSome = true := by cases F with | none => cases hX | some b => rfl
  obtain ⟨h1, h2, h3, h4, h5, h6, h7, h8⟩ := hlk
  have hwords : ∀ w ∈ wsV own idx y.cls y (Cond.code y cc' nL' ret' :: WS), w ∈ WS := by
    intro w hw
    unfold wsV at hw
    rcases List.mem_append.mp hw with h | h
    · simp only [List.mem_cons, List.not_mem_nil, or_false] at h
      rcases h with rfl | rfl | rfl | rfl
      · exact h1
      · exact h2
      · exact h3
      · exact h4
    · rcases List.mem_cons.mp h with rfl | h
      · exact h5
      · exact h
  have hPc : va_P E.1 vwCl wc H := hP.sub is (by rw [show is.filterMap (fun i => ws[i]?) = wc from by
    have h9 : (is.map (fun i => ws[i]?)).filterMap id = (wc.map some).filterMap id := by rw [hC]
    simpa [List.filterMap_map] using h9])
  have hat : ∀ (j : Nat) (q : Nat × va_E), wc[j]? = some q → ∃ i, is[j]? = some i ∧ ws[i]? = some q := by
    intro j q hj
    have g1 : (wc.map some)[j]? = some (some q) := by rw [List.getElem?_map, hj]; rfl
    rw [← hC, List.getElem?_map] at g1
    cases hi : is[j]? with
    | none => rw [hi] at g1; cases g1
    | some i => rw [hi] at g1; exact ⟨i, rfl, Option.some.inj g1⟩
  have hDc : va_D A wc := by
    refine ⟨fun i j p q hp hq hpq => ?_, fun k q hq => ?_⟩
    · obtain ⟨i1, a1, a2⟩ := hat i p hp
      obtain ⟨j1, b1, b2⟩ := hat j q hq
      have := hD.1 i1 j1 p q a2 b2 hpq
      subst this
      obtain ⟨x1, x2⟩ := List.getElem?_eq_some_iff.mp a1
      obtain ⟨y1, y2⟩ := List.getElem?_eq_some_iff.mp b1
      exact (List.getElem_inj hnd).mp (x2.trans y2.symm)
    · obtain ⟨i1, a1, a2⟩ := hat k q hq
      exact hD.2 i1 q a2
  have hA : ∀ q, Ad wc q → A q := fun q ⟨k, e, h⟩ => hDc.2 k _ h
  obtain ⟨q, hq1, hq2⟩ : ∃ q, vwCl[ci]? = some q ∧ q.1 = y.cls := by
    cases hq : vwCl[ci]? with
    | none => rw [hq] at hci; cases hci
    | some q => rw [hq] at hci; exact ⟨q, rfl, Option.some.inj hci⟩
  subst hst
  refine w_call (va_runV (C := y.cls) (As := As) (rest := rest) (n := na) (Ts := WS) ⟨C.1, C.2.1, C.2.2.1, C.2.2.2.1, C.2.2.2.2.1⟩ (hct hF) (cwV na C.2.2.2.2.1 (wsGood hwords rfl) rfl rfl rfl ⟨rfl, h6.1, h6.2, h7⟩ ⟨hd, by show 8 + (nL' + 11) + 40 * d' ≤ 40 * d; omega⟩) ⟨QQ.blind, by rw [← hq2]; exact va_recv C.2.2.2.2.2.1 hP hq1 he, fun U hU hW => pcd_of C hPc hDc U hU hW⟩ rfl hna hl.1 rfl (lv_room hrest) hdg ⟨Nat.zero_le _, Nat.zero_le _⟩) hS hA (fun b H1 locs1 hb hP1 hk hS1 => ?_)
  obtain ⟨g1, g2⟩ := va_P.patch hP hD hC hnd (hfst b) hP1 hk
  subst hb
  exact hn ▸ kk b rfl hX p e s m args below meth c H1 locs1 ls C g1 (hD.fst g2) hS1 hl
theorem b_callS (is : List Nat) (hlk : LkS own idx y cc' nL' ret' na) (hct : Ct l y cc' nL' ret' d' E wc As ψ F) (hd : d' + 1 ≤ d) (hC : is.map (fun i => ws[i]?) = wc.map some) (hnd : is.Nodup) (hfst : ∀ b, (ψ b).2.map Prod.fst = wc.map Prod.fst)
    (hna : As.length = na) (hst : As.reverse ++ rest = st) (hrest : (rest.map fun v => v.category).sum ≤ 8) (hdg : decode cc pc = .ok (.invokestatic idx, 3)) (hn : pc + 3 = n)
    (kk : ∀ b, F = some b → Bd l E A own cc nL ret d φ n L ((ψ b).1.toList ++ rest) (patch ws is (ψ b).2) (K b)) : Bd l E A own cc nL ret d φ pc L st ws (F.bind K) := by
  intro hX p e s m args below meth c H locs ls C hP hD hS hl
  have hF : F.isSome = true := by cases F with | none => cases hX | some b => rfl
  obtain ⟨h1, h2, h4, h5, h6, h7, h8⟩ := hlk
  have hPc : va_P E.1 vwCl wc H := hP.sub is (by rw [show is.filterMap (fun i => ws[i]?) = wc from by
    have h9 : (is.map (fun i => ws[i]?)).filterMap id = (wc.map some).filterMap id := by rw [hC]
    simpa [List.filterMap_map] using h9])
  have hat : ∀ (j : Nat) (q : Nat × va_E), wc[j]? = some q → ∃ i, is[j]? = some i ∧ ws[i]? = some q := by
    intro j q hj
    have g1 : (wc.map some)[j]? = some (some q) := by rw [List.getElem?_map, hj]; rfl
    rw [← hC, List.getElem?_map] at g1
    cases hi : is[j]? with
    | none => rw [hi] at g1; cases g1
    | some i => rw [hi] at g1; exact ⟨i, rfl, Option.some.inj g1⟩
  have hDc : va_D A wc := by
    refine ⟨fun i j p q hp hq hpq => ?_, fun k q hq => ?_⟩
    · obtain ⟨i1, a1, a2⟩ := hat i p hp
      obtain ⟨j1, b1, b2⟩ := hat j q hq
      have := hD.1 i1 j1 p q a2 b2 hpq
      subst this
      obtain ⟨x1, x2⟩ := List.getElem?_eq_some_iff.mp a1
      obtain ⟨y1, y2⟩ := List.getElem?_eq_some_iff.mp b1
      exact (List.getElem_inj hnd).mp (x2.trans y2.symm)
    · obtain ⟨i1, a1, a2⟩ := hat k q hq
      exact hD.2 i1 q a2
  have hA : ∀ q, Ad wc q → A q := fun q ⟨k, e, h⟩ => hDc.2 k _ h
  have hwords : ∀ w ∈ (Cond.code y cc' nL' ret' :: WS), w ∈ WS := by
    intro w hw
    rcases List.mem_cons.mp hw with rfl | h
    · exact h5
    · exact h
  subst hst
  refine w_call (va_runS (As := As) (rest := rest) (n := na) (Ts := WS) ⟨C.1, C.2.1, C.2.2.1, C.2.2.2.1, C.2.2.2.2.1⟩ (hct hF) ⟨callB_of na C.2.2.2.2.1 (wsGood hwords rfl) rfl rfl rfl (C.2.2.2.2.1 _ h4) (C.2.2.2.2.1 _ h1) ⟨h6.1, h6.2, h7⟩ ⟨hd, by show 8 + (nL' + 11) + 40 * d' ≤ 40 * d; omega⟩, C.2.2.2.2.1 _ h2⟩ ⟨QQ.blind, fun U hU hW => pcd_of C hPc hDc U hU hW⟩ rfl hna hl.1 rfl (lv_room hrest) hdg ⟨Nat.zero_le _, Nat.zero_le _⟩) hS hA (fun b H1 locs1 hb hP1 hk hS1 => ?_)
  obtain ⟨g1, g2⟩ := va_P.patch hP hD hC hnd (hfst b) hP1 hk
  subst hb
  exact hn ▸ kk b rfl hX p e s m args below meth c H1 locs1 ls C g1 (hD.fst g2) hS1 hl
theorem b_callN (is : List Nat) (hlk : LkN own idx y host cc' nL' ret' na) (hct : Ct l y cc' nL' ret' d' E wc As ψ F) (hd : d' + 1 ≤ d) (hC : is.map (fun i => ws[i]?) = wc.map some) (hnd : is.Nodup) (hfst : ∀ b, (ψ b).2.map Prod.fst = wc.map Prod.fst)
    (hna : As.length = na) (hst : As.reverse ++ rest = st) (hrest : (rest.map fun v => v.category).sum ≤ 8) (hdg : decode cc pc = .ok (.invokestatic idx, 3)) (hn : pc + 3 = n)
    (kk : ∀ b, F = some b → Bd l E A own cc nL ret d φ n L ((ψ b).1.toList ++ rest) (patch ws is (ψ b).2) (K b)) : Bd l E A own cc nL ret d φ pc L st ws (F.bind K) := by
  intro hX p e s m args below meth c H locs ls C hP hD hS hl
  have hF : F.isSome = true := by cases F with | none => cases hX | some b => rfl
  obtain ⟨h1, h2, h4, h5, h6, h7, h8⟩ := hlk
  have hPc : va_P E.1 vwCl wc H := hP.sub is (by rw [show is.filterMap (fun i => ws[i]?) = wc from by
    have h9 : (is.map (fun i => ws[i]?)).filterMap id = (wc.map some).filterMap id := by rw [hC]
    simpa [List.filterMap_map] using h9])
  have hat : ∀ (j : Nat) (q : Nat × va_E), wc[j]? = some q → ∃ i, is[j]? = some i ∧ ws[i]? = some q := by
    intro j q hj
    have g1 : (wc.map some)[j]? = some (some q) := by rw [List.getElem?_map, hj]; rfl
    rw [← hC, List.getElem?_map] at g1
    cases hi : is[j]? with
    | none => rw [hi] at g1; cases g1
    | some i => rw [hi] at g1; exact ⟨i, rfl, Option.some.inj g1⟩
  have hDc : va_D A wc := by
    refine ⟨fun i j p q hp hq hpq => ?_, fun k q hq => ?_⟩
    · obtain ⟨i1, a1, a2⟩ := hat i p hp
      obtain ⟨j1, b1, b2⟩ := hat j q hq
      have := hD.1 i1 j1 p q a2 b2 hpq
      subst this
      obtain ⟨x1, x2⟩ := List.getElem?_eq_some_iff.mp a1
      obtain ⟨y1, y2⟩ := List.getElem?_eq_some_iff.mp b1
      exact (List.getElem_inj hnd).mp (x2.trans y2.symm)
    · obtain ⟨i1, a1, a2⟩ := hat k q hq
      exact hD.2 i1 q a2
  have hA : ∀ q, Ad wc q → A q := fun q ⟨k, e, h⟩ => hDc.2 k _ h
  have hwords : ∀ w ∈ (Cond.code y cc' nL' ret' :: WS), w ∈ WS := by
    intro w hw
    rcases List.mem_cons.mp hw with rfl | h
    · exact h5
    · exact h
  subst hst
  refine w_call (va_runSN (host := host) (As := As) (rest := rest) (n := na) (Ts := WS) ⟨C.1, C.2.1, C.2.2.1, C.2.2.2.1, C.2.2.2.2.1⟩ (hct hF) ⟨va_cnB na C.2.2.2.2.1 (wsGood hwords rfl) rfl rfl rfl (C.2.2.2.2.2.2.1 _ h1) (C.2.2.2.2.1 _ h4) ⟨h6.1, h6.2, h7⟩ ⟨hd, by show 8 + (nL' + 11) + 40 * d' ≤ 40 * d; omega⟩, C.2.2.2.2.1 _ h2, trivial⟩ ⟨QQ.blind, fun U hU hW => pcd_of C hPc hDc U hU hW⟩ rfl hna hl.1 rfl (lv_room hrest) hdg ⟨Nat.zero_le _, Nat.zero_le _⟩) hS hA (fun b H1 locs1 hb hP1 hk hS1 => ?_)
  obtain ⟨g1, g2⟩ := va_P.patch hP hD hC hnd (hfst b) hP1 hk
  subst hb
  exact hn ▸ kk b rfl hX p e s m args below meth c H1 locs1 ls C g1 (hD.fst g2) hS1 hl
end C2
end
section
/-! calls by what they answer: i an int, b a truth value, v nothing; r they change no cell, w they do; 0 the whole list of cells, else a part of it -/
theorem patch_self : ∀ (is : List Nat) (w ws : va_W), is.map (fun i => ws[i]?) = w.map some → patch ws is w = ws
  | [], w, ws, _ => by simp [patch]
  | i :: is, [], ws, _ => by simp [patch]
  | i :: is, c :: w, ws, h => by
    simp only [List.map_cons, List.cons.injEq] at h
    have e : ws.set i c = ws := by
      apply List.ext_getElem?
      intro n
      by_cases hn : i = n
      · subst hn
        rw [List.getElem?_set_self', h.1]; rfl
      · rw [List.getElem?_set_ne hn]
    show patch (ws.set i c) is w = ws
    rw [e]
    exact patch_self is w ws h.2
theorem patch_all : ∀ (suf pre w : va_W), w.length = suf.length → patch (pre ++ suf) (List.range' pre.length suf.length) w = pre ++ w
  | [], pre, w, h => by
    cases w with
    | nil => rfl
    | cons => cases h
  | x :: suf, pre, [], h => by cases h
  | x :: suf, pre, c :: w, h => by
    show patch ((pre ++ x :: suf).set pre.length c) (List.range' (pre.length + 1) suf.length) w = _
    have e : (pre ++ x :: suf).set pre.length c = (pre ++ [c]) ++ suf := by simp
    have := patch_all suf (pre ++ [c]) w (by simpa using h)
    rw [e]
    simp only [List.length_append, List.length_singleton] at this
    rw [this]; simp
theorem range_at (ws : va_W) : (List.range ws.length).map (fun i => ws[i]?) = ws.map some := by
  apply List.ext_getElem?
  intro n
  by_cases hn : n < ws.length
  · rw [List.getElem?_map, List.getElem?_range hn, List.getElem?_map, List.getElem?_eq_getElem hn]; simp [hn]
  · rw [List.getElem?_eq_none (by simpa using hn), List.getElem?_eq_none (by simpa using hn)]
section C3
variable {α : Type} {l : Launch} {E : Ev} {A : Nat → Prop} {own : String} {cc : ByteArray} {nL : Nat} {ret : Option FieldType} {d : Nat} {φ : α → Rs} {pc n : Nat} {L : List (Nat × Value)} {st rest As : List Value} {ws wc : va_W}
variable {idx na d' nL' : Nat} {y : MethodName} {cc' : ByteArray} {ret' : Option FieldType} {host : String} {a ci : Nat} {fs : List Value} {S : Type} {hh : S → va_W}
theorem bVi {F : Option Int32} {K : Int32 → Option α} (q0 : Nat) (is : List Nat) (hlk : LkV own idx y cc' nL' ret' na) (hct : Ct l y cc' nL' ret' d' E wc (.ref a :: As) (fun v : Int32 => (some (.int v), wc)) F) (hd : d' + 1 ≤ d) (hC : is.map (fun i => ws[i]?) = wc.map some) (hnd : is.Nodup)
    (he : ws[q0]? = some (a, .inr (ci, fs))) (hci : (vwCl[ci]?).map (·.1) = some y.cls) (hna : As.length = na) (hst : As.reverse ++ .ref a :: rest = st) (hrest : (rest.map fun v => v.category).sum ≤ 8) (hdg : decode cc pc = .ok (.invokevirtual idx, 3)) (hn : pc + 3 = n)
    (kk : ∀ v, Bd l E A own cc nL ret d φ n L (.int v :: rest) ws (K v)) : Bd l E A own cc nL ret d φ pc L st ws (F.bind K) :=
  b_callV q0 is hlk hct hd hC hnd (fun _ => rfl) he hci hna hst hrest hdg hn (fun b _ => by
    show Bd l E A own cc nL ret d φ n L (.int b :: rest) (patch ws is wc) (K b)
    rw [patch_self is wc ws hC]; exact kk b)
theorem bVb {F : Option Bool} {K : Bool → Option α} (q0 : Nat) (is : List Nat) (hlk : LkV own idx y cc' nL' ret' na) (hct : Ct l y cc' nL' ret' d' E wc (.ref a :: As) (fun v : Bool => (some (.int (b2i v)), wc)) F) (hd : d' + 1 ≤ d) (hC : is.map (fun i => ws[i]?) = wc.map some) (hnd : is.Nodup)
    (he : ws[q0]? = some (a, .inr (ci, fs))) (hci : (vwCl[ci]?).map (·.1) = some y.cls) (hna : As.length = na) (hst : As.reverse ++ .ref a :: rest = st) (hrest : (rest.map fun v => v.category).sum ≤ 8) (hdg : decode cc pc = .ok (.invokevirtual idx, 3)) (hn : pc + 3 = n)
    (kk : ∀ v, Bd l E A own cc nL ret d φ n L (.int (b2i v) :: rest) ws (K v)) : Bd l E A own cc nL ret d φ pc L st ws (F.bind K) :=
  b_callV q0 is hlk hct hd hC hnd (fun _ => rfl) he hci hna hst hrest hdg hn (fun b _ => by
    show Bd l E A own cc nL ret d φ n L (.int (b2i b) :: rest) (patch ws is wc) (K b)
    rw [patch_self is wc ws hC]; exact kk b)
theorem bV0i {F : Option Int32} {K : Int32 → Option α} (q0 : Nat) (hlk : LkV own idx y cc' nL' ret' na) (hct : Ct l y cc' nL' ret' d' E ws (.ref a :: As) (fun v : Int32 => (some (.int v), ws)) F) (hd : d' + 1 ≤ d)
    (he : ws[q0]? = some (a, .inr (ci, fs))) (hci : (vwCl[ci]?).map (·.1) = some y.cls) (hna : As.length = na) (hst : As.reverse ++ .ref a :: rest = st) (hrest : (rest.map fun v => v.category).sum ≤ 8) (hdg : decode cc pc = .ok (.invokevirtual idx, 3)) (hn : pc + 3 = n)
    (kk : ∀ v, Bd l E A own cc nL ret d φ n L (.int v :: rest) ws (K v)) : Bd l E A own cc nL ret d φ pc L st ws (F.bind K) :=
  bVi q0 (List.range ws.length) hlk hct hd (range_at ws) List.nodup_range he hci hna hst hrest hdg hn kk
theorem bV0b {F : Option Bool} {K : Bool → Option α} (q0 : Nat) (hlk : LkV own idx y cc' nL' ret' na) (hct : Ct l y cc' nL' ret' d' E ws (.ref a :: As) (fun v : Bool => (some (.int (b2i v)), ws)) F) (hd : d' + 1 ≤ d)
    (he : ws[q0]? = some (a, .inr (ci, fs))) (hci : (vwCl[ci]?).map (·.1) = some y.cls) (hna : As.length = na) (hst : As.reverse ++ .ref a :: rest = st) (hrest : (rest.map fun v => v.category).sum ≤ 8) (hdg : decode cc pc = .ok (.invokevirtual idx, 3)) (hn : pc + 3 = n)
    (kk : ∀ v, Bd l E A own cc nL ret d φ n L (.int (b2i v) :: rest) ws (K v)) : Bd l E A own cc nL ret d φ pc L st ws (F.bind K) :=
  bVb q0 (List.range ws.length) hlk hct hd (range_at ws) List.nodup_range he hci hna hst hrest hdg hn kk
theorem patch_range {w ws : va_W} (h : w.map Prod.fst = ws.map Prod.fst) : patch ws (List.range ws.length) w = w := by
  have := patch_all ws [] w (by have := congrArg List.length h; simpa using this)
  simpa [List.range_eq_range'] using this
theorem bV0wv {F : Option S} {K : S → Option α} (q0 : Nat) (hlk : LkV own idx y cc' nL' ret' na) (hct : Ct l y cc' nL' ret' d' E ws (.ref a :: As) (fun q : S => (none, hh q)) F) (hd : d' + 1 ≤ d) (hfst : ∀ q, (hh q).map Prod.fst = ws.map Prod.fst)
    (he : ws[q0]? = some (a, .inr (ci, fs))) (hci : (vwCl[ci]?).map (·.1) = some y.cls) (hna : As.length = na) (hst : As.reverse ++ .ref a :: rest = st) (hrest : (rest.map fun v => v.category).sum ≤ 8) (hdg : decode cc pc = .ok (.invokevirtual idx, 3)) (hn : pc + 3 = n)
    (kk : ∀ q, Bd l E A own cc nL ret d φ n L rest (hh q) (K q)) : Bd l E A own cc nL ret d φ pc L st ws (F.bind K) :=
  b_callV q0 (List.range ws.length) hlk hct hd (range_at ws) List.nodup_range hfst he hci hna hst hrest hdg hn (fun b _ => by
    show Bd l E A own cc nL ret d φ n L rest (patch ws (List.range ws.length) (hh b)) (K b)
    rw [patch_range (hfst b)]; exact kk b)
theorem bV0wi {F : Option (Int32 × S)} {K : Int32 × S → Option α} (q0 : Nat) (hlk : LkV own idx y cc' nL' ret' na) (hct : Ct l y cc' nL' ret' d' E ws (.ref a :: As) (fun q : Int32 × S => (some (.int q.1), hh q.2)) F) (hd : d' + 1 ≤ d) (hfst : ∀ q, (hh q).map Prod.fst = ws.map Prod.fst)
    (he : ws[q0]? = some (a, .inr (ci, fs))) (hci : (vwCl[ci]?).map (·.1) = some y.cls) (hna : As.length = na) (hst : As.reverse ++ .ref a :: rest = st) (hrest : (rest.map fun v => v.category).sum ≤ 8) (hdg : decode cc pc = .ok (.invokevirtual idx, 3)) (hn : pc + 3 = n)
    (kk : ∀ v q, Bd l E A own cc nL ret d φ n L (.int v :: rest) (hh q) (K (v, q))) : Bd l E A own cc nL ret d φ pc L st ws (F.bind K) :=
  b_callV q0 (List.range ws.length) hlk hct hd (range_at ws) List.nodup_range (fun b => hfst b.2) he hci hna hst hrest hdg hn (fun b _ => by
    show Bd l E A own cc nL ret d φ n L (.int b.1 :: rest) (patch ws (List.range ws.length) (hh b.2)) (K (b.1, b.2))
    rw [patch_range (hfst b.2)]; exact kk b.1 b.2)
theorem bV0wb {F : Option (Bool × S)} {K : Bool × S → Option α} (q0 : Nat) (hlk : LkV own idx y cc' nL' ret' na) (hct : Ct l y cc' nL' ret' d' E ws (.ref a :: As) (fun q : Bool × S => (some (.int (b2i q.1)), hh q.2)) F) (hd : d' + 1 ≤ d) (hfst : ∀ q, (hh q).map Prod.fst = ws.map Prod.fst)
    (he : ws[q0]? = some (a, .inr (ci, fs))) (hci : (vwCl[ci]?).map (·.1) = some y.cls) (hna : As.length = na) (hst : As.reverse ++ .ref a :: rest = st) (hrest : (rest.map fun v => v.category).sum ≤ 8) (hdg : decode cc pc = .ok (.invokevirtual idx, 3)) (hn : pc + 3 = n)
    (kk : ∀ v q, Bd l E A own cc nL ret d φ n L (.int (b2i v) :: rest) (hh q) (K (v, q))) : Bd l E A own cc nL ret d φ pc L st ws (F.bind K) :=
  b_callV q0 (List.range ws.length) hlk hct hd (range_at ws) List.nodup_range (fun b => hfst b.2) he hci hna hst hrest hdg hn (fun b _ => by
    show Bd l E A own cc nL ret d φ n L (.int (b2i b.1) :: rest) (patch ws (List.range ws.length) (hh b.2)) (K (b.1, b.2))
    rw [patch_range (hfst b.2)]; exact kk b.1 b.2)
/-- a part of the cells is changed: h2 says what the whole list is then -/
theorem bVwv {F : Option S} {K : S → Option α} (h2 : S → va_W) (q0 : Nat) (is : List Nat) (hlk : LkV own idx y cc' nL' ret' na) (hct : Ct l y cc' nL' ret' d' E wc (.ref a :: As) (fun q : S => (none, hh q)) F) (hd : d' + 1 ≤ d) (hC : is.map (fun i => ws[i]?) = wc.map some) (hnd : is.Nodup) (hfst : ∀ q, (hh q).map Prod.fst = wc.map Prod.fst) (hp : ∀ q, patch ws is (hh q) = h2 q)
    (he : ws[q0]? = some (a, .inr (ci, fs))) (hci : (vwCl[ci]?).map (·.1) = some y.cls) (hna : As.length = na) (hst : As.reverse ++ .ref a :: rest = st) (hrest : (rest.map fun v => v.category).sum ≤ 8) (hdg : decode cc pc = .ok (.invokevirtual idx, 3)) (hn : pc + 3 = n)
    (kk : ∀ q, Bd l E A own cc nL ret d φ n L rest (h2 q) (K q)) : Bd l E A own cc nL ret d φ pc L st ws (F.bind K) :=
  b_callV q0 is hlk hct hd hC hnd hfst he hci hna hst hrest hdg hn (fun b _ => by
    show Bd l E A own cc nL ret d φ n L rest (patch ws is (hh b)) (K b)
    rw [hp]; exact kk b)
theorem bVwi {F : Option (Int32 × S)} {K : Int32 × S → Option α} (h2 : S → va_W) (q0 : Nat) (is : List Nat) (hlk : LkV own idx y cc' nL' ret' na) (hct : Ct l y cc' nL' ret' d' E wc (.ref a :: As) (fun q : Int32 × S => (some (.int q.1), hh q.2)) F) (hd : d' + 1 ≤ d) (hC : is.map (fun i => ws[i]?) = wc.map some) (hnd : is.Nodup) (hfst : ∀ q, (hh q).map Prod.fst = wc.map Prod.fst) (hp : ∀ q, patch ws is (hh q) = h2 q)
    (he : ws[q0]? = some (a, .inr (ci, fs))) (hci : (vwCl[ci]?).map (·.1) = some y.cls) (hna : As.length = na) (hst : As.reverse ++ .ref a :: rest = st) (hrest : (rest.map fun v => v.category).sum ≤ 8) (hdg : decode cc pc = .ok (.invokevirtual idx, 3)) (hn : pc + 3 = n)
    (kk : ∀ v q, Bd l E A own cc nL ret d φ n L (.int v :: rest) (h2 q) (K (v, q))) : Bd l E A own cc nL ret d φ pc L st ws (F.bind K) :=
  b_callV q0 is hlk hct hd hC hnd (fun b => hfst b.2) he hci hna hst hrest hdg hn (fun b _ => by
    show Bd l E A own cc nL ret d φ n L (.int b.1 :: rest) (patch ws is (hh b.2)) (K (b.1, b.2))
    rw [hp]; exact kk b.1 b.2)
theorem bVwb {F : Option (Bool × S)} {K : Bool × S → Option α} (h2 : S → va_W) (q0 : Nat) (is : List Nat) (hlk : LkV own idx y cc' nL' ret' na) (hct : Ct l y cc' nL' ret' d' E wc (.ref a :: As) (fun q : Bool × S => (some (.int (b2i q.1)), hh q.2)) F) (hd : d' + 1 ≤ d) (hC : is.map (fun i => ws[i]?) = wc.map some) (hnd : is.Nodup) (hfst : ∀ q, (hh q).map Prod.fst = wc.map Prod.fst) (hp : ∀ q, patch ws is (hh q) = h2 q)
    (he : ws[q0]? = some (a, .inr (ci, fs))) (hci : (vwCl[ci]?).map (·.1) = some y.cls) (hna : As.length = na) (hst : As.reverse ++ .ref a :: rest = st) (hrest : (rest.map fun v => v.category).sum ≤ 8) (hdg : decode cc pc = .ok (.invokevirtual idx, 3)) (hn : pc + 3 = n)
    (kk : ∀ v q, Bd l E A own cc nL ret d φ n L (.int (b2i v) :: rest) (h2 q) (K (v, q))) : Bd l E A own cc nL ret d φ pc L st ws (F.bind K) :=
  b_callV q0 is hlk hct hd hC hnd (fun b => hfst b.2) he hci hna hst hrest hdg hn (fun b _ => by
    show Bd l E A own cc nL ret d φ n L (.int (b2i b.1) :: rest) (patch ws is (hh b.2)) (K (b.1, b.2))
    rw [hp]; exact kk b.1 b.2)
theorem bSi {F : Option Int32} {K : Int32 → Option α} (hlk : LkS own idx y cc' nL' ret' na) (hct : Ct l y cc' nL' ret' d' E [] As (fun v : Int32 => (some (.int v), [])) F) (hd : d' + 1 ≤ d)
    (hna : As.length = na) (hst : As.reverse ++ rest = st) (hrest : (rest.map fun v => v.category).sum ≤ 8) (hdg : decode cc pc = .ok (.invokestatic idx, 3)) (hn : pc + 3 = n)
    (kk : ∀ v, Bd l E A own cc nL ret d φ n L (.int v :: rest) ws (K v)) : Bd l E A own cc nL ret d φ pc L st ws (F.bind K) :=
  b_callS [] hlk hct hd rfl List.nodup_nil (fun _ => rfl) hna hst hrest hdg hn (fun b _ => kk b)
theorem bSb {F : Option Bool} {K : Bool → Option α} (hlk : LkS own idx y cc' nL' ret' na) (hct : Ct l y cc' nL' ret' d' E [] As (fun v : Bool => (some (.int (b2i v)), [])) F) (hd : d' + 1 ≤ d)
    (hna : As.length = na) (hst : As.reverse ++ rest = st) (hrest : (rest.map fun v => v.category).sum ≤ 8) (hdg : decode cc pc = .ok (.invokestatic idx, 3)) (hn : pc + 3 = n)
    (kk : ∀ v, Bd l E A own cc nL ret d φ n L (.int (b2i v) :: rest) ws (K v)) : Bd l E A own cc nL ret d φ pc L st ws (F.bind K) :=
  b_callS [] hlk hct hd rfl List.nodup_nil (fun _ => rfl) hna hst hrest hdg hn (fun b _ => kk b)
theorem bNb {F : Option Bool} {K : Bool → Option α} (hlk : LkN own idx y host cc' nL' ret' na) (hct : Ct l y cc' nL' ret' d' E [] As (fun v : Bool => (some (.int (b2i v)), [])) F) (hd : d' + 1 ≤ d)
    (hna : As.length = na) (hst : As.reverse ++ rest = st) (hrest : (rest.map fun v => v.category).sum ≤ 8) (hdg : decode cc pc = .ok (.invokestatic idx, 3)) (hn : pc + 3 = n)
    (kk : ∀ v, Bd l E A own cc nL ret d φ n L (.int (b2i v) :: rest) ws (K v)) : Bd l E A own cc nL ret d φ pc L st ws (F.bind K) :=
  b_callN [] hlk hct hd rfl List.nodup_nil (fun _ => rfl) hna hst hrest hdg hn (fun b _ => kk b)
theorem b_mmax {x y0 : Int32} {X : Option α} (hw : Cond.methodLink own idx Lib.Math.max.name ∈ WS ∧ Cond.static Lib.Math.max.name ∈ WS ∧ Cond.initialized "java/lang/Math" ∈ WS ∧ Cond.code Lib.Math.max.name Lib.Math.max.code 2 (some .int) ∈ WS) (hd : 1 ≤ d) (hrest : (rest.map fun v => v.category).sum ≤ 8) (hdg : decode cc pc = .ok (.invokestatic idx, 3)) (hn : pc + 3 = n)
    (kk : Bd l E A own cc nL ret d φ n L (.int (if x < y0 then y0 else x) :: rest) ws X) : Bd l E A own cc nL ret d φ pc L (.int y0 :: .int x :: rest) ws X :=
  fun hX p e s m args below meth c H locs ls C hP hD hS hl => va_mmax C.1 C.2.1 (C.2.2.1.trans hl.1.symm) C.2.2.2.1 (C.2.2.2.2.1 _ hw.1) (C.2.2.2.2.1 _ hw.2.1) (C.2.2.2.2.1 _ hw.2.2.1) (C.2.2.2.2.1 _ hw.2.2.2) hd (by show _ + 13 ≤ 40 * d; omega) (Nat.zero_le _) (Nat.zero_le _) hdg (hn ▸ kk hX p e s m args below meth c H locs ls C hP hD hS hl)
theorem b_mmin {x y0 : Int32} {X : Option α} (hw : Cond.methodLink own idx Lib.Math.min.name ∈ WS ∧ Cond.static Lib.Math.min.name ∈ WS ∧ Cond.initialized "java/lang/Math" ∈ WS ∧ Cond.code Lib.Math.min.name Lib.Math.min.code 2 (some .int) ∈ WS) (hd : 1 ≤ d) (hrest : (rest.map fun v => v.category).sum ≤ 8) (hdg : decode cc pc = .ok (.invokestatic idx, 3)) (hn : pc + 3 = n)
    (kk : Bd l E A own cc nL ret d φ n L (.int (if y0 < x then y0 else x) :: rest) ws X) : Bd l E A own cc nL ret d φ pc L (.int y0 :: .int x :: rest) ws X :=
  fun hX p e s m args below meth c H locs ls C hP hD hS hl => va_mmin C.1 C.2.1 (C.2.2.1.trans hl.1.symm) C.2.2.2.1 (C.2.2.2.2.1 _ hw.1) (C.2.2.2.2.1 _ hw.2.1) (C.2.2.2.2.1 _ hw.2.2.1) (C.2.2.2.2.1 _ hw.2.2.2) hd (by show _ + 13 ≤ 40 * d; omega) (Nat.zero_le _) (Nat.zero_le _) hdg (hn ▸ kk hX p e s m args below meth c H locs ls C hP hD hS hl)
end C3
section B4
variable {α : Type} {l : Launch} {E : Ev} {A : Nat → Prop} {own : String} {cc : ByteArray} {nL : Nat} {ret : Option FieldType} {d : Nat} {φ : α → Rs} {pc n : Nat} {L : List (Nat × Value)} {st : List Value} {ws : va_W} {X : Option α}
/-- a test whose operand is written there -/
theorem b_eqT {x : Int32} {off : Int} (h : x = 0) (hdg : decode cc pc = .ok (.ifCond .eq off, 3)) (ht : (pc : Int) + off = (n : Int)) (k : Bd l E A own cc nL ret d φ n L st ws X) : Bd l E A own cc nL ret d φ pc L (.int x :: st) ws X :=
  fun hX p e s m args below meth c H locs ls C hP hD hS hl => lv_if_eq C.1 C.2.1 hdg ht (fun _ => k hX p e s m args below meth c H locs ls C hP hD hS hl) (fun h' => absurd h h')
theorem b_eqF {x : Int32} {off : Int} {tgt : Nat} (h : ¬ x = 0) (hdg : decode cc pc = .ok (.ifCond .eq off, 3)) (ht : (pc : Int) + off = (tgt : Int)) (hn : pc + 3 = n) (k : Bd l E A own cc nL ret d φ n L st ws X) : Bd l E A own cc nL ret d φ pc L (.int x :: st) ws X :=
  fun hX p e s m args below meth c H locs ls C hP hD hS hl => lv_if_eq C.1 C.2.1 hdg ht (fun h' => absurd h' h) (fun _ => hn ▸ k hX p e s m args below meth c H locs ls C hP hD hS hl)
theorem b_neT {x : Int32} {off : Int} (h : ¬ x = 0) (hdg : decode cc pc = .ok (.ifCond .ne off, 3)) (ht : (pc : Int) + off = (n : Int)) (k : Bd l E A own cc nL ret d φ n L st ws X) : Bd l E A own cc nL ret d φ pc L (.int x :: st) ws X :=
  fun hX p e s m args below meth c H locs ls C hP hD hS hl => lv_if_ne C.1 C.2.1 hdg ht (fun _ => k hX p e s m args below meth c H locs ls C hP hD hS hl) (fun h' => absurd h' h)
theorem b_neF {x : Int32} {off : Int} {tgt : Nat} (h : x = 0) (hdg : decode cc pc = .ok (.ifCond .ne off, 3)) (ht : (pc : Int) + off = (tgt : Int)) (hn : pc + 3 = n) (k : Bd l E A own cc nL ret d φ n L st ws X) : Bd l E A own cc nL ret d φ pc L (.int x :: st) ws X :=
  fun hX p e s m args below meth c H locs ls C hP hD hS hl => lv_if_ne C.1 C.2.1 hdg ht (fun h' => absurd h h') (fun _ => hn ▸ k hX p e s m args below meth c H locs ls C hP hD hS hl)
/-- a switch, where the number is known -/
theorem b_tsIn {dflt lo hi off : Int} {offs : Array Int} {len : Nat} {x w : Int32} (hx : x = w) (hdg : decode cc pc = .ok (.tableswitch dflt lo hi offs, len)) (h1 : ¬ w.toInt < lo) (h2 : ¬ hi < w.toInt) (ho : offs[(w.toInt - lo).toNat]? = some off) (ht : (pc : Int) + off = (n : Int)) (k : Bd l E A own cc nL ret d φ n L st ws X) : Bd l E A own cc nL ret d φ pc L (.int x :: st) ws X :=
  fun hX p e s m args below meth c H locs ls C hP hD hS hl => by subst hx; exact lv_tableIn C.1 C.2.1 hdg h1 h2 ho ht (k hX p e s m args below meth c H locs ls C hP hD hS hl)
theorem b_tsOut {dflt lo hi : Int} {offs : Array Int} {len : Nat} {x : Int32} (hdg : decode cc pc = .ok (.tableswitch dflt lo hi offs, len)) (h : x.toInt < lo ∨ hi < x.toInt) (ht : (pc : Int) + dflt = (n : Int)) (k : Bd l E A own cc nL ret d φ n L st ws X) : Bd l E A own cc nL ret d φ pc L (.int x :: st) ws X :=
  fun hX p e s m args below meth c H locs ls C hP hD hS hl => lv_tableOut C.1 C.2.1 hdg h ht (k hX p e s m args below meth c H locs ls C hP hD hS hl)
theorem b_lsw {dflt off : Int} {ps : Array (Int × Int)} {len : Nat} {x : Int32} (hdg : decode cc pc = .ok (.lookupswitch dflt ps, len)) (hp : (ps.toList.zip (ps.toList.drop 1)).all (fun (a, next) => a.1 < next.1) = true) (ho : Op.lookupswitch.offset ps.toList dflt x.toInt = off) (ht : (pc : Int) + off = (n : Int)) (k : Bd l E A own cc nL ret d φ n L st ws X) : Bd l E A own cc nL ret d φ pc L (.int x :: st) ws X :=
  fun hX p e s m args below meth c H locs ls C hP hD hS hl => lv_lookup C.1 C.2.1 hdg hp ho ht (k hX p e s m args below meth c H locs ls C hP hD hS hl)
theorem i32_ne {x w : Int32} {k : Int} (h : ¬ x = w) (hk : w.toInt = k) : x.toInt ≠ k := fun e => h (Int32.toInt_inj.mp (e.trans hk.symm))
theorem b_none : Bd l E A own cc nL ret d φ pc L st ws (none : Option α) := fun h => by cases h
end B4
/-! memories: cells of ints by number and place -/
abbrev Mem : Type := Nat → Nat → Int32
def up (m : Mem) (c i : Nat) (v : Int32) : Mem := fun c' => cond (Nat.beq c' c) (upd (m c) i v) (m c')
/-- a whole array put in place of another -/
def upA (m : Mem) (c : Nat) (f : Nat → Int32) : Mem := fun c' => cond (Nat.beq c' c) f (m c')
end
